/-! STRING's length and charAt, as the launch has them (rows of claim/NAMES.whole first) -/
theorem dJ0_length_8abf5_0 : decode cJ0_length_8abf5 0 = .ok (.aload_n 0, 1) := by decide +kernel
theorem dJ0_length_8abf5_1 : decode cJ0_length_8abf5 1 = .ok (.getfield 9, 3) := by decide +kernel
theorem dJ0_length_8abf5_4 : decode cJ0_length_8abf5 4 = .ok (.arraylength, 1) := by decide +kernel
theorem dJ0_length_8abf5_5 : decode cJ0_length_8abf5 5 = .ok (.aload_n 0, 1) := by decide +kernel
theorem dJ0_length_8abf5_6 : decode cJ0_length_8abf5 6 = .ok (.invokevirtual 335, 3) := by decide +kernel
theorem dJ0_length_8abf5_9 : decode cJ0_length_8abf5 9 = .ok (.ishr, 1) := by decide +kernel
theorem dJ0_length_8abf5_10 : decode cJ0_length_8abf5 10 = .ok (.ireturn, 1) := by decide +kernel
theorem dJ0_coder_7d493_0 : decode cJ0_coder_7d493 0 = .ok (.getstatic 38, 3) := by decide +kernel
theorem dJ0_coder_7d493_3 : decode cJ0_coder_7d493 3 = .ok (.ifCond .eq 10, 3) := by decide +kernel
theorem dJ0_coder_7d493_6 : decode cJ0_coder_7d493 6 = .ok (.aload_n 0, 1) := by decide +kernel
theorem dJ0_coder_7d493_7 : decode cJ0_coder_7d493 7 = .ok (.getfield 15, 3) := by decide +kernel
theorem dJ0_coder_7d493_10 : decode cJ0_coder_7d493 10 = .ok (.goto 4, 3) := by decide +kernel
theorem dJ0_coder_7d493_13 : decode cJ0_coder_7d493 13 = .ok (.iconst 1, 1) := by decide +kernel
theorem dJ0_coder_7d493_14 : decode cJ0_coder_7d493 14 = .ok (.ireturn, 1) := by decide +kernel
theorem dJ0_isLatin1_aae02_0 : decode cJ0_isLatin1_aae02 0 = .ok (.getstatic 38, 3) := by decide +kernel
theorem dJ0_isLatin1_aae02_3 : decode cJ0_isLatin1_aae02 3 = .ok (.ifCond .eq 14, 3) := by decide +kernel
theorem dJ0_isLatin1_aae02_6 : decode cJ0_isLatin1_aae02 6 = .ok (.aload_n 0, 1) := by decide +kernel
theorem dJ0_isLatin1_aae02_7 : decode cJ0_isLatin1_aae02 7 = .ok (.getfield 15, 3) := by decide +kernel
theorem dJ0_isLatin1_aae02_10 : decode cJ0_isLatin1_aae02 10 = .ok (.ifCond .ne 7, 3) := by decide +kernel
theorem dJ0_isLatin1_aae02_13 : decode cJ0_isLatin1_aae02 13 = .ok (.iconst 1, 1) := by decide +kernel
theorem dJ0_isLatin1_aae02_14 : decode cJ0_isLatin1_aae02 14 = .ok (.goto 4, 3) := by decide +kernel
theorem dJ0_isLatin1_aae02_17 : decode cJ0_isLatin1_aae02 17 = .ok (.iconst 0, 1) := by decide +kernel
theorem dJ0_isLatin1_aae02_18 : decode cJ0_isLatin1_aae02 18 = .ok (.ireturn, 1) := by decide +kernel
theorem dJ0_charAt_5068e_0 : decode cJ0_charAt_5068e 0 = .ok (.aload_n 0, 1) := by decide +kernel
theorem dJ0_charAt_5068e_1 : decode cJ0_charAt_5068e 1 = .ok (.invokevirtual 492, 3) := by decide +kernel
theorem dJ0_charAt_5068e_4 : decode cJ0_charAt_5068e 4 = .ok (.ifCond .eq 12, 3) := by decide +kernel
theorem dJ0_charAt_5068e_7 : decode cJ0_charAt_5068e 7 = .ok (.aload_n 0, 1) := by decide +kernel
theorem dJ0_charAt_5068e_8 : decode cJ0_charAt_5068e 8 = .ok (.getfield 9, 3) := by decide +kernel
theorem dJ0_charAt_5068e_11 : decode cJ0_charAt_5068e 11 = .ok (.iload_n 1, 1) := by decide +kernel
theorem dJ0_charAt_5068e_12 : decode cJ0_charAt_5068e 12 = .ok (.invokestatic 495, 3) := by decide +kernel
theorem dJ0_charAt_5068e_15 : decode cJ0_charAt_5068e 15 = .ok (.ireturn, 1) := by decide +kernel
theorem dJ0_charAt_5068e_16 : decode cJ0_charAt_5068e 16 = .ok (.aload_n 0, 1) := by decide +kernel
theorem dJ0_charAt_5068e_17 : decode cJ0_charAt_5068e 17 = .ok (.getfield 9, 3) := by decide +kernel
theorem dJ0_charAt_5068e_20 : decode cJ0_charAt_5068e 20 = .ok (.iload_n 1, 1) := by decide +kernel
theorem dJ0_charAt_5068e_21 : decode cJ0_charAt_5068e 21 = .ok (.invokestatic 498, 3) := by decide +kernel
theorem dJ0_charAt_5068e_24 : decode cJ0_charAt_5068e 24 = .ok (.ireturn, 1) := by decide +kernel
theorem dJ1_charAt_3b067_0 : decode cJ1_charAt_3b067 0 = .ok (.iload_n 1, 1) := by decide +kernel
theorem dJ1_charAt_3b067_1 : decode cJ1_charAt_3b067 1 = .ok (.aload_n 0, 1) := by decide +kernel
theorem dJ1_charAt_3b067_2 : decode cJ1_charAt_3b067 2 = .ok (.arraylength, 1) := by decide +kernel
theorem dJ1_charAt_3b067_3 : decode cJ1_charAt_3b067 3 = .ok (.invokestatic 9, 3) := by decide +kernel
theorem dJ1_charAt_3b067_6 : decode cJ1_charAt_3b067 6 = .ok (.aload_n 0, 1) := by decide +kernel
theorem dJ1_charAt_3b067_7 : decode cJ1_charAt_3b067 7 = .ok (.iload_n 1, 1) := by decide +kernel
theorem dJ1_charAt_3b067_8 : decode cJ1_charAt_3b067 8 = .ok (.baload, 1) := by decide +kernel
theorem dJ1_charAt_3b067_9 : decode cJ1_charAt_3b067 9 = .ok (.sipush 255, 3) := by decide +kernel
theorem dJ1_charAt_3b067_12 : decode cJ1_charAt_3b067 12 = .ok (.iand, 1) := by decide +kernel
theorem dJ1_charAt_3b067_13 : decode cJ1_charAt_3b067 13 = .ok (.i2c, 1) := by decide +kernel
theorem dJ1_charAt_3b067_14 : decode cJ1_charAt_3b067 14 = .ok (.ireturn, 1) := by decide +kernel
theorem dJ0_checkIndex_df160_0 : decode cJ0_checkIndex_df160 0 = .ok (.iload_n 0, 1) := by decide +kernel
theorem dJ0_checkIndex_df160_1 : decode cJ0_checkIndex_df160 1 = .ok (.iload_n 1, 1) := by decide +kernel
theorem dJ0_checkIndex_df160_2 : decode cJ0_checkIndex_df160 2 = .ok (.getstatic 1053, 3) := by decide +kernel
theorem dJ0_checkIndex_df160_5 : decode cJ0_checkIndex_df160 5 = .ok (.invokestatic 1059, 3) := by decide +kernel
theorem dJ0_checkIndex_df160_8 : decode cJ0_checkIndex_df160 8 = .ok (.pop, 1) := by decide +kernel
theorem dJ0_checkIndex_df160_9 : decode cJ0_checkIndex_df160 9 = .ok (.return_, 1) := by decide +kernel
theorem dJ3_checkIndex_8e157_0 : decode cJ3_checkIndex_8e157 0 = .ok (.iload_n 0, 1) := by decide +kernel
theorem dJ3_checkIndex_8e157_1 : decode cJ3_checkIndex_8e157 1 = .ok (.ifCond .lt 8, 3) := by decide +kernel
theorem dJ3_checkIndex_8e157_4 : decode cJ3_checkIndex_8e157 4 = .ok (.iload_n 0, 1) := by decide +kernel
theorem dJ3_checkIndex_8e157_5 : decode cJ3_checkIndex_8e157 5 = .ok (.iload_n 1, 1) := by decide +kernel
theorem dJ3_checkIndex_8e157_6 : decode cJ3_checkIndex_8e157 6 = .ok (.if_icmp .lt 10, 3) := by decide +kernel
theorem dJ3_checkIndex_8e157_9 : decode cJ3_checkIndex_8e157 9 = .ok (.aload_n 2, 1) := by decide +kernel
theorem dJ3_checkIndex_8e157_10 : decode cJ3_checkIndex_8e157 10 = .ok (.iload_n 0, 1) := by decide +kernel
theorem dJ3_checkIndex_8e157_11 : decode cJ3_checkIndex_8e157 11 = .ok (.iload_n 1, 1) := by decide +kernel
theorem dJ3_checkIndex_8e157_12 : decode cJ3_checkIndex_8e157 12 = .ok (.invokestatic 95, 3) := by decide +kernel
theorem dJ3_checkIndex_8e157_15 : decode cJ3_checkIndex_8e157 15 = .ok (.athrow, 1) := by decide +kernel
theorem dJ3_checkIndex_8e157_16 : decode cJ3_checkIndex_8e157 16 = .ok (.iload_n 0, 1) := by decide +kernel
theorem dJ3_checkIndex_8e157_17 : decode cJ3_checkIndex_8e157 17 = .ok (.ireturn, 1) := by decide +kernel
theorem jw_cs : Cond.fieldLink RJ0 38 "java/lang/String" "COMPACT_STRINGS" "Z" ∈ ab_ws := List.mem_filter.mpr ⟨by decide +kernel, by decide +kernel⟩
theorem jw_co : Cond.fieldLink RJ0 15 "java/lang/String" "coder" "B" ∈ ab_ws := List.mem_filter.mpr ⟨by decide +kernel, by decide +kernel⟩
theorem jw_va : Cond.fieldLink RJ0 9 "java/lang/String" "value" "[B" ∈ ab_ws := List.mem_filter.mpr ⟨by decide +kernel, by decide +kernel⟩
theorem jw_fo : Cond.fieldLink RJ0 1053 "jdk/internal/util/Preconditions" "SIOOBE_FORMATTER" "Ljava/util/function/BiFunction;" ∈ ab_ws := List.mem_filter.mpr ⟨by decide +kernel, by decide +kernel⟩
theorem jw_i0 : Cond.initialized RJ0 ∈ ab_ws := List.mem_filter.mpr ⟨by decide +kernel, by decide +kernel⟩
theorem jw_i1 : Cond.initialized RJ1 ∈ ab_ws := List.mem_filter.mpr ⟨by decide +kernel, by decide +kernel⟩
theorem jw_i3 : Cond.initialized RJ3 ∈ ab_ws := List.mem_filter.mpr ⟨by decide +kernel, by decide +kernel⟩
theorem jw_coL : Cond.methodLink RJ0 335 yJ0_coder_7d493 ∈ ab_ws := List.mem_filter.mpr ⟨by decide +kernel, by decide +kernel⟩
theorem jw_coI : Cond.instanceMethod yJ0_coder_7d493 ∈ ab_ws := List.mem_filter.mpr ⟨by decide +kernel, by decide +kernel⟩
theorem jw_coS : Cond.selects RJ0 yJ0_coder_7d493 yJ0_coder_7d493 ∈ ab_ws := List.mem_filter.mpr ⟨by decide +kernel, by decide +kernel⟩
theorem jw_coC : Cond.code yJ0_coder_7d493 cJ0_coder_7d493 1 (some .byte) ∈ ab_ws := List.mem_filter.mpr ⟨by decide +kernel, by decide +kernel⟩
theorem jw_laL : Cond.methodLink RJ0 492 yJ0_isLatin1_aae02 ∈ ab_ws := List.mem_filter.mpr ⟨by decide +kernel, by decide +kernel⟩
theorem jw_laI : Cond.instanceMethod yJ0_isLatin1_aae02 ∈ ab_ws := List.mem_filter.mpr ⟨by decide +kernel, by decide +kernel⟩
theorem jw_laS : Cond.selects RJ0 yJ0_isLatin1_aae02 yJ0_isLatin1_aae02 ∈ ab_ws := List.mem_filter.mpr ⟨by decide +kernel, by decide +kernel⟩
theorem jw_laC : Cond.code yJ0_isLatin1_aae02 cJ0_isLatin1_aae02 1 (some .boolean) ∈ ab_ws := List.mem_filter.mpr ⟨by decide +kernel, by decide +kernel⟩
theorem jw_chL : Cond.methodLink RJ0 495 yJ1_charAt_3b067 ∈ ab_ws := List.mem_filter.mpr ⟨by decide +kernel, by decide +kernel⟩
theorem jw_chS : Cond.static yJ1_charAt_3b067 ∈ ab_ws := List.mem_filter.mpr ⟨by decide +kernel, by decide +kernel⟩
theorem jw_chC : Cond.code yJ1_charAt_3b067 cJ1_charAt_3b067 2 (some .char) ∈ ab_ws := List.mem_filter.mpr ⟨by decide +kernel, by decide +kernel⟩
theorem jw_ckL : Cond.methodLink RJ1 9 yJ0_checkIndex_df160 ∈ ab_ws := List.mem_filter.mpr ⟨by decide +kernel, by decide +kernel⟩
theorem jw_ckS : Cond.static yJ0_checkIndex_df160 ∈ ab_ws := List.mem_filter.mpr ⟨by decide +kernel, by decide +kernel⟩
theorem jw_ckC : Cond.code yJ0_checkIndex_df160 cJ0_checkIndex_df160 2 none ∈ ab_ws := List.mem_filter.mpr ⟨by decide +kernel, by decide +kernel⟩
theorem jw_pcL : Cond.methodLink RJ0 1059 yJ3_checkIndex_8e157 ∈ ab_ws := List.mem_filter.mpr ⟨by decide +kernel, by decide +kernel⟩
theorem jw_pcS : Cond.static yJ3_checkIndex_8e157 ∈ ab_ws := List.mem_filter.mpr ⟨by decide +kernel, by decide +kernel⟩
theorem jw_pcC : Cond.code yJ3_checkIndex_8e157 cJ3_checkIndex_8e157 3 (some .int) ∈ ab_ws := List.mem_filter.mpr ⟨by decide +kernel, by decide +kernel⟩
theorem jw_leI : Cond.instanceMethod yJ0_length_8abf5 ∈ ab_ws := List.mem_filter.mpr ⟨by decide +kernel, by decide +kernel⟩
theorem jw_leS : Cond.selects RJ0 yJ0_length_8abf5 yJ0_length_8abf5 ∈ ab_ws := List.mem_filter.mpr ⟨by decide +kernel, by decide +kernel⟩
theorem jw_leC : Cond.code yJ0_length_8abf5 cJ0_length_8abf5 1 (some .int) ∈ ab_ws := List.mem_filter.mpr ⟨by decide +kernel, by decide +kernel⟩
theorem jw_caI : Cond.instanceMethod yJ0_charAt_5068e ∈ ab_ws := List.mem_filter.mpr ⟨by decide +kernel, by decide +kernel⟩
theorem jw_caS : Cond.selects RJ0 yJ0_charAt_5068e yJ0_charAt_5068e ∈ ab_ws := List.mem_filter.mpr ⟨by decide +kernel, by decide +kernel⟩
theorem jw_caC : Cond.code yJ0_charAt_5068e cJ0_charAt_5068e 2 (some .char) ∈ ab_ws := List.mem_filter.mpr ⟨by decide +kernel, by decide +kernel⟩
def ab_jch (i j : Nat) : Int32 := ((((ab_sb.getD i []).getD j 0) &&& 255).toUInt32 % 65536).toInt32
theorem ab_jch_ok : ∀ i ∈ List.range 28, ∀ j ∈ List.range (ab_sl.getD i 0), narrow .char (.int (ab_jch i j)) = .int (ab_jch i j) ∧ (ab_jch i j).toInt = (ab_txt.getD i []).getD j 0 := by decide +kernel
theorem ab_jln_ok : ∀ i ∈ List.range 28, (Int32.ofNat (ab_sl.getD i 0) >>> ((0 : Int32) &&& 31)).toInt = ((ab_txt.getD i []).length : Int) := by decide +kernel
section SJ
variable {E : ab_E} {l : Launch} {σ : ab_S} {i : Nat}
theorem ab_strs {s : State} {H : Heap} (hK : ab_K E s) (hR : ab_Rep E σ H) : vk_S 28 ab_sl ab_sb (ab_EK E) (ab_EV E) (fun q => ab_Eb E ≤ q) s H ∧ va_Z "java/lang/String" "COMPACT_STRINGS" "Z" (.int 1) (fun q => ab_Eb E ≤ q) s H ∧ va_Zq "jdk/internal/util/Preconditions" "SIOOBE_FORMATTER" "Ljava/util/function/BiFunction;" (fun q => ab_Eb E ≤ q) s H := by
  have hq : ∀ a : Nat, a < (ab_EH E).size → ¬ ab_Eb E ≤ a → H[a]? = (ab_EH E)[a]? := fun a h1 h2 => hR.2.2.1 a (by omega)
  obtain ⟨-, -, -, -, -, h6, -⟩ := hK
  exact ⟨h6.1.kept hq, h6.2.1.kept hq, h6.2.2.2.2.1.kept hq⟩
theorem ab_SS {s : State} {H : Heap} {locs : List Loc} (h0 : ab_Rep E σ s.heap) (h1 : ab_Rep E σ H) (hl : ∀ q ∈ locs, ab_Eb E ≤ q.base) : va_S (fun q => ab_Eb E ≤ q) s.heap H locs :=
  ⟨by rw [h0.2.1, h1.2.1]; exact Nat.le_refl _, fun q _ h2 => by rw [h1.2.2.1 q (by omega), h0.2.2.1 q (by omega)], hl⟩
/-- a method of the JDK that changes nothing -/
theorem ab_jm {y : MethodName} {cc : ByteArray} {maxL : Nat} {ret : Option FieldType} {rs : List Value} {r : Option ab_V} {rm : Room} (hp : plainName y.cls = true) (hlen : (lg_sl rs).length ≤ maxL)
    (body : ∀ (p : Program) (e : Env) (s : State) (m : MethodId) (below : List Frame) (meth : Method) (c : Code) (ls : Array Slot), p.tables.exec = Jvm.exec → c.code = cc → c.maxLocals = maxL → s.vm.findClass y.cls = some m.cls → (∀ w ∈ ab_ws, w.before rs.toArray s = true) → ab_K E s → ab_Rep E σ s.heap → meth.locks = false → meth.sig.returnType = ret → lv_has ls maxL (lv_args 0 rs) → W p l e rm s m rs.toArray below meth c s.heap [] 0 0 (MQ below (ab_Qc E r σ) rs.toArray s 0 0 (fun q => ab_Eb E ≤ q)) (F0 m 0 ls [])) :
    Met l y (.code y cc maxL ret :: ab_ws) rm (ab_Pc E rs σ) (ab_Qc E r σ) 0 0 (fun q => ab_Eb E ≤ q) := by
  refine Met.ofW (cc := cc) (maxL := maxL) (ret := ret) hp rfl ?_
  intro p e s m args below meth c s₁ B hml hv
  obtain ⟨rfl, hK, hRep⟩ := hv
  have hts := atoms_spec (ws := .code y cc maxL ret :: ab_ws) B.pre
  rw [lg_entry_eq]
  exact body p e s m below meth c _ B.exec B.bytes hml (findClass_of_methodNamed B.named) (fun w hw => hts w (List.mem_cons_of_mem _ hw)) hK hRep B.notSynchronized B.returns (lv_entry rs hlen)
section SJ2
variable {p : Program} {e : Env} {R : Room} {s : State} {m : MethodId} {args : Array Value} {below : List Frame} {meth : Method} {c : Code} {Q : State → Prop} {H : Heap} {locs : List Loc} {cells slots pc : Nat} {ls : Array Slot} {rst rrest : List Value} {aa : Array Value} {v : Int}
theorem ab_jc (hr : va_Run p l e R s m args below meth c H locs cells slots 0 0 (F0 m pc ls rst) rrest (ab_Qc E (some (ab_I v)) σ aa) (fun q => ab_Eb E ≤ q)) (hloc : ∀ q ∈ locs, ab_Eb E ≤ q.base) (k : ∀ (H' : Heap) (locs' : List Loc) (kv : Int32), kv.toInt = v → ab_Rep E σ H' → (∀ q ∈ locs', ab_Eb E ≤ q.base) → W p l e R s m args below meth c H' locs' cells slots Q (F0 m (pc + 3) ls (.int kv :: rrest))) : W p l e R s m args below meth c H locs cells slots Q (F0 m pc ls rst) := by
  intro T hT X
  obtain ⟨w, st₀, t, T', L2, h0, X', hL, e1, e2, ⟨rv, ho, hor, hRep⟩, hgo⟩ := hr T hT X
  cases ho
  match w, hor with
  | some _, ⟨kv, rfl, hkv⟩ =>
    obtain ⟨t2, a1, b1⟩ := k T'.heap (locs ++ L2) kv hkv (by rw [e1]; exact hRep) (fun q hq => by
      rcases List.mem_append.mp hq with h9 | h9
      · exact hloc q h9
      · exact hL q h9) T' rfl X'
    exact ⟨t2, hgo t2 a1, b1⟩
theorem ab_jv (hr : va_Run p l e R s m args below meth c H locs cells slots 0 0 (F0 m pc ls rst) rrest (ab_Qc E none σ aa) (fun q => ab_Eb E ≤ q)) (hloc : ∀ q ∈ locs, ab_Eb E ≤ q.base) (k : ∀ (H' : Heap) (locs' : List Loc), ab_Rep E σ H' → (∀ q ∈ locs', ab_Eb E ≤ q.base) → W p l e R s m args below meth c H' locs' cells slots Q (F0 m (pc + 3) ls rrest)) : W p l e R s m args below meth c H locs cells slots Q (F0 m pc ls rst) := by
  intro T hT X
  obtain ⟨w, st₀, t, T', L2, h0, X', hL, e1, e2, ⟨rv, ho, hor, hRep⟩, hgo⟩ := hr T hT X
  cases ho
  match w, hor with
  | none, _ =>
    obtain ⟨t2, a1, b1⟩ := k T'.heap (locs ++ L2) (by rw [e1]; exact hRep) (fun q hq => by
      rcases List.mem_append.mp hq with h9 | h9
      · exact hloc q h9
      · exact hL q h9) T' rfl X'
    exact ⟨t2, hgo t2 a1, b1⟩
end SJ2
theorem ab_jin {y : MethodName} {cc : ByteArray} {maxL : Nat} {ret : Option FieldType} (hc : Cond.code y cc maxL ret ∈ ab_ws) : GoodIn ab_ws (.code y cc maxL ret :: ab_ws) := ab_good (fun w hw => (List.mem_cons.mp hw).elim (fun q => by rw [q]; exact hc) id)
theorem ab_jpre {s : State} {H : Heap} {rs : List Value} (hK : ab_K E s) (hR : ab_Rep E σ H) : ∀ U : State, U.heap = H → s.WarmedH U.vm → ab_Pc E rs σ rs.toArray U := fun U hU hW => ⟨rfl, ab_K_warm hW hK, by rw [hU]; exact hR⟩
theorem ab_j_coder (hi : i < 28) : Met l yJ0_coder_7d493 (.code yJ0_coder_7d493 cJ0_coder_7d493 1 (some .byte) :: ab_ws) (ab_rm (0, 0, 0)) (ab_Pc E [.ref (ab_EK E i)] σ) (ab_Qc E (some (ab_I 0)) σ) 0 0 (fun q => ab_Eb E ≤ q) := by
  refine ab_jm (by decide +kernel) (Nat.le_of_ble_eq_true rfl) ?_
  intro p e s m below meth c ls hx hb hml hown hts hK hRep hlocks hr hl
  obtain ⟨hV, hZ, -⟩ := ab_strs hK hRep
  have hS : va_S (fun q => ab_Eb E ≤ q) s.heap s.heap [] := va_S.rf
  refine va_gets hx hb hZ hS hown (hts _ jw_cs) (fun _ h => h) dJ0_coder_7d493_0 ?_
  refine lv_if_eq (tgt := 13) hx hb dJ0_coder_7d493_3 (by decide) (fun h => absurd h (by decide)) (fun _ => ?_)
  refine lv_aload_n hx hb dJ0_coder_7d493_6 rfl (lv_at hl 0 rfl) ?_
  refine vk_getf hx hb (hV.1 i hi).2.1 hS hown (hts _ jw_co) (fun _ h => h) dJ0_coder_7d493_7 ?_
  refine lv_goto (tgt := 14) hx hb dJ0_coder_7d493_10 (by decide) ?_
  exact W.zret hx hb hr rfl (fun t ht hW => ⟨_, rfl, ⟨0, rfl, rfl⟩, by rw [ht]; exact hRep⟩) (fun _ h => by cases h) dJ0_coder_7d493_14 hlocks
theorem ab_j_isLatin1 (hi : i < 28) : Met l yJ0_isLatin1_aae02 (.code yJ0_isLatin1_aae02 cJ0_isLatin1_aae02 1 (some .boolean) :: ab_ws) (ab_rm (0, 0, 0)) (ab_Pc E [.ref (ab_EK E i)] σ) (ab_Qc E (some (ab_I 1)) σ) 0 0 (fun q => ab_Eb E ≤ q) := by
  refine ab_jm (by decide +kernel) (Nat.le_of_ble_eq_true rfl) ?_
  intro p e s m below meth c ls hx hb hml hown hts hK hRep hlocks hr hl
  obtain ⟨hV, hZ, -⟩ := ab_strs hK hRep
  have hS : va_S (fun q => ab_Eb E ≤ q) s.heap s.heap [] := va_S.rf
  refine va_gets hx hb hZ hS hown (hts _ jw_cs) (fun _ h => h) dJ0_isLatin1_aae02_0 ?_
  refine lv_if_eq (tgt := 17) hx hb dJ0_isLatin1_aae02_3 (by decide) (fun h => absurd h (by decide)) (fun _ => ?_)
  refine lv_aload_n hx hb dJ0_isLatin1_aae02_6 rfl (lv_at hl 0 rfl) ?_
  refine vk_getf hx hb (hV.1 i hi).2.1 hS hown (hts _ jw_co) (fun _ h => h) dJ0_isLatin1_aae02_7 ?_
  refine lv_if_ne (tgt := 17) hx hb dJ0_isLatin1_aae02_10 (by decide) (fun h => absurd rfl h) (fun _ => ?_)
  refine lv_iconst hx hb dJ0_isLatin1_aae02_13 rfl ?_
  refine lv_goto (tgt := 18) hx hb dJ0_isLatin1_aae02_14 (by decide) ?_
  exact W.zret hx hb hr rfl (fun t ht hW => ⟨_, rfl, ⟨1, rfl, rfl⟩, by rw [ht]; exact hRep⟩) (fun _ h => by cases h) dJ0_isLatin1_aae02_18 hlocks
theorem ab_j_pck {a b : Int32} {f : Value} (hf : f = .null ∨ ∃ t, f = .ref t) (h0 : ¬ a < 0) (h1 : a < b) : Met l yJ3_checkIndex_8e157 (.code yJ3_checkIndex_8e157 cJ3_checkIndex_8e157 3 (some .int) :: ab_ws) (ab_rm (0, 0, 0)) (ab_Pc E [.int a, .int b, f] σ) (ab_Qc E (some (ab_I a.toInt)) σ) 0 0 (fun q => ab_Eb E ≤ q) := by
  refine ab_jm (by decide +kernel) (by rcases hf with rfl | ⟨t, rfl⟩ <;> exact Nat.le_of_ble_eq_true rfl) ?_
  intro p e s m below meth c ls hx hb hml hown hts hK hRep hlocks hr hl
  refine lv_iload_n hx hb dJ3_checkIndex_8e157_0 rfl (lv_at hl 0 rfl) ?_
  refine lv_if_lt (tgt := 9) hx hb dJ3_checkIndex_8e157_1 (by decide) (fun h => absurd h h0) (fun _ => ?_)
  refine lv_iload_n hx hb dJ3_checkIndex_8e157_4 rfl (lv_at hl 0 rfl) ?_
  refine lv_iload_n hx hb dJ3_checkIndex_8e157_5 rfl (lv_at hl 1 rfl) ?_
  refine lv_icmp_lt (tgt := 16) hx hb dJ3_checkIndex_8e157_6 (by decide) (fun _ => ?_) (fun h => absurd h1 h)
  refine lv_iload_n hx hb dJ3_checkIndex_8e157_16 rfl (lv_at hl 0 rfl) ?_
  exact W.iret hx hb hr (fun t ht hW => ⟨_, rfl, ⟨a, rfl, rfl⟩, by rw [ht]; exact hRep⟩) (fun _ h => by cases h) dJ3_checkIndex_8e157_17 hlocks
end SJ
