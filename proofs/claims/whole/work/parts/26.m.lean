/-! LongerHalf.led: it returns, or throws with one cell more -/
def ab_NE : String := "java/util/NoSuchElementException"
def ab_rx : ByteArray := ⟨#[0x2a, 0x2b, 0xb7, 0x00, 0x0d, 0xb1]⟩
theorem ab_rx0 : decode ab_rx 0 = .ok (.aload_n 0, 1) := by decide +kernel
theorem ab_rx1 : decode ab_rx 1 = .ok (.aload_n 1, 1) := by decide +kernel
theorem ab_rx2 : decode ab_rx 2 = .ok (.invokespecial 13, 3) := by decide +kernel
theorem ab_rx5 : decode ab_rx 5 = .ok (.return_, 1) := by decide +kernel
def ab_nes : List String := ["java/lang/RuntimeException", "java/lang/Exception"]
theorem jw_ne : Cond.classLink RX11 376 ab_NE ∈ ab_ws := List.mem_filter.mpr ⟨by decide +kernel, by decide +kernel⟩
theorem jw_ni : Cond.initialized ab_NE ∈ ab_ws := List.mem_filter.mpr ⟨by decide +kernel, by decide +kernel⟩
theorem jw_ats : ∀ w ∈ (ab_atX RX11 380 ab_NE 13 ab_rx ab_nes).filter goodWord, w ∈ lw_tbl := by decide +kernel
theorem jw_atg : ∀ w ∈ Cond.classLink RX11 376 ab_NE :: Cond.initialized ab_NE :: ab_atX RX11 380 ab_NE 13 ab_rx ab_nes, vx_ot w = true := by decide +kernel
theorem jw_fit : Bundle.fit ab_NE = true ∧ ∀ n ∈ ab_nes, Bundle.fit n = true := by decide +kernel
theorem jw_txt : (11378, 27) ∈ ab_pS := by decide +kernel
theorem jw_lc : Cond.codeWith yL_led cL_led 4 (some .int) [(0, 9, 12, 13)] ∈ ab_ws := List.mem_filter.mpr ⟨by decide +kernel, by decide +kernel⟩
theorem jw_l13 : Cond.classLink RL 13 ab_NE ∈ ab_ws := List.mem_filter.mpr ⟨by decide +kernel, by decide +kernel⟩
theorem jw_l7 : Cond.methodLink RL 7 yX11_led ∈ ab_ws := List.mem_filter.mpr ⟨by decide +kernel, by decide +kernel⟩
theorem jw_li : Cond.instanceMethod yX11_led ∈ ab_ws := List.mem_filter.mpr ⟨by decide +kernel, by decide +kernel⟩
theorem jw_ls : Cond.selects RX11 yX11_led yX11_led ∈ ab_ws := List.mem_filter.mpr ⟨by decide +kernel, by decide +kernel⟩
theorem jw_ln : Cond.initialized RX11 ∈ ab_ws := List.mem_filter.mpr ⟨by decide +kernel, by decide +kernel⟩
theorem jw_l198 : Cond.methodLink RL 198 yL_led ∈ ab_ws := List.mem_filter.mpr ⟨by decide +kernel, by decide +kernel⟩
theorem jw_lst : Cond.static yL_led ∈ ab_ws := List.mem_filter.mpr ⟨by decide +kernel, by decide +kernel⟩
theorem jw_lin : Cond.initialized RL ∈ ab_ws := List.mem_filter.mpr ⟨by decide +kernel, by decide +kernel⟩
theorem jw_cc : ab_nm 121 = yX11_led ∧ ab_code 121 = cX11_led ∧ ab_mx 121 = 4 ∧ ab_rt 121 = some .int ∧ ab_cn (ab_ow 121) = RX11 := ⟨rfl, rfl, rfl, rfl, rfl⟩
theorem jw_lX : Cond.code yX11_led cX11_led 4 (some .int) ∈ ab_ws := List.mem_filter.mpr ⟨by decide +kernel, by decide +kernel⟩
theorem jw_M : ∀ q ∈ ab_pM, q.2.1 = 1003 → q.1 = 14198 := by decide +kernel
theorem ab_declares {args : Array Value} {s : State} {x : MethodName} {cc : ByteArray} {n : Nat} {r : Option FieldType} (hi : (Cond.instanceMethod x).before args s = true) (hc : (Cond.code x cc n r).before args s = true) : (Cond.declares x).before args s = true := by
  obtain ⟨m, meth, hn, hm, hst, hab⟩ := Cond.instanceMethod_spec hi
  obtain ⟨meth', code, hm', hcode, hbytes, hlocals, hret, hlocks, htab, hsig⟩ := Cond.code_spec hn hc
  cases Option.some.inj (hm.symm.trans hm')
  unfold Cond.before Cond.holds
  simp [Cond.value, hn, hm, hst, hsig]
def ab_d3 : List Cond := [Cond.castable ab_NE ab_NE, Cond.declares (Bundle.initS "java/lang/RuntimeException"), Cond.declares (Bundle.initS "java/lang/Exception"), Cond.declares (Bundle.initS Bundle.tN)]
theorem jw_atx : ∀ w ∈ (ab_atX RX11 380 ab_NE 13 ab_rx ab_nes).filter (fun w => !goodWord w), w ∈ ab_d3 := by decide +kernel
theorem jw_ei1 : Cond.instanceMethod (Bundle.initS "java/lang/RuntimeException") ∈ ab_ws := List.mem_filter.mpr ⟨by decide +kernel, by decide +kernel⟩
theorem jw_ei2 : Cond.instanceMethod (Bundle.initS "java/lang/Exception") ∈ ab_ws := List.mem_filter.mpr ⟨by decide +kernel, by decide +kernel⟩
theorem jw_ei3 : Cond.instanceMethod (Bundle.initS Bundle.tN) ∈ ab_ws := List.mem_filter.mpr ⟨by decide +kernel, by decide +kernel⟩
theorem jw_ec1 : Cond.code (Bundle.initS "java/lang/RuntimeException") Bundle.six 2 none ∈ ab_ws := List.mem_filter.mpr ⟨by decide +kernel, by decide +kernel⟩
theorem jw_ec2 : Cond.code (Bundle.initS "java/lang/Exception") Bundle.six 2 none ∈ ab_ws := List.mem_filter.mpr ⟨by decide +kernel, by decide +kernel⟩
theorem jw_ec3 : Cond.code (Bundle.initS Bundle.tN) LibCode.Throwable.InitS.code 2 none ∈ ab_ws := List.mem_filter.mpr ⟨by decide +kernel, by decide +kernel⟩
theorem jw_hat {args : Array Value} {s : State} (ht : ∀ w ∈ ab_ws, w.before args s = true) (hc : va_Nw (.castable ab_NE ab_NE) s) : ∀ w ∈ ab_atX RX11 380 ab_NE 13 ab_rx ab_nes, w.before args s = true :=
  vx_hat (fun w hw => ht w (List.mem_filter.mpr ⟨jw_ats w hw, (List.mem_filter.mp hw).2⟩)) jw_atx (vx_c (va_tabs rfl rfl hc) (vx_c (ab_declares (ht _ jw_ei1) (ht _ jw_ec1)) (vx_c (ab_declares (ht _ jw_ei2) (ht _ jw_ec2)) (vx_c (ab_declares (ht _ jw_ei3) (ht _ jw_ec3)) vx_n))))
