/-! THE LITTLE MACHINE: the program's own instructions over whole numbers. A value is an int, a long or a reference (0 none, 1.. the cells made since the law's entry, -1 the script, -2 - i the i-th text); a store is the next free cell, shapes (kind, length) and contents. -/
abbrev ab_V : Type := Int ⊕ Int ⊕ Int
abbrev ab_I (z : Int) : ab_V := Sum.inl z
abbrev ab_J (z : Int) : ab_V := Sum.inr (Sum.inl z)
abbrev ab_R (z : Int) : ab_V := Sum.inr (Sum.inr z)
abbrev ab_S : Type := Int × (Int → Int × Int) × (Int → Int → Int)
abbrev ab_B : Type := Nat × Nat × Nat
/-- the script: its length, its ints -/
abbrev ab_X : Type := Int × (Int → Int)
def ab_w32 (x : Int) : Int := (x + 2147483648) % 4294967296 - 2147483648
def ab_w64 (x : Int) : Int := (x + 9223372036854775808) % 18446744073709551616 - 9223372036854775808
def ab_w8 (x : Int) : Int := (x + 128) % 256 - 128
def ab_w16 (x : Int) : Int := (x + 32768) % 65536 - 32768
def ab_rd (σ : ab_S) (a k : Int) : Int := σ.2.2 a k
def ab_sh (σ : ab_S) (a : Int) : Int × Int := σ.2.1 a
def ab_wr (σ : ab_S) (a k v : Int) : ab_S := (σ.1, σ.2.1, fun x y => if x = a ∧ y = k then v else σ.2.2 x y)
def ab_new (σ : ab_S) (t n : Int) : ab_S := (σ.1 + 1, (fun x => if x = σ.1 then (t, n) else σ.2.1 x), fun x y => if x = σ.1 then 0 else σ.2.2 x y)
def ab_mul (σ : ab_S) (n k : Int) : ab_S := (σ.1 + 1 + n, (fun x => if x = σ.1 then (29, n) else if σ.1 < x ∧ x ≤ σ.1 + n then (21, k) else σ.2.1 x), fun x y => if x = σ.1 then (if 0 ≤ y ∧ y < n then σ.1 + 1 + y else 0) else if σ.1 < x ∧ x ≤ σ.1 + n then 0 else σ.2.2 x y)
/-- an object of this kind goes into an array of that -/
abbrev ab_aok (ta tv : Int) : Prop := (ta = 25 ∧ tv = 1) ∨ (ta = 26 ∧ tv = 2) ∨ (ta = 27 ∧ tv = 6) ∨ (ta = 28 ∧ tv = 9)
/-- array kinds: 21 + g -/
def ab_aty : Nat → FieldType := fun g => match g with
  | 0 => .int
  | 1 => .long
  | 2 => .byte
  | 3 => .boolean
  | 4 => .object RX0
  | 5 => .object RX1
  | 6 => .object RX5
  | 7 => .object RX8
  | _ => .array .int
/-- the class of an array's objects -/
def ab_ael : Nat → Nat := fun g => match g with
  | 4 => 0
  | 5 => 1
  | 6 => 5
  | _ => 8
/-- the array kind of a class's arrays -/
def ab_arr : Nat → Option Nat := fun c => match c with
  | 0 => some 4
  | 1 => some 5
  | 5 => some 6
  | 8 => some 7
  | _ => none
/-- the array kind of newarray's types -/
def ab_nka : ArrayType → Option Nat
  | .int => some 0
  | .long => some 1
  | .byte => some 2
  | .boolean => some 3
  | _ => none
def ab_put (ty : FieldType) (v : ab_V) : Option Int := match ty, v with
  | .int, .inl z => some z
  | .boolean, .inl z => if z = 0 ∨ z = 1 then some z else none
  | .long, .inr (.inl z) => some z
  | .object _, .inr (.inr z) => some z
  | .array _, .inr (.inr z) => some z
  | _, _ => none
def ab_get (ty : FieldType) (z : Int) : Option ab_V := match ty with
  | .int => some (ab_I z)
  | .boolean => some (ab_I z)
  | .long => some (ab_J z)
  | .object _ => some (ab_R z)
  | .array _ => some (ab_R z)
  | _ => none
def ab_isJ : ab_V → Bool
  | .inr (.inl _) => true
  | _ => false
/-- no long ends in place i -/
def ab_fr (L : List ab_V) (i : Nat) : Bool := match i with
  | 0 => true
  | j + 1 => match L[j]? with
    | some v => !ab_isJ v
    | none => true
def ab_cats : List ab_V → Nat
  | [] => 0
  | v :: l => (if ab_isJ v = true then 2 else 1) + ab_cats l
def ab_args : List ab_V → List ab_V
  | [] => []
  | v :: l => if ab_isJ v = true then v :: ab_R 0 :: ab_args l else v :: ab_args l
def ab_ent (n : Nat) (as : List ab_V) : List ab_V := ab_args as ++ List.replicate (n - (ab_args as).length) (ab_R 0)
def ab_bud (k : Nat) (as : List ab_V) : ab_B := if k = ab_kf then (match as with
  | [_, .inl w] => (2 + (9 - w).toNat, 0, 0)
  | _ => (50, 0, 0)) else ab_bt k
/-- what an instruction does: goes on; answers; calls -/
abbrev ab_Q : Type := (Nat × ab_B × List ab_V × List ab_V × ab_S) ⊕ (Option ab_V) ⊕ (Nat × List ab_V × ab_B × List ab_V)
def ab_nx (pc : Nat) (bd : ab_B) (L st : List ab_V) (σ : ab_S) : Option ab_Q := some (.inl (pc, bd, L, st, σ))
def ab_tg (pc : Nat) (off : Int) (bd : ab_B) (L st : List ab_V) (σ : ab_S) : Option ab_Q := if 0 ≤ (pc : Int) + off then ab_nx ((pc : Int) + off).toNat bd L st σ else none
def ab_cond (c : ClassFile.Cond) (a b : Int) : Bool := match c with
  | .eq => decide (a = b)
  | .ne => decide (¬ a = b)
  | .lt => decide (a < b)
  | .ge => decide (b ≤ a)
  | .gt => decide (b < a)
  | .le => decide (a ≤ b)
def ab_br (cnd : Bool) (pc : Nat) (off : Int) (bd : ab_B) (L st : List ab_V) (σ : ab_S) : Option ab_Q := if 0 ≤ (pc : Int) + off then ab_nx (bif cnd then ((pc : Int) + off).toNat else pc + 3) bd L st σ else none
def ab_call (k : Nat) (as : List ab_V) (bd : ab_B) (rest : List ab_V) : Option ab_Q :=
  if (ab_bud k as).1 + 1 ≤ bd.1 ∧ (ab_bud k as).2.1 ≤ bd.2.1 ∧ (ab_bud k as).2.2 ≤ bd.2.2 ∧ ab_cats rest ≤ 8 ∧ (ab_args as).length ≤ ab_mx k then some (.inr (.inr (k, as, (bd.1, bd.2.1 - (ab_bud k as).2.1, bd.2.2 - (ab_bud k as).2.2), rest))) else none
/-- locals -/
def ab_ld (t : Nat) (i : Nat) (L : List ab_V) : Option ab_V := match t, L[i]? with
  | 0, some (.inl z) => some (ab_I z)
  | 1, some (.inr (.inl z)) => some (ab_J z)
  | 2, some (.inr (.inr z)) => if z = 0 then none else some (ab_R z)
  | _, _ => none
def ab_ldx (t i pc : Nat) (bd : ab_B) (L st : List ab_V) (σ : ab_S) : Option ab_Q := match ab_ld t i L with
  | some v => ab_nx pc bd L (v :: st) σ
  | none => none
def ab_stx (t i pc : Nat) (bd : ab_B) (L st : List ab_V) (σ : ab_S) : Option ab_Q := match t, st with
  | 0, .inl z :: st' => if i < L.length ∧ ab_fr L i = true then ab_nx pc bd (L.set i (ab_I z)) st' σ else none
  | 1, .inr (.inl z) :: st' => if i + 1 < L.length ∧ ab_fr L i = true then ab_nx pc bd ((L.set i (ab_J z)).set (i + 1) (ab_R 0)) st' σ else none
  | 2, .inr (.inr z) :: st' => if i < L.length ∧ ab_fr L i = true then ab_nx pc bd (L.set i (ab_R z)) st' σ else none
  | _, _ => none
def ab_i2 (f : Int → Int → Option ab_V) (pc : Nat) (bd : ab_B) (L st : List ab_V) (σ : ab_S) : Option ab_Q := match st with
  | .inl b :: .inl a :: st' => (match f a b with
    | some v => ab_nx pc bd L (v :: st') σ
    | none => none)
  | _ => none
def ab_j2 (f : Int → Int → Option ab_V) (pc : Nat) (bd : ab_B) (L st : List ab_V) (σ : ab_S) : Option ab_Q := match st with
  | .inr (.inl b) :: .inr (.inl a) :: st' => (match f a b with
    | some v => ab_nx pc bd L (v :: st') σ
    | none => none)
  | _ => none
def ab_ok32 (f : Int32 → Int32 → Int32) (a b : Int) : Int := (f (Int32.ofInt a) (Int32.ofInt b)).toInt
/-- array reads and writes of kind g -/
def ab_ald (g : Nat) (pc : Nat) (bd : ab_B) (L st : List ab_V) (σ : ab_S) (mk : Int → ab_V) : Option ab_Q := match st with
  | .inl i :: .inr (.inr a) :: st' => if (ab_sh σ a).1 = 21 + (g : Int) ∧ 0 ≤ i ∧ i < (ab_sh σ a).2 then ab_nx pc bd L (mk (ab_rd σ a i) :: st') σ else none
  | _ => none
def ab_mk (m : Option ab_Q) (m2 : Option ab_Q) : Option ab_Q := match m with
  | some r => some r
  | none => m2
def ab_fld (k : Nat) (idx : Nat) : Option (Nat × Nat × Nat) := ab_lk ab_pF (1000 * ab_ow k + idx)
def ab_mth (k : Nat) (idx : Nat) : Option (Nat × Nat) := ab_lk ab_pM (1000 * ab_ow k + idx)
/-- the texts -/
def ab_txt : List (List Int) := [[107, 105, 116, 99, 104, 101, 110], [98, 101, 110, 100, 115], [116, 111, 117, 103, 104], [106, 101, 114, 107], [116, 104, 117, 109, 98], [102, 108, 97, 119], [98, 111, 110, 101], [112, 101, 114, 115, 111, 110], [102, 111, 114], [119, 111, 110], [112, 105, 101, 99, 101], [99, 104, 101, 97, 116, 115], [108, 101, 102, 116], [114, 105, 103, 104, 116], [104, 101, 110], [103, 111, 111, 115, 101], [98, 111, 105, 108, 101, 100], [], [100, 114, 121], [112, 108, 97, 105, 110], [99, 111, 111, 107], [99, 104, 105, 108, 100], [99, 104, 101, 97, 116], [102, 111, 114, 99, 101], [104, 111, 108, 100], [119, 105, 115, 104], [102, 97, 105, 114], [110, 111, 32, 115, 117, 99, 104, 32, 98, 111, 110, 101]]
/-- the i-th bone that isn't gone: what the law's led asks, in the class's own cells -/
def ab_ledl (σ : ab_S) (gone i : Int) : Nat → Int → Int → Option Int
  | 0, _, _ => none
  | n + 1, b, met => if ab_rd σ gone b = 0 then (if met = i then some b else ab_ledl σ gone i n (b + 1) (met + 1)) else ab_ledl σ gone i n (b + 1) met
def ab_ledf (σ : ab_S) (x i : Int) : Option Int := ab_ledl σ (ab_rd σ (ab_rd σ x 1) 2) i (ab_rd σ (ab_rd σ x 7) 5).toNat 0 0
def ab_inv (kd : Nat) (k pc idx : Nat) (bd : ab_B) (L st : List ab_V) (σ : ab_S) : Option ab_Q := match ab_mth k idx with
  | none => none
  | some (y, _) =>
    if y = 1000 then (match kd, st with
      | 2, .inr (.inr a) :: st' => if 0 < a ∧ 1 ≤ bd.1 ∧ ab_cats st' ≤ 8 then ab_nx (pc + 3) bd L st' σ else none
      | _, _ => none)
    else if y = 1001 then (match kd, st with
      | 0, .inr (.inr a) :: st' => if a ≤ -2 ∧ (-2 - a).toNat < ab_txt.length ∧ 10 ≤ bd.1 ∧ ab_cats st' ≤ 8 then ab_nx (pc + 3) bd L (ab_I (ab_txt.getD (-2 - a).toNat []).length :: st') σ else none
      | _, _ => none)
    else if y = 1002 then (match kd, st with
      | 0, .inl i :: .inr (.inr a) :: st' => if a ≤ -2 ∧ (-2 - a).toNat < ab_txt.length ∧ 10 ≤ bd.1 ∧ ab_cats st' ≤ 8 ∧ 0 ≤ i ∧ i < (ab_txt.getD (-2 - a).toNat []).length then ab_nx (pc + 3) bd L (ab_I ((ab_txt.getD (-2 - a).toNat []).getD i.toNat 0) :: st') σ else none
      | _, _ => none)
    else if y = 1004 then (match kd, st with
      | 1, .inl b :: .inl a :: st' => if 1 ≤ bd.1 ∧ ab_cats st' ≤ 8 then ab_nx (pc + 3) bd L (ab_I (if a < b then b else a) :: st') σ else none
      | _, _ => none)
    else if y = 1005 then (match kd, st with
      | 1, .inl b :: .inl a :: st' => if 1 ≤ bd.1 ∧ ab_cats st' ≤ 8 then ab_nx (pc + 3) bd L (ab_I (if b < a then b else a) :: st') σ else none
      | _, _ => none)
    else if y = 1006 then (match kd, st with
      | 1, .inl a :: st' => if 1 ≤ bd.1 ∧ ab_cats st' ≤ 8 then ab_nx (pc + 3) bd L (ab_I (if 0 ≤ a then a else ab_w32 (0 - a)) :: st') σ else none
      | _, _ => none)
    else if y = 1003 then (match kd, st with
      | 1, .inr (.inr out) :: .inl i :: .inr (.inr x) :: st' => if (ab_sh σ x).1 = 12 ∧ (ab_sh σ (ab_rd σ x 7)).1 = 5 ∧ (ab_sh σ (ab_rd σ x 1)).1 = 9 ∧ (ab_sh σ (ab_rd σ (ab_rd σ x 1) 2)).1 = 24 ∧ 0 ≤ ab_rd σ (ab_rd σ x 7) 5 ∧ ab_rd σ (ab_rd σ x 7) 5 ≤ (ab_sh σ (ab_rd σ (ab_rd σ x 1) 2)).2 ∧ (ab_sh σ out).1 = 22 ∧ 0 < (ab_sh σ out).2 ∧ 30 ≤ bd.1 ∧ 1 ≤ bd.2.1 ∧ 6 ≤ bd.2.2 ∧ ab_cats st' ≤ 8 then (match ab_ledf σ x i with
        | some b => ab_nx (pc + 3) (bd.1, bd.2.1 - 1, bd.2.2 - 6) L (ab_I 0 :: st') (ab_wr σ out 0 b)
        | none => ab_nx (pc + 3) (bd.1, bd.2.1 - 1, bd.2.2 - 6) L (ab_I 1 :: st') (ab_new σ 50 0)) else none
      | _, _ => none)
    else if 1000 ≤ y ∨ y = ab_kled then none
    else if ab_kd y = kd then (match kd with
      | 1 => if (st.take (ab_np y)).length = ab_np y then ab_call y (st.take (ab_np y)).reverse bd (st.drop (ab_np y)) else none
      | _ => (match st.drop (ab_np y) with
        | .inr (.inr a) :: rest => if (ab_sh σ a).1 = (ab_ow y : Int) + 1 ∧ (st.take (ab_np y)).length = ab_np y then ab_call y (ab_R a :: (st.take (ab_np y)).reverse) bd rest else none
        | _ => none))
    else none
def ab_ex (X : ab_X) (k pc : Nat) (bd : ab_B) (L st : List ab_V) (σ : ab_S) (ins : Instr) (len : Nat) : Option ab_Q := match ins with
  | .iconst n => ab_nx (pc + len) bd L (ab_I (ab_w32 n) :: st) σ
  | .bipush n => ab_nx (pc + len) bd L (ab_I (ab_w8 n) :: st) σ
  | .sipush n => ab_nx (pc + len) bd L (ab_I (ab_w16 n) :: st) σ
  | .lconst n => ab_nx (pc + len) bd L (ab_J ((n : Nat) : Int) :: st) σ
  | .ldc i => (match ab_lk ab_pI (1000 * ab_ow k + i), ab_lk ab_pS (1000 * ab_ow k + i) with
    | some z, _ => ab_nx (pc + len) bd L (ab_I z :: st) σ
    | none, some s => ab_nx (pc + len) bd L (ab_R (-2 - (s : Int)) :: st) σ
    | _, _ => none)
  | .ldc_w i => (match ab_lk ab_pI (1000 * ab_ow k + i), ab_lk ab_pS (1000 * ab_ow k + i) with
    | some z, _ => ab_nx (pc + len) bd L (ab_I z :: st) σ
    | none, some s => ab_nx (pc + len) bd L (ab_R (-2 - (s : Int)) :: st) σ
    | _, _ => none)
  | .ldc2_w i => (match ab_lk ab_pJ (1000 * ab_ow k + i) with
    | some z => ab_nx (pc + len) bd L (ab_J z :: st) σ
    | none => none)
  | .iload i => ab_ldx 0 i (pc + len) bd L st σ
  | .iload_n i => ab_ldx 0 i (pc + len) bd L st σ
  | .lload i => ab_ldx 1 i (pc + len) bd L st σ
  | .lload_n i => ab_ldx 1 i (pc + len) bd L st σ
  | .aload i => ab_ldx 2 i (pc + len) bd L st σ
  | .aload_n i => ab_ldx 2 i (pc + len) bd L st σ
  | .istore i => ab_stx 0 i (pc + len) bd L st σ
  | .istore_n i => ab_stx 0 i (pc + len) bd L st σ
  | .lstore i => ab_stx 1 i (pc + len) bd L st σ
  | .lstore_n i => ab_stx 1 i (pc + len) bd L st σ
  | .astore i => ab_stx 2 i (pc + len) bd L st σ
  | .astore_n i => ab_stx 2 i (pc + len) bd L st σ
  | .iinc i n => (match ab_ld 0 i L with
    | some (.inl z) => if ab_fr L i = true then ab_nx (pc + len) bd (L.set i (ab_I (ab_w32 (z + ab_w32 n)))) st σ else none
    | _ => none)
  | .iadd => ab_i2 (fun a b => some (ab_I (ab_w32 (a + b)))) (pc + len) bd L st σ
  | .isub => ab_i2 (fun a b => some (ab_I (ab_w32 (a - b)))) (pc + len) bd L st σ
  | .imul => ab_i2 (fun a b => some (ab_I (ab_w32 (a * b)))) (pc + len) bd L st σ
  | .idiv => ab_i2 (fun a b => if b = 0 then none else some (ab_I (ab_w32 (a.tdiv b)))) (pc + len) bd L st σ
  | .irem => ab_i2 (fun a b => if b = 0 then none else some (ab_I (a.tmod b))) (pc + len) bd L st σ
  | .iand => ab_i2 (fun a b => some (ab_I (ab_ok32 (fun x y => x &&& y) a b))) (pc + len) bd L st σ
  | .ior => ab_i2 (fun a b => some (ab_I (ab_ok32 (fun x y => x ||| y) a b))) (pc + len) bd L st σ
  | .ishl => ab_i2 (fun a b => some (ab_I (ab_ok32 (fun x y => x <<< (y &&& 31)) a b))) (pc + len) bd L st σ
  | .ishr => ab_i2 (fun a b => some (ab_I (ab_ok32 (fun x y => x >>> (y &&& 31)) a b))) (pc + len) bd L st σ
  | .iushr => ab_i2 (fun a b => some (ab_I (ab_ok32 (fun x y => (x.toUInt32 >>> (y.toUInt32 &&& Int32.toUInt32 31)).toInt32) a b))) (pc + len) bd L st σ
  | .ladd => ab_j2 (fun a b => some (ab_J (ab_w64 (a + b)))) (pc + len) bd L st σ
  | .lsub => ab_j2 (fun a b => some (ab_J (ab_w64 (a - b)))) (pc + len) bd L st σ
  | .lmul => ab_j2 (fun a b => some (ab_J (ab_w64 (a * b)))) (pc + len) bd L st σ
  | .ldiv => ab_j2 (fun a b => if b = 0 then none else some (ab_J (ab_w64 (a.tdiv b)))) (pc + len) bd L st σ
  | .lrem => ab_j2 (fun a b => if b = 0 then none else some (ab_J (a.tmod b))) (pc + len) bd L st σ
  | .lcmp => ab_j2 (fun a b => some (ab_I (if b < a then 1 else if a = b then 0 else -1))) (pc + len) bd L st σ
  | .ineg => (match st with
    | .inl a :: st' => ab_nx (pc + len) bd L (ab_I (ab_w32 (-a)) :: st') σ
    | _ => none)
  | .lneg => (match st with
    | .inr (.inl a) :: st' => ab_nx (pc + len) bd L (ab_J (ab_w64 (-a)) :: st') σ
    | _ => none)
  | .i2l => (match st with
    | .inl a :: st' => ab_nx (pc + len) bd L (ab_J a :: st') σ
    | _ => none)
  | .l2i => (match st with
    | .inr (.inl a) :: st' => ab_nx (pc + len) bd L (ab_I (ab_w32 a) :: st') σ
    | _ => none)
  | .i2b => (match st with
    | .inl a :: st' => ab_nx (pc + len) bd L (ab_I (ab_w8 a) :: st') σ
    | _ => none)
  | .lshl => (match st with
    | .inl b :: .inr (.inl a) :: st' => ab_nx (pc + len) bd L (ab_J (Int64.ofInt a <<< ((Int32.ofInt b).toInt64 &&& 63)).toInt :: st') σ
    | _ => none)
  | .dup => (match st with
    | v :: st' => if ab_isJ v = true then none else ab_nx (pc + len) bd L (v :: v :: st') σ
    | _ => none)
  | .pop => (match st with
    | v :: st' => if ab_isJ v = true then none else ab_nx (pc + len) bd L st' σ
    | _ => none)
  | .dup2 => (match st with
    | v :: w :: st' => if ab_isJ v = true ∨ ab_isJ w = true then none else ab_nx (pc + len) bd L (v :: w :: v :: w :: st') σ
    | _ => none)
  | .goto off => ab_tg pc off bd L st σ
  | .ifCond c off => (match st with
    | .inl a :: st' => ab_br (ab_cond c a 0) pc off bd L st' σ
    | _ => none)
  | .if_icmp c off => (match st with
    | .inl b :: .inl a :: st' => ab_br (ab_cond c a b) pc off bd L st' σ
    | _ => none)
  | .ifnull off => (match st with
    | .inr (.inr a) :: st' => ab_br (decide (a = 0)) pc off bd L st' σ
    | _ => none)
  | .ifnonnull off => (match st with
    | .inr (.inr a) :: st' => ab_br (decide (¬ a = 0)) pc off bd L st' σ
    | _ => none)
  | .tableswitch d lo hi offs => (match st with
    | .inl a :: st' => if a < lo ∨ hi < a then ab_tg pc d bd L st' σ else (match offs[(a - lo).toNat]? with
      | some off => ab_tg pc off bd L st' σ
      | none => none)
    | _ => none)
  | .getfield i => (match ab_fld k i, st with
    | some (c, f, _), .inr (.inr a) :: st' => if (ab_sh σ a).1 = (c : Int) + 1 ∧ f < ab_N c then (match ab_get (ab_ty c f) (ab_rd σ a f) with
      | some v => ab_nx (pc + len) bd L (v :: st') σ
      | none => none) else none
    | _, _ => none)
  | .putfield i => (match ab_fld k i, st with
    | some (c, f, n), v :: .inr (.inr a) :: st' => if (ab_sh σ a).1 = (c : Int) + 1 ∧ f < ab_N c ∧ (((ab_T c f).2.2.2 = false) ∨ (ab_kd k = 2 ∧ ab_ow k = c ∧ n = 0)) then (match ab_put (ab_ty c f) v with
      | some z => ab_nx (pc + len) bd L st' (ab_wr σ a f z)
      | none => none) else none
    | _, _ => none)
  | .iaload => if k = ab_klaw then (match st with
    | .inl i :: .inr (.inr a) :: st' => if a = -1 ∧ 0 ≤ i ∧ i < X.1 then ab_nx (pc + len) bd L (ab_I (X.2 i) :: st') σ else none
    | _ => none) else ab_ald 0 (pc + len) bd L st σ ab_I
  | .laload => ab_ald 1 (pc + len) bd L st σ ab_J
  | .baload => ab_mk (ab_ald 2 (pc + len) bd L st σ ab_I) (ab_ald 3 (pc + len) bd L st σ ab_I)
  | .aaload => ab_mk (ab_mk (ab_ald 4 (pc + len) bd L st σ ab_R) (ab_ald 5 (pc + len) bd L st σ ab_R)) (ab_mk (ab_mk (ab_ald 6 (pc + len) bd L st σ ab_R) (ab_ald 7 (pc + len) bd L st σ ab_R)) (ab_ald 8 (pc + len) bd L st σ ab_R))
  | .iastore => (match st with
    | .inl v :: .inl i :: .inr (.inr a) :: st' => if (ab_sh σ a).1 = 21 ∧ 0 ≤ i ∧ i < (ab_sh σ a).2 then ab_nx (pc + len) bd L st' (ab_wr σ a i v) else none
    | _ => none)
  | .lastore => (match st with
    | .inr (.inl v) :: .inl i :: .inr (.inr a) :: st' => if (ab_sh σ a).1 = 22 ∧ 0 ≤ i ∧ i < (ab_sh σ a).2 then ab_nx (pc + len) bd L st' (ab_wr σ a i v) else none
    | _ => none)
  | .bastore => (match st with
    | .inl v :: .inl i :: .inr (.inr a) :: st' => if (ab_sh σ a).1 = 23 ∧ 0 ≤ i ∧ i < (ab_sh σ a).2 then ab_nx (pc + len) bd L st' (ab_wr σ a i (ab_w8 v)) else if (ab_sh σ a).1 = 24 ∧ 0 ≤ i ∧ i < (ab_sh σ a).2 ∧ (v = 0 ∨ v = 1) then ab_nx (pc + len) bd L st' (ab_wr σ a i v) else none
    | _ => none)
  | .aastore => (match st with
    | .inr (.inr v) :: .inl i :: .inr (.inr a) :: st' => if ab_aok (ab_sh σ a).1 (ab_sh σ v).1 ∧ 0 ≤ i ∧ i < (ab_sh σ a).2 then ab_nx (pc + len) bd L st' (ab_wr σ a i v) else none
    | _ => none)
  | .arraylength => (match st with
    | .inr (.inr a) :: st' => if k = ab_klaw then (if a = -1 then ab_nx (pc + len) bd L (ab_I X.1 :: st') σ else none) else if 21 ≤ (ab_sh σ a).1 ∧ (ab_sh σ a).1 < 30 then ab_nx (pc + len) bd L (ab_I (ab_sh σ a).2 :: st') σ else none
    | _ => none)
  | .new i => (match ab_lk ab_pC (1000 * ab_ow k + i) with
    | some c => if c < 14 ∧ 1 ≤ bd.2.1 ∧ ab_N c ≤ bd.2.2 then ab_nx (pc + len) (bd.1, bd.2.1 - 1, bd.2.2 - ab_N c) L (ab_R σ.1 :: st) (ab_new σ ((c : Int) + 1) 0) else none
    | none => if (k = ab_kled ∧ pc = 43 ∧ 1 ≤ bd.2.1 ∧ 6 ≤ bd.2.2) ∧ i = 376 ∧ st = [] then some (.inr (.inl none)) else none)
  | .newarray ty => (match ab_nka ty, st with
    | some g, .inl n :: st' => if 0 ≤ n ∧ n ≤ 60000 ∧ 1 ≤ bd.2.1 ∧ n.toNat ≤ bd.2.2 then ab_nx (pc + len) (bd.1, bd.2.1 - 1, bd.2.2 - n.toNat) L (ab_R σ.1 :: st') (ab_new σ (21 + (g : Int)) n) else none
    | _, _ => none)
  | .anewarray i => (match ab_lk ab_pC (1000 * ab_ow k + i), st with
    | some c, .inl n :: st' => (match ab_arr c with
      | some g => if 0 ≤ n ∧ n ≤ 60000 ∧ 1 ≤ bd.2.1 ∧ n.toNat ≤ bd.2.2 then ab_nx (pc + len) (bd.1, bd.2.1 - 1, bd.2.2 - n.toNat) L (ab_R σ.1 :: st') (ab_new σ (21 + (g : Int)) n) else none
      | none => none)
    | _, _ => none)
  | .multianewarray i d => (match st with
    | .inl k2 :: .inl n :: st' => if k = ab_kgi ∧ i = 27 ∧ d = 2 ∧ 0 ≤ n ∧ n ≤ 1000 ∧ 0 ≤ k2 ∧ k2 ≤ 1000 ∧ 1 + n.toNat ≤ bd.2.1 ∧ n.toNat + n.toNat * k2.toNat ≤ bd.2.2 then ab_nx (pc + len) (bd.1, bd.2.1 - (1 + n.toNat), bd.2.2 - (n.toNat + n.toNat * k2.toNat)) L (ab_R σ.1 :: st') (ab_mul σ n k2) else none
    | _ => none)
  | .invokevirtual i => ab_inv 0 k pc i bd L st σ
  | .invokestatic i => ab_inv 1 k pc i bd L st σ
  | .invokespecial i => ab_inv 2 k pc i bd L st σ
  | .ireturn => (match st with
    | [.inl v] => (match ab_rt k with
      | some .int => some (.inr (.inl (some (ab_I v))))
      | some .boolean => if v = 0 ∨ v = 1 then some (.inr (.inl (some (ab_I v)))) else none
      | _ => none)
    | _ => none)
  | .lreturn => (match st with
    | [.inr (.inl v)] => (match ab_rt k with
      | some .long => some (.inr (.inl (some (ab_J v))))
      | _ => none)
    | _ => none)
  | .return_ => (match st with
    | [] => (match ab_rt k with
      | none => some (.inr (.inl none))
      | _ => none)
    | _ => none)
  | _ => none
/-- the instructions' lengths (a switch has its own) -/
def ab_len : Instr → Nat
  | .bipush _ => 2
  | .sipush _ => 3
  | .ldc _ => 2
  | .ldc_w _ => 3
  | .ldc2_w _ => 3
  | .iload _ => 2
  | .lload _ => 2
  | .aload _ => 2
  | .istore _ => 2
  | .lstore _ => 2
  | .astore _ => 2
  | .iinc _ _ => 3
  | .goto _ => 3
  | .ifCond _ _ => 3
  | .if_icmp _ _ => 3
  | .ifnull _ => 3
  | .ifnonnull _ => 3
  | .tableswitch _ _ _ _ => 0
  | .getfield _ => 3
  | .putfield _ => 3
  | .new _ => 3
  | .newarray _ => 2
  | .anewarray _ => 3
  | .multianewarray _ _ => 4
  | .invokevirtual _ => 3
  | .invokestatic _ => 3
  | .invokespecial _ => 3
  | _ => 1
/-- entries of the pools are below 1000 -/
def ab_sm : Instr → Bool
  | .ldc i => decide (i < 1000)
  | .ldc_w i => decide (i < 1000)
  | .ldc2_w i => decide (i < 1000)
  | .getfield i => decide (i < 1000)
  | .putfield i => decide (i < 1000)
  | .new i => decide (i < 1000)
  | .anewarray i => decide (i < 1000)
  | .invokevirtual i => decide (i < 1000)
  | .invokestatic i => decide (i < 1000)
  | .invokespecial i => decide (i < 1000)
  | _ => true
/-- one instruction -/
def ab_step (X : ab_X) (k pc : Nat) (bd : ab_B) (L st : List ab_V) (σ : ab_S) : Option ab_Q := match decode (ab_code k) pc with
  | .ok (ins, len) => if (ab_len ins = 0 ∨ len = ab_len ins) ∧ ab_sm ins = true then ab_ex X k pc bd L st σ ins len else none
  | .error _ => none
def ab_psh (r : Option ab_V) (st : List ab_V) : List ab_V := match r with
  | some v => v :: st
  | none => st
/-- n instructions and more, with all calls: the answer and the store -/
def ab_ev (X : ab_X) : Nat → Nat → Nat → ab_B → List ab_V → List ab_V → ab_S → Option (Option ab_V × ab_S)
  | 0, _, _, _, _, _, _ => none
  | n + 1, k, pc, bd, L, st, σ => match ab_step X k pc bd L st σ with
    | none => none
    | some (.inl (pc', bd', L', st', σ')) => ab_ev X n k pc' bd' L' st' σ'
    | some (.inr (.inl r)) => some (r, σ)
    | some (.inr (.inr (y, as, bd', rest))) => match ab_ev X n y 0 (ab_bud y as) (ab_ent (ab_mx y) as) [] σ with
      | none => none
      | some (r, σ') => ab_ev X n k (pc + 3) bd' L (ab_psh r rest) σ'
theorem ab_ev_mono (X : ab_X) : ∀ (n k pc : Nat) (bd : ab_B) (L st : List ab_V) (σ : ab_S) (x : Option ab_V × ab_S), ab_ev X n k pc bd L st σ = some x → ab_ev X (n + 1) k pc bd L st σ = some x := by
  intro n
  induction n with
  | zero => intro k pc bd L st σ x h; cases h
  | succ n ih =>
    intro k pc bd L st σ x h
    rw [ab_ev] at h ⊢
    cases hs : ab_step X k pc bd L st σ with
    | none => rw [hs] at h; cases h
    | some q =>
      rw [hs] at h
      match q, h with
      | .inl (pc', bd', L', st', σ'), h => exact ih _ _ _ _ _ _ _ h
      | .inr (.inl r), h => exact h
      | .inr (.inr (y, as, bd', rest)), h =>
        dsimp only at h ⊢
        cases he : ab_ev X n y 0 (ab_bud y as) (ab_ent (ab_mx y) as) [] σ with
        | none => rw [he] at h; cases h
        | some z =>
          obtain ⟨r, σ'⟩ := z
          rw [he] at h
          rw [ih _ _ _ _ _ _ _ he]
          exact ih _ _ _ _ _ _ _ h
theorem ab_ev_le (X : ab_X) {n m k pc : Nat} {bd : ab_B} {L st : List ab_V} {σ : ab_S} {x : Option ab_V × ab_S} (h : ab_ev X n k pc bd L st σ = some x) (hm : n ≤ m) : ab_ev X m k pc bd L st σ = some x := by
  induction hm with
  | refl => exact h
  | step _ ih => exact ab_ev_mono X _ _ _ _ _ _ _ _ ih
/-- the machine comes to an answer with Q -/
def ab_Run (X : ab_X) (k pc : Nat) (bd : ab_B) (L st : List ab_V) (σ : ab_S) (Q : Option ab_V → ab_S → Prop) : Prop := ∃ n r σ', ab_ev X n k pc bd L st σ = some (r, σ') ∧ Q r σ'
/-- a call of method k -/
def ab_Do (X : ab_X) (k : Nat) (as : List ab_V) (σ : ab_S) (Q : Option ab_V → ab_S → Prop) : Prop := ab_Run X k 0 (ab_bud k as) (ab_ent (ab_mx k) as) [] σ Q
theorem ab_Run.imp {X : ab_X} {k pc : Nat} {bd : ab_B} {L st : List ab_V} {σ : ab_S} {Q Q' : Option ab_V → ab_S → Prop} (h : ab_Run X k pc bd L st σ Q) (hq : ∀ r σ', Q r σ' → Q' r σ') : ab_Run X k pc bd L st σ Q' := by
  obtain ⟨n, r, σ', h1, h2⟩ := h
  exact ⟨n, r, σ', h1, hq r σ' h2⟩
theorem ab_Run_next {X : ab_X} {k pc pc' : Nat} {bd bd' : ab_B} {L st L' st' : List ab_V} {σ σ' : ab_S} {Q : Option ab_V → ab_S → Prop} (h : ab_step X k pc bd L st σ = some (.inl (pc', bd', L', st', σ'))) : ab_Run X k pc bd L st σ Q ↔ ab_Run X k pc' bd' L' st' σ' Q := by
  constructor
  · rintro ⟨n, r, τ, h1, h2⟩
    cases n with
    | zero => cases h1
    | succ n =>
      rw [ab_ev, h] at h1
      exact ⟨n, r, τ, h1, h2⟩
  · rintro ⟨n, r, τ, h1, h2⟩
    refine ⟨n + 1, r, τ, ?_, h2⟩
    rw [ab_ev, h]
    exact h1
theorem ab_Run_ret {X : ab_X} {k pc : Nat} {bd : ab_B} {L st : List ab_V} {σ : ab_S} {Q : Option ab_V → ab_S → Prop} {r : Option ab_V} (h : ab_step X k pc bd L st σ = some (.inr (.inl r))) : ab_Run X k pc bd L st σ Q ↔ Q r σ := by
  constructor
  · rintro ⟨n, r', τ, h1, h2⟩
    cases n with
    | zero => cases h1
    | succ n =>
      rw [ab_ev, h] at h1
      cases h1
      exact h2
  · intro h2
    refine ⟨1, r, σ, ?_, h2⟩
    rw [ab_ev, h]
theorem ab_Run_call {X : ab_X} {k pc y : Nat} {bd bd' : ab_B} {L st as rest : List ab_V} {σ : ab_S} {Q : Option ab_V → ab_S → Prop} (h : ab_step X k pc bd L st σ = some (.inr (.inr (y, as, bd', rest)))) : ab_Run X k pc bd L st σ Q ↔ ab_Do X y as σ (fun r σ' => ab_Run X k (pc + 3) bd' L (ab_psh r rest) σ' Q) := by
  constructor
  · rintro ⟨n, r, τ, h1, h2⟩
    cases n with
    | zero => cases h1
    | succ n =>
      rw [ab_ev, h] at h1
      dsimp only at h1
      cases he : ab_ev X n y 0 (ab_bud y as) (ab_ent (ab_mx y) as) [] σ with
      | none => rw [he] at h1; cases h1
      | some z =>
        obtain ⟨r', σ'⟩ := z
        rw [he] at h1
        exact ⟨n, r', σ', he, n, r, τ, h1, h2⟩
  · rintro ⟨n, r', σ', he, n2, r, τ, h1, h2⟩
    refine ⟨max n n2 + 1, r, τ, ?_, h2⟩
    rw [ab_ev, h]
    dsimp only
    rw [ab_ev_le X he (Nat.le_max_left n n2)]
    exact ab_ev_le X h1 (Nat.le_max_right n n2)
