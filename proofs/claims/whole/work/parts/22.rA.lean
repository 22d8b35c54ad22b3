section
variable {X : ab_X} {d : Nat} {σ : ab_S} {Q : Option ab_V → ab_S → Prop} {L st : List ab_V} {a b z v i j x1 x2 x3 x4 x5 x6 x7 x8 : Int} {l0 l1 l2 l3 l4 l5 l6 l7 l8 l9 l10 l11 l12 l13 l14 l15 l16 l17 l18 l19 l20 : ab_V}
theorem kc_X0_setPlaces : ab_code 1 = cX0_setPlaces := rfl
theorem ko_X0_setPlaces : ab_ow 1 = 0 := rfl
theorem rX0_setPlaces_0 : ab_Run X 1 0 (0, 0, 0) [ab_R z, l1, l2, l3, l4, l5] st σ Q ↔ z ≠ 0 ∧ ab_Run X 1 1 (0, 0, 0) [ab_R z, l1, l2, l3, l4, l5] (ab_R z :: st) σ Q := ab_r_aload_n rfl kc_X0_setPlaces dX0_setPlaces_0
theorem rX0_setPlaces_1 : ab_Run X 1 1 (0, 0, 0) [l0, ab_R z, l2, l3, l4, l5] st σ Q ↔ z ≠ 0 ∧ ab_Run X 1 2 (0, 0, 0) [l0, ab_R z, l2, l3, l4, l5] (ab_R z :: st) σ Q := ab_r_aload_n rfl kc_X0_setPlaces dX0_setPlaces_1
theorem rX0_setPlaces_2 : ab_Run X 1 2 (0, 0, 0) L (ab_R a :: st) σ Q ↔ (ab_sh σ a).1 = 2 ∧ ab_Run X 1 5 (0, 0, 0) L (ab_R (ab_rd σ a 3) :: st) σ Q := gF_0_27 ko_X0_setPlaces kc_X0_setPlaces dX0_setPlaces_2
theorem rX0_setPlaces_5 : ab_Run X 1 5 (0, 0, 0) [l0, l1, ab_I z, l3, l4, l5] st σ Q ↔ ab_Run X 1 6 (0, 0, 0) [l0, l1, ab_I z, l3, l4, l5] (ab_I z :: st) σ Q := ab_r_iload_n rfl kc_X0_setPlaces dX0_setPlaces_5
theorem rX0_setPlaces_6 : ab_Run X 1 6 (0, 0, 0) L (ab_I i :: ab_R a :: st) σ Q ↔ ((ab_sh σ a).1 = 21 ∧ 0 ≤ i ∧ i < (ab_sh σ a).2) ∧ ab_Run X 1 7 (0, 0, 0) L (ab_I (ab_rd σ a i) :: st) σ Q := ab_r_iaload (by decide) kc_X0_setPlaces dX0_setPlaces_6
theorem rX0_setPlaces_7 : ab_Run X 1 7 (0, 0, 0) L (ab_I z :: ab_R a :: st) σ Q ↔ (ab_sh σ a).1 = 1 ∧ ab_Run X 1 10 (0, 0, 0) L st (ab_wr σ a 0 z) Q := sF_0_32 ko_X0_setPlaces kc_X0_setPlaces dX0_setPlaces_7
theorem rX0_setPlaces_10 : ab_Run X 1 10 (0, 0, 0) L st σ Q ↔ ab_Run X 1 11 (0, 0, 0) L (ab_I 0 :: st) σ Q := ab_r_iconst (by decide) kc_X0_setPlaces dX0_setPlaces_10
theorem rX0_setPlaces_11 : ab_Run X 1 11 (0, 0, 0) [l0, l1, l2, l3, l4, l5] (ab_I z :: st) σ Q ↔ (!ab_isJ l4) = true ∧ ab_Run X 1 13 (0, 0, 0) [l0, l1, l2, l3, l4, ab_I z] st σ Q := ab_r_istore (Nat.le_of_ble_eq_true rfl) kc_X0_setPlaces dX0_setPlaces_11
theorem rX0_setPlaces_13 : ab_Run X 1 13 (0, 0, 0) [l0, l1, l2, l3, l4, ab_I z] st σ Q ↔ ab_Run X 1 15 (0, 0, 0) [l0, l1, l2, l3, l4, ab_I z] (ab_I z :: st) σ Q := ab_r_iload rfl kc_X0_setPlaces dX0_setPlaces_13
theorem rX0_setPlaces_15 : ab_Run X 1 15 (0, 0, 0) [ab_R z, l1, l2, l3, l4, l5] st σ Q ↔ z ≠ 0 ∧ ab_Run X 1 16 (0, 0, 0) [ab_R z, l1, l2, l3, l4, l5] (ab_R z :: st) σ Q := ab_r_aload_n rfl kc_X0_setPlaces dX0_setPlaces_15
theorem rX0_setPlaces_16 : ab_Run X 1 16 (0, 0, 0) L (ab_R a :: st) σ Q ↔ (ab_sh σ a).1 = 1 ∧ ab_Run X 1 19 (0, 0, 0) L (ab_I (ab_rd σ a 0) :: st) σ Q := gF_0_32 ko_X0_setPlaces kc_X0_setPlaces dX0_setPlaces_16
theorem rX0_setPlaces_19 : ab_Run X 1 19 (0, 0, 0) L (ab_I b :: ab_I a :: st) σ Q ↔ (b ≤ a → ab_Run X 1 62 (0, 0, 0) L st σ Q) ∧ (¬ (b ≤ a) → ab_Run X 1 22 (0, 0, 0) L st σ Q) := ab_r_icmp_ge rfl kc_X0_setPlaces dX0_setPlaces_19
theorem rX0_setPlaces_22 : ab_Run X 1 22 (0, 0, 0) [ab_R z, l1, l2, l3, l4, l5] st σ Q ↔ z ≠ 0 ∧ ab_Run X 1 23 (0, 0, 0) [ab_R z, l1, l2, l3, l4, l5] (ab_R z :: st) σ Q := ab_r_aload_n rfl kc_X0_setPlaces dX0_setPlaces_22
theorem rX0_setPlaces_23 : ab_Run X 1 23 (0, 0, 0) L (ab_R a :: st) σ Q ↔ (ab_sh σ a).1 = 1 ∧ ab_Run X 1 26 (0, 0, 0) L (ab_R (ab_rd σ a 2) :: st) σ Q := gF_0_15 ko_X0_setPlaces kc_X0_setPlaces dX0_setPlaces_23
theorem rX0_setPlaces_26 : ab_Run X 1 26 (0, 0, 0) [l0, l1, l2, l3, l4, ab_I z] st σ Q ↔ ab_Run X 1 28 (0, 0, 0) [l0, l1, l2, l3, l4, ab_I z] (ab_I z :: st) σ Q := ab_r_iload rfl kc_X0_setPlaces dX0_setPlaces_26
theorem rX0_setPlaces_28 : ab_Run X 1 28 (0, 0, 0) [l0, ab_R z, l2, l3, l4, l5] st σ Q ↔ z ≠ 0 ∧ ab_Run X 1 29 (0, 0, 0) [l0, ab_R z, l2, l3, l4, l5] (ab_R z :: st) σ Q := ab_r_aload_n rfl kc_X0_setPlaces dX0_setPlaces_28
theorem rX0_setPlaces_29 : ab_Run X 1 29 (0, 0, 0) L (ab_R a :: st) σ Q ↔ (ab_sh σ a).1 = 2 ∧ ab_Run X 1 32 (0, 0, 0) L (ab_R (ab_rd σ a 4) :: st) σ Q := gF_0_35 ko_X0_setPlaces kc_X0_setPlaces dX0_setPlaces_29
theorem rX0_setPlaces_32 : ab_Run X 1 32 (0, 0, 0) L st σ Q ↔ ab_Run X 1 34 (0, 0, 0) L (ab_I 6 :: st) σ Q := ab_r_bipush (by decide) kc_X0_setPlaces dX0_setPlaces_32
theorem rX0_setPlaces_34 : ab_Run X 1 34 (0, 0, 0) [l0, l1, ab_I z, l3, l4, l5] st σ Q ↔ ab_Run X 1 35 (0, 0, 0) [l0, l1, ab_I z, l3, l4, l5] (ab_I z :: st) σ Q := ab_r_iload_n rfl kc_X0_setPlaces dX0_setPlaces_34
theorem rX0_setPlaces_35 : ab_Run X 1 35 (0, 0, 0) L (ab_I b :: ab_I a :: st) σ Q ↔ ab_Run X 1 36 (0, 0, 0) L (ab_I (ab_w32 (a * b)) :: st) σ Q := ab_r_imul kc_X0_setPlaces dX0_setPlaces_35
theorem rX0_setPlaces_36 : ab_Run X 1 36 (0, 0, 0) [l0, l1, l2, l3, l4, ab_I z] st σ Q ↔ ab_Run X 1 38 (0, 0, 0) [l0, l1, l2, l3, l4, ab_I z] (ab_I z :: st) σ Q := ab_r_iload rfl kc_X0_setPlaces dX0_setPlaces_36
theorem rX0_setPlaces_38 : ab_Run X 1 38 (0, 0, 0) L (ab_I b :: ab_I a :: st) σ Q ↔ ab_Run X 1 39 (0, 0, 0) L (ab_I (ab_w32 (a + b)) :: st) σ Q := ab_r_iadd kc_X0_setPlaces dX0_setPlaces_38
theorem rX0_setPlaces_39 : ab_Run X 1 39 (0, 0, 0) L (ab_I i :: ab_R a :: st) σ Q ↔ ((ab_sh σ a).1 = 21 ∧ 0 ≤ i ∧ i < (ab_sh σ a).2) ∧ ab_Run X 1 40 (0, 0, 0) L (ab_I (ab_rd σ a i) :: st) σ Q := ab_r_iaload (by decide) kc_X0_setPlaces dX0_setPlaces_39
theorem rX0_setPlaces_40 : ab_Run X 1 40 (0, 0, 0) [l0, l1, l2, ab_I z, l4, l5] st σ Q ↔ ab_Run X 1 41 (0, 0, 0) [l0, l1, l2, ab_I z, l4, l5] (ab_I z :: st) σ Q := ab_r_iload_n rfl kc_X0_setPlaces dX0_setPlaces_40
theorem rX0_setPlaces_41 : ab_Run X 1 41 (0, 0, 0) L (ab_I b :: ab_I a :: st) σ Q ↔ ab_Run X 1 42 (0, 0, 0) L (ab_I (ab_w32 (a * b)) :: st) σ Q := ab_r_imul kc_X0_setPlaces dX0_setPlaces_41
theorem rX0_setPlaces_42 : ab_Run X 1 42 (0, 0, 0) [l0, l1, l2, l3, l4, ab_I z] st σ Q ↔ ab_Run X 1 44 (0, 0, 0) [l0, l1, l2, l3, l4, ab_I z] (ab_I z :: st) σ Q := ab_r_iload rfl kc_X0_setPlaces dX0_setPlaces_42
theorem rX0_setPlaces_44 : ab_Run X 1 44 (0, 0, 0) L st σ Q ↔ ab_Run X 1 45 (0, 0, 0) L (ab_I 2 :: st) σ Q := ab_r_iconst (by decide) kc_X0_setPlaces dX0_setPlaces_44
theorem rX0_setPlaces_45 : ab_Run X 1 45 (0, 0, 0) L (ab_I b :: ab_I a :: st) σ Q ↔ (b ≤ a → ab_Run X 1 53 (0, 0, 0) L st σ Q) ∧ (¬ (b ≤ a) → ab_Run X 1 48 (0, 0, 0) L st σ Q) := ab_r_icmp_ge rfl kc_X0_setPlaces dX0_setPlaces_45
theorem rX0_setPlaces_48 : ab_Run X 1 48 (0, 0, 0) [l0, l1, l2, l3, ab_I z, l5] st σ Q ↔ ab_Run X 1 50 (0, 0, 0) [l0, l1, l2, l3, ab_I z, l5] (ab_I z :: st) σ Q := ab_r_iload rfl kc_X0_setPlaces dX0_setPlaces_48
theorem rX0_setPlaces_50 : ab_Run X 1 50 (0, 0, 0) L st σ Q ↔ ab_Run X 1 54 (0, 0, 0) L st σ Q := ab_r_goto rfl kc_X0_setPlaces dX0_setPlaces_50
theorem rX0_setPlaces_53 : ab_Run X 1 53 (0, 0, 0) L st σ Q ↔ ab_Run X 1 54 (0, 0, 0) L (ab_I 0 :: st) σ Q := ab_r_iconst (by decide) kc_X0_setPlaces dX0_setPlaces_53
theorem rX0_setPlaces_54 : ab_Run X 1 54 (0, 0, 0) L (ab_I b :: ab_I a :: st) σ Q ↔ ab_Run X 1 55 (0, 0, 0) L (ab_I (ab_w32 (a + b)) :: st) σ Q := ab_r_iadd kc_X0_setPlaces dX0_setPlaces_54
theorem rX0_setPlaces_55 : ab_Run X 1 55 (0, 0, 0) L (ab_I v :: ab_I i :: ab_R a :: st) σ Q ↔ ((ab_sh σ a).1 = 21 ∧ 0 ≤ i ∧ i < (ab_sh σ a).2) ∧ ab_Run X 1 56 (0, 0, 0) L st (ab_wr σ a i v) Q := ab_r_iastore kc_X0_setPlaces dX0_setPlaces_55
theorem rX0_setPlaces_56 : ab_Run X 1 56 (0, 0, 0) [l0, l1, l2, l3, l4, ab_I z] st σ Q ↔ (!ab_isJ l4) = true ∧ ab_Run X 1 59 (0, 0, 0) [l0, l1, l2, l3, l4, ab_I (ab_w32 (z + 1))] st σ Q := ab_r_iinc rfl (by decide) kc_X0_setPlaces dX0_setPlaces_56
theorem rX0_setPlaces_59 : ab_Run X 1 59 (0, 0, 0) L st σ Q ↔ ab_Run X 1 13 (0, 0, 0) L st σ Q := ab_r_goto rfl kc_X0_setPlaces dX0_setPlaces_59
theorem rX0_setPlaces_62 : ab_Run X 1 62 (0, 0, 0) L [] σ Q ↔ Q none σ := ab_r_return rfl kc_X0_setPlaces dX0_setPlaces_62
theorem kc_X0_setStrain : ab_code 2 = cX0_setStrain := rfl
theorem ko_X0_setStrain : ab_ow 2 = 0 := rfl
theorem rX0_setStrain_0 : ab_Run X 2 0 (0, 0, 0) L st σ Q ↔ ab_Run X 2 1 (0, 0, 0) L (ab_I 0 :: st) σ Q := ab_r_iconst (by decide) kc_X0_setStrain dX0_setStrain_0
theorem rX0_setStrain_1 : ab_Run X 2 1 (0, 0, 0) [l0, l1, l2, l3, l4] (ab_I z :: st) σ Q ↔ (!ab_isJ l3) = true ∧ ab_Run X 2 3 (0, 0, 0) [l0, l1, l2, l3, ab_I z] st σ Q := ab_r_istore (Nat.le_of_ble_eq_true rfl) kc_X0_setStrain dX0_setStrain_1
theorem rX0_setStrain_3 : ab_Run X 2 3 (0, 0, 0) [l0, l1, l2, l3, ab_I z] st σ Q ↔ ab_Run X 2 5 (0, 0, 0) [l0, l1, l2, l3, ab_I z] (ab_I z :: st) σ Q := ab_r_iload rfl kc_X0_setStrain dX0_setStrain_3
theorem rX0_setStrain_5 : ab_Run X 2 5 (0, 0, 0) [ab_R z, l1, l2, l3, l4] st σ Q ↔ z ≠ 0 ∧ ab_Run X 2 6 (0, 0, 0) [ab_R z, l1, l2, l3, l4] (ab_R z :: st) σ Q := ab_r_aload_n rfl kc_X0_setStrain dX0_setStrain_5
theorem rX0_setStrain_6 : ab_Run X 2 6 (0, 0, 0) L (ab_R a :: st) σ Q ↔ (ab_sh σ a).1 = 1 ∧ ab_Run X 2 9 (0, 0, 0) L (ab_I (ab_rd σ a 0) :: st) σ Q := gF_0_32 ko_X0_setStrain kc_X0_setStrain dX0_setStrain_6
theorem rX0_setStrain_9 : ab_Run X 2 9 (0, 0, 0) L (ab_I b :: ab_I a :: st) σ Q ↔ (b ≤ a → ab_Run X 2 43 (0, 0, 0) L st σ Q) ∧ (¬ (b ≤ a) → ab_Run X 2 12 (0, 0, 0) L st σ Q) := ab_r_icmp_ge rfl kc_X0_setStrain dX0_setStrain_9
theorem rX0_setStrain_12 : ab_Run X 2 12 (0, 0, 0) [ab_R z, l1, l2, l3, l4] st σ Q ↔ z ≠ 0 ∧ ab_Run X 2 13 (0, 0, 0) [ab_R z, l1, l2, l3, l4] (ab_R z :: st) σ Q := ab_r_aload_n rfl kc_X0_setStrain dX0_setStrain_12
theorem rX0_setStrain_13 : ab_Run X 2 13 (0, 0, 0) L (ab_R a :: st) σ Q ↔ (ab_sh σ a).1 = 1 ∧ ab_Run X 2 16 (0, 0, 0) L (ab_R (ab_rd σ a 1) :: st) σ Q := gF_0_9 ko_X0_setStrain kc_X0_setStrain dX0_setStrain_13
theorem rX0_setStrain_16 : ab_Run X 2 16 (0, 0, 0) [l0, l1, l2, l3, ab_I z] st σ Q ↔ ab_Run X 2 18 (0, 0, 0) [l0, l1, l2, l3, ab_I z] (ab_I z :: st) σ Q := ab_r_iload rfl kc_X0_setStrain dX0_setStrain_16
theorem rX0_setStrain_18 : ab_Run X 2 18 (0, 0, 0) [l0, l1, l2, l3, ab_I z] st σ Q ↔ ab_Run X 2 20 (0, 0, 0) [l0, l1, l2, l3, ab_I z] (ab_I z :: st) σ Q := ab_r_iload rfl kc_X0_setStrain dX0_setStrain_18
theorem rX0_setStrain_20 : ab_Run X 2 20 (0, 0, 0) [l0, l1, ab_I z, l3, l4] st σ Q ↔ ab_Run X 2 21 (0, 0, 0) [l0, l1, ab_I z, l3, l4] (ab_I z :: st) σ Q := ab_r_iload_n rfl kc_X0_setStrain dX0_setStrain_20
theorem rX0_setStrain_21 : ab_Run X 2 21 (0, 0, 0) L (ab_I b :: ab_I a :: st) σ Q ↔ (b ≤ a → ab_Run X 2 35 (0, 0, 0) L st σ Q) ∧ (¬ (b ≤ a) → ab_Run X 2 24 (0, 0, 0) L st σ Q) := ab_r_icmp_ge rfl kc_X0_setStrain dX0_setStrain_21
theorem rX0_setStrain_24 : ab_Run X 2 24 (0, 0, 0) [l0, ab_I z, l2, l3, l4] st σ Q ↔ ab_Run X 2 25 (0, 0, 0) [l0, ab_I z, l2, l3, l4] (ab_I z :: st) σ Q := ab_r_iload_n rfl kc_X0_setStrain dX0_setStrain_24
theorem rX0_setStrain_25 : ab_Run X 2 25 (0, 0, 0) [l0, l1, ab_I z, l3, l4] st σ Q ↔ ab_Run X 2 26 (0, 0, 0) [l0, l1, ab_I z, l3, l4] (ab_I z :: st) σ Q := ab_r_iload_n rfl kc_X0_setStrain dX0_setStrain_25
theorem rX0_setStrain_26 : ab_Run X 2 26 (0, 0, 0) [l0, l1, l2, l3, ab_I z] st σ Q ↔ ab_Run X 2 28 (0, 0, 0) [l0, l1, l2, l3, ab_I z] (ab_I z :: st) σ Q := ab_r_iload rfl kc_X0_setStrain dX0_setStrain_26
theorem rX0_setStrain_28 : ab_Run X 2 28 (0, 0, 0) L (ab_I b :: ab_I a :: st) σ Q ↔ ab_Run X 2 29 (0, 0, 0) L (ab_I (ab_w32 (a - b)) :: st) σ Q := ab_r_isub kc_X0_setStrain dX0_setStrain_28
theorem rX0_setStrain_29 : ab_Run X 2 29 (0, 0, 0) L (ab_I b :: ab_I a :: st) σ Q ↔ ab_Run X 2 30 (0, 0, 0) L (ab_I (ab_w32 (a * b)) :: st) σ Q := ab_r_imul kc_X0_setStrain dX0_setStrain_29
theorem rX0_setStrain_30 : ab_Run X 2 30 (0, 0, 0) [l0, l1, l2, ab_I z, l4] st σ Q ↔ ab_Run X 2 31 (0, 0, 0) [l0, l1, l2, ab_I z, l4] (ab_I z :: st) σ Q := ab_r_iload_n rfl kc_X0_setStrain dX0_setStrain_30
theorem rX0_setStrain_31 : ab_Run X 2 31 (0, 0, 0) L (ab_I b :: ab_I a :: st) σ Q ↔ ab_Run X 2 32 (0, 0, 0) L (ab_I (ab_w32 (a + b)) :: st) σ Q := ab_r_iadd kc_X0_setStrain dX0_setStrain_31
theorem rX0_setStrain_32 : ab_Run X 2 32 (0, 0, 0) L st σ Q ↔ ab_Run X 2 36 (0, 0, 0) L st σ Q := ab_r_goto rfl kc_X0_setStrain dX0_setStrain_32
theorem rX0_setStrain_35 : ab_Run X 2 35 (0, 0, 0) L st σ Q ↔ ab_Run X 2 36 (0, 0, 0) L (ab_I 0 :: st) σ Q := ab_r_iconst (by decide) kc_X0_setStrain dX0_setStrain_35
theorem rX0_setStrain_36 : ab_Run X 2 36 (0, 0, 0) L (ab_I v :: ab_I i :: ab_R a :: st) σ Q ↔ ((ab_sh σ a).1 = 21 ∧ 0 ≤ i ∧ i < (ab_sh σ a).2) ∧ ab_Run X 2 37 (0, 0, 0) L st (ab_wr σ a i v) Q := ab_r_iastore kc_X0_setStrain dX0_setStrain_36
theorem rX0_setStrain_37 : ab_Run X 2 37 (0, 0, 0) [l0, l1, l2, l3, ab_I z] st σ Q ↔ (!ab_isJ l3) = true ∧ ab_Run X 2 40 (0, 0, 0) [l0, l1, l2, l3, ab_I (ab_w32 (z + 1))] st σ Q := ab_r_iinc rfl (by decide) kc_X0_setStrain dX0_setStrain_37
theorem rX0_setStrain_40 : ab_Run X 2 40 (0, 0, 0) L st σ Q ↔ ab_Run X 2 3 (0, 0, 0) L st σ Q := ab_r_goto rfl kc_X0_setStrain dX0_setStrain_40
theorem rX0_setStrain_43 : ab_Run X 2 43 (0, 0, 0) L [] σ Q ↔ Q none σ := ab_r_return rfl kc_X0_setStrain dX0_setStrain_43
theorem kc_X0_findWorst : ab_code 3 = cX0_findWorst := rfl
theorem ko_X0_findWorst : ab_ow 3 = 0 := rfl
theorem rX0_findWorst_0 : ab_Run X 3 0 (0, 0, 0) [ab_R z, l1, l2, l3] st σ Q ↔ z ≠ 0 ∧ ab_Run X 3 1 (0, 0, 0) [ab_R z, l1, l2, l3] (ab_R z :: st) σ Q := ab_r_aload_n rfl kc_X0_findWorst dX0_findWorst_0
theorem rX0_findWorst_1 : ab_Run X 3 1 (0, 0, 0) L (ab_R a :: st) σ Q ↔ (ab_sh σ a).1 = 1 ∧ ab_Run X 3 4 (0, 0, 0) L (ab_R (ab_rd σ a 3) :: st) σ Q := gF_0_18 ko_X0_findWorst kc_X0_findWorst dX0_findWorst_1
theorem rX0_findWorst_4 : ab_Run X 3 4 (0, 0, 0) [l0, ab_I z, l2, l3] st σ Q ↔ ab_Run X 3 5 (0, 0, 0) [l0, ab_I z, l2, l3] (ab_I z :: st) σ Q := ab_r_iload_n rfl kc_X0_findWorst dX0_findWorst_4
theorem rX0_findWorst_5 : ab_Run X 3 5 (0, 0, 0) L st σ Q ↔ ab_Run X 3 6 (0, 0, 0) L (ab_I (-1) :: st) σ Q := ab_r_iconst (by decide) kc_X0_findWorst dX0_findWorst_5
theorem rX0_findWorst_6 : ab_Run X 3 6 (0, 0, 0) L (ab_I v :: ab_I i :: ab_R a :: st) σ Q ↔ ((ab_sh σ a).1 = 21 ∧ 0 ≤ i ∧ i < (ab_sh σ a).2) ∧ ab_Run X 3 7 (0, 0, 0) L st (ab_wr σ a i v) Q := ab_r_iastore kc_X0_findWorst dX0_findWorst_6
theorem rX0_findWorst_7 : ab_Run X 3 7 (0, 0, 0) [ab_R z, l1, l2, l3] st σ Q ↔ z ≠ 0 ∧ ab_Run X 3 8 (0, 0, 0) [ab_R z, l1, l2, l3] (ab_R z :: st) σ Q := ab_r_aload_n rfl kc_X0_findWorst dX0_findWorst_7
theorem rX0_findWorst_8 : ab_Run X 3 8 (0, 0, 0) L (ab_R a :: st) σ Q ↔ (ab_sh σ a).1 = 1 ∧ ab_Run X 3 11 (0, 0, 0) L (ab_R (ab_rd σ a 4) :: st) σ Q := gF_0_21 ko_X0_findWorst kc_X0_findWorst dX0_findWorst_8
theorem rX0_findWorst_11 : ab_Run X 3 11 (0, 0, 0) [l0, ab_I z, l2, l3] st σ Q ↔ ab_Run X 3 12 (0, 0, 0) [l0, ab_I z, l2, l3] (ab_I z :: st) σ Q := ab_r_iload_n rfl kc_X0_findWorst dX0_findWorst_11
theorem rX0_findWorst_12 : ab_Run X 3 12 (0, 0, 0) L st σ Q ↔ ab_Run X 3 13 (0, 0, 0) L (ab_I 0 :: st) σ Q := ab_r_iconst (by decide) kc_X0_findWorst dX0_findWorst_12
theorem rX0_findWorst_13 : ab_Run X 3 13 (0, 0, 0) L (ab_I v :: ab_I i :: ab_R a :: st) σ Q ↔ ((ab_sh σ a).1 = 21 ∧ 0 ≤ i ∧ i < (ab_sh σ a).2) ∧ ab_Run X 3 14 (0, 0, 0) L st (ab_wr σ a i v) Q := ab_r_iastore kc_X0_findWorst dX0_findWorst_13
theorem rX0_findWorst_14 : ab_Run X 3 14 (0, 0, 0) [ab_R z, l1, l2, l3] st σ Q ↔ z ≠ 0 ∧ ab_Run X 3 15 (0, 0, 0) [ab_R z, l1, l2, l3] (ab_R z :: st) σ Q := ab_r_aload_n rfl kc_X0_findWorst dX0_findWorst_14
theorem rX0_findWorst_15 : ab_Run X 3 15 (0, 0, 0) L (ab_R a :: st) σ Q ↔ (ab_sh σ a).1 = 1 ∧ ab_Run X 3 18 (0, 0, 0) L (ab_R (ab_rd σ a 5) :: st) σ Q := gF_0_24 ko_X0_findWorst kc_X0_findWorst dX0_findWorst_15
theorem rX0_findWorst_18 : ab_Run X 3 18 (0, 0, 0) [l0, ab_I z, l2, l3] st σ Q ↔ ab_Run X 3 19 (0, 0, 0) [l0, ab_I z, l2, l3] (ab_I z :: st) σ Q := ab_r_iload_n rfl kc_X0_findWorst dX0_findWorst_18
theorem rX0_findWorst_19 : ab_Run X 3 19 (0, 0, 0) L st σ Q ↔ ab_Run X 3 20 (0, 0, 0) L (ab_I 1 :: st) σ Q := ab_r_iconst (by decide) kc_X0_findWorst dX0_findWorst_19
theorem rX0_findWorst_20 : ab_Run X 3 20 (0, 0, 0) L (ab_I v :: ab_I i :: ab_R a :: st) σ Q ↔ ((ab_sh σ a).1 = 21 ∧ 0 ≤ i ∧ i < (ab_sh σ a).2) ∧ ab_Run X 3 21 (0, 0, 0) L st (ab_wr σ a i v) Q := ab_r_iastore kc_X0_findWorst dX0_findWorst_20
theorem rX0_findWorst_21 : ab_Run X 3 21 (0, 0, 0) L st σ Q ↔ ab_Run X 3 22 (0, 0, 0) L (ab_I 0 :: st) σ Q := ab_r_iconst (by decide) kc_X0_findWorst dX0_findWorst_21
theorem rX0_findWorst_22 : ab_Run X 3 22 (0, 0, 0) [l0, l1, l2, l3] (ab_I z :: st) σ Q ↔ (!ab_isJ l1) = true ∧ ab_Run X 3 23 (0, 0, 0) [l0, l1, ab_I z, l3] st σ Q := ab_r_istore_n (Nat.le_of_ble_eq_true rfl) kc_X0_findWorst dX0_findWorst_22
theorem rX0_findWorst_23 : ab_Run X 3 23 (0, 0, 0) [l0, l1, ab_I z, l3] st σ Q ↔ ab_Run X 3 24 (0, 0, 0) [l0, l1, ab_I z, l3] (ab_I z :: st) σ Q := ab_r_iload_n rfl kc_X0_findWorst dX0_findWorst_23
theorem rX0_findWorst_24 : ab_Run X 3 24 (0, 0, 0) [ab_R z, l1, l2, l3] st σ Q ↔ z ≠ 0 ∧ ab_Run X 3 25 (0, 0, 0) [ab_R z, l1, l2, l3] (ab_R z :: st) σ Q := ab_r_aload_n rfl kc_X0_findWorst dX0_findWorst_24
theorem rX0_findWorst_25 : ab_Run X 3 25 (0, 0, 0) L (ab_R a :: st) σ Q ↔ (ab_sh σ a).1 = 1 ∧ ab_Run X 3 28 (0, 0, 0) L (ab_I (ab_rd σ a 0) :: st) σ Q := gF_0_32 ko_X0_findWorst kc_X0_findWorst dX0_findWorst_25
theorem rX0_findWorst_28 : ab_Run X 3 28 (0, 0, 0) L (ab_I b :: ab_I a :: st) σ Q ↔ (b ≤ a → ab_Run X 3 132 (0, 0, 0) L st σ Q) ∧ (¬ (b ≤ a) → ab_Run X 3 31 (0, 0, 0) L st σ Q) := ab_r_icmp_ge rfl kc_X0_findWorst dX0_findWorst_28
theorem rX0_findWorst_31 : ab_Run X 3 31 (0, 0, 0) [l0, l1, ab_I z, l3] st σ Q ↔ ab_Run X 3 32 (0, 0, 0) [l0, l1, ab_I z, l3] (ab_I z :: st) σ Q := ab_r_iload_n rfl kc_X0_findWorst dX0_findWorst_31
theorem rX0_findWorst_32 : ab_Run X 3 32 (0, 0, 0) L st σ Q ↔ ab_Run X 3 33 (0, 0, 0) L (ab_I 1 :: st) σ Q := ab_r_iconst (by decide) kc_X0_findWorst dX0_findWorst_32
theorem rX0_findWorst_33 : ab_Run X 3 33 (0, 0, 0) L (ab_I b :: ab_I a :: st) σ Q ↔ ab_Run X 3 34 (0, 0, 0) L (ab_I (ab_w32 (a + b)) :: st) σ Q := ab_r_iadd kc_X0_findWorst dX0_findWorst_33
theorem rX0_findWorst_34 : ab_Run X 3 34 (0, 0, 0) [l0, ab_I z, l2, l3] st σ Q ↔ ab_Run X 3 35 (0, 0, 0) [l0, ab_I z, l2, l3] (ab_I z :: st) σ Q := ab_r_iload_n rfl kc_X0_findWorst dX0_findWorst_34
theorem rX0_findWorst_35 : ab_Run X 3 35 (0, 0, 0) L (ab_I b :: ab_I a :: st) σ Q ↔ (¬ a = b → ab_Run X 3 49 (0, 0, 0) L st σ Q) ∧ (¬ (¬ a = b) → ab_Run X 3 38 (0, 0, 0) L st σ Q) := ab_r_icmp_ne rfl kc_X0_findWorst dX0_findWorst_35
theorem rX0_findWorst_38 : ab_Run X 3 38 (0, 0, 0) [ab_R z, l1, l2, l3] st σ Q ↔ z ≠ 0 ∧ ab_Run X 3 39 (0, 0, 0) [ab_R z, l1, l2, l3] (ab_R z :: st) σ Q := ab_r_aload_n rfl kc_X0_findWorst dX0_findWorst_38
theorem rX0_findWorst_39 : ab_Run X 3 39 (0, 0, 0) L (ab_R a :: st) σ Q ↔ (ab_sh σ a).1 = 1 ∧ ab_Run X 3 42 (0, 0, 0) L (ab_R (ab_rd σ a 2) :: st) σ Q := gF_0_15 ko_X0_findWorst kc_X0_findWorst dX0_findWorst_39
theorem rX0_findWorst_42 : ab_Run X 3 42 (0, 0, 0) [l0, l1, ab_I z, l3] st σ Q ↔ ab_Run X 3 43 (0, 0, 0) [l0, l1, ab_I z, l3] (ab_I z :: st) σ Q := ab_r_iload_n rfl kc_X0_findWorst dX0_findWorst_42
theorem rX0_findWorst_43 : ab_Run X 3 43 (0, 0, 0) L (ab_I i :: ab_R a :: st) σ Q ↔ ((ab_sh σ a).1 = 21 ∧ 0 ≤ i ∧ i < (ab_sh σ a).2) ∧ ab_Run X 3 44 (0, 0, 0) L (ab_I (ab_rd σ a i) :: st) σ Q := ab_r_iaload (by decide) kc_X0_findWorst dX0_findWorst_43
theorem rX0_findWorst_44 : ab_Run X 3 44 (0, 0, 0) L st σ Q ↔ ab_Run X 3 45 (0, 0, 0) L (ab_I 2 :: st) σ Q := ab_r_iconst (by decide) kc_X0_findWorst dX0_findWorst_44
theorem rX0_findWorst_45 : ab_Run X 3 45 (0, 0, 0) L (ab_I b :: ab_I a :: st) σ Q ↔ b ≠ 0 ∧ ab_Run X 3 46 (0, 0, 0) L (ab_I (ab_w32 (a.tdiv b)) :: st) σ Q := ab_r_idiv kc_X0_findWorst dX0_findWorst_45
theorem rX0_findWorst_46 : ab_Run X 3 46 (0, 0, 0) L st σ Q ↔ ab_Run X 3 55 (0, 0, 0) L st σ Q := ab_r_goto rfl kc_X0_findWorst dX0_findWorst_46
theorem rX0_findWorst_49 : ab_Run X 3 49 (0, 0, 0) [ab_R z, l1, l2, l3] st σ Q ↔ z ≠ 0 ∧ ab_Run X 3 50 (0, 0, 0) [ab_R z, l1, l2, l3] (ab_R z :: st) σ Q := ab_r_aload_n rfl kc_X0_findWorst dX0_findWorst_49
theorem rX0_findWorst_50 : ab_Run X 3 50 (0, 0, 0) L (ab_R a :: st) σ Q ↔ (ab_sh σ a).1 = 1 ∧ ab_Run X 3 53 (0, 0, 0) L (ab_R (ab_rd σ a 2) :: st) σ Q := gF_0_15 ko_X0_findWorst kc_X0_findWorst dX0_findWorst_50
theorem rX0_findWorst_53 : ab_Run X 3 53 (0, 0, 0) [l0, l1, ab_I z, l3] st σ Q ↔ ab_Run X 3 54 (0, 0, 0) [l0, l1, ab_I z, l3] (ab_I z :: st) σ Q := ab_r_iload_n rfl kc_X0_findWorst dX0_findWorst_53
theorem rX0_findWorst_54 : ab_Run X 3 54 (0, 0, 0) L (ab_I i :: ab_R a :: st) σ Q ↔ ((ab_sh σ a).1 = 21 ∧ 0 ≤ i ∧ i < (ab_sh σ a).2) ∧ ab_Run X 3 55 (0, 0, 0) L (ab_I (ab_rd σ a i) :: st) σ Q := ab_r_iaload (by decide) kc_X0_findWorst dX0_findWorst_54
theorem rX0_findWorst_55 : ab_Run X 3 55 (0, 0, 0) [l0, l1, l2, l3] (ab_I z :: st) σ Q ↔ (!ab_isJ l2) = true ∧ ab_Run X 3 56 (0, 0, 0) [l0, l1, l2, ab_I z] st σ Q := ab_r_istore_n (Nat.le_of_ble_eq_true rfl) kc_X0_findWorst dX0_findWorst_55
theorem rX0_findWorst_56 : ab_Run X 3 56 (0, 0, 0) [ab_R z, l1, l2, l3] st σ Q ↔ z ≠ 0 ∧ ab_Run X 3 57 (0, 0, 0) [ab_R z, l1, l2, l3] (ab_R z :: st) σ Q := ab_r_aload_n rfl kc_X0_findWorst dX0_findWorst_56
theorem rX0_findWorst_57 : ab_Run X 3 57 (0, 0, 0) L (ab_R a :: st) σ Q ↔ (ab_sh σ a).1 = 1 ∧ ab_Run X 3 60 (0, 0, 0) L (ab_R (ab_rd σ a 1) :: st) σ Q := gF_0_9 ko_X0_findWorst kc_X0_findWorst dX0_findWorst_57
theorem rX0_findWorst_60 : ab_Run X 3 60 (0, 0, 0) [l0, l1, ab_I z, l3] st σ Q ↔ ab_Run X 3 61 (0, 0, 0) [l0, l1, ab_I z, l3] (ab_I z :: st) σ Q := ab_r_iload_n rfl kc_X0_findWorst dX0_findWorst_60
theorem rX0_findWorst_61 : ab_Run X 3 61 (0, 0, 0) L (ab_I i :: ab_R a :: st) σ Q ↔ ((ab_sh σ a).1 = 21 ∧ 0 ≤ i ∧ i < (ab_sh σ a).2) ∧ ab_Run X 3 62 (0, 0, 0) L (ab_I (ab_rd σ a i) :: st) σ Q := ab_r_iaload (by decide) kc_X0_findWorst dX0_findWorst_61
theorem rX0_findWorst_62 : ab_Run X 3 62 (0, 0, 0) [l0, l1, l2, ab_I z] st σ Q ↔ ab_Run X 3 63 (0, 0, 0) [l0, l1, l2, ab_I z] (ab_I z :: st) σ Q := ab_r_iload_n rfl kc_X0_findWorst dX0_findWorst_62
theorem rX0_findWorst_63 : ab_Run X 3 63 (0, 0, 0) L (ab_I b :: ab_I a :: st) σ Q ↔ (a ≤ b → ab_Run X 3 126 (0, 0, 0) L st σ Q) ∧ (¬ (a ≤ b) → ab_Run X 3 66 (0, 0, 0) L st σ Q) := ab_r_icmp_le rfl kc_X0_findWorst dX0_findWorst_63
theorem rX0_findWorst_66 : ab_Run X 3 66 (0, 0, 0) [ab_R z, l1, l2, l3] st σ Q ↔ z ≠ 0 ∧ ab_Run X 3 67 (0, 0, 0) [ab_R z, l1, l2, l3] (ab_R z :: st) σ Q := ab_r_aload_n rfl kc_X0_findWorst dX0_findWorst_66
theorem rX0_findWorst_67 : ab_Run X 3 67 (0, 0, 0) L (ab_R a :: st) σ Q ↔ (ab_sh σ a).1 = 1 ∧ ab_Run X 3 70 (0, 0, 0) L (ab_R (ab_rd σ a 3) :: st) σ Q := gF_0_18 ko_X0_findWorst kc_X0_findWorst dX0_findWorst_67
theorem rX0_findWorst_70 : ab_Run X 3 70 (0, 0, 0) [l0, ab_I z, l2, l3] st σ Q ↔ ab_Run X 3 71 (0, 0, 0) [l0, ab_I z, l2, l3] (ab_I z :: st) σ Q := ab_r_iload_n rfl kc_X0_findWorst dX0_findWorst_70
theorem rX0_findWorst_71 : ab_Run X 3 71 (0, 0, 0) L (ab_I i :: ab_R a :: st) σ Q ↔ ((ab_sh σ a).1 = 21 ∧ 0 ≤ i ∧ i < (ab_sh σ a).2) ∧ ab_Run X 3 72 (0, 0, 0) L (ab_I (ab_rd σ a i) :: st) σ Q := ab_r_iaload (by decide) kc_X0_findWorst dX0_findWorst_71
theorem rX0_findWorst_72 : ab_Run X 3 72 (0, 0, 0) L st σ Q ↔ ab_Run X 3 73 (0, 0, 0) L (ab_I (-1) :: st) σ Q := ab_r_iconst (by decide) kc_X0_findWorst dX0_findWorst_72
theorem rX0_findWorst_73 : ab_Run X 3 73 (0, 0, 0) L (ab_I b :: ab_I a :: st) σ Q ↔ (a = b → ab_Run X 3 100 (0, 0, 0) L st σ Q) ∧ (¬ (a = b) → ab_Run X 3 76 (0, 0, 0) L st σ Q) := ab_r_icmp_eq rfl kc_X0_findWorst dX0_findWorst_73
theorem rX0_findWorst_76 : ab_Run X 3 76 (0, 0, 0) [ab_R z, l1, l2, l3] st σ Q ↔ z ≠ 0 ∧ ab_Run X 3 77 (0, 0, 0) [ab_R z, l1, l2, l3] (ab_R z :: st) σ Q := ab_r_aload_n rfl kc_X0_findWorst dX0_findWorst_76
theorem rX0_findWorst_77 : ab_Run X 3 77 (0, 0, 0) L (ab_R a :: st) σ Q ↔ (ab_sh σ a).1 = 1 ∧ ab_Run X 3 80 (0, 0, 0) L (ab_R (ab_rd σ a 1) :: st) σ Q := gF_0_9 ko_X0_findWorst kc_X0_findWorst dX0_findWorst_77
theorem rX0_findWorst_80 : ab_Run X 3 80 (0, 0, 0) [l0, l1, ab_I z, l3] st σ Q ↔ ab_Run X 3 81 (0, 0, 0) [l0, l1, ab_I z, l3] (ab_I z :: st) σ Q := ab_r_iload_n rfl kc_X0_findWorst dX0_findWorst_80
theorem rX0_findWorst_81 : ab_Run X 3 81 (0, 0, 0) L (ab_I i :: ab_R a :: st) σ Q ↔ ((ab_sh σ a).1 = 21 ∧ 0 ≤ i ∧ i < (ab_sh σ a).2) ∧ ab_Run X 3 82 (0, 0, 0) L (ab_I (ab_rd σ a i) :: st) σ Q := ab_r_iaload (by decide) kc_X0_findWorst dX0_findWorst_81
theorem rX0_findWorst_82 : ab_Run X 3 82 (0, 0, 0) [ab_R z, l1, l2, l3] st σ Q ↔ z ≠ 0 ∧ ab_Run X 3 83 (0, 0, 0) [ab_R z, l1, l2, l3] (ab_R z :: st) σ Q := ab_r_aload_n rfl kc_X0_findWorst dX0_findWorst_82
theorem rX0_findWorst_83 : ab_Run X 3 83 (0, 0, 0) L (ab_R a :: st) σ Q ↔ (ab_sh σ a).1 = 1 ∧ ab_Run X 3 86 (0, 0, 0) L (ab_R (ab_rd σ a 5) :: st) σ Q := gF_0_24 ko_X0_findWorst kc_X0_findWorst dX0_findWorst_83
theorem rX0_findWorst_86 : ab_Run X 3 86 (0, 0, 0) [l0, ab_I z, l2, l3] st σ Q ↔ ab_Run X 3 87 (0, 0, 0) [l0, ab_I z, l2, l3] (ab_I z :: st) σ Q := ab_r_iload_n rfl kc_X0_findWorst dX0_findWorst_86
theorem rX0_findWorst_87 : ab_Run X 3 87 (0, 0, 0) L (ab_I i :: ab_R a :: st) σ Q ↔ ((ab_sh σ a).1 = 21 ∧ 0 ≤ i ∧ i < (ab_sh σ a).2) ∧ ab_Run X 3 88 (0, 0, 0) L (ab_I (ab_rd σ a i) :: st) σ Q := ab_r_iaload (by decide) kc_X0_findWorst dX0_findWorst_87
theorem rX0_findWorst_88 : ab_Run X 3 88 (0, 0, 0) L (ab_I b :: ab_I a :: st) σ Q ↔ ab_Run X 3 89 (0, 0, 0) L (ab_I (ab_w32 (a * b)) :: st) σ Q := ab_r_imul kc_X0_findWorst dX0_findWorst_88
theorem rX0_findWorst_89 : ab_Run X 3 89 (0, 0, 0) [ab_R z, l1, l2, l3] st σ Q ↔ z ≠ 0 ∧ ab_Run X 3 90 (0, 0, 0) [ab_R z, l1, l2, l3] (ab_R z :: st) σ Q := ab_r_aload_n rfl kc_X0_findWorst dX0_findWorst_89
theorem rX0_findWorst_90 : ab_Run X 3 90 (0, 0, 0) L (ab_R a :: st) σ Q ↔ (ab_sh σ a).1 = 1 ∧ ab_Run X 3 93 (0, 0, 0) L (ab_R (ab_rd σ a 4) :: st) σ Q := gF_0_21 ko_X0_findWorst kc_X0_findWorst dX0_findWorst_90
theorem rX0_findWorst_93 : ab_Run X 3 93 (0, 0, 0) [l0, ab_I z, l2, l3] st σ Q ↔ ab_Run X 3 94 (0, 0, 0) [l0, ab_I z, l2, l3] (ab_I z :: st) σ Q := ab_r_iload_n rfl kc_X0_findWorst dX0_findWorst_93
theorem rX0_findWorst_94 : ab_Run X 3 94 (0, 0, 0) L (ab_I i :: ab_R a :: st) σ Q ↔ ((ab_sh σ a).1 = 21 ∧ 0 ≤ i ∧ i < (ab_sh σ a).2) ∧ ab_Run X 3 95 (0, 0, 0) L (ab_I (ab_rd σ a i) :: st) σ Q := ab_r_iaload (by decide) kc_X0_findWorst dX0_findWorst_94
theorem rX0_findWorst_95 : ab_Run X 3 95 (0, 0, 0) [l0, l1, l2, ab_I z] st σ Q ↔ ab_Run X 3 96 (0, 0, 0) [l0, l1, l2, ab_I z] (ab_I z :: st) σ Q := ab_r_iload_n rfl kc_X0_findWorst dX0_findWorst_95
theorem rX0_findWorst_96 : ab_Run X 3 96 (0, 0, 0) L (ab_I b :: ab_I a :: st) σ Q ↔ ab_Run X 3 97 (0, 0, 0) L (ab_I (ab_w32 (a * b)) :: st) σ Q := ab_r_imul kc_X0_findWorst dX0_findWorst_96
theorem rX0_findWorst_97 : ab_Run X 3 97 (0, 0, 0) L (ab_I b :: ab_I a :: st) σ Q ↔ (a ≤ b → ab_Run X 3 126 (0, 0, 0) L st σ Q) ∧ (¬ (a ≤ b) → ab_Run X 3 100 (0, 0, 0) L st σ Q) := ab_r_icmp_le rfl kc_X0_findWorst dX0_findWorst_97
theorem rX0_findWorst_100 : ab_Run X 3 100 (0, 0, 0) [ab_R z, l1, l2, l3] st σ Q ↔ z ≠ 0 ∧ ab_Run X 3 101 (0, 0, 0) [ab_R z, l1, l2, l3] (ab_R z :: st) σ Q := ab_r_aload_n rfl kc_X0_findWorst dX0_findWorst_100
theorem rX0_findWorst_101 : ab_Run X 3 101 (0, 0, 0) L (ab_R a :: st) σ Q ↔ (ab_sh σ a).1 = 1 ∧ ab_Run X 3 104 (0, 0, 0) L (ab_R (ab_rd σ a 3) :: st) σ Q := gF_0_18 ko_X0_findWorst kc_X0_findWorst dX0_findWorst_101
theorem rX0_findWorst_104 : ab_Run X 3 104 (0, 0, 0) [l0, ab_I z, l2, l3] st σ Q ↔ ab_Run X 3 105 (0, 0, 0) [l0, ab_I z, l2, l3] (ab_I z :: st) σ Q := ab_r_iload_n rfl kc_X0_findWorst dX0_findWorst_104
theorem rX0_findWorst_105 : ab_Run X 3 105 (0, 0, 0) [l0, l1, ab_I z, l3] st σ Q ↔ ab_Run X 3 106 (0, 0, 0) [l0, l1, ab_I z, l3] (ab_I z :: st) σ Q := ab_r_iload_n rfl kc_X0_findWorst dX0_findWorst_105
theorem rX0_findWorst_106 : ab_Run X 3 106 (0, 0, 0) L (ab_I v :: ab_I i :: ab_R a :: st) σ Q ↔ ((ab_sh σ a).1 = 21 ∧ 0 ≤ i ∧ i < (ab_sh σ a).2) ∧ ab_Run X 3 107 (0, 0, 0) L st (ab_wr σ a i v) Q := ab_r_iastore kc_X0_findWorst dX0_findWorst_106
theorem rX0_findWorst_107 : ab_Run X 3 107 (0, 0, 0) [ab_R z, l1, l2, l3] st σ Q ↔ z ≠ 0 ∧ ab_Run X 3 108 (0, 0, 0) [ab_R z, l1, l2, l3] (ab_R z :: st) σ Q := ab_r_aload_n rfl kc_X0_findWorst dX0_findWorst_107
theorem rX0_findWorst_108 : ab_Run X 3 108 (0, 0, 0) L (ab_R a :: st) σ Q ↔ (ab_sh σ a).1 = 1 ∧ ab_Run X 3 111 (0, 0, 0) L (ab_R (ab_rd σ a 4) :: st) σ Q := gF_0_21 ko_X0_findWorst kc_X0_findWorst dX0_findWorst_108
theorem rX0_findWorst_111 : ab_Run X 3 111 (0, 0, 0) [l0, ab_I z, l2, l3] st σ Q ↔ ab_Run X 3 112 (0, 0, 0) [l0, ab_I z, l2, l3] (ab_I z :: st) σ Q := ab_r_iload_n rfl kc_X0_findWorst dX0_findWorst_111
theorem rX0_findWorst_112 : ab_Run X 3 112 (0, 0, 0) [ab_R z, l1, l2, l3] st σ Q ↔ z ≠ 0 ∧ ab_Run X 3 113 (0, 0, 0) [ab_R z, l1, l2, l3] (ab_R z :: st) σ Q := ab_r_aload_n rfl kc_X0_findWorst dX0_findWorst_112
theorem rX0_findWorst_113 : ab_Run X 3 113 (0, 0, 0) L (ab_R a :: st) σ Q ↔ (ab_sh σ a).1 = 1 ∧ ab_Run X 3 116 (0, 0, 0) L (ab_R (ab_rd σ a 1) :: st) σ Q := gF_0_9 ko_X0_findWorst kc_X0_findWorst dX0_findWorst_113
theorem rX0_findWorst_116 : ab_Run X 3 116 (0, 0, 0) [l0, l1, ab_I z, l3] st σ Q ↔ ab_Run X 3 117 (0, 0, 0) [l0, l1, ab_I z, l3] (ab_I z :: st) σ Q := ab_r_iload_n rfl kc_X0_findWorst dX0_findWorst_116
theorem rX0_findWorst_117 : ab_Run X 3 117 (0, 0, 0) L (ab_I i :: ab_R a :: st) σ Q ↔ ((ab_sh σ a).1 = 21 ∧ 0 ≤ i ∧ i < (ab_sh σ a).2) ∧ ab_Run X 3 118 (0, 0, 0) L (ab_I (ab_rd σ a i) :: st) σ Q := ab_r_iaload (by decide) kc_X0_findWorst dX0_findWorst_117
theorem rX0_findWorst_118 : ab_Run X 3 118 (0, 0, 0) L (ab_I v :: ab_I i :: ab_R a :: st) σ Q ↔ ((ab_sh σ a).1 = 21 ∧ 0 ≤ i ∧ i < (ab_sh σ a).2) ∧ ab_Run X 3 119 (0, 0, 0) L st (ab_wr σ a i v) Q := ab_r_iastore kc_X0_findWorst dX0_findWorst_118
theorem rX0_findWorst_119 : ab_Run X 3 119 (0, 0, 0) [ab_R z, l1, l2, l3] st σ Q ↔ z ≠ 0 ∧ ab_Run X 3 120 (0, 0, 0) [ab_R z, l1, l2, l3] (ab_R z :: st) σ Q := ab_r_aload_n rfl kc_X0_findWorst dX0_findWorst_119
theorem rX0_findWorst_120 : ab_Run X 3 120 (0, 0, 0) L (ab_R a :: st) σ Q ↔ (ab_sh σ a).1 = 1 ∧ ab_Run X 3 123 (0, 0, 0) L (ab_R (ab_rd σ a 5) :: st) σ Q := gF_0_24 ko_X0_findWorst kc_X0_findWorst dX0_findWorst_120
theorem rX0_findWorst_123 : ab_Run X 3 123 (0, 0, 0) [l0, ab_I z, l2, l3] st σ Q ↔ ab_Run X 3 124 (0, 0, 0) [l0, ab_I z, l2, l3] (ab_I z :: st) σ Q := ab_r_iload_n rfl kc_X0_findWorst dX0_findWorst_123
theorem rX0_findWorst_124 : ab_Run X 3 124 (0, 0, 0) [l0, l1, l2, ab_I z] st σ Q ↔ ab_Run X 3 125 (0, 0, 0) [l0, l1, l2, ab_I z] (ab_I z :: st) σ Q := ab_r_iload_n rfl kc_X0_findWorst dX0_findWorst_124
theorem rX0_findWorst_125 : ab_Run X 3 125 (0, 0, 0) L (ab_I v :: ab_I i :: ab_R a :: st) σ Q ↔ ((ab_sh σ a).1 = 21 ∧ 0 ≤ i ∧ i < (ab_sh σ a).2) ∧ ab_Run X 3 126 (0, 0, 0) L st (ab_wr σ a i v) Q := ab_r_iastore kc_X0_findWorst dX0_findWorst_125
theorem rX0_findWorst_126 : ab_Run X 3 126 (0, 0, 0) [l0, l1, ab_I z, l3] st σ Q ↔ (!ab_isJ l1) = true ∧ ab_Run X 3 129 (0, 0, 0) [l0, l1, ab_I (ab_w32 (z + 1)), l3] st σ Q := ab_r_iinc rfl (by decide) kc_X0_findWorst dX0_findWorst_126
theorem rX0_findWorst_129 : ab_Run X 3 129 (0, 0, 0) L st σ Q ↔ ab_Run X 3 23 (0, 0, 0) L st σ Q := ab_r_goto rfl kc_X0_findWorst dX0_findWorst_129
theorem rX0_findWorst_132 : ab_Run X 3 132 (0, 0, 0) L [] σ Q ↔ Q none σ := ab_r_return rfl kc_X0_findWorst dX0_findWorst_132
theorem kc_X0_findAll : ab_code 4 = cX0_findAll := rfl
theorem ko_X0_findAll : ab_ow 4 = 0 := rfl
theorem rX0_findAll_0 : ab_Run X 4 0 (1, 0, 0) L st σ Q ↔ ab_Run X 4 1 (1, 0, 0) L (ab_I 0 :: st) σ Q := ab_r_iconst (by decide) kc_X0_findAll dX0_findAll_0
theorem rX0_findAll_1 : ab_Run X 4 1 (1, 0, 0) [l0, l1] (ab_I z :: st) σ Q ↔ (!ab_isJ l0) = true ∧ ab_Run X 4 2 (1, 0, 0) [l0, ab_I z] st σ Q := ab_r_istore_n (Nat.le_of_ble_eq_true rfl) kc_X0_findAll dX0_findAll_1
theorem rX0_findAll_2 : ab_Run X 4 2 (1, 0, 0) [l0, ab_I z] st σ Q ↔ ab_Run X 4 3 (1, 0, 0) [l0, ab_I z] (ab_I z :: st) σ Q := ab_r_iload_n rfl kc_X0_findAll dX0_findAll_2
theorem rX0_findAll_3 : ab_Run X 4 3 (1, 0, 0) [ab_R z, l1] st σ Q ↔ z ≠ 0 ∧ ab_Run X 4 4 (1, 0, 0) [ab_R z, l1] (ab_R z :: st) σ Q := ab_r_aload_n rfl kc_X0_findAll dX0_findAll_3
theorem rX0_findAll_4 : ab_Run X 4 4 (1, 0, 0) L (ab_R a :: st) σ Q ↔ (ab_sh σ a).1 = 1 ∧ ab_Run X 4 7 (1, 0, 0) L (ab_I (ab_rd σ a 0) :: st) σ Q := gF_0_32 ko_X0_findAll kc_X0_findAll dX0_findAll_4
theorem rX0_findAll_7 : ab_Run X 4 7 (1, 0, 0) L (ab_I b :: ab_I a :: st) σ Q ↔ (b < a → ab_Run X 4 21 (1, 0, 0) L st σ Q) ∧ (¬ (b < a) → ab_Run X 4 10 (1, 0, 0) L st σ Q) := ab_r_icmp_gt rfl kc_X0_findAll dX0_findAll_7
theorem rX0_findAll_10 : ab_Run X 4 10 (1, 0, 0) [ab_R z, l1] st σ Q ↔ z ≠ 0 ∧ ab_Run X 4 11 (1, 0, 0) [ab_R z, l1] (ab_R z :: st) σ Q := ab_r_aload_n rfl kc_X0_findAll dX0_findAll_10
theorem rX0_findAll_11 : ab_Run X 4 11 (1, 0, 0) [l0, ab_I z] st σ Q ↔ ab_Run X 4 12 (1, 0, 0) [l0, ab_I z] (ab_I z :: st) σ Q := ab_r_iload_n rfl kc_X0_findAll dX0_findAll_11
theorem rX0_findAll_12 : ab_Run X 4 12 (1, 0, 0) L (ab_I x1 :: ab_R a :: st) σ Q ↔ ((ab_sh σ a).1 = 1 ∧ ab_cats st ≤ 8) ∧ ab_Do X 3 [ab_R a, ab_I x1] σ (fun r σ' => ab_Run X 4 15 (1, 0, 0) L (ab_psh r st) σ' Q) := ab_r_callV (w := [ab_I x1]) (as := [ab_I x1]) (b1 := (0, 0, 0)) 0 (Or.inl rfl) (by decide) ko_X0_findAll qM_0_38 (by decide) rfl rfl rfl rfl rfl (by decide) (Nat.le_of_ble_eq_true rfl) kc_X0_findAll dX0_findAll_12
theorem rX0_findAll_15 : ab_Run X 4 15 (1, 0, 0) [l0, ab_I z] st σ Q ↔ (!ab_isJ l0) = true ∧ ab_Run X 4 18 (1, 0, 0) [l0, ab_I (ab_w32 (z + 1))] st σ Q := ab_r_iinc rfl (by decide) kc_X0_findAll dX0_findAll_15
theorem rX0_findAll_18 : ab_Run X 4 18 (1, 0, 0) L st σ Q ↔ ab_Run X 4 2 (1, 0, 0) L st σ Q := ab_r_goto rfl kc_X0_findAll dX0_findAll_18
theorem rX0_findAll_21 : ab_Run X 4 21 (1, 0, 0) L [] σ Q ↔ Q none σ := ab_r_return rfl kc_X0_findAll dX0_findAll_21
theorem kc_X1_setThick : ab_code 6 = cX1_setThick := rfl
theorem ko_X1_setThick : ab_ow 6 = 1 := rfl
theorem rX1_setThick_0 : ab_Run X 6 0 (0, 0, 0) [ab_R z, l1, l2, l3] st σ Q ↔ z ≠ 0 ∧ ab_Run X 6 1 (0, 0, 0) [ab_R z, l1, l2, l3] (ab_R z :: st) σ Q := ab_r_aload_n rfl kc_X1_setThick dX1_setThick_0
theorem rX1_setThick_1 : ab_Run X 6 1 (0, 0, 0) L (ab_R a :: st) σ Q ↔ (ab_sh σ a).1 = 2 ∧ ab_Run X 6 4 (0, 0, 0) L (ab_R (ab_rd σ a 4) :: st) σ Q := gF_1_15 ko_X1_setThick kc_X1_setThick dX1_setThick_1
theorem rX1_setThick_4 : ab_Run X 6 4 (0, 0, 0) L st σ Q ↔ ab_Run X 6 6 (0, 0, 0) L (ab_I 6 :: st) σ Q := ab_r_bipush (by decide) kc_X1_setThick dX1_setThick_4
theorem rX1_setThick_6 : ab_Run X 6 6 (0, 0, 0) [l0, ab_I z, l2, l3] st σ Q ↔ ab_Run X 6 7 (0, 0, 0) [l0, ab_I z, l2, l3] (ab_I z :: st) σ Q := ab_r_iload_n rfl kc_X1_setThick dX1_setThick_6
theorem rX1_setThick_7 : ab_Run X 6 7 (0, 0, 0) L (ab_I b :: ab_I a :: st) σ Q ↔ ab_Run X 6 8 (0, 0, 0) L (ab_I (ab_w32 (a * b)) :: st) σ Q := ab_r_imul kc_X1_setThick dX1_setThick_7
theorem rX1_setThick_8 : ab_Run X 6 8 (0, 0, 0) [l0, l1, ab_I z, l3] st σ Q ↔ ab_Run X 6 9 (0, 0, 0) [l0, l1, ab_I z, l3] (ab_I z :: st) σ Q := ab_r_iload_n rfl kc_X1_setThick dX1_setThick_8
theorem rX1_setThick_9 : ab_Run X 6 9 (0, 0, 0) L (ab_I b :: ab_I a :: st) σ Q ↔ ab_Run X 6 10 (0, 0, 0) L (ab_I (ab_w32 (a + b)) :: st) σ Q := ab_r_iadd kc_X1_setThick dX1_setThick_9
theorem rX1_setThick_10 : ab_Run X 6 10 (0, 0, 0) [l0, l1, l2, ab_I z] st σ Q ↔ ab_Run X 6 11 (0, 0, 0) [l0, l1, l2, ab_I z] (ab_I z :: st) σ Q := ab_r_iload_n rfl kc_X1_setThick dX1_setThick_10
theorem rX1_setThick_11 : ab_Run X 6 11 (0, 0, 0) L (ab_I v :: ab_I i :: ab_R a :: st) σ Q ↔ ((ab_sh σ a).1 = 21 ∧ 0 ≤ i ∧ i < (ab_sh σ a).2) ∧ ab_Run X 6 12 (0, 0, 0) L st (ab_wr σ a i v) Q := ab_r_iastore kc_X1_setThick dX1_setThick_11
theorem rX1_setThick_12 : ab_Run X 6 12 (0, 0, 0) [ab_R z, l1, l2, l3] st σ Q ↔ z ≠ 0 ∧ ab_Run X 6 13 (0, 0, 0) [ab_R z, l1, l2, l3] (ab_R z :: st) σ Q := ab_r_aload_n rfl kc_X1_setThick dX1_setThick_12
theorem rX1_setThick_13 : ab_Run X 6 13 (0, 0, 0) L (ab_R a :: st) σ Q ↔ (ab_sh σ a).1 = 2 ∧ ab_Run X 6 16 (0, 0, 0) L (ab_R (ab_rd σ a 3) :: st) σ Q := gF_1_9 ko_X1_setThick kc_X1_setThick dX1_setThick_13
theorem rX1_setThick_16 : ab_Run X 6 16 (0, 0, 0) [l0, ab_I z, l2, l3] st σ Q ↔ ab_Run X 6 17 (0, 0, 0) [l0, ab_I z, l2, l3] (ab_I z :: st) σ Q := ab_r_iload_n rfl kc_X1_setThick dX1_setThick_16
theorem rX1_setThick_17 : ab_Run X 6 17 (0, 0, 0) [l0, l1, ab_I z, l3] st σ Q ↔ ab_Run X 6 18 (0, 0, 0) [l0, l1, ab_I z, l3] (ab_I z :: st) σ Q := ab_r_iload_n rfl kc_X1_setThick dX1_setThick_17
theorem rX1_setThick_18 : ab_Run X 6 18 (0, 0, 0) L st σ Q ↔ ab_Run X 6 19 (0, 0, 0) L (ab_I 1 :: st) σ Q := ab_r_iconst (by decide) kc_X1_setThick dX1_setThick_18
theorem rX1_setThick_19 : ab_Run X 6 19 (0, 0, 0) L (ab_I b :: ab_I a :: st) σ Q ↔ ab_Run X 6 20 (0, 0, 0) L (ab_I (ab_w32 (a + b)) :: st) σ Q := ab_r_iadd kc_X1_setThick dX1_setThick_19
theorem rX1_setThick_20 : ab_Run X 6 20 (0, 0, 0) L (ab_I v :: ab_I i :: ab_R a :: st) σ Q ↔ ((ab_sh σ a).1 = 21 ∧ 0 ≤ i ∧ i < (ab_sh σ a).2) ∧ ab_Run X 6 21 (0, 0, 0) L st (ab_wr σ a i v) Q := ab_r_iastore kc_X1_setThick dX1_setThick_20
theorem rX1_setThick_21 : ab_Run X 6 21 (0, 0, 0) L [] σ Q ↔ Q none σ := ab_r_return rfl kc_X1_setThick dX1_setThick_21
theorem kc_X1_thickAt : ab_code 7 = cX1_thickAt := rfl
theorem ko_X1_thickAt : ab_ow 7 = 1 := rfl
theorem rX1_thickAt_0 : ab_Run X 7 0 (0, 0, 0) [ab_R z, l1, l2] st σ Q ↔ z ≠ 0 ∧ ab_Run X 7 1 (0, 0, 0) [ab_R z, l1, l2] (ab_R z :: st) σ Q := ab_r_aload_n rfl kc_X1_thickAt dX1_thickAt_0
theorem rX1_thickAt_1 : ab_Run X 7 1 (0, 0, 0) L (ab_R a :: st) σ Q ↔ (ab_sh σ a).1 = 2 ∧ ab_Run X 7 4 (0, 0, 0) L (ab_R (ab_rd σ a 4) :: st) σ Q := gF_1_15 ko_X1_thickAt kc_X1_thickAt dX1_thickAt_1
theorem rX1_thickAt_4 : ab_Run X 7 4 (0, 0, 0) L st σ Q ↔ ab_Run X 7 6 (0, 0, 0) L (ab_I 6 :: st) σ Q := ab_r_bipush (by decide) kc_X1_thickAt dX1_thickAt_4
theorem rX1_thickAt_6 : ab_Run X 7 6 (0, 0, 0) [l0, ab_I z, l2] st σ Q ↔ ab_Run X 7 7 (0, 0, 0) [l0, ab_I z, l2] (ab_I z :: st) σ Q := ab_r_iload_n rfl kc_X1_thickAt dX1_thickAt_6
theorem rX1_thickAt_7 : ab_Run X 7 7 (0, 0, 0) L (ab_I b :: ab_I a :: st) σ Q ↔ ab_Run X 7 8 (0, 0, 0) L (ab_I (ab_w32 (a * b)) :: st) σ Q := ab_r_imul kc_X1_thickAt dX1_thickAt_7
theorem rX1_thickAt_8 : ab_Run X 7 8 (0, 0, 0) [l0, l1, ab_I z] st σ Q ↔ ab_Run X 7 9 (0, 0, 0) [l0, l1, ab_I z] (ab_I z :: st) σ Q := ab_r_iload_n rfl kc_X1_thickAt dX1_thickAt_8
theorem rX1_thickAt_9 : ab_Run X 7 9 (0, 0, 0) L (ab_I b :: ab_I a :: st) σ Q ↔ ab_Run X 7 10 (0, 0, 0) L (ab_I (ab_w32 (a + b)) :: st) σ Q := ab_r_iadd kc_X1_thickAt dX1_thickAt_9
theorem rX1_thickAt_10 : ab_Run X 7 10 (0, 0, 0) L (ab_I i :: ab_R a :: st) σ Q ↔ ((ab_sh σ a).1 = 21 ∧ 0 ≤ i ∧ i < (ab_sh σ a).2) ∧ ab_Run X 7 11 (0, 0, 0) L (ab_I (ab_rd σ a i) :: st) σ Q := ab_r_iaload (by decide) kc_X1_thickAt dX1_thickAt_10
theorem rX1_thickAt_11 : ab_Run X 7 11 (0, 0, 0) L [ab_I v] σ Q ↔ Q (some (ab_I v)) σ := ab_r_ireturnI rfl kc_X1_thickAt dX1_thickAt_11
theorem kc_X1_allPlaces : ab_code 8 = cX1_allPlaces := rfl
theorem ko_X1_allPlaces : ab_ow 8 = 1 := rfl
theorem rX1_allPlaces_0 : ab_Run X 8 0 (0, 0, 0) [ab_R z] st σ Q ↔ z ≠ 0 ∧ ab_Run X 8 1 (0, 0, 0) [ab_R z] (ab_R z :: st) σ Q := ab_r_aload_n rfl kc_X1_allPlaces dX1_allPlaces_0
theorem rX1_allPlaces_1 : ab_Run X 8 1 (0, 0, 0) L (ab_R a :: st) σ Q ↔ (ab_sh σ a).1 = 2 ∧ ab_Run X 8 4 (0, 0, 0) L (ab_R (ab_rd σ a 3) :: st) σ Q := gF_1_9 ko_X1_allPlaces kc_X1_allPlaces dX1_allPlaces_1
theorem rX1_allPlaces_4 : ab_Run X 8 4 (0, 0, 0) L st σ Q ↔ ab_Run X 8 5 (0, 0, 0) L (ab_I 0 :: st) σ Q := ab_r_iconst (by decide) kc_X1_allPlaces dX1_allPlaces_4
theorem rX1_allPlaces_5 : ab_Run X 8 5 (0, 0, 0) L (ab_I i :: ab_R a :: st) σ Q ↔ ((ab_sh σ a).1 = 21 ∧ 0 ≤ i ∧ i < (ab_sh σ a).2) ∧ ab_Run X 8 6 (0, 0, 0) L (ab_I (ab_rd σ a i) :: st) σ Q := ab_r_iaload (by decide) kc_X1_allPlaces dX1_allPlaces_5
theorem rX1_allPlaces_6 : ab_Run X 8 6 (0, 0, 0) [ab_R z] st σ Q ↔ z ≠ 0 ∧ ab_Run X 8 7 (0, 0, 0) [ab_R z] (ab_R z :: st) σ Q := ab_r_aload_n rfl kc_X1_allPlaces dX1_allPlaces_6
theorem rX1_allPlaces_7 : ab_Run X 8 7 (0, 0, 0) L (ab_R a :: st) σ Q ↔ (ab_sh σ a).1 = 2 ∧ ab_Run X 8 10 (0, 0, 0) L (ab_R (ab_rd σ a 3) :: st) σ Q := gF_1_9 ko_X1_allPlaces kc_X1_allPlaces dX1_allPlaces_7
theorem rX1_allPlaces_10 : ab_Run X 8 10 (0, 0, 0) L st σ Q ↔ ab_Run X 8 11 (0, 0, 0) L (ab_I 1 :: st) σ Q := ab_r_iconst (by decide) kc_X1_allPlaces dX1_allPlaces_10
theorem rX1_allPlaces_11 : ab_Run X 8 11 (0, 0, 0) L (ab_I i :: ab_R a :: st) σ Q ↔ ((ab_sh σ a).1 = 21 ∧ 0 ≤ i ∧ i < (ab_sh σ a).2) ∧ ab_Run X 8 12 (0, 0, 0) L (ab_I (ab_rd σ a i) :: st) σ Q := ab_r_iaload (by decide) kc_X1_allPlaces dX1_allPlaces_11
theorem rX1_allPlaces_12 : ab_Run X 8 12 (0, 0, 0) L (ab_I b :: ab_I a :: st) σ Q ↔ ab_Run X 8 13 (0, 0, 0) L (ab_I (ab_w32 (a + b)) :: st) σ Q := ab_r_iadd kc_X1_allPlaces dX1_allPlaces_12
theorem rX1_allPlaces_13 : ab_Run X 8 13 (0, 0, 0) L [ab_I v] σ Q ↔ Q (some (ab_I v)) σ := ab_r_ireturnI rfl kc_X1_allPlaces dX1_allPlaces_13
theorem kc_X1_thicknessOf : ab_code 9 = cX1_thicknessOf := rfl
theorem ko_X1_thicknessOf : ab_ow 9 = 1 := rfl
theorem rX1_thicknessOf_0 : ab_Run X 9 0 (1, 0, 0) L st σ Q ↔ ab_Run X 9 1 (1, 0, 0) L (ab_I 0 :: st) σ Q := ab_r_iconst (by decide) kc_X1_thicknessOf dX1_thicknessOf_0
theorem rX1_thicknessOf_1 : ab_Run X 9 1 (1, 0, 0) [l0, l1, l2, l3] (ab_I z :: st) σ Q ↔ (!ab_isJ l1) = true ∧ ab_Run X 9 2 (1, 0, 0) [l0, l1, ab_I z, l3] st σ Q := ab_r_istore_n (Nat.le_of_ble_eq_true rfl) kc_X1_thicknessOf dX1_thicknessOf_1
theorem rX1_thicknessOf_2 : ab_Run X 9 2 (1, 0, 0) L st σ Q ↔ ab_Run X 9 3 (1, 0, 0) L (ab_I 0 :: st) σ Q := ab_r_iconst (by decide) kc_X1_thicknessOf dX1_thicknessOf_2
theorem rX1_thicknessOf_3 : ab_Run X 9 3 (1, 0, 0) [l0, l1, l2, l3] (ab_I z :: st) σ Q ↔ (!ab_isJ l2) = true ∧ ab_Run X 9 4 (1, 0, 0) [l0, l1, l2, ab_I z] st σ Q := ab_r_istore_n (Nat.le_of_ble_eq_true rfl) kc_X1_thicknessOf dX1_thicknessOf_3
theorem rX1_thicknessOf_4 : ab_Run X 9 4 (1, 0, 0) [l0, l1, l2, ab_I z] st σ Q ↔ ab_Run X 9 5 (1, 0, 0) [l0, l1, l2, ab_I z] (ab_I z :: st) σ Q := ab_r_iload_n rfl kc_X1_thicknessOf dX1_thicknessOf_4
theorem rX1_thicknessOf_5 : ab_Run X 9 5 (1, 0, 0) [ab_R z, l1, l2, l3] st σ Q ↔ z ≠ 0 ∧ ab_Run X 9 6 (1, 0, 0) [ab_R z, l1, l2, l3] (ab_R z :: st) σ Q := ab_r_aload_n rfl kc_X1_thicknessOf dX1_thicknessOf_5
theorem rX1_thicknessOf_6 : ab_Run X 9 6 (1, 0, 0) L (ab_R a :: st) σ Q ↔ (ab_sh σ a).1 = 2 ∧ ab_Run X 9 9 (1, 0, 0) L (ab_R (ab_rd σ a 3) :: st) σ Q := gF_1_9 ko_X1_thicknessOf kc_X1_thicknessOf dX1_thicknessOf_6
theorem rX1_thicknessOf_9 : ab_Run X 9 9 (1, 0, 0) [l0, ab_I z, l2, l3] st σ Q ↔ ab_Run X 9 10 (1, 0, 0) [l0, ab_I z, l2, l3] (ab_I z :: st) σ Q := ab_r_iload_n rfl kc_X1_thicknessOf dX1_thicknessOf_9
theorem rX1_thicknessOf_10 : ab_Run X 9 10 (1, 0, 0) L (ab_I i :: ab_R a :: st) σ Q ↔ ((ab_sh σ a).1 = 21 ∧ 0 ≤ i ∧ i < (ab_sh σ a).2) ∧ ab_Run X 9 11 (1, 0, 0) L (ab_I (ab_rd σ a i) :: st) σ Q := ab_r_iaload (by decide) kc_X1_thicknessOf dX1_thicknessOf_10
theorem rX1_thicknessOf_11 : ab_Run X 9 11 (1, 0, 0) L (ab_I b :: ab_I a :: st) σ Q ↔ (b ≤ a → ab_Run X 9 29 (1, 0, 0) L st σ Q) ∧ (¬ (b ≤ a) → ab_Run X 9 14 (1, 0, 0) L st σ Q) := ab_r_icmp_ge rfl kc_X1_thicknessOf dX1_thicknessOf_11
theorem rX1_thicknessOf_14 : ab_Run X 9 14 (1, 0, 0) [l0, l1, ab_I z, l3] st σ Q ↔ ab_Run X 9 15 (1, 0, 0) [l0, l1, ab_I z, l3] (ab_I z :: st) σ Q := ab_r_iload_n rfl kc_X1_thicknessOf dX1_thicknessOf_14
theorem rX1_thicknessOf_15 : ab_Run X 9 15 (1, 0, 0) [ab_R z, l1, l2, l3] st σ Q ↔ z ≠ 0 ∧ ab_Run X 9 16 (1, 0, 0) [ab_R z, l1, l2, l3] (ab_R z :: st) σ Q := ab_r_aload_n rfl kc_X1_thicknessOf dX1_thicknessOf_15
theorem rX1_thicknessOf_16 : ab_Run X 9 16 (1, 0, 0) [l0, ab_I z, l2, l3] st σ Q ↔ ab_Run X 9 17 (1, 0, 0) [l0, ab_I z, l2, l3] (ab_I z :: st) σ Q := ab_r_iload_n rfl kc_X1_thicknessOf dX1_thicknessOf_16
theorem rX1_thicknessOf_17 : ab_Run X 9 17 (1, 0, 0) [l0, l1, l2, ab_I z] st σ Q ↔ ab_Run X 9 18 (1, 0, 0) [l0, l1, l2, ab_I z] (ab_I z :: st) σ Q := ab_r_iload_n rfl kc_X1_thicknessOf dX1_thicknessOf_17
theorem rX1_thicknessOf_18 : ab_Run X 9 18 (1, 0, 0) L (ab_I x2 :: ab_I x1 :: ab_R a :: st) σ Q ↔ ((ab_sh σ a).1 = 2 ∧ ab_cats st ≤ 8) ∧ ab_Do X 7 [ab_R a, ab_I x1, ab_I x2] σ (fun r σ' => ab_Run X 9 21 (1, 0, 0) L (ab_psh r st) σ' Q) := ab_r_callV (w := [ab_I x2, ab_I x1]) (as := [ab_I x1, ab_I x2]) (b1 := (0, 0, 0)) 0 (Or.inl rfl) (by decide) ko_X1_thicknessOf qM_1_18 (by decide) rfl rfl rfl rfl rfl (by decide) (Nat.le_of_ble_eq_true rfl) kc_X1_thicknessOf dX1_thicknessOf_18
theorem rX1_thicknessOf_21 : ab_Run X 9 21 (1, 0, 0) L (ab_I b :: ab_I a :: st) σ Q ↔ ab_Run X 9 22 (1, 0, 0) L (ab_I (ab_w32 (a + b)) :: st) σ Q := ab_r_iadd kc_X1_thicknessOf dX1_thicknessOf_21
theorem rX1_thicknessOf_22 : ab_Run X 9 22 (1, 0, 0) [l0, l1, l2, l3] (ab_I z :: st) σ Q ↔ (!ab_isJ l1) = true ∧ ab_Run X 9 23 (1, 0, 0) [l0, l1, ab_I z, l3] st σ Q := ab_r_istore_n (Nat.le_of_ble_eq_true rfl) kc_X1_thicknessOf dX1_thicknessOf_22
theorem rX1_thicknessOf_23 : ab_Run X 9 23 (1, 0, 0) [l0, l1, l2, ab_I z] st σ Q ↔ (!ab_isJ l2) = true ∧ ab_Run X 9 26 (1, 0, 0) [l0, l1, l2, ab_I (ab_w32 (z + 1))] st σ Q := ab_r_iinc rfl (by decide) kc_X1_thicknessOf dX1_thicknessOf_23
theorem rX1_thicknessOf_26 : ab_Run X 9 26 (1, 0, 0) L st σ Q ↔ ab_Run X 9 4 (1, 0, 0) L st σ Q := ab_r_goto rfl kc_X1_thicknessOf dX1_thicknessOf_26
theorem rX1_thicknessOf_29 : ab_Run X 9 29 (1, 0, 0) [l0, l1, ab_I z, l3] st σ Q ↔ ab_Run X 9 30 (1, 0, 0) [l0, l1, ab_I z, l3] (ab_I z :: st) σ Q := ab_r_iload_n rfl kc_X1_thicknessOf dX1_thicknessOf_29
theorem rX1_thicknessOf_30 : ab_Run X 9 30 (1, 0, 0) L [ab_I v] σ Q ↔ Q (some (ab_I v)) σ := ab_r_ireturnI rfl kc_X1_thicknessOf dX1_thicknessOf_30
theorem kc_X1_reach : ab_code 10 = cX1_reach := rfl
theorem ko_X1_reach : ab_ow 10 = 1 := rfl
theorem rX1_reach_0 : ab_Run X 10 0 (1, 0, 0) [l0, l1, ab_R z] st σ Q ↔ z ≠ 0 ∧ ab_Run X 10 1 (1, 0, 0) [l0, l1, ab_R z] (ab_R z :: st) σ Q := ab_r_aload_n rfl kc_X1_reach dX1_reach_0
theorem rX1_reach_1 : ab_Run X 10 1 (1, 0, 0) L (ab_R a :: st) σ Q ↔ (ab_sh σ a).1 = 6 ∧ ab_Run X 10 4 (1, 0, 0) L (ab_I (ab_rd σ a 3) :: st) σ Q := gF_1_22 ko_X1_reach kc_X1_reach dX1_reach_1
theorem rX1_reach_4 : ab_Run X 10 4 (1, 0, 0) [ab_R z, l1, l2] st σ Q ↔ z ≠ 0 ∧ ab_Run X 10 5 (1, 0, 0) [ab_R z, l1, l2] (ab_R z :: st) σ Q := ab_r_aload_n rfl kc_X1_reach dX1_reach_4
theorem rX1_reach_5 : ab_Run X 10 5 (1, 0, 0) L (ab_R a :: st) σ Q ↔ (ab_sh σ a).1 = 2 ∧ ab_Run X 10 8 (1, 0, 0) L (ab_R (ab_rd σ a 3) :: st) σ Q := gF_1_9 ko_X1_reach kc_X1_reach dX1_reach_5
theorem rX1_reach_8 : ab_Run X 10 8 (1, 0, 0) [l0, ab_I z, l2] st σ Q ↔ ab_Run X 10 9 (1, 0, 0) [l0, ab_I z, l2] (ab_I z :: st) σ Q := ab_r_iload_n rfl kc_X1_reach dX1_reach_8
theorem rX1_reach_9 : ab_Run X 10 9 (1, 0, 0) L (ab_I i :: ab_R a :: st) σ Q ↔ ((ab_sh σ a).1 = 21 ∧ 0 ≤ i ∧ i < (ab_sh σ a).2) ∧ ab_Run X 10 10 (1, 0, 0) L (ab_I (ab_rd σ a i) :: st) σ Q := ab_r_iaload (by decide) kc_X1_reach dX1_reach_9
theorem rX1_reach_10 : ab_Run X 10 10 (1, 0, 0) L (ab_I b :: ab_I a :: st) σ Q ↔ ab_cats st ≤ 8 ∧ ab_Run X 10 13 (1, 0, 0) L (ab_I (if b < a then b else a) :: st) σ Q := ab_r_math 1005 (Or.inr ⟨rfl, rfl⟩) (by decide) ko_X1_reach qM_1_28 (by decide) kc_X1_reach dX1_reach_10
theorem rX1_reach_13 : ab_Run X 10 13 (1, 0, 0) L [ab_I v] σ Q ↔ Q (some (ab_I v)) σ := ab_r_ireturnI rfl kc_X1_reach dX1_reach_13
theorem kc_X3_clear : ab_code 20 = cX3_clear := rfl
theorem ko_X3_clear : ab_ow 20 = 3 := rfl
theorem rX3_clear_0 : ab_Run X 20 0 (0, 0, 0) [ab_R z] st σ Q ↔ z ≠ 0 ∧ ab_Run X 20 1 (0, 0, 0) [ab_R z] (ab_R z :: st) σ Q := ab_r_aload_n rfl kc_X3_clear dX3_clear_0
theorem rX3_clear_1 : ab_Run X 20 1 (0, 0, 0) L st σ Q ↔ ab_Run X 20 2 (0, 0, 0) L (ab_I 0 :: st) σ Q := ab_r_iconst (by decide) kc_X3_clear dX3_clear_1
theorem rX3_clear_2 : ab_Run X 20 2 (0, 0, 0) L (ab_I z :: ab_R a :: st) σ Q ↔ (ab_sh σ a).1 = 4 ∧ ab_Run X 20 5 (0, 0, 0) L st (ab_wr σ a 3 z) Q := sF_3_19 ko_X3_clear kc_X3_clear dX3_clear_2
theorem rX3_clear_5 : ab_Run X 20 5 (0, 0, 0) [ab_R z] st σ Q ↔ z ≠ 0 ∧ ab_Run X 20 6 (0, 0, 0) [ab_R z] (ab_R z :: st) σ Q := ab_r_aload_n rfl kc_X3_clear dX3_clear_5
theorem rX3_clear_6 : ab_Run X 20 6 (0, 0, 0) L st σ Q ↔ ab_Run X 20 7 (0, 0, 0) L (ab_I 0 :: st) σ Q := ab_r_iconst (by decide) kc_X3_clear dX3_clear_6
theorem rX3_clear_7 : ab_Run X 20 7 (0, 0, 0) L (ab_I z :: ab_R a :: st) σ Q ↔ (ab_sh σ a).1 = 4 ∧ ab_Run X 20 10 (0, 0, 0) L st (ab_wr σ a 4 z) Q := sF_3_23 ko_X3_clear kc_X3_clear dX3_clear_7
theorem rX3_clear_10 : ab_Run X 20 10 (0, 0, 0) L [] σ Q ↔ Q none σ := ab_r_return rfl kc_X3_clear dX3_clear_10
theorem kc_X3_keep : ab_code 21 = cX3_keep := rfl
theorem ko_X3_keep : ab_ow 21 = 3 := rfl
theorem rX3_keep_0 : ab_Run X 21 0 (1, 0, 0) [ab_R z, l1] st σ Q ↔ z ≠ 0 ∧ ab_Run X 21 1 (1, 0, 0) [ab_R z, l1] (ab_R z :: st) σ Q := ab_r_aload_n rfl kc_X3_keep dX3_keep_0
theorem rX3_keep_1 : ab_Run X 21 1 (1, 0, 0) L (ab_R a :: st) σ Q ↔ (ab_sh σ a).1 = 4 ∧ ab_Run X 21 4 (1, 0, 0) L (ab_R (ab_rd σ a 0) :: st) σ Q := gF_3_11 ko_X3_keep kc_X3_keep dX3_keep_1
theorem rX3_keep_4 : ab_Run X 21 4 (1, 0, 0) [ab_R z, l1] st σ Q ↔ z ≠ 0 ∧ ab_Run X 21 5 (1, 0, 0) [ab_R z, l1] (ab_R z :: st) σ Q := ab_r_aload_n rfl kc_X3_keep dX3_keep_4
theorem rX3_keep_5 : ab_Run X 21 5 (1, 0, 0) L (ab_R a :: st) σ Q ↔ (ab_sh σ a).1 = 4 ∧ ab_Run X 21 8 (1, 0, 0) L (ab_I (ab_rd σ a 2) :: st) σ Q := gF_3_26 ko_X3_keep kc_X3_keep dX3_keep_5
theorem rX3_keep_8 : ab_Run X 21 8 (1, 0, 0) L (ab_I i :: ab_R a :: st) σ Q ↔ ((25 ≤ (ab_sh σ a).1 ∧ (ab_sh σ a).1 < 30) ∧ 0 ≤ i ∧ i < (ab_sh σ a).2) ∧ ab_Run X 21 9 (1, 0, 0) L (ab_R (ab_rd σ a i) :: st) σ Q := ab_r_aaload kc_X3_keep dX3_keep_8
theorem rX3_keep_9 : ab_Run X 21 9 (1, 0, 0) [l0, ab_R z] st σ Q ↔ z ≠ 0 ∧ ab_Run X 21 10 (1, 0, 0) [l0, ab_R z] (ab_R z :: st) σ Q := ab_r_aload_n rfl kc_X3_keep dX3_keep_9
theorem rX3_keep_10 : ab_Run X 21 10 (1, 0, 0) L (ab_R x1 :: ab_R a :: st) σ Q ↔ ((ab_sh σ a).1 = 9 ∧ ab_cats st ≤ 8) ∧ ab_Do X 63 [ab_R a, ab_R x1] σ (fun r σ' => ab_Run X 21 13 (1, 0, 0) L (ab_psh r st) σ' Q) := ab_r_callV (w := [ab_R x1]) (as := [ab_R x1]) (b1 := (0, 0, 0)) 0 (Or.inl rfl) (by decide) ko_X3_keep qM_3_29 (by decide) rfl rfl rfl rfl rfl (by decide) (Nat.le_of_ble_eq_true rfl) kc_X3_keep dX3_keep_10
theorem rX3_keep_13 : ab_Run X 21 13 (1, 0, 0) [ab_R z, l1] st σ Q ↔ z ≠ 0 ∧ ab_Run X 21 14 (1, 0, 0) [ab_R z, l1] (ab_R z :: st) σ Q := ab_r_aload_n rfl kc_X3_keep dX3_keep_13
theorem rX3_keep_14 : ab_Run X 21 14 (1, 0, 0) [ab_R z, l1] st σ Q ↔ z ≠ 0 ∧ ab_Run X 21 15 (1, 0, 0) [ab_R z, l1] (ab_R z :: st) σ Q := ab_r_aload_n rfl kc_X3_keep dX3_keep_14
theorem rX3_keep_15 : ab_Run X 21 15 (1, 0, 0) L (ab_R a :: st) σ Q ↔ (ab_sh σ a).1 = 4 ∧ ab_Run X 21 18 (1, 0, 0) L (ab_I (ab_rd σ a 2) :: st) σ Q := gF_3_26 ko_X3_keep kc_X3_keep dX3_keep_15
theorem rX3_keep_18 : ab_Run X 21 18 (1, 0, 0) L st σ Q ↔ ab_Run X 21 19 (1, 0, 0) L (ab_I 1 :: st) σ Q := ab_r_iconst (by decide) kc_X3_keep dX3_keep_18
theorem rX3_keep_19 : ab_Run X 21 19 (1, 0, 0) L (ab_I b :: ab_I a :: st) σ Q ↔ ab_Run X 21 20 (1, 0, 0) L (ab_I (ab_w32 (a + b)) :: st) σ Q := ab_r_iadd kc_X3_keep dX3_keep_19
theorem rX3_keep_20 : ab_Run X 21 20 (1, 0, 0) L st σ Q ↔ ab_Run X 21 22 (1, 0, 0) L (ab_I 16 :: st) σ Q := ab_r_bipush (by decide) kc_X3_keep dX3_keep_20
theorem rX3_keep_22 : ab_Run X 21 22 (1, 0, 0) L (ab_I b :: ab_I a :: st) σ Q ↔ b ≠ 0 ∧ ab_Run X 21 23 (1, 0, 0) L (ab_I (a.tmod b) :: st) σ Q := ab_r_irem kc_X3_keep dX3_keep_22
theorem rX3_keep_23 : ab_Run X 21 23 (1, 0, 0) L (ab_I z :: ab_R a :: st) σ Q ↔ (ab_sh σ a).1 = 4 ∧ ab_Run X 21 26 (1, 0, 0) L st (ab_wr σ a 2 z) Q := sF_3_26 ko_X3_keep kc_X3_keep dX3_keep_23
theorem rX3_keep_26 : ab_Run X 21 26 (1, 0, 0) [ab_R z, l1] st σ Q ↔ z ≠ 0 ∧ ab_Run X 21 27 (1, 0, 0) [ab_R z, l1] (ab_R z :: st) σ Q := ab_r_aload_n rfl kc_X3_keep dX3_keep_26
theorem rX3_keep_27 : ab_Run X 21 27 (1, 0, 0) L st σ Q ↔ ab_Run X 21 29 (1, 0, 0) L (ab_I 16 :: st) σ Q := ab_r_bipush (by decide) kc_X3_keep dX3_keep_27
theorem rX3_keep_29 : ab_Run X 21 29 (1, 0, 0) [ab_R z, l1] st σ Q ↔ z ≠ 0 ∧ ab_Run X 21 30 (1, 0, 0) [ab_R z, l1] (ab_R z :: st) σ Q := ab_r_aload_n rfl kc_X3_keep dX3_keep_29
theorem rX3_keep_30 : ab_Run X 21 30 (1, 0, 0) L (ab_R a :: st) σ Q ↔ (ab_sh σ a).1 = 4 ∧ ab_Run X 21 33 (1, 0, 0) L (ab_I (ab_rd σ a 3) :: st) σ Q := gF_3_19 ko_X3_keep kc_X3_keep dX3_keep_30
theorem rX3_keep_33 : ab_Run X 21 33 (1, 0, 0) L st σ Q ↔ ab_Run X 21 34 (1, 0, 0) L (ab_I 1 :: st) σ Q := ab_r_iconst (by decide) kc_X3_keep dX3_keep_33
theorem rX3_keep_34 : ab_Run X 21 34 (1, 0, 0) L (ab_I b :: ab_I a :: st) σ Q ↔ ab_Run X 21 35 (1, 0, 0) L (ab_I (ab_w32 (a + b)) :: st) σ Q := ab_r_iadd kc_X3_keep dX3_keep_34
theorem rX3_keep_35 : ab_Run X 21 35 (1, 0, 0) L (ab_I b :: ab_I a :: st) σ Q ↔ ab_cats st ≤ 8 ∧ ab_Run X 21 38 (1, 0, 0) L (ab_I (if b < a then b else a) :: st) σ Q := ab_r_math 1005 (Or.inr ⟨rfl, rfl⟩) (by decide) ko_X3_keep qM_3_33 (by decide) kc_X3_keep dX3_keep_35
theorem rX3_keep_38 : ab_Run X 21 38 (1, 0, 0) L (ab_I z :: ab_R a :: st) σ Q ↔ (ab_sh σ a).1 = 4 ∧ ab_Run X 21 41 (1, 0, 0) L st (ab_wr σ a 3 z) Q := sF_3_19 ko_X3_keep kc_X3_keep dX3_keep_38
theorem rX3_keep_41 : ab_Run X 21 41 (1, 0, 0) L [] σ Q ↔ Q none σ := ab_r_return rfl kc_X3_keep dX3_keep_41
theorem kc_X3_takeBack : ab_code 22 = cX3_takeBack := rfl
theorem ko_X3_takeBack : ab_ow 22 = 3 := rfl
theorem rX3_takeBack_0 : ab_Run X 22 0 (1, 0, 0) [ab_R z, l1] st σ Q ↔ z ≠ 0 ∧ ab_Run X 22 1 (1, 0, 0) [ab_R z, l1] (ab_R z :: st) σ Q := ab_r_aload_n rfl kc_X3_takeBack dX3_takeBack_0
theorem rX3_takeBack_1 : ab_Run X 22 1 (1, 0, 0) [ab_R z, l1] st σ Q ↔ z ≠ 0 ∧ ab_Run X 22 2 (1, 0, 0) [ab_R z, l1] (ab_R z :: st) σ Q := ab_r_aload_n rfl kc_X3_takeBack dX3_takeBack_1
theorem rX3_takeBack_2 : ab_Run X 22 2 (1, 0, 0) L (ab_R a :: st) σ Q ↔ (ab_sh σ a).1 = 4 ∧ ab_Run X 22 5 (1, 0, 0) L (ab_I (ab_rd σ a 2) :: st) σ Q := gF_3_26 ko_X3_takeBack kc_X3_takeBack dX3_takeBack_2
theorem rX3_takeBack_5 : ab_Run X 22 5 (1, 0, 0) L st σ Q ↔ ab_Run X 22 7 (1, 0, 0) L (ab_I 16 :: st) σ Q := ab_r_bipush (by decide) kc_X3_takeBack dX3_takeBack_5
theorem rX3_takeBack_7 : ab_Run X 22 7 (1, 0, 0) L (ab_I b :: ab_I a :: st) σ Q ↔ ab_Run X 22 8 (1, 0, 0) L (ab_I (ab_w32 (a + b)) :: st) σ Q := ab_r_iadd kc_X3_takeBack dX3_takeBack_7
theorem rX3_takeBack_8 : ab_Run X 22 8 (1, 0, 0) L st σ Q ↔ ab_Run X 22 9 (1, 0, 0) L (ab_I 1 :: st) σ Q := ab_r_iconst (by decide) kc_X3_takeBack dX3_takeBack_8
theorem rX3_takeBack_9 : ab_Run X 22 9 (1, 0, 0) L (ab_I b :: ab_I a :: st) σ Q ↔ ab_Run X 22 10 (1, 0, 0) L (ab_I (ab_w32 (a - b)) :: st) σ Q := ab_r_isub kc_X3_takeBack dX3_takeBack_9
theorem rX3_takeBack_10 : ab_Run X 22 10 (1, 0, 0) L st σ Q ↔ ab_Run X 22 12 (1, 0, 0) L (ab_I 16 :: st) σ Q := ab_r_bipush (by decide) kc_X3_takeBack dX3_takeBack_10
theorem rX3_takeBack_12 : ab_Run X 22 12 (1, 0, 0) L (ab_I b :: ab_I a :: st) σ Q ↔ b ≠ 0 ∧ ab_Run X 22 13 (1, 0, 0) L (ab_I (a.tmod b) :: st) σ Q := ab_r_irem kc_X3_takeBack dX3_takeBack_12
theorem rX3_takeBack_13 : ab_Run X 22 13 (1, 0, 0) L (ab_I z :: ab_R a :: st) σ Q ↔ (ab_sh σ a).1 = 4 ∧ ab_Run X 22 16 (1, 0, 0) L st (ab_wr σ a 2 z) Q := sF_3_26 ko_X3_takeBack kc_X3_takeBack dX3_takeBack_13
theorem rX3_takeBack_16 : ab_Run X 22 16 (1, 0, 0) [ab_R z, l1] st σ Q ↔ z ≠ 0 ∧ ab_Run X 22 17 (1, 0, 0) [ab_R z, l1] (ab_R z :: st) σ Q := ab_r_aload_n rfl kc_X3_takeBack dX3_takeBack_16
theorem rX3_takeBack_17I : ab_Run X 22 17 (1, 0, 0) L (ab_I a :: st) σ Q ↔ ab_Run X 22 18 (1, 0, 0) L (ab_I a :: ab_I a :: st) σ Q := ab_r_dupI kc_X3_takeBack dX3_takeBack_17
theorem rX3_takeBack_17R : ab_Run X 22 17 (1, 0, 0) L (ab_R a :: st) σ Q ↔ ab_Run X 22 18 (1, 0, 0) L (ab_R a :: ab_R a :: st) σ Q := ab_r_dupR kc_X3_takeBack dX3_takeBack_17
theorem rX3_takeBack_18 : ab_Run X 22 18 (1, 0, 0) L (ab_R a :: st) σ Q ↔ (ab_sh σ a).1 = 4 ∧ ab_Run X 22 21 (1, 0, 0) L (ab_I (ab_rd σ a 3) :: st) σ Q := gF_3_19 ko_X3_takeBack kc_X3_takeBack dX3_takeBack_18
theorem rX3_takeBack_21 : ab_Run X 22 21 (1, 0, 0) L st σ Q ↔ ab_Run X 22 22 (1, 0, 0) L (ab_I 1 :: st) σ Q := ab_r_iconst (by decide) kc_X3_takeBack dX3_takeBack_21
theorem rX3_takeBack_22 : ab_Run X 22 22 (1, 0, 0) L (ab_I b :: ab_I a :: st) σ Q ↔ ab_Run X 22 23 (1, 0, 0) L (ab_I (ab_w32 (a - b)) :: st) σ Q := ab_r_isub kc_X3_takeBack dX3_takeBack_22
theorem rX3_takeBack_23 : ab_Run X 22 23 (1, 0, 0) L (ab_I z :: ab_R a :: st) σ Q ↔ (ab_sh σ a).1 = 4 ∧ ab_Run X 22 26 (1, 0, 0) L st (ab_wr σ a 3 z) Q := sF_3_19 ko_X3_takeBack kc_X3_takeBack dX3_takeBack_23
theorem rX3_takeBack_26 : ab_Run X 22 26 (1, 0, 0) [l0, ab_R z] st σ Q ↔ z ≠ 0 ∧ ab_Run X 22 27 (1, 0, 0) [l0, ab_R z] (ab_R z :: st) σ Q := ab_r_aload_n rfl kc_X3_takeBack dX3_takeBack_26
theorem rX3_takeBack_27 : ab_Run X 22 27 (1, 0, 0) [ab_R z, l1] st σ Q ↔ z ≠ 0 ∧ ab_Run X 22 28 (1, 0, 0) [ab_R z, l1] (ab_R z :: st) σ Q := ab_r_aload_n rfl kc_X3_takeBack dX3_takeBack_27
theorem rX3_takeBack_28 : ab_Run X 22 28 (1, 0, 0) L (ab_R a :: st) σ Q ↔ (ab_sh σ a).1 = 4 ∧ ab_Run X 22 31 (1, 0, 0) L (ab_R (ab_rd σ a 0) :: st) σ Q := gF_3_11 ko_X3_takeBack kc_X3_takeBack dX3_takeBack_28
theorem rX3_takeBack_31 : ab_Run X 22 31 (1, 0, 0) [ab_R z, l1] st σ Q ↔ z ≠ 0 ∧ ab_Run X 22 32 (1, 0, 0) [ab_R z, l1] (ab_R z :: st) σ Q := ab_r_aload_n rfl kc_X3_takeBack dX3_takeBack_31
theorem rX3_takeBack_32 : ab_Run X 22 32 (1, 0, 0) L (ab_R a :: st) σ Q ↔ (ab_sh σ a).1 = 4 ∧ ab_Run X 22 35 (1, 0, 0) L (ab_I (ab_rd σ a 2) :: st) σ Q := gF_3_26 ko_X3_takeBack kc_X3_takeBack dX3_takeBack_32
theorem rX3_takeBack_35 : ab_Run X 22 35 (1, 0, 0) L (ab_I i :: ab_R a :: st) σ Q ↔ ((25 ≤ (ab_sh σ a).1 ∧ (ab_sh σ a).1 < 30) ∧ 0 ≤ i ∧ i < (ab_sh σ a).2) ∧ ab_Run X 22 36 (1, 0, 0) L (ab_R (ab_rd σ a i) :: st) σ Q := ab_r_aaload kc_X3_takeBack dX3_takeBack_35
theorem rX3_takeBack_36 : ab_Run X 22 36 (1, 0, 0) L (ab_R x1 :: ab_R a :: st) σ Q ↔ ((ab_sh σ a).1 = 9 ∧ ab_cats st ≤ 8) ∧ ab_Do X 63 [ab_R a, ab_R x1] σ (fun r σ' => ab_Run X 22 39 (1, 0, 0) L (ab_psh r st) σ' Q) := ab_r_callV (w := [ab_R x1]) (as := [ab_R x1]) (b1 := (0, 0, 0)) 0 (Or.inl rfl) (by decide) ko_X3_takeBack qM_3_29 (by decide) rfl rfl rfl rfl rfl (by decide) (Nat.le_of_ble_eq_true rfl) kc_X3_takeBack dX3_takeBack_36
theorem rX3_takeBack_39 : ab_Run X 22 39 (1, 0, 0) L [] σ Q ↔ Q none σ := ab_r_return rfl kc_X3_takeBack dX3_takeBack_39
theorem kc_X3_hasRoomForMark : ab_code 23 = cX3_hasRoomForMark := rfl
theorem ko_X3_hasRoomForMark : ab_ow 23 = 3 := rfl
theorem rX3_hasRoomForMark_0 : ab_Run X 23 0 (0, 0, 0) [ab_R z] st σ Q ↔ z ≠ 0 ∧ ab_Run X 23 1 (0, 0, 0) [ab_R z] (ab_R z :: st) σ Q := ab_r_aload_n rfl kc_X3_hasRoomForMark dX3_hasRoomForMark_0
theorem rX3_hasRoomForMark_1 : ab_Run X 23 1 (0, 0, 0) L (ab_R a :: st) σ Q ↔ (ab_sh σ a).1 = 4 ∧ ab_Run X 23 4 (0, 0, 0) L (ab_I (ab_rd σ a 4) :: st) σ Q := gF_3_23 ko_X3_hasRoomForMark kc_X3_hasRoomForMark dX3_hasRoomForMark_1
theorem rX3_hasRoomForMark_4 : ab_Run X 23 4 (0, 0, 0) L st σ Q ↔ ab_Run X 23 5 (0, 0, 0) L (ab_I 3 :: st) σ Q := ab_r_iconst (by decide) kc_X3_hasRoomForMark dX3_hasRoomForMark_4
theorem rX3_hasRoomForMark_5 : ab_Run X 23 5 (0, 0, 0) L (ab_I b :: ab_I a :: st) σ Q ↔ (b ≤ a → ab_Run X 23 12 (0, 0, 0) L st σ Q) ∧ (¬ (b ≤ a) → ab_Run X 23 8 (0, 0, 0) L st σ Q) := ab_r_icmp_ge rfl kc_X3_hasRoomForMark dX3_hasRoomForMark_5
theorem rX3_hasRoomForMark_8 : ab_Run X 23 8 (0, 0, 0) L st σ Q ↔ ab_Run X 23 9 (0, 0, 0) L (ab_I 1 :: st) σ Q := ab_r_iconst (by decide) kc_X3_hasRoomForMark dX3_hasRoomForMark_8
theorem rX3_hasRoomForMark_9 : ab_Run X 23 9 (0, 0, 0) L st σ Q ↔ ab_Run X 23 13 (0, 0, 0) L st σ Q := ab_r_goto rfl kc_X3_hasRoomForMark dX3_hasRoomForMark_9
theorem rX3_hasRoomForMark_12 : ab_Run X 23 12 (0, 0, 0) L st σ Q ↔ ab_Run X 23 13 (0, 0, 0) L (ab_I 0 :: st) σ Q := ab_r_iconst (by decide) kc_X3_hasRoomForMark dX3_hasRoomForMark_12
theorem rX3_hasRoomForMark_13 : ab_Run X 23 13 (0, 0, 0) L [ab_I v] σ Q ↔ (v = 0 ∨ v = 1) ∧ Q (some (ab_I v)) σ := ab_r_ireturnZ rfl kc_X3_hasRoomForMark dX3_hasRoomForMark_13
theorem kc_X3_setMark : ab_code 24 = cX3_setMark := rfl
theorem ko_X3_setMark : ab_ow 24 = 3 := rfl
theorem rX3_setMark_0 : ab_Run X 24 0 (1, 0, 0) [ab_R z, l1] st σ Q ↔ z ≠ 0 ∧ ab_Run X 24 1 (1, 0, 0) [ab_R z, l1] (ab_R z :: st) σ Q := ab_r_aload_n rfl kc_X3_setMark dX3_setMark_0
theorem rX3_setMark_1 : ab_Run X 24 1 (1, 0, 0) L (ab_R a :: st) σ Q ↔ (ab_sh σ a).1 = 4 ∧ ab_Run X 24 4 (1, 0, 0) L (ab_R (ab_rd σ a 1) :: st) σ Q := gF_3_15 ko_X3_setMark kc_X3_setMark dX3_setMark_1
theorem rX3_setMark_4 : ab_Run X 24 4 (1, 0, 0) [ab_R z, l1] st σ Q ↔ z ≠ 0 ∧ ab_Run X 24 5 (1, 0, 0) [ab_R z, l1] (ab_R z :: st) σ Q := ab_r_aload_n rfl kc_X3_setMark dX3_setMark_4
theorem rX3_setMark_5 : ab_Run X 24 5 (1, 0, 0) L (ab_R a :: st) σ Q ↔ (ab_sh σ a).1 = 4 ∧ ab_Run X 24 8 (1, 0, 0) L (ab_I (ab_rd σ a 4) :: st) σ Q := gF_3_23 ko_X3_setMark kc_X3_setMark dX3_setMark_5
theorem rX3_setMark_8 : ab_Run X 24 8 (1, 0, 0) L (ab_I i :: ab_R a :: st) σ Q ↔ ((25 ≤ (ab_sh σ a).1 ∧ (ab_sh σ a).1 < 30) ∧ 0 ≤ i ∧ i < (ab_sh σ a).2) ∧ ab_Run X 24 9 (1, 0, 0) L (ab_R (ab_rd σ a i) :: st) σ Q := ab_r_aaload kc_X3_setMark dX3_setMark_8
theorem rX3_setMark_9 : ab_Run X 24 9 (1, 0, 0) [l0, ab_R z] st σ Q ↔ z ≠ 0 ∧ ab_Run X 24 10 (1, 0, 0) [l0, ab_R z] (ab_R z :: st) σ Q := ab_r_aload_n rfl kc_X3_setMark dX3_setMark_9
theorem rX3_setMark_10 : ab_Run X 24 10 (1, 0, 0) L (ab_R x1 :: ab_R a :: st) σ Q ↔ ((ab_sh σ a).1 = 9 ∧ ab_cats st ≤ 8) ∧ ab_Do X 63 [ab_R a, ab_R x1] σ (fun r σ' => ab_Run X 24 13 (1, 0, 0) L (ab_psh r st) σ' Q) := ab_r_callV (w := [ab_R x1]) (as := [ab_R x1]) (b1 := (0, 0, 0)) 0 (Or.inl rfl) (by decide) ko_X3_setMark qM_3_29 (by decide) rfl rfl rfl rfl rfl (by decide) (Nat.le_of_ble_eq_true rfl) kc_X3_setMark dX3_setMark_10
theorem rX3_setMark_13 : ab_Run X 24 13 (1, 0, 0) [ab_R z, l1] st σ Q ↔ z ≠ 0 ∧ ab_Run X 24 14 (1, 0, 0) [ab_R z, l1] (ab_R z :: st) σ Q := ab_r_aload_n rfl kc_X3_setMark dX3_setMark_13
theorem rX3_setMark_14I : ab_Run X 24 14 (1, 0, 0) L (ab_I a :: st) σ Q ↔ ab_Run X 24 15 (1, 0, 0) L (ab_I a :: ab_I a :: st) σ Q := ab_r_dupI kc_X3_setMark dX3_setMark_14
theorem rX3_setMark_14R : ab_Run X 24 14 (1, 0, 0) L (ab_R a :: st) σ Q ↔ ab_Run X 24 15 (1, 0, 0) L (ab_R a :: ab_R a :: st) σ Q := ab_r_dupR kc_X3_setMark dX3_setMark_14
theorem rX3_setMark_15 : ab_Run X 24 15 (1, 0, 0) L (ab_R a :: st) σ Q ↔ (ab_sh σ a).1 = 4 ∧ ab_Run X 24 18 (1, 0, 0) L (ab_I (ab_rd σ a 4) :: st) σ Q := gF_3_23 ko_X3_setMark kc_X3_setMark dX3_setMark_15
theorem rX3_setMark_18 : ab_Run X 24 18 (1, 0, 0) L st σ Q ↔ ab_Run X 24 19 (1, 0, 0) L (ab_I 1 :: st) σ Q := ab_r_iconst (by decide) kc_X3_setMark dX3_setMark_18
theorem rX3_setMark_19 : ab_Run X 24 19 (1, 0, 0) L (ab_I b :: ab_I a :: st) σ Q ↔ ab_Run X 24 20 (1, 0, 0) L (ab_I (ab_w32 (a + b)) :: st) σ Q := ab_r_iadd kc_X3_setMark dX3_setMark_19
theorem rX3_setMark_20 : ab_Run X 24 20 (1, 0, 0) L (ab_I z :: ab_R a :: st) σ Q ↔ (ab_sh σ a).1 = 4 ∧ ab_Run X 24 23 (1, 0, 0) L st (ab_wr σ a 4 z) Q := sF_3_23 ko_X3_setMark kc_X3_setMark dX3_setMark_20
theorem rX3_setMark_23 : ab_Run X 24 23 (1, 0, 0) [ab_R z, l1] st σ Q ↔ z ≠ 0 ∧ ab_Run X 24 24 (1, 0, 0) [ab_R z, l1] (ab_R z :: st) σ Q := ab_r_aload_n rfl kc_X3_setMark dX3_setMark_23
theorem rX3_setMark_24 : ab_Run X 24 24 (1, 0, 0) L (ab_R a :: st) σ Q ↔ (ab_sh σ a).1 = 4 ∧ ab_Run X 24 27 (1, 0, 0) L (ab_I (ab_rd σ a 4) :: st) σ Q := gF_3_23 ko_X3_setMark kc_X3_setMark dX3_setMark_24
theorem rX3_setMark_27 : ab_Run X 24 27 (1, 0, 0) L st σ Q ↔ ab_Run X 24 28 (1, 0, 0) L (ab_I 1 :: st) σ Q := ab_r_iconst (by decide) kc_X3_setMark dX3_setMark_27
theorem rX3_setMark_28 : ab_Run X 24 28 (1, 0, 0) L (ab_I b :: ab_I a :: st) σ Q ↔ ab_Run X 24 29 (1, 0, 0) L (ab_I (ab_w32 (a - b)) :: st) σ Q := ab_r_isub kc_X3_setMark dX3_setMark_28
theorem rX3_setMark_29 : ab_Run X 24 29 (1, 0, 0) L [ab_I v] σ Q ↔ Q (some (ab_I v)) σ := ab_r_ireturnI rfl kc_X3_setMark dX3_setMark_29
theorem kc_X3_goTo : ab_code 25 = cX3_goTo := rfl
theorem ko_X3_goTo : ab_ow 25 = 3 := rfl
theorem rX3_goTo_0 : ab_Run X 25 0 (1, 0, 0) [l0, l1, ab_R z] st σ Q ↔ z ≠ 0 ∧ ab_Run X 25 1 (1, 0, 0) [l0, l1, ab_R z] (ab_R z :: st) σ Q := ab_r_aload_n rfl kc_X3_goTo dX3_goTo_0
theorem rX3_goTo_1 : ab_Run X 25 1 (1, 0, 0) [ab_R z, l1, l2] st σ Q ↔ z ≠ 0 ∧ ab_Run X 25 2 (1, 0, 0) [ab_R z, l1, l2] (ab_R z :: st) σ Q := ab_r_aload_n rfl kc_X3_goTo dX3_goTo_1
theorem rX3_goTo_2 : ab_Run X 25 2 (1, 0, 0) L (ab_R a :: st) σ Q ↔ (ab_sh σ a).1 = 4 ∧ ab_Run X 25 5 (1, 0, 0) L (ab_R (ab_rd σ a 1) :: st) σ Q := gF_3_15 ko_X3_goTo kc_X3_goTo dX3_goTo_2
theorem rX3_goTo_5 : ab_Run X 25 5 (1, 0, 0) [l0, ab_I z, l2] st σ Q ↔ ab_Run X 25 6 (1, 0, 0) [l0, ab_I z, l2] (ab_I z :: st) σ Q := ab_r_iload_n rfl kc_X3_goTo dX3_goTo_5
theorem rX3_goTo_6 : ab_Run X 25 6 (1, 0, 0) L (ab_I i :: ab_R a :: st) σ Q ↔ ((25 ≤ (ab_sh σ a).1 ∧ (ab_sh σ a).1 < 30) ∧ 0 ≤ i ∧ i < (ab_sh σ a).2) ∧ ab_Run X 25 7 (1, 0, 0) L (ab_R (ab_rd σ a i) :: st) σ Q := ab_r_aaload kc_X3_goTo dX3_goTo_6
theorem rX3_goTo_7 : ab_Run X 25 7 (1, 0, 0) L (ab_R x1 :: ab_R a :: st) σ Q ↔ ((ab_sh σ a).1 = 9 ∧ ab_cats st ≤ 8) ∧ ab_Do X 63 [ab_R a, ab_R x1] σ (fun r σ' => ab_Run X 25 10 (1, 0, 0) L (ab_psh r st) σ' Q) := ab_r_callV (w := [ab_R x1]) (as := [ab_R x1]) (b1 := (0, 0, 0)) 0 (Or.inl rfl) (by decide) ko_X3_goTo qM_3_29 (by decide) rfl rfl rfl rfl rfl (by decide) (Nat.le_of_ble_eq_true rfl) kc_X3_goTo dX3_goTo_7
theorem rX3_goTo_10 : ab_Run X 25 10 (1, 0, 0) [ab_R z, l1, l2] st σ Q ↔ z ≠ 0 ∧ ab_Run X 25 11 (1, 0, 0) [ab_R z, l1, l2] (ab_R z :: st) σ Q := ab_r_aload_n rfl kc_X3_goTo dX3_goTo_10
theorem rX3_goTo_11 : ab_Run X 25 11 (1, 0, 0) L st σ Q ↔ ab_Run X 25 12 (1, 0, 0) L (ab_I 0 :: st) σ Q := ab_r_iconst (by decide) kc_X3_goTo dX3_goTo_11
theorem rX3_goTo_12 : ab_Run X 25 12 (1, 0, 0) L (ab_I z :: ab_R a :: st) σ Q ↔ (ab_sh σ a).1 = 4 ∧ ab_Run X 25 15 (1, 0, 0) L st (ab_wr σ a 3 z) Q := sF_3_19 ko_X3_goTo kc_X3_goTo dX3_goTo_12
theorem rX3_goTo_15 : ab_Run X 25 15 (1, 0, 0) L [] σ Q ↔ Q none σ := ab_r_return rfl kc_X3_goTo dX3_goTo_15
theorem kc_X4_clear : ab_code 27 = cX4_clear := rfl
theorem ko_X4_clear : ab_ow 27 = 4 := rfl
theorem rX4_clear_0 : ab_Run X 27 0 (0, 0, 0) [ab_R z] st σ Q ↔ z ≠ 0 ∧ ab_Run X 27 1 (0, 0, 0) [ab_R z] (ab_R z :: st) σ Q := ab_r_aload_n rfl kc_X4_clear dX4_clear_0
theorem rX4_clear_1 : ab_Run X 27 1 (0, 0, 0) L st σ Q ↔ ab_Run X 27 2 (0, 0, 0) L (ab_I 0 :: st) σ Q := ab_r_iconst (by decide) kc_X4_clear dX4_clear_1
theorem rX4_clear_2 : ab_Run X 27 2 (0, 0, 0) L (ab_I z :: ab_R a :: st) σ Q ↔ (ab_sh σ a).1 = 5 ∧ ab_Run X 27 5 (0, 0, 0) L st (ab_wr σ a 5 z) Q := sF_4_32 ko_X4_clear kc_X4_clear dX4_clear_2
theorem rX4_clear_5 : ab_Run X 27 5 (0, 0, 0) [ab_R z] st σ Q ↔ z ≠ 0 ∧ ab_Run X 27 6 (0, 0, 0) [ab_R z] (ab_R z :: st) σ Q := ab_r_aload_n rfl kc_X4_clear dX4_clear_5
theorem rX4_clear_6 : ab_Run X 27 6 (0, 0, 0) L st σ Q ↔ ab_Run X 27 7 (0, 0, 0) L (ab_I 0 :: st) σ Q := ab_r_iconst (by decide) kc_X4_clear dX4_clear_6
theorem rX4_clear_7 : ab_Run X 27 7 (0, 0, 0) L (ab_I z :: ab_R a :: st) σ Q ↔ (ab_sh σ a).1 = 5 ∧ ab_Run X 27 10 (0, 0, 0) L st (ab_wr σ a 7 z) Q := sF_4_36 ko_X4_clear kc_X4_clear dX4_clear_7
theorem rX4_clear_10 : ab_Run X 27 10 (0, 0, 0) [ab_R z] st σ Q ↔ z ≠ 0 ∧ ab_Run X 27 11 (0, 0, 0) [ab_R z] (ab_R z :: st) σ Q := ab_r_aload_n rfl kc_X4_clear dX4_clear_10
theorem rX4_clear_11 : ab_Run X 27 11 (0, 0, 0) L st σ Q ↔ ab_Run X 27 12 (0, 0, 0) L (ab_I 0 :: st) σ Q := ab_r_iconst (by decide) kc_X4_clear dX4_clear_11
theorem rX4_clear_12 : ab_Run X 27 12 (0, 0, 0) L (ab_I z :: ab_R a :: st) σ Q ↔ (ab_sh σ a).1 = 5 ∧ ab_Run X 27 15 (0, 0, 0) L st (ab_wr σ a 9 z) Q := sF_4_39 ko_X4_clear kc_X4_clear dX4_clear_12
theorem rX4_clear_15 : ab_Run X 27 15 (0, 0, 0) [ab_R z] st σ Q ↔ z ≠ 0 ∧ ab_Run X 27 16 (0, 0, 0) [ab_R z] (ab_R z :: st) σ Q := ab_r_aload_n rfl kc_X4_clear dX4_clear_15
theorem rX4_clear_16 : ab_Run X 27 16 (0, 0, 0) L st σ Q ↔ ab_Run X 27 17 (0, 0, 0) L (ab_I 0 :: st) σ Q := ab_r_iconst (by decide) kc_X4_clear dX4_clear_16
theorem rX4_clear_17 : ab_Run X 27 17 (0, 0, 0) L (ab_I z :: ab_R a :: st) σ Q ↔ (ab_sh σ a).1 = 5 ∧ ab_Run X 27 20 (0, 0, 0) L st (ab_wr σ a 10 z) Q := sF_4_42 ko_X4_clear kc_X4_clear dX4_clear_17
theorem rX4_clear_20 : ab_Run X 27 20 (0, 0, 0) [ab_R z] st σ Q ↔ z ≠ 0 ∧ ab_Run X 27 21 (0, 0, 0) [ab_R z] (ab_R z :: st) σ Q := ab_r_aload_n rfl kc_X4_clear dX4_clear_20
theorem rX4_clear_21 : ab_Run X 27 21 (0, 0, 0) L st σ Q ↔ ab_Run X 27 22 (0, 0, 0) L (ab_I 0 :: st) σ Q := ab_r_iconst (by decide) kc_X4_clear dX4_clear_21
theorem rX4_clear_22 : ab_Run X 27 22 (0, 0, 0) L (ab_I z :: ab_R a :: st) σ Q ↔ (ab_sh σ a).1 = 5 ∧ ab_Run X 27 25 (0, 0, 0) L st (ab_wr σ a 11 z) Q := sF_4_45 ko_X4_clear kc_X4_clear dX4_clear_22
theorem rX4_clear_25 : ab_Run X 27 25 (0, 0, 0) [ab_R z] st σ Q ↔ z ≠ 0 ∧ ab_Run X 27 26 (0, 0, 0) [ab_R z] (ab_R z :: st) σ Q := ab_r_aload_n rfl kc_X4_clear dX4_clear_25
theorem rX4_clear_26 : ab_Run X 27 26 (0, 0, 0) L st σ Q ↔ ab_Run X 27 27 (0, 0, 0) L (ab_I 0 :: st) σ Q := ab_r_iconst (by decide) kc_X4_clear dX4_clear_26
theorem rX4_clear_27 : ab_Run X 27 27 (0, 0, 0) L (ab_I z :: ab_R a :: st) σ Q ↔ (ab_sh σ a).1 = 5 ∧ ab_Run X 27 30 (0, 0, 0) L st (ab_wr σ a 12 z) Q := sF_4_48 ko_X4_clear kc_X4_clear dX4_clear_27
theorem rX4_clear_30 : ab_Run X 27 30 (0, 0, 0) L [] σ Q ↔ Q none σ := ab_r_return rfl kc_X4_clear dX4_clear_30
theorem kc_X4_findBone : ab_code 28 = cX4_findBone := rfl
theorem ko_X4_findBone : ab_ow 28 = 4 := rfl
theorem rX4_findBone_0 : ab_Run X 28 0 (0, 0, 0) L st σ Q ↔ ab_Run X 28 1 (0, 0, 0) L (ab_I 0 :: st) σ Q := ab_r_iconst (by decide) kc_X4_findBone dX4_findBone_0
theorem rX4_findBone_1 : ab_Run X 28 1 (0, 0, 0) [l0, l1, l2, l3] (ab_I z :: st) σ Q ↔ (!ab_isJ l2) = true ∧ ab_Run X 28 2 (0, 0, 0) [l0, l1, l2, ab_I z] st σ Q := ab_r_istore_n (Nat.le_of_ble_eq_true rfl) kc_X4_findBone dX4_findBone_1
theorem rX4_findBone_2 : ab_Run X 28 2 (0, 0, 0) [l0, l1, l2, ab_I z] st σ Q ↔ ab_Run X 28 3 (0, 0, 0) [l0, l1, l2, ab_I z] (ab_I z :: st) σ Q := ab_r_iload_n rfl kc_X4_findBone dX4_findBone_2
theorem rX4_findBone_3 : ab_Run X 28 3 (0, 0, 0) [ab_R z, l1, l2, l3] st σ Q ↔ z ≠ 0 ∧ ab_Run X 28 4 (0, 0, 0) [ab_R z, l1, l2, l3] (ab_R z :: st) σ Q := ab_r_aload_n rfl kc_X4_findBone dX4_findBone_3
theorem rX4_findBone_4 : ab_Run X 28 4 (0, 0, 0) L (ab_R a :: st) σ Q ↔ (ab_sh σ a).1 = 5 ∧ ab_Run X 28 7 (0, 0, 0) L (ab_I (ab_rd σ a 5) :: st) σ Q := gF_4_32 ko_X4_findBone kc_X4_findBone dX4_findBone_4
theorem rX4_findBone_7 : ab_Run X 28 7 (0, 0, 0) L (ab_I b :: ab_I a :: st) σ Q ↔ (b ≤ a → ab_Run X 28 32 (0, 0, 0) L st σ Q) ∧ (¬ (b ≤ a) → ab_Run X 28 10 (0, 0, 0) L st σ Q) := ab_r_icmp_ge rfl kc_X4_findBone dX4_findBone_7
theorem rX4_findBone_10 : ab_Run X 28 10 (0, 0, 0) [ab_R z, l1, l2, l3] st σ Q ↔ z ≠ 0 ∧ ab_Run X 28 11 (0, 0, 0) [ab_R z, l1, l2, l3] (ab_R z :: st) σ Q := ab_r_aload_n rfl kc_X4_findBone dX4_findBone_10
theorem rX4_findBone_11 : ab_Run X 28 11 (0, 0, 0) L (ab_R a :: st) σ Q ↔ (ab_sh σ a).1 = 5 ∧ ab_Run X 28 14 (0, 0, 0) L (ab_R (ab_rd σ a 6) :: st) σ Q := gF_4_11 ko_X4_findBone kc_X4_findBone dX4_findBone_11
theorem rX4_findBone_14 : ab_Run X 28 14 (0, 0, 0) [l0, l1, l2, ab_I z] st σ Q ↔ ab_Run X 28 15 (0, 0, 0) [l0, l1, l2, ab_I z] (ab_I z :: st) σ Q := ab_r_iload_n rfl kc_X4_findBone dX4_findBone_14
theorem rX4_findBone_15 : ab_Run X 28 15 (0, 0, 0) L (ab_I i :: ab_R a :: st) σ Q ↔ ((25 ≤ (ab_sh σ a).1 ∧ (ab_sh σ a).1 < 30) ∧ 0 ≤ i ∧ i < (ab_sh σ a).2) ∧ ab_Run X 28 16 (0, 0, 0) L (ab_R (ab_rd σ a i) :: st) σ Q := ab_r_aaload kc_X4_findBone dX4_findBone_15
theorem rX4_findBone_16 : ab_Run X 28 16 (0, 0, 0) L (ab_R a :: st) σ Q ↔ (ab_sh σ a).1 = 2 ∧ ab_Run X 28 19 (0, 0, 0) L (ab_J (ab_rd σ a 0) :: st) σ Q := gF_4_51 ko_X4_findBone kc_X4_findBone dX4_findBone_16
theorem rX4_findBone_19 : ab_Run X 28 19 (0, 0, 0) [l0, ab_J z, l2, l3] st σ Q ↔ ab_Run X 28 20 (0, 0, 0) [l0, ab_J z, l2, l3] (ab_J z :: st) σ Q := ab_r_lload_n rfl kc_X4_findBone dX4_findBone_19
theorem rX4_findBone_20 : ab_Run X 28 20 (0, 0, 0) L (ab_J b :: ab_J a :: st) σ Q ↔ ab_Run X 28 21 (0, 0, 0) L (ab_I (if b < a then 1 else if a = b then 0 else -1) :: st) σ Q := ab_r_lcmp kc_X4_findBone dX4_findBone_20
theorem rX4_findBone_21 : ab_Run X 28 21 (0, 0, 0) L (ab_I a :: st) σ Q ↔ (¬ a = 0 → ab_Run X 28 26 (0, 0, 0) L st σ Q) ∧ (¬ (¬ a = 0) → ab_Run X 28 24 (0, 0, 0) L st σ Q) := ab_r_if_ne rfl kc_X4_findBone dX4_findBone_21
theorem rX4_findBone_24 : ab_Run X 28 24 (0, 0, 0) [l0, l1, l2, ab_I z] st σ Q ↔ ab_Run X 28 25 (0, 0, 0) [l0, l1, l2, ab_I z] (ab_I z :: st) σ Q := ab_r_iload_n rfl kc_X4_findBone dX4_findBone_24
theorem rX4_findBone_25 : ab_Run X 28 25 (0, 0, 0) L [ab_I v] σ Q ↔ Q (some (ab_I v)) σ := ab_r_ireturnI rfl kc_X4_findBone dX4_findBone_25
theorem rX4_findBone_26 : ab_Run X 28 26 (0, 0, 0) [l0, l1, l2, ab_I z] st σ Q ↔ (!ab_isJ l2) = true ∧ ab_Run X 28 29 (0, 0, 0) [l0, l1, l2, ab_I (ab_w32 (z + 1))] st σ Q := ab_r_iinc rfl (by decide) kc_X4_findBone dX4_findBone_26
theorem rX4_findBone_29 : ab_Run X 28 29 (0, 0, 0) L st σ Q ↔ ab_Run X 28 2 (0, 0, 0) L st σ Q := ab_r_goto rfl kc_X4_findBone dX4_findBone_29
theorem rX4_findBone_32 : ab_Run X 28 32 (0, 0, 0) L st σ Q ↔ ab_Run X 28 33 (0, 0, 0) L (ab_I (-1) :: st) σ Q := ab_r_iconst (by decide) kc_X4_findBone dX4_findBone_32
theorem rX4_findBone_33 : ab_Run X 28 33 (0, 0, 0) L [ab_I v] σ Q ↔ Q (some (ab_I v)) σ := ab_r_ireturnI rfl kc_X4_findBone dX4_findBone_33
theorem kc_X4_findPerson : ab_code 29 = cX4_findPerson := rfl
theorem ko_X4_findPerson : ab_ow 29 = 4 := rfl
theorem rX4_findPerson_0 : ab_Run X 29 0 (0, 0, 0) L st σ Q ↔ ab_Run X 29 1 (0, 0, 0) L (ab_I 0 :: st) σ Q := ab_r_iconst (by decide) kc_X4_findPerson dX4_findPerson_0
theorem rX4_findPerson_1 : ab_Run X 29 1 (0, 0, 0) [l0, l1, l2, l3] (ab_I z :: st) σ Q ↔ (!ab_isJ l2) = true ∧ ab_Run X 29 2 (0, 0, 0) [l0, l1, l2, ab_I z] st σ Q := ab_r_istore_n (Nat.le_of_ble_eq_true rfl) kc_X4_findPerson dX4_findPerson_1
theorem rX4_findPerson_2 : ab_Run X 29 2 (0, 0, 0) [l0, l1, l2, ab_I z] st σ Q ↔ ab_Run X 29 3 (0, 0, 0) [l0, l1, l2, ab_I z] (ab_I z :: st) σ Q := ab_r_iload_n rfl kc_X4_findPerson dX4_findPerson_2
theorem rX4_findPerson_3 : ab_Run X 29 3 (0, 0, 0) [ab_R z, l1, l2, l3] st σ Q ↔ z ≠ 0 ∧ ab_Run X 29 4 (0, 0, 0) [ab_R z, l1, l2, l3] (ab_R z :: st) σ Q := ab_r_aload_n rfl kc_X4_findPerson dX4_findPerson_3
theorem rX4_findPerson_4 : ab_Run X 29 4 (0, 0, 0) L (ab_R a :: st) σ Q ↔ (ab_sh σ a).1 = 5 ∧ ab_Run X 29 7 (0, 0, 0) L (ab_I (ab_rd σ a 7) :: st) σ Q := gF_4_36 ko_X4_findPerson kc_X4_findPerson dX4_findPerson_4
theorem rX4_findPerson_7 : ab_Run X 29 7 (0, 0, 0) L (ab_I b :: ab_I a :: st) σ Q ↔ (b ≤ a → ab_Run X 29 32 (0, 0, 0) L st σ Q) ∧ (¬ (b ≤ a) → ab_Run X 29 10 (0, 0, 0) L st σ Q) := ab_r_icmp_ge rfl kc_X4_findPerson dX4_findPerson_7
theorem rX4_findPerson_10 : ab_Run X 29 10 (0, 0, 0) [ab_R z, l1, l2, l3] st σ Q ↔ z ≠ 0 ∧ ab_Run X 29 11 (0, 0, 0) [ab_R z, l1, l2, l3] (ab_R z :: st) σ Q := ab_r_aload_n rfl kc_X4_findPerson dX4_findPerson_10
theorem rX4_findPerson_11 : ab_Run X 29 11 (0, 0, 0) L (ab_R a :: st) σ Q ↔ (ab_sh σ a).1 = 5 ∧ ab_Run X 29 14 (0, 0, 0) L (ab_R (ab_rd σ a 8) :: st) σ Q := gF_4_19 ko_X4_findPerson kc_X4_findPerson dX4_findPerson_11
theorem rX4_findPerson_14 : ab_Run X 29 14 (0, 0, 0) [l0, l1, l2, ab_I z] st σ Q ↔ ab_Run X 29 15 (0, 0, 0) [l0, l1, l2, ab_I z] (ab_I z :: st) σ Q := ab_r_iload_n rfl kc_X4_findPerson dX4_findPerson_14
theorem rX4_findPerson_15 : ab_Run X 29 15 (0, 0, 0) L (ab_I i :: ab_R a :: st) σ Q ↔ ((25 ≤ (ab_sh σ a).1 ∧ (ab_sh σ a).1 < 30) ∧ 0 ≤ i ∧ i < (ab_sh σ a).2) ∧ ab_Run X 29 16 (0, 0, 0) L (ab_R (ab_rd σ a i) :: st) σ Q := ab_r_aaload kc_X4_findPerson dX4_findPerson_15
theorem rX4_findPerson_16 : ab_Run X 29 16 (0, 0, 0) L (ab_R a :: st) σ Q ↔ (ab_sh σ a).1 = 6 ∧ ab_Run X 29 19 (0, 0, 0) L (ab_J (ab_rd σ a 0) :: st) σ Q := gF_4_55 ko_X4_findPerson kc_X4_findPerson dX4_findPerson_16
theorem rX4_findPerson_19 : ab_Run X 29 19 (0, 0, 0) [l0, ab_J z, l2, l3] st σ Q ↔ ab_Run X 29 20 (0, 0, 0) [l0, ab_J z, l2, l3] (ab_J z :: st) σ Q := ab_r_lload_n rfl kc_X4_findPerson dX4_findPerson_19
theorem rX4_findPerson_20 : ab_Run X 29 20 (0, 0, 0) L (ab_J b :: ab_J a :: st) σ Q ↔ ab_Run X 29 21 (0, 0, 0) L (ab_I (if b < a then 1 else if a = b then 0 else -1) :: st) σ Q := ab_r_lcmp kc_X4_findPerson dX4_findPerson_20
theorem rX4_findPerson_21 : ab_Run X 29 21 (0, 0, 0) L (ab_I a :: st) σ Q ↔ (¬ a = 0 → ab_Run X 29 26 (0, 0, 0) L st σ Q) ∧ (¬ (¬ a = 0) → ab_Run X 29 24 (0, 0, 0) L st σ Q) := ab_r_if_ne rfl kc_X4_findPerson dX4_findPerson_21
theorem rX4_findPerson_24 : ab_Run X 29 24 (0, 0, 0) [l0, l1, l2, ab_I z] st σ Q ↔ ab_Run X 29 25 (0, 0, 0) [l0, l1, l2, ab_I z] (ab_I z :: st) σ Q := ab_r_iload_n rfl kc_X4_findPerson dX4_findPerson_24
theorem rX4_findPerson_25 : ab_Run X 29 25 (0, 0, 0) L [ab_I v] σ Q ↔ Q (some (ab_I v)) σ := ab_r_ireturnI rfl kc_X4_findPerson dX4_findPerson_25
theorem rX4_findPerson_26 : ab_Run X 29 26 (0, 0, 0) [l0, l1, l2, ab_I z] st σ Q ↔ (!ab_isJ l2) = true ∧ ab_Run X 29 29 (0, 0, 0) [l0, l1, l2, ab_I (ab_w32 (z + 1))] st σ Q := ab_r_iinc rfl (by decide) kc_X4_findPerson dX4_findPerson_26
theorem rX4_findPerson_29 : ab_Run X 29 29 (0, 0, 0) L st σ Q ↔ ab_Run X 29 2 (0, 0, 0) L st σ Q := ab_r_goto rfl kc_X4_findPerson dX4_findPerson_29
theorem rX4_findPerson_32 : ab_Run X 29 32 (0, 0, 0) L st σ Q ↔ ab_Run X 29 33 (0, 0, 0) L (ab_I (-1) :: st) σ Q := ab_r_iconst (by decide) kc_X4_findPerson dX4_findPerson_32
theorem rX4_findPerson_33 : ab_Run X 29 33 (0, 0, 0) L [ab_I v] σ Q ↔ Q (some (ab_I v)) σ := ab_r_ireturnI rfl kc_X4_findPerson dX4_findPerson_33
theorem kc_X5_begin : ab_code 31 = cX5_begin := rfl
theorem ko_X5_begin : ab_ow 31 = 5 := rfl
theorem rX5_begin_0 : ab_Run X 31 0 (0, 0, 0) [ab_R z, l1, l2] st σ Q ↔ z ≠ 0 ∧ ab_Run X 31 1 (0, 0, 0) [ab_R z, l1, l2] (ab_R z :: st) σ Q := ab_r_aload_n rfl kc_X5_begin dX5_begin_0
theorem rX5_begin_1 : ab_Run X 31 1 (0, 0, 0) [l0, ab_J z, l2] st σ Q ↔ ab_Run X 31 2 (0, 0, 0) [l0, ab_J z, l2] (ab_J z :: st) σ Q := ab_r_lload_n rfl kc_X5_begin dX5_begin_1
theorem rX5_begin_2 : ab_Run X 31 2 (0, 0, 0) L (ab_J z :: ab_R a :: st) σ Q ↔ (ab_sh σ a).1 = 6 ∧ ab_Run X 31 5 (0, 0, 0) L st (ab_wr σ a 0 z) Q := sF_5_15 ko_X5_begin kc_X5_begin dX5_begin_2
theorem rX5_begin_5 : ab_Run X 31 5 (0, 0, 0) [ab_R z, l1, l2] st σ Q ↔ z ≠ 0 ∧ ab_Run X 31 6 (0, 0, 0) [ab_R z, l1, l2] (ab_R z :: st) σ Q := ab_r_aload_n rfl kc_X5_begin dX5_begin_5
theorem rX5_begin_6 : ab_Run X 31 6 (0, 0, 0) L st σ Q ↔ ab_Run X 31 7 (0, 0, 0) L (ab_I 0 :: st) σ Q := ab_r_iconst (by decide) kc_X5_begin dX5_begin_6
theorem rX5_begin_7 : ab_Run X 31 7 (0, 0, 0) L (ab_I z :: ab_R a :: st) σ Q ↔ (ab_sh σ a).1 = 6 ∧ ab_Run X 31 10 (0, 0, 0) L st (ab_wr σ a 5 z) Q := sF_5_19 ko_X5_begin kc_X5_begin dX5_begin_7
theorem rX5_begin_10 : ab_Run X 31 10 (0, 0, 0) [ab_R z, l1, l2] st σ Q ↔ z ≠ 0 ∧ ab_Run X 31 11 (0, 0, 0) [ab_R z, l1, l2] (ab_R z :: st) σ Q := ab_r_aload_n rfl kc_X5_begin dX5_begin_10
theorem rX5_begin_11 : ab_Run X 31 11 (0, 0, 0) L st σ Q ↔ ab_Run X 31 12 (0, 0, 0) L (ab_I 0 :: st) σ Q := ab_r_iconst (by decide) kc_X5_begin dX5_begin_11
theorem rX5_begin_12 : ab_Run X 31 12 (0, 0, 0) L (ab_I z :: ab_R a :: st) σ Q ↔ (ab_sh σ a).1 = 6 ∧ ab_Run X 31 15 (0, 0, 0) L st (ab_wr σ a 6 z) Q := sF_5_22 ko_X5_begin kc_X5_begin dX5_begin_12
theorem rX5_begin_15 : ab_Run X 31 15 (0, 0, 0) [ab_R z, l1, l2] st σ Q ↔ z ≠ 0 ∧ ab_Run X 31 16 (0, 0, 0) [ab_R z, l1, l2] (ab_R z :: st) σ Q := ab_r_aload_n rfl kc_X5_begin dX5_begin_15
theorem rX5_begin_16 : ab_Run X 31 16 (0, 0, 0) L st σ Q ↔ ab_Run X 31 17 (0, 0, 0) L (ab_I 0 :: st) σ Q := ab_r_iconst (by decide) kc_X5_begin dX5_begin_16
theorem rX5_begin_17 : ab_Run X 31 17 (0, 0, 0) L (ab_I z :: ab_R a :: st) σ Q ↔ (ab_sh σ a).1 = 6 ∧ ab_Run X 31 20 (0, 0, 0) L st (ab_wr σ a 7 z) Q := sF_5_25 ko_X5_begin kc_X5_begin dX5_begin_17
theorem rX5_begin_20 : ab_Run X 31 20 (0, 0, 0) [ab_R z, l1, l2] st σ Q ↔ z ≠ 0 ∧ ab_Run X 31 21 (0, 0, 0) [ab_R z, l1, l2] (ab_R z :: st) σ Q := ab_r_aload_n rfl kc_X5_begin dX5_begin_20
theorem rX5_begin_21 : ab_Run X 31 21 (0, 0, 0) L st σ Q ↔ ab_Run X 31 22 (0, 0, 0) L (ab_I 0 :: st) σ Q := ab_r_iconst (by decide) kc_X5_begin dX5_begin_21
theorem rX5_begin_22 : ab_Run X 31 22 (0, 0, 0) L (ab_I z :: ab_R a :: st) σ Q ↔ (ab_sh σ a).1 = 6 ∧ ab_Run X 31 25 (0, 0, 0) L st (ab_wr σ a 8 z) Q := sF_5_28 ko_X5_begin kc_X5_begin dX5_begin_22
theorem rX5_begin_25 : ab_Run X 31 25 (0, 0, 0) [ab_R z, l1, l2] st σ Q ↔ z ≠ 0 ∧ ab_Run X 31 26 (0, 0, 0) [ab_R z, l1, l2] (ab_R z :: st) σ Q := ab_r_aload_n rfl kc_X5_begin dX5_begin_25
theorem rX5_begin_26 : ab_Run X 31 26 (0, 0, 0) L st σ Q ↔ ab_Run X 31 27 (0, 0, 0) L (ab_I (-1) :: st) σ Q := ab_r_iconst (by decide) kc_X5_begin dX5_begin_26
theorem rX5_begin_27 : ab_Run X 31 27 (0, 0, 0) L (ab_I z :: ab_R a :: st) σ Q ↔ (ab_sh σ a).1 = 6 ∧ ab_Run X 31 30 (0, 0, 0) L st (ab_wr σ a 9 z) Q := sF_5_9 ko_X5_begin kc_X5_begin dX5_begin_27
theorem rX5_begin_30 : ab_Run X 31 30 (0, 0, 0) L [] σ Q ↔ Q none σ := ab_r_return rfl kc_X5_begin dX5_begin_30
theorem kc_X6_take : ab_code 33 = cX6_take := rfl
theorem ko_X6_take : ab_ow 33 = 6 := rfl
theorem rX6_take_0 : ab_Run X 33 0 (0, 0, 0) [ab_R z, l1, l2, l3] st σ Q ↔ z ≠ 0 ∧ ab_Run X 33 1 (0, 0, 0) [ab_R z, l1, l2, l3] (ab_R z :: st) σ Q := ab_r_aload_n rfl kc_X6_take dX6_take_0
theorem rX6_take_1 : ab_Run X 33 1 (0, 0, 0) [l0, l1, ab_I z, l3] st σ Q ↔ ab_Run X 33 2 (0, 0, 0) [l0, l1, ab_I z, l3] (ab_I z :: st) σ Q := ab_r_iload_n rfl kc_X6_take dX6_take_1
theorem rX6_take_2 : ab_Run X 33 2 (0, 0, 0) L st σ Q ↔ ab_Run X 33 3 (0, 0, 0) L (ab_I 2 :: st) σ Q := ab_r_iconst (by decide) kc_X6_take dX6_take_2
theorem rX6_take_3 : ab_Run X 33 3 (0, 0, 0) L (ab_I b :: ab_I a :: st) σ Q ↔ (a = b → ab_Run X 33 14 (0, 0, 0) L st σ Q) ∧ (¬ (a = b) → ab_Run X 33 6 (0, 0, 0) L st σ Q) := ab_r_icmp_eq rfl kc_X6_take dX6_take_3
theorem rX6_take_6 : ab_Run X 33 6 (0, 0, 0) [l0, l1, l2, ab_I z] st σ Q ↔ ab_Run X 33 7 (0, 0, 0) [l0, l1, l2, ab_I z] (ab_I z :: st) σ Q := ab_r_iload_n rfl kc_X6_take dX6_take_6
theorem rX6_take_7 : ab_Run X 33 7 (0, 0, 0) [l0, ab_R z, l2, l3] st σ Q ↔ z ≠ 0 ∧ ab_Run X 33 8 (0, 0, 0) [l0, ab_R z, l2, l3] (ab_R z :: st) σ Q := ab_r_aload_n rfl kc_X6_take dX6_take_7
theorem rX6_take_8 : ab_Run X 33 8 (0, 0, 0) L (ab_R a :: st) σ Q ↔ (ab_sh σ a).1 = 5 ∧ ab_Run X 33 11 (0, 0, 0) L (ab_I (ab_rd σ a 0) :: st) σ Q := gF_6_29 ko_X6_take kc_X6_take dX6_take_8
theorem rX6_take_11 : ab_Run X 33 11 (0, 0, 0) L (ab_I b :: ab_I a :: st) σ Q ↔ (b ≤ a → ab_Run X 33 18 (0, 0, 0) L st σ Q) ∧ (¬ (b ≤ a) → ab_Run X 33 14 (0, 0, 0) L st σ Q) := ab_r_icmp_ge rfl kc_X6_take dX6_take_11
theorem rX6_take_14 : ab_Run X 33 14 (0, 0, 0) L st σ Q ↔ ab_Run X 33 15 (0, 0, 0) L (ab_I 1 :: st) σ Q := ab_r_iconst (by decide) kc_X6_take dX6_take_14
theorem rX6_take_15 : ab_Run X 33 15 (0, 0, 0) L st σ Q ↔ ab_Run X 33 19 (0, 0, 0) L st σ Q := ab_r_goto rfl kc_X6_take dX6_take_15
theorem rX6_take_18 : ab_Run X 33 18 (0, 0, 0) L st σ Q ↔ ab_Run X 33 19 (0, 0, 0) L (ab_I 0 :: st) σ Q := ab_r_iconst (by decide) kc_X6_take dX6_take_18
theorem rX6_take_19 : ab_Run X 33 19 (0, 0, 0) L (ab_I z :: ab_R a :: st) σ Q ↔ ((ab_sh σ a).1 = 7 ∧ (z = 0 ∨ z = 1)) ∧ ab_Run X 33 22 (0, 0, 0) L st (ab_wr σ a 4 z) Q := sF_6_34 ko_X6_take kc_X6_take dX6_take_19
theorem rX6_take_22 : ab_Run X 33 22 (0, 0, 0) [ab_R z, l1, l2, l3] st σ Q ↔ z ≠ 0 ∧ ab_Run X 33 23 (0, 0, 0) [ab_R z, l1, l2, l3] (ab_R z :: st) σ Q := ab_r_aload_n rfl kc_X6_take dX6_take_22
theorem rX6_take_23 : ab_Run X 33 23 (0, 0, 0) [l0, ab_R z, l2, l3] st σ Q ↔ z ≠ 0 ∧ ab_Run X 33 24 (0, 0, 0) [l0, ab_R z, l2, l3] (ab_R z :: st) σ Q := ab_r_aload_n rfl kc_X6_take dX6_take_23
theorem rX6_take_24 : ab_Run X 33 24 (0, 0, 0) L (ab_R a :: st) σ Q ↔ (ab_sh σ a).1 = 5 ∧ ab_Run X 33 27 (0, 0, 0) L (ab_I (ab_rd σ a 1) :: st) σ Q := gF_6_38 ko_X6_take kc_X6_take dX6_take_24
theorem rX6_take_27 : ab_Run X 33 27 (0, 0, 0) [l0, l1, l2, ab_I z] st σ Q ↔ ab_Run X 33 28 (0, 0, 0) [l0, l1, l2, ab_I z] (ab_I z :: st) σ Q := ab_r_iload_n rfl kc_X6_take dX6_take_27
theorem rX6_take_28 : ab_Run X 33 28 (0, 0, 0) L (ab_I b :: ab_I a :: st) σ Q ↔ ab_Run X 33 29 (0, 0, 0) L (ab_I (ab_w32 (a - b)) :: st) σ Q := ab_r_isub kc_X6_take dX6_take_28
theorem rX6_take_29 : ab_Run X 33 29 (0, 0, 0) L (ab_I z :: ab_R a :: st) σ Q ↔ (ab_sh σ a).1 = 7 ∧ ab_Run X 33 32 (0, 0, 0) L st (ab_wr σ a 5 z) Q := sF_6_41 ko_X6_take kc_X6_take dX6_take_29
theorem rX6_take_32 : ab_Run X 33 32 (0, 0, 0) [ab_R z, l1, l2, l3] st σ Q ↔ z ≠ 0 ∧ ab_Run X 33 33 (0, 0, 0) [ab_R z, l1, l2, l3] (ab_R z :: st) σ Q := ab_r_aload_n rfl kc_X6_take dX6_take_32
theorem rX6_take_33 : ab_Run X 33 33 (0, 0, 0) [l0, ab_R z, l2, l3] st σ Q ↔ z ≠ 0 ∧ ab_Run X 33 34 (0, 0, 0) [l0, ab_R z, l2, l3] (ab_R z :: st) σ Q := ab_r_aload_n rfl kc_X6_take dX6_take_33
theorem rX6_take_34 : ab_Run X 33 34 (0, 0, 0) L (ab_R a :: st) σ Q ↔ (ab_sh σ a).1 = 5 ∧ ab_Run X 33 37 (0, 0, 0) L (ab_I (ab_rd σ a 2) :: st) σ Q := gF_6_44 ko_X6_take kc_X6_take dX6_take_34
theorem rX6_take_37 : ab_Run X 33 37 (0, 0, 0) L (ab_I z :: ab_R a :: st) σ Q ↔ (ab_sh σ a).1 = 7 ∧ ab_Run X 33 40 (0, 0, 0) L st (ab_wr σ a 6 z) Q := sF_6_47 ko_X6_take kc_X6_take dX6_take_37
theorem rX6_take_40 : ab_Run X 33 40 (0, 0, 0) [ab_R z, l1, l2, l3] st σ Q ↔ z ≠ 0 ∧ ab_Run X 33 41 (0, 0, 0) [ab_R z, l1, l2, l3] (ab_R z :: st) σ Q := ab_r_aload_n rfl kc_X6_take dX6_take_40
theorem rX6_take_41 : ab_Run X 33 41 (0, 0, 0) [l0, ab_R z, l2, l3] st σ Q ↔ z ≠ 0 ∧ ab_Run X 33 42 (0, 0, 0) [l0, ab_R z, l2, l3] (ab_R z :: st) σ Q := ab_r_aload_n rfl kc_X6_take dX6_take_41
theorem rX6_take_42 : ab_Run X 33 42 (0, 0, 0) L (ab_R a :: st) σ Q ↔ (ab_sh σ a).1 = 5 ∧ ab_Run X 33 45 (0, 0, 0) L (ab_I (ab_rd σ a 3) :: st) σ Q := gF_6_48 ko_X6_take kc_X6_take dX6_take_42
theorem rX6_take_45 : ab_Run X 33 45 (0, 0, 0) L (ab_I z :: ab_R a :: st) σ Q ↔ (ab_sh σ a).1 = 7 ∧ ab_Run X 33 48 (0, 0, 0) L st (ab_wr σ a 7 z) Q := sF_6_51 ko_X6_take kc_X6_take dX6_take_45
theorem rX6_take_48 : ab_Run X 33 48 (0, 0, 0) [ab_R z, l1, l2, l3] st σ Q ↔ z ≠ 0 ∧ ab_Run X 33 49 (0, 0, 0) [ab_R z, l1, l2, l3] (ab_R z :: st) σ Q := ab_r_aload_n rfl kc_X6_take dX6_take_48
theorem rX6_take_49 : ab_Run X 33 49 (0, 0, 0) [l0, ab_R z, l2, l3] st σ Q ↔ z ≠ 0 ∧ ab_Run X 33 50 (0, 0, 0) [l0, ab_R z, l2, l3] (ab_R z :: st) σ Q := ab_r_aload_n rfl kc_X6_take dX6_take_49
theorem rX6_take_50 : ab_Run X 33 50 (0, 0, 0) L (ab_R a :: st) σ Q ↔ (ab_sh σ a).1 = 5 ∧ ab_Run X 33 53 (0, 0, 0) L (ab_I (ab_rd σ a 4) :: st) σ Q := gF_6_52 ko_X6_take kc_X6_take dX6_take_50
theorem rX6_take_53 : ab_Run X 33 53 (0, 0, 0) L (ab_I z :: ab_R a :: st) σ Q ↔ (ab_sh σ a).1 = 7 ∧ ab_Run X 33 56 (0, 0, 0) L st (ab_wr σ a 8 z) Q := sF_6_55 ko_X6_take kc_X6_take dX6_take_53
theorem rX6_take_56 : ab_Run X 33 56 (0, 0, 0) L [] σ Q ↔ Q none σ := ab_r_return rfl kc_X6_take dX6_take_56
theorem kc_X6_pair : ab_code 34 = cX6_pair := rfl
theorem ko_X6_pair : ab_ow 34 = 6 := rfl
theorem rX6_pair_0 : ab_Run X 34 0 (0, 0, 0) [ab_R z, l1, l2] st σ Q ↔ z ≠ 0 ∧ ab_Run X 34 1 (0, 0, 0) [ab_R z, l1, l2] (ab_R z :: st) σ Q := ab_r_aload_n rfl kc_X6_pair dX6_pair_0
theorem rX6_pair_1 : ab_Run X 34 1 (0, 0, 0) [l0, ab_R z, l2] st σ Q ↔ z ≠ 0 ∧ ab_Run X 34 2 (0, 0, 0) [l0, ab_R z, l2] (ab_R z :: st) σ Q := ab_r_aload_n rfl kc_X6_pair dX6_pair_1
theorem rX6_pair_2 : ab_Run X 34 2 (0, 0, 0) L (ab_R a :: st) σ Q ↔ (ab_sh σ a).1 = 6 ∧ ab_Run X 34 5 (0, 0, 0) L (ab_I (ab_rd σ a 2) :: st) σ Q := gF_6_56 ko_X6_pair kc_X6_pair dX6_pair_2
theorem rX6_pair_5 : ab_Run X 34 5 (0, 0, 0) [l0, l1, ab_R z] st σ Q ↔ z ≠ 0 ∧ ab_Run X 34 6 (0, 0, 0) [l0, l1, ab_R z] (ab_R z :: st) σ Q := ab_r_aload_n rfl kc_X6_pair dX6_pair_5
theorem rX6_pair_6 : ab_Run X 34 6 (0, 0, 0) L (ab_R a :: st) σ Q ↔ (ab_sh σ a).1 = 6 ∧ ab_Run X 34 9 (0, 0, 0) L (ab_I (ab_rd σ a 2) :: st) σ Q := gF_6_56 ko_X6_pair kc_X6_pair dX6_pair_6
theorem rX6_pair_9 : ab_Run X 34 9 (0, 0, 0) L (ab_I b :: ab_I a :: st) σ Q ↔ ab_Run X 34 10 (0, 0, 0) L (ab_I (ab_w32 (a + b)) :: st) σ Q := ab_r_iadd kc_X6_pair dX6_pair_9
theorem rX6_pair_10 : ab_Run X 34 10 (0, 0, 0) L (ab_I z :: ab_R a :: st) σ Q ↔ (ab_sh σ a).1 = 7 ∧ ab_Run X 34 13 (0, 0, 0) L st (ab_wr σ a 9 z) Q := sF_6_61 ko_X6_pair kc_X6_pair dX6_pair_10
theorem rX6_pair_13 : ab_Run X 34 13 (0, 0, 0) L [] σ Q ↔ Q none σ := ab_r_return rfl kc_X6_pair dX6_pair_13
theorem kc_X6_grip : ab_code 35 = cX6_grip := rfl
theorem ko_X6_grip : ab_ow 35 = 6 := rfl
theorem rX6_grip_0 : ab_Run X 35 0 (1, 0, 0) [l0, ab_R z, l2, l3, l4, l5, l6] st σ Q ↔ z ≠ 0 ∧ ab_Run X 35 1 (1, 0, 0) [l0, ab_R z, l2, l3, l4, l5, l6] (ab_R z :: st) σ Q := ab_r_aload_n rfl kc_X6_grip dX6_grip_0
theorem rX6_grip_1 : ab_Run X 35 1 (1, 0, 0) [l0, l1, ab_R z, l3, l4, l5, l6] st σ Q ↔ z ≠ 0 ∧ ab_Run X 35 2 (1, 0, 0) [l0, l1, ab_R z, l3, l4, l5, l6] (ab_R z :: st) σ Q := ab_r_aload_n rfl kc_X6_grip dX6_grip_1
theorem rX6_grip_2 : ab_Run X 35 2 (1, 0, 0) [l0, l1, l2, ab_I z, l4, l5, l6] st σ Q ↔ ab_Run X 35 3 (1, 0, 0) [l0, l1, l2, ab_I z, l4, l5, l6] (ab_I z :: st) σ Q := ab_r_iload_n rfl kc_X6_grip dX6_grip_2
theorem rX6_grip_3 : ab_Run X 35 3 (1, 0, 0) [ab_R z, l1, l2, l3, l4, l5, l6] st σ Q ↔ z ≠ 0 ∧ ab_Run X 35 4 (1, 0, 0) [ab_R z, l1, l2, l3, l4, l5, l6] (ab_R z :: st) σ Q := ab_r_aload_n rfl kc_X6_grip dX6_grip_3
theorem rX6_grip_4 : ab_Run X 35 4 (1, 0, 0) L (ab_R a :: st) σ Q ↔ (ab_sh σ a).1 = 7 ∧ ab_Run X 35 7 (1, 0, 0) L (ab_I (ab_rd σ a 5) :: st) σ Q := gF_6_41 ko_X6_grip kc_X6_grip dX6_grip_4
theorem rX6_grip_7 : ab_Run X 35 7 (1, 0, 0) [l0, l1, l2, l3, ab_R z, l5, l6] st σ Q ↔ z ≠ 0 ∧ ab_Run X 35 9 (1, 0, 0) [l0, l1, l2, l3, ab_R z, l5, l6] (ab_R z :: st) σ Q := ab_r_aload rfl kc_X6_grip dX6_grip_7
theorem rX6_grip_9 : ab_Run X 35 9 (1, 0, 0) L (ab_R a :: st) σ Q ↔ (ab_sh σ a).1 = 6 ∧ ab_Run X 35 12 (1, 0, 0) L (ab_I (ab_rd σ a 1) :: st) σ Q := gF_6_62 ko_X6_grip kc_X6_grip dX6_grip_9
theorem rX6_grip_12 : ab_Run X 35 12 (1, 0, 0) L st σ Q ↔ ab_Run X 35 13 (1, 0, 0) L (ab_I 3 :: st) σ Q := ab_r_iconst (by decide) kc_X6_grip dX6_grip_12
theorem rX6_grip_13 : ab_Run X 35 13 (1, 0, 0) L (ab_I b :: ab_I a :: st) σ Q ↔ (¬ a = b → ab_Run X 35 23 (1, 0, 0) L st σ Q) ∧ (¬ (¬ a = b) → ab_Run X 35 16 (1, 0, 0) L st σ Q) := ab_r_icmp_ne rfl kc_X6_grip dX6_grip_13
theorem rX6_grip_16 : ab_Run X 35 16 (1, 0, 0) [ab_R z, l1, l2, l3, l4, l5, l6] st σ Q ↔ z ≠ 0 ∧ ab_Run X 35 17 (1, 0, 0) [ab_R z, l1, l2, l3, l4, l5, l6] (ab_R z :: st) σ Q := ab_r_aload_n rfl kc_X6_grip dX6_grip_16
theorem rX6_grip_17 : ab_Run X 35 17 (1, 0, 0) L (ab_R a :: st) σ Q ↔ (ab_sh σ a).1 = 7 ∧ ab_Run X 35 20 (1, 0, 0) L (ab_I (ab_rd σ a 7) :: st) σ Q := gF_6_51 ko_X6_grip kc_X6_grip dX6_grip_17
theorem rX6_grip_20 : ab_Run X 35 20 (1, 0, 0) L st σ Q ↔ ab_Run X 35 24 (1, 0, 0) L st σ Q := ab_r_goto rfl kc_X6_grip dX6_grip_20
theorem rX6_grip_23 : ab_Run X 35 23 (1, 0, 0) L st σ Q ↔ ab_Run X 35 24 (1, 0, 0) L (ab_I 0 :: st) σ Q := ab_r_iconst (by decide) kc_X6_grip dX6_grip_23
theorem rX6_grip_24 : ab_Run X 35 24 (1, 0, 0) L (ab_I x4 :: ab_I x3 :: ab_I x2 :: ab_R x1 :: ab_R a :: st) σ Q ↔ ((ab_sh σ a).1 = 1 ∧ ab_cats st ≤ 8) ∧ ab_Do X 1 [ab_R a, ab_R x1, ab_I x2, ab_I x3, ab_I x4] σ (fun r σ' => ab_Run X 35 27 (1, 0, 0) L (ab_psh r st) σ' Q) := ab_r_callV (w := [ab_I x4, ab_I x3, ab_I x2, ab_R x1]) (as := [ab_R x1, ab_I x2, ab_I x3, ab_I x4]) (b1 := (0, 0, 0)) 0 (Or.inl rfl) (by decide) ko_X6_grip qM_6_65 (by decide) rfl rfl rfl rfl rfl (by decide) (Nat.le_of_ble_eq_true rfl) kc_X6_grip dX6_grip_24
theorem rX6_grip_27 : ab_Run X 35 27 (1, 0, 0) [l0, ab_R z, l2, l3, l4, l5, l6] st σ Q ↔ z ≠ 0 ∧ ab_Run X 35 28 (1, 0, 0) [l0, ab_R z, l2, l3, l4, l5, l6] (ab_R z :: st) σ Q := ab_r_aload_n rfl kc_X6_grip dX6_grip_27
theorem rX6_grip_28 : ab_Run X 35 28 (1, 0, 0) [ab_R z, l1, l2, l3, l4, l5, l6] st σ Q ↔ z ≠ 0 ∧ ab_Run X 35 29 (1, 0, 0) [ab_R z, l1, l2, l3, l4, l5, l6] (ab_R z :: st) σ Q := ab_r_aload_n rfl kc_X6_grip dX6_grip_28
theorem rX6_grip_29 : ab_Run X 35 29 (1, 0, 0) L (ab_R a :: st) σ Q ↔ (ab_sh σ a).1 = 7 ∧ ab_Run X 35 32 (1, 0, 0) L (ab_I (ab_rd σ a 9) :: st) σ Q := gF_6_61 ko_X6_grip kc_X6_grip dX6_grip_29
theorem rX6_grip_32 : ab_Run X 35 32 (1, 0, 0) [l0, l1, l2, l3, l4, ab_I z, l6] st σ Q ↔ ab_Run X 35 34 (1, 0, 0) [l0, l1, l2, l3, l4, ab_I z, l6] (ab_I z :: st) σ Q := ab_r_iload rfl kc_X6_grip dX6_grip_32
theorem rX6_grip_34 : ab_Run X 35 34 (1, 0, 0) [l0, l1, l2, l3, l4, l5, ab_I z] st σ Q ↔ ab_Run X 35 36 (1, 0, 0) [l0, l1, l2, l3, l4, l5, ab_I z] (ab_I z :: st) σ Q := ab_r_iload rfl kc_X6_grip dX6_grip_34
theorem rX6_grip_36 : ab_Run X 35 36 (1, 0, 0) L (ab_I a :: st) σ Q ↔ (¬ a = 0 → ab_Run X 35 48 (1, 0, 0) L st σ Q) ∧ (¬ (¬ a = 0) → ab_Run X 35 39 (1, 0, 0) L st σ Q) := ab_r_if_ne rfl kc_X6_grip dX6_grip_36
theorem rX6_grip_39 : ab_Run X 35 39 (1, 0, 0) [l0, l1, l2, l3, ab_R z, l5, l6] st σ Q ↔ z ≠ 0 ∧ ab_Run X 35 41 (1, 0, 0) [l0, l1, l2, l3, ab_R z, l5, l6] (ab_R z :: st) σ Q := ab_r_aload rfl kc_X6_grip dX6_grip_39
theorem rX6_grip_41 : ab_Run X 35 41 (1, 0, 0) L (ab_R a :: st) σ Q ↔ (ab_sh σ a).1 = 6 ∧ ab_Run X 35 44 (1, 0, 0) L (ab_I (ab_rd σ a 1) :: st) σ Q := gF_6_62 ko_X6_grip kc_X6_grip dX6_grip_41
theorem rX6_grip_44 : ab_Run X 35 44 (1, 0, 0) L st σ Q ↔ ab_Run X 35 45 (1, 0, 0) L (ab_I 2 :: st) σ Q := ab_r_iconst (by decide) kc_X6_grip dX6_grip_44
theorem rX6_grip_45 : ab_Run X 35 45 (1, 0, 0) L (ab_I b :: ab_I a :: st) σ Q ↔ (¬ a = b → ab_Run X 35 55 (1, 0, 0) L st σ Q) ∧ (¬ (¬ a = b) → ab_Run X 35 48 (1, 0, 0) L st σ Q) := ab_r_icmp_ne rfl kc_X6_grip dX6_grip_45
theorem rX6_grip_48 : ab_Run X 35 48 (1, 0, 0) [ab_R z, l1, l2, l3, l4, l5, l6] st σ Q ↔ z ≠ 0 ∧ ab_Run X 35 49 (1, 0, 0) [ab_R z, l1, l2, l3, l4, l5, l6] (ab_R z :: st) σ Q := ab_r_aload_n rfl kc_X6_grip dX6_grip_48
theorem rX6_grip_49 : ab_Run X 35 49 (1, 0, 0) L (ab_R a :: st) σ Q ↔ (ab_sh σ a).1 = 7 ∧ ab_Run X 35 52 (1, 0, 0) L (ab_I (ab_rd σ a 6) :: st) σ Q := gF_6_47 ko_X6_grip kc_X6_grip dX6_grip_49
theorem rX6_grip_52 : ab_Run X 35 52 (1, 0, 0) L st σ Q ↔ ab_Run X 35 56 (1, 0, 0) L st σ Q := ab_r_goto rfl kc_X6_grip dX6_grip_52
theorem rX6_grip_55 : ab_Run X 35 55 (1, 0, 0) L st σ Q ↔ ab_Run X 35 56 (1, 0, 0) L (ab_I 0 :: st) σ Q := ab_r_iconst (by decide) kc_X6_grip dX6_grip_55
theorem rX6_grip_56 : ab_Run X 35 56 (1, 0, 0) L (ab_I x3 :: ab_I x2 :: ab_I x1 :: ab_R a :: st) σ Q ↔ ((ab_sh σ a).1 = 1 ∧ ab_cats st ≤ 8) ∧ ab_Do X 2 [ab_R a, ab_I x1, ab_I x2, ab_I x3] σ (fun r σ' => ab_Run X 35 59 (1, 0, 0) L (ab_psh r st) σ' Q) := ab_r_callV (w := [ab_I x3, ab_I x2, ab_I x1]) (as := [ab_I x1, ab_I x2, ab_I x3]) (b1 := (0, 0, 0)) 0 (Or.inl rfl) (by decide) ko_X6_grip qM_6_69 (by decide) rfl rfl rfl rfl rfl (by decide) (Nat.le_of_ble_eq_true rfl) kc_X6_grip dX6_grip_56
theorem rX6_grip_59 : ab_Run X 35 59 (1, 0, 0) L [] σ Q ↔ Q none σ := ab_r_return rfl kc_X6_grip dX6_grip_59
theorem kc_X6_resolve : ab_code 36 = cX6_resolve := rfl
theorem ko_X6_resolve : ab_ow 36 = 6 := rfl
theorem rX6_resolve_0 : ab_Run X 36 0 (1, 0, 0) [l0, ab_I z, l2, l3] st σ Q ↔ ab_Run X 36 1 (1, 0, 0) [l0, ab_I z, l2, l3] (ab_I z :: st) σ Q := ab_r_iload_n rfl kc_X6_resolve dX6_resolve_0
theorem rX6_resolve_1 : ab_Run X 36 1 (1, 0, 0) [ab_R z, l1, l2, l3] st σ Q ↔ z ≠ 0 ∧ ab_Run X 36 2 (1, 0, 0) [ab_R z, l1, l2, l3] (ab_R z :: st) σ Q := ab_r_aload_n rfl kc_X6_resolve dX6_resolve_1
theorem rX6_resolve_2 : ab_Run X 36 2 (1, 0, 0) L (ab_R a :: st) σ Q ↔ (ab_sh σ a).1 = 7 ∧ ab_Run X 36 5 (1, 0, 0) L (ab_R (ab_rd σ a 0) :: st) σ Q := gF_6_12 ko_X6_resolve kc_X6_resolve dX6_resolve_2
theorem rX6_resolve_5 : ab_Run X 36 5 (1, 0, 0) L (ab_R a :: st) σ Q ↔ (ab_sh σ a).1 = 1 ∧ ab_Run X 36 8 (1, 0, 0) L (ab_I (ab_rd σ a 0) :: st) σ Q := gF_6_73 ko_X6_resolve kc_X6_resolve dX6_resolve_5
theorem rX6_resolve_8 : ab_Run X 36 8 (1, 0, 0) L (ab_I b :: ab_I a :: st) σ Q ↔ (b ≤ a → ab_Run X 36 17 (1, 0, 0) L st σ Q) ∧ (¬ (b ≤ a) → ab_Run X 36 11 (1, 0, 0) L st σ Q) := ab_r_icmp_ge rfl kc_X6_resolve dX6_resolve_8
theorem rX6_resolve_11 : ab_Run X 36 11 (1, 0, 0) [l0, ab_I z, l2, l3] st σ Q ↔ ab_Run X 36 12 (1, 0, 0) [l0, ab_I z, l2, l3] (ab_I z :: st) σ Q := ab_r_iload_n rfl kc_X6_resolve dX6_resolve_11
theorem rX6_resolve_12 : ab_Run X 36 12 (1, 0, 0) L st σ Q ↔ ab_Run X 36 13 (1, 0, 0) L (ab_I 1 :: st) σ Q := ab_r_iconst (by decide) kc_X6_resolve dX6_resolve_12
theorem rX6_resolve_13 : ab_Run X 36 13 (1, 0, 0) L (ab_I b :: ab_I a :: st) σ Q ↔ ab_Run X 36 14 (1, 0, 0) L (ab_I (ab_w32 (a + b)) :: st) σ Q := ab_r_iadd kc_X6_resolve dX6_resolve_13
theorem rX6_resolve_14 : ab_Run X 36 14 (1, 0, 0) L st σ Q ↔ ab_Run X 36 18 (1, 0, 0) L st σ Q := ab_r_goto rfl kc_X6_resolve dX6_resolve_14
theorem rX6_resolve_17 : ab_Run X 36 17 (1, 0, 0) L st σ Q ↔ ab_Run X 36 18 (1, 0, 0) L (ab_I 0 :: st) σ Q := ab_r_iconst (by decide) kc_X6_resolve dX6_resolve_17
theorem rX6_resolve_18 : ab_Run X 36 18 (1, 0, 0) [l0, l1, l2, l3] (ab_I z :: st) σ Q ↔ (!ab_isJ l1) = true ∧ ab_Run X 36 19 (1, 0, 0) [l0, l1, ab_I z, l3] st σ Q := ab_r_istore_n (Nat.le_of_ble_eq_true rfl) kc_X6_resolve dX6_resolve_18
theorem rX6_resolve_19 : ab_Run X 36 19 (1, 0, 0) [l0, ab_I z, l2, l3] st σ Q ↔ ab_Run X 36 20 (1, 0, 0) [l0, ab_I z, l2, l3] (ab_I z :: st) σ Q := ab_r_iload_n rfl kc_X6_resolve dX6_resolve_19
theorem rX6_resolve_20 : ab_Run X 36 20 (1, 0, 0) [ab_R z, l1, l2, l3] st σ Q ↔ z ≠ 0 ∧ ab_Run X 36 21 (1, 0, 0) [ab_R z, l1, l2, l3] (ab_R z :: st) σ Q := ab_r_aload_n rfl kc_X6_resolve dX6_resolve_20
theorem rX6_resolve_21 : ab_Run X 36 21 (1, 0, 0) L (ab_R a :: st) σ Q ↔ (ab_sh σ a).1 = 7 ∧ ab_Run X 36 24 (1, 0, 0) L (ab_R (ab_rd σ a 0) :: st) σ Q := gF_6_12 ko_X6_resolve kc_X6_resolve dX6_resolve_21
theorem rX6_resolve_24 : ab_Run X 36 24 (1, 0, 0) L (ab_R a :: st) σ Q ↔ (ab_sh σ a).1 = 1 ∧ ab_Run X 36 27 (1, 0, 0) L (ab_I (ab_rd σ a 0) :: st) σ Q := gF_6_73 ko_X6_resolve kc_X6_resolve dX6_resolve_24
theorem rX6_resolve_27 : ab_Run X 36 27 (1, 0, 0) L (ab_I b :: ab_I a :: st) σ Q ↔ (b ≤ a → ab_Run X 36 34 (1, 0, 0) L st σ Q) ∧ (¬ (b ≤ a) → ab_Run X 36 30 (1, 0, 0) L st σ Q) := ab_r_icmp_ge rfl kc_X6_resolve dX6_resolve_27
theorem rX6_resolve_30 : ab_Run X 36 30 (1, 0, 0) L st σ Q ↔ ab_Run X 36 31 (1, 0, 0) L (ab_I 0 :: st) σ Q := ab_r_iconst (by decide) kc_X6_resolve dX6_resolve_30
theorem rX6_resolve_31 : ab_Run X 36 31 (1, 0, 0) L st σ Q ↔ ab_Run X 36 45 (1, 0, 0) L st σ Q := ab_r_goto rfl kc_X6_resolve dX6_resolve_31
theorem rX6_resolve_34 : ab_Run X 36 34 (1, 0, 0) [l0, ab_I z, l2, l3] st σ Q ↔ ab_Run X 36 35 (1, 0, 0) [l0, ab_I z, l2, l3] (ab_I z :: st) σ Q := ab_r_iload_n rfl kc_X6_resolve dX6_resolve_34
theorem rX6_resolve_35 : ab_Run X 36 35 (1, 0, 0) [ab_R z, l1, l2, l3] st σ Q ↔ z ≠ 0 ∧ ab_Run X 36 36 (1, 0, 0) [ab_R z, l1, l2, l3] (ab_R z :: st) σ Q := ab_r_aload_n rfl kc_X6_resolve dX6_resolve_35
theorem rX6_resolve_36 : ab_Run X 36 36 (1, 0, 0) L (ab_R a :: st) σ Q ↔ (ab_sh σ a).1 = 7 ∧ ab_Run X 36 39 (1, 0, 0) L (ab_R (ab_rd σ a 0) :: st) σ Q := gF_6_12 ko_X6_resolve kc_X6_resolve dX6_resolve_36
theorem rX6_resolve_39 : ab_Run X 36 39 (1, 0, 0) L (ab_R a :: st) σ Q ↔ (ab_sh σ a).1 = 1 ∧ ab_Run X 36 42 (1, 0, 0) L (ab_I (ab_rd σ a 0) :: st) σ Q := gF_6_73 ko_X6_resolve kc_X6_resolve dX6_resolve_39
theorem rX6_resolve_42 : ab_Run X 36 42 (1, 0, 0) L (ab_I b :: ab_I a :: st) σ Q ↔ ab_Run X 36 43 (1, 0, 0) L (ab_I (ab_w32 (a - b)) :: st) σ Q := ab_r_isub kc_X6_resolve dX6_resolve_42
theorem rX6_resolve_43 : ab_Run X 36 43 (1, 0, 0) L st σ Q ↔ ab_Run X 36 44 (1, 0, 0) L (ab_I 1 :: st) σ Q := ab_r_iconst (by decide) kc_X6_resolve dX6_resolve_43
theorem rX6_resolve_44 : ab_Run X 36 44 (1, 0, 0) L (ab_I b :: ab_I a :: st) σ Q ↔ ab_Run X 36 45 (1, 0, 0) L (ab_I (ab_w32 (a + b)) :: st) σ Q := ab_r_iadd kc_X6_resolve dX6_resolve_44
theorem rX6_resolve_45 : ab_Run X 36 45 (1, 0, 0) [l0, l1, l2, l3] (ab_I z :: st) σ Q ↔ (!ab_isJ l2) = true ∧ ab_Run X 36 46 (1, 0, 0) [l0, l1, l2, ab_I z] st σ Q := ab_r_istore_n (Nat.le_of_ble_eq_true rfl) kc_X6_resolve dX6_resolve_45
theorem rX6_resolve_46 : ab_Run X 36 46 (1, 0, 0) [ab_R z, l1, l2, l3] st σ Q ↔ z ≠ 0 ∧ ab_Run X 36 47 (1, 0, 0) [ab_R z, l1, l2, l3] (ab_R z :: st) σ Q := ab_r_aload_n rfl kc_X6_resolve dX6_resolve_46
theorem rX6_resolve_47 : ab_Run X 36 47 (1, 0, 0) L (ab_R a :: st) σ Q ↔ (ab_sh σ a).1 = 7 ∧ ab_Run X 36 50 (1, 0, 0) L (ab_R (ab_rd σ a 0) :: st) σ Q := gF_6_12 ko_X6_resolve kc_X6_resolve dX6_resolve_47
theorem rX6_resolve_50 : ab_Run X 36 50 (1, 0, 0) [l0, l1, ab_I z, l3] st σ Q ↔ ab_Run X 36 51 (1, 0, 0) [l0, l1, ab_I z, l3] (ab_I z :: st) σ Q := ab_r_iload_n rfl kc_X6_resolve dX6_resolve_50
theorem rX6_resolve_51 : ab_Run X 36 51 (1, 0, 0) L (ab_I x1 :: ab_R a :: st) σ Q ↔ ((ab_sh σ a).1 = 1 ∧ ab_cats st ≤ 8) ∧ ab_Do X 3 [ab_R a, ab_I x1] σ (fun r σ' => ab_Run X 36 54 (1, 0, 0) L (ab_psh r st) σ' Q) := ab_r_callV (w := [ab_I x1]) (as := [ab_I x1]) (b1 := (0, 0, 0)) 0 (Or.inl rfl) (by decide) ko_X6_resolve qM_6_76 (by decide) rfl rfl rfl rfl rfl (by decide) (Nat.le_of_ble_eq_true rfl) kc_X6_resolve dX6_resolve_51
theorem rX6_resolve_54 : ab_Run X 36 54 (1, 0, 0) [ab_R z, l1, l2, l3] st σ Q ↔ z ≠ 0 ∧ ab_Run X 36 55 (1, 0, 0) [ab_R z, l1, l2, l3] (ab_R z :: st) σ Q := ab_r_aload_n rfl kc_X6_resolve dX6_resolve_54
theorem rX6_resolve_55 : ab_Run X 36 55 (1, 0, 0) L (ab_R a :: st) σ Q ↔ (ab_sh σ a).1 = 7 ∧ ab_Run X 36 58 (1, 0, 0) L (ab_R (ab_rd σ a 1) :: st) σ Q := gF_6_18 ko_X6_resolve kc_X6_resolve dX6_resolve_55
theorem rX6_resolve_58 : ab_Run X 36 58 (1, 0, 0) [l0, l1, l2, ab_I z] st σ Q ↔ ab_Run X 36 59 (1, 0, 0) [l0, l1, l2, ab_I z] (ab_I z :: st) σ Q := ab_r_iload_n rfl kc_X6_resolve dX6_resolve_58
theorem rX6_resolve_59 : ab_Run X 36 59 (1, 0, 0) L (ab_I x1 :: ab_R a :: st) σ Q ↔ ((ab_sh σ a).1 = 1 ∧ ab_cats st ≤ 8) ∧ ab_Do X 3 [ab_R a, ab_I x1] σ (fun r σ' => ab_Run X 36 62 (1, 0, 0) L (ab_psh r st) σ' Q) := ab_r_callV (w := [ab_I x1]) (as := [ab_I x1]) (b1 := (0, 0, 0)) 0 (Or.inl rfl) (by decide) ko_X6_resolve qM_6_76 (by decide) rfl rfl rfl rfl rfl (by decide) (Nat.le_of_ble_eq_true rfl) kc_X6_resolve dX6_resolve_59
theorem rX6_resolve_62 : ab_Run X 36 62 (1, 0, 0) [ab_R z, l1, l2, l3] st σ Q ↔ z ≠ 0 ∧ ab_Run X 36 63 (1, 0, 0) [ab_R z, l1, l2, l3] (ab_R z :: st) σ Q := ab_r_aload_n rfl kc_X6_resolve dX6_resolve_62
theorem rX6_resolve_63 : ab_Run X 36 63 (1, 0, 0) [ab_R z, l1, l2, l3] st σ Q ↔ z ≠ 0 ∧ ab_Run X 36 64 (1, 0, 0) [ab_R z, l1, l2, l3] (ab_R z :: st) σ Q := ab_r_aload_n rfl kc_X6_resolve dX6_resolve_63
theorem rX6_resolve_64 : ab_Run X 36 64 (1, 0, 0) L (ab_R a :: st) σ Q ↔ (ab_sh σ a).1 = 7 ∧ ab_Run X 36 67 (1, 0, 0) L (ab_R (ab_rd σ a 0) :: st) σ Q := gF_6_12 ko_X6_resolve kc_X6_resolve dX6_resolve_64
theorem rX6_resolve_67 : ab_Run X 36 67 (1, 0, 0) [l0, l1, ab_I z, l3] st σ Q ↔ ab_Run X 36 68 (1, 0, 0) [l0, l1, ab_I z, l3] (ab_I z :: st) σ Q := ab_r_iload_n rfl kc_X6_resolve dX6_resolve_67
theorem rX6_resolve_68 : ab_Run X 36 68 (1, 0, 0) [ab_R z, l1, l2, l3] st σ Q ↔ z ≠ 0 ∧ ab_Run X 36 69 (1, 0, 0) [ab_R z, l1, l2, l3] (ab_R z :: st) σ Q := ab_r_aload_n rfl kc_X6_resolve dX6_resolve_68
theorem rX6_resolve_69 : ab_Run X 36 69 (1, 0, 0) L (ab_R a :: st) σ Q ↔ (ab_sh σ a).1 = 7 ∧ ab_Run X 36 72 (1, 0, 0) L (ab_R (ab_rd σ a 1) :: st) σ Q := gF_6_18 ko_X6_resolve kc_X6_resolve dX6_resolve_69
theorem rX6_resolve_72 : ab_Run X 36 72 (1, 0, 0) [l0, l1, l2, ab_I z] st σ Q ↔ ab_Run X 36 73 (1, 0, 0) [l0, l1, l2, ab_I z] (ab_I z :: st) σ Q := ab_r_iload_n rfl kc_X6_resolve dX6_resolve_72
theorem rX6_resolve_73 : ab_Run X 36 73 (1, 0, 0) L (ab_I x4 :: ab_R x3 :: ab_I x2 :: ab_R x1 :: ab_R a :: st) σ Q ↔ ((ab_sh σ a).1 = 7 ∧ ab_cats st ≤ 8) ∧ ab_Do X 38 [ab_R a, ab_R x1, ab_I x2, ab_R x3, ab_I x4] σ (fun r σ' => ab_Run X 36 76 (1, 0, 0) L (ab_psh r st) σ' Q) := ab_r_callV (w := [ab_I x4, ab_R x3, ab_I x2, ab_R x1]) (as := [ab_R x1, ab_I x2, ab_R x3, ab_I x4]) (b1 := (0, 0, 0)) 0 (Or.inl rfl) (by decide) ko_X6_resolve qM_6_80 (by decide) rfl rfl rfl rfl rfl (by decide) (Nat.le_of_ble_eq_true rfl) kc_X6_resolve dX6_resolve_73
theorem rX6_resolve_76 : ab_Run X 36 76 (1, 0, 0) L [ab_I v] σ Q ↔ Q (some (ab_I v)) σ := ab_r_ireturnI rfl kc_X6_resolve dX6_resolve_76
theorem kc_X6_breakPlace : ab_code 37 = cX6_breakPlace := rfl
theorem ko_X6_breakPlace : ab_ow 37 = 6 := rfl
theorem rX6_breakPlace_0 : ab_Run X 37 0 (2, 0, 0) [ab_R z, l1] st σ Q ↔ z ≠ 0 ∧ ab_Run X 37 1 (2, 0, 0) [ab_R z, l1] (ab_R z :: st) σ Q := ab_r_aload_n rfl kc_X6_breakPlace dX6_breakPlace_0
theorem rX6_breakPlace_1 : ab_Run X 37 1 (2, 0, 0) L st σ Q ↔ ab_Run X 37 2 (2, 0, 0) L (ab_I (-1) :: st) σ Q := ab_r_iconst (by decide) kc_X6_breakPlace dX6_breakPlace_1
theorem rX6_breakPlace_2 : ab_Run X 37 2 (2, 0, 0) L (ab_I x1 :: ab_R a :: st) σ Q ↔ ((ab_sh σ a).1 = 7 ∧ ab_cats st ≤ 8) ∧ ab_Do X 36 [ab_R a, ab_I x1] σ (fun r σ' => ab_Run X 37 5 (2, 0, 0) L (ab_psh r st) σ' Q) := ab_r_callV (w := [ab_I x1]) (as := [ab_I x1]) (b1 := (1, 0, 0)) 0 (Or.inl rfl) (by decide) ko_X6_breakPlace qM_6_84 (by decide) rfl rfl rfl rfl rfl (by decide) (Nat.le_of_ble_eq_true rfl) kc_X6_breakPlace dX6_breakPlace_2
theorem rX6_breakPlace_5 : ab_Run X 37 5 (2, 0, 0) [l0, l1] (ab_I z :: st) σ Q ↔ (!ab_isJ l0) = true ∧ ab_Run X 37 6 (2, 0, 0) [l0, ab_I z] st σ Q := ab_r_istore_n (Nat.le_of_ble_eq_true rfl) kc_X6_breakPlace dX6_breakPlace_5
theorem rX6_breakPlace_6 : ab_Run X 37 6 (2, 0, 0) [l0, ab_I z] st σ Q ↔ ab_Run X 37 7 (2, 0, 0) [l0, ab_I z] (ab_I z :: st) σ Q := ab_r_iload_n rfl kc_X6_breakPlace dX6_breakPlace_6
theorem rX6_breakPlace_7 : ab_Run X 37 7 (2, 0, 0) L (ab_I a :: st) σ Q ↔ (¬ a = 0 → ab_Run X 37 23 (2, 0, 0) L st σ Q) ∧ (¬ (¬ a = 0) → ab_Run X 37 10 (2, 0, 0) L st σ Q) := ab_r_if_ne rfl kc_X6_breakPlace dX6_breakPlace_7
theorem rX6_breakPlace_10 : ab_Run X 37 10 (2, 0, 0) L st σ Q ↔ ab_Run X 37 12 (2, 0, 0) L (ab_I 10 :: st) σ Q := ab_r_bipush (by decide) kc_X6_breakPlace dX6_breakPlace_10
theorem rX6_breakPlace_12 : ab_Run X 37 12 (2, 0, 0) [ab_R z, l1] st σ Q ↔ z ≠ 0 ∧ ab_Run X 37 13 (2, 0, 0) [ab_R z, l1] (ab_R z :: st) σ Q := ab_r_aload_n rfl kc_X6_breakPlace dX6_breakPlace_12
theorem rX6_breakPlace_13 : ab_Run X 37 13 (2, 0, 0) L (ab_R a :: st) σ Q ↔ (ab_sh σ a).1 = 7 ∧ ab_Run X 37 16 (2, 0, 0) L (ab_R (ab_rd σ a 1) :: st) σ Q := gF_6_18 ko_X6_breakPlace kc_X6_breakPlace dX6_breakPlace_13
theorem rX6_breakPlace_16 : ab_Run X 37 16 (2, 0, 0) L (ab_R a :: st) σ Q ↔ (ab_sh σ a).1 = 1 ∧ ab_Run X 37 19 (2, 0, 0) L (ab_R (ab_rd σ a 3) :: st) σ Q := gF_6_88 ko_X6_breakPlace kc_X6_breakPlace dX6_breakPlace_16
theorem rX6_breakPlace_19 : ab_Run X 37 19 (2, 0, 0) L st σ Q ↔ ab_Run X 37 20 (2, 0, 0) L (ab_I 0 :: st) σ Q := ab_r_iconst (by decide) kc_X6_breakPlace dX6_breakPlace_19
theorem rX6_breakPlace_20 : ab_Run X 37 20 (2, 0, 0) L (ab_I i :: ab_R a :: st) σ Q ↔ ((ab_sh σ a).1 = 21 ∧ 0 ≤ i ∧ i < (ab_sh σ a).2) ∧ ab_Run X 37 21 (2, 0, 0) L (ab_I (ab_rd σ a i) :: st) σ Q := ab_r_iaload (by decide) kc_X6_breakPlace dX6_breakPlace_20
theorem rX6_breakPlace_21 : ab_Run X 37 21 (2, 0, 0) L (ab_I b :: ab_I a :: st) σ Q ↔ ab_Run X 37 22 (2, 0, 0) L (ab_I (ab_w32 (a + b)) :: st) σ Q := ab_r_iadd kc_X6_breakPlace dX6_breakPlace_21
theorem rX6_breakPlace_22 : ab_Run X 37 22 (2, 0, 0) L [ab_I v] σ Q ↔ Q (some (ab_I v)) σ := ab_r_ireturnI rfl kc_X6_breakPlace dX6_breakPlace_22
theorem rX6_breakPlace_23 : ab_Run X 37 23 (2, 0, 0) [l0, ab_I z] st σ Q ↔ ab_Run X 37 24 (2, 0, 0) [l0, ab_I z] (ab_I z :: st) σ Q := ab_r_iload_n rfl kc_X6_breakPlace dX6_breakPlace_23
theorem rX6_breakPlace_24 : ab_Run X 37 24 (2, 0, 0) L st σ Q ↔ ab_Run X 37 25 (2, 0, 0) L (ab_I 1 :: st) σ Q := ab_r_iconst (by decide) kc_X6_breakPlace dX6_breakPlace_24
theorem rX6_breakPlace_25 : ab_Run X 37 25 (2, 0, 0) L (ab_I b :: ab_I a :: st) σ Q ↔ (¬ a = b → ab_Run X 37 42 (2, 0, 0) L st σ Q) ∧ (¬ (¬ a = b) → ab_Run X 37 28 (2, 0, 0) L st σ Q) := ab_r_icmp_ne rfl kc_X6_breakPlace dX6_breakPlace_25
theorem rX6_breakPlace_28 : ab_Run X 37 28 (2, 0, 0) L st σ Q ↔ ab_Run X 37 29 (2, 0, 0) L (ab_I 0 :: st) σ Q := ab_r_iconst (by decide) kc_X6_breakPlace dX6_breakPlace_28
theorem rX6_breakPlace_29 : ab_Run X 37 29 (2, 0, 0) [ab_R z, l1] st σ Q ↔ z ≠ 0 ∧ ab_Run X 37 30 (2, 0, 0) [ab_R z, l1] (ab_R z :: st) σ Q := ab_r_aload_n rfl kc_X6_breakPlace dX6_breakPlace_29
theorem rX6_breakPlace_30 : ab_Run X 37 30 (2, 0, 0) L (ab_R a :: st) σ Q ↔ (ab_sh σ a).1 = 7 ∧ ab_Run X 37 33 (2, 0, 0) L (ab_R (ab_rd σ a 0) :: st) σ Q := gF_6_12 ko_X6_breakPlace kc_X6_breakPlace dX6_breakPlace_30
theorem rX6_breakPlace_33 : ab_Run X 37 33 (2, 0, 0) L (ab_R a :: st) σ Q ↔ (ab_sh σ a).1 = 1 ∧ ab_Run X 37 36 (2, 0, 0) L (ab_R (ab_rd σ a 3) :: st) σ Q := gF_6_88 ko_X6_breakPlace kc_X6_breakPlace dX6_breakPlace_33
theorem rX6_breakPlace_36 : ab_Run X 37 36 (2, 0, 0) L st σ Q ↔ ab_Run X 37 37 (2, 0, 0) L (ab_I 0 :: st) σ Q := ab_r_iconst (by decide) kc_X6_breakPlace dX6_breakPlace_36
theorem rX6_breakPlace_37 : ab_Run X 37 37 (2, 0, 0) L (ab_I i :: ab_R a :: st) σ Q ↔ ((ab_sh σ a).1 = 21 ∧ 0 ≤ i ∧ i < (ab_sh σ a).2) ∧ ab_Run X 37 38 (2, 0, 0) L (ab_I (ab_rd σ a i) :: st) σ Q := ab_r_iaload (by decide) kc_X6_breakPlace dX6_breakPlace_37
theorem rX6_breakPlace_38 : ab_Run X 37 38 (2, 0, 0) L (ab_I b :: ab_I a :: st) σ Q ↔ ab_Run X 37 39 (2, 0, 0) L (ab_I (ab_w32 (a + b)) :: st) σ Q := ab_r_iadd kc_X6_breakPlace dX6_breakPlace_38
theorem rX6_breakPlace_39 : ab_Run X 37 39 (2, 0, 0) L st σ Q ↔ ab_Run X 37 44 (2, 0, 0) L st σ Q := ab_r_goto rfl kc_X6_breakPlace dX6_breakPlace_39
theorem rX6_breakPlace_42 : ab_Run X 37 42 (2, 0, 0) L st σ Q ↔ ab_Run X 37 44 (2, 0, 0) L (ab_I (-2) :: st) σ Q := ab_r_bipush (by decide) kc_X6_breakPlace dX6_breakPlace_42
theorem rX6_breakPlace_44 : ab_Run X 37 44 (2, 0, 0) L [ab_I v] σ Q ↔ Q (some (ab_I v)) σ := ab_r_ireturnI rfl kc_X6_breakPlace dX6_breakPlace_44
theorem kc_X6_compare : ab_code 38 = cX6_compare := rfl
theorem ko_X6_compare : ab_ow 38 = 6 := rfl
theorem rX6_compare_0 : ab_Run X 38 0 (0, 0, 0) [l0, ab_R z, l2, l3, l4, l5, l6, l7, l8] st σ Q ↔ z ≠ 0 ∧ ab_Run X 38 1 (0, 0, 0) [l0, ab_R z, l2, l3, l4, l5, l6, l7, l8] (ab_R z :: st) σ Q := ab_r_aload_n rfl kc_X6_compare dX6_compare_0
theorem rX6_compare_1 : ab_Run X 38 1 (0, 0, 0) L (ab_R a :: st) σ Q ↔ (ab_sh σ a).1 = 1 ∧ ab_Run X 38 4 (0, 0, 0) L (ab_R (ab_rd σ a 3) :: st) σ Q := gF_6_88 ko_X6_compare kc_X6_compare dX6_compare_1
theorem rX6_compare_4 : ab_Run X 38 4 (0, 0, 0) [l0, l1, ab_I z, l3, l4, l5, l6, l7, l8] st σ Q ↔ ab_Run X 38 5 (0, 0, 0) [l0, l1, ab_I z, l3, l4, l5, l6, l7, l8] (ab_I z :: st) σ Q := ab_r_iload_n rfl kc_X6_compare dX6_compare_4
theorem rX6_compare_5 : ab_Run X 38 5 (0, 0, 0) L (ab_I i :: ab_R a :: st) σ Q ↔ ((ab_sh σ a).1 = 21 ∧ 0 ≤ i ∧ i < (ab_sh σ a).2) ∧ ab_Run X 38 6 (0, 0, 0) L (ab_I (ab_rd σ a i) :: st) σ Q := ab_r_iaload (by decide) kc_X6_compare dX6_compare_5
theorem rX6_compare_6 : ab_Run X 38 6 (0, 0, 0) L st σ Q ↔ ab_Run X 38 7 (0, 0, 0) L (ab_I (-1) :: st) σ Q := ab_r_iconst (by decide) kc_X6_compare dX6_compare_6
theorem rX6_compare_7 : ab_Run X 38 7 (0, 0, 0) L (ab_I b :: ab_I a :: st) σ Q ↔ (¬ a = b → ab_Run X 38 14 (0, 0, 0) L st σ Q) ∧ (¬ (¬ a = b) → ab_Run X 38 10 (0, 0, 0) L st σ Q) := ab_r_icmp_ne rfl kc_X6_compare dX6_compare_7
theorem rX6_compare_10 : ab_Run X 38 10 (0, 0, 0) L st σ Q ↔ ab_Run X 38 11 (0, 0, 0) L (ab_I 1 :: st) σ Q := ab_r_iconst (by decide) kc_X6_compare dX6_compare_10
theorem rX6_compare_11 : ab_Run X 38 11 (0, 0, 0) L st σ Q ↔ ab_Run X 38 15 (0, 0, 0) L st σ Q := ab_r_goto rfl kc_X6_compare dX6_compare_11
theorem rX6_compare_14 : ab_Run X 38 14 (0, 0, 0) L st σ Q ↔ ab_Run X 38 15 (0, 0, 0) L (ab_I 0 :: st) σ Q := ab_r_iconst (by decide) kc_X6_compare dX6_compare_14
theorem rX6_compare_15 : ab_Run X 38 15 (0, 0, 0) [l0, l1, l2, l3, l4, l5, l6, l7, l8] (ab_I z :: st) σ Q ↔ (!ab_isJ l4) = true ∧ ab_Run X 38 17 (0, 0, 0) [l0, l1, l2, l3, l4, ab_I z, l6, l7, l8] st σ Q := ab_r_istore (Nat.le_of_ble_eq_true rfl) kc_X6_compare dX6_compare_15
theorem rX6_compare_17 : ab_Run X 38 17 (0, 0, 0) [l0, l1, l2, ab_R z, l4, l5, l6, l7, l8] st σ Q ↔ z ≠ 0 ∧ ab_Run X 38 18 (0, 0, 0) [l0, l1, l2, ab_R z, l4, l5, l6, l7, l8] (ab_R z :: st) σ Q := ab_r_aload_n rfl kc_X6_compare dX6_compare_17
theorem rX6_compare_18 : ab_Run X 38 18 (0, 0, 0) L (ab_R a :: st) σ Q ↔ (ab_sh σ a).1 = 1 ∧ ab_Run X 38 21 (0, 0, 0) L (ab_R (ab_rd σ a 3) :: st) σ Q := gF_6_88 ko_X6_compare kc_X6_compare dX6_compare_18
theorem rX6_compare_21 : ab_Run X 38 21 (0, 0, 0) [l0, l1, l2, l3, ab_I z, l5, l6, l7, l8] st σ Q ↔ ab_Run X 38 23 (0, 0, 0) [l0, l1, l2, l3, ab_I z, l5, l6, l7, l8] (ab_I z :: st) σ Q := ab_r_iload rfl kc_X6_compare dX6_compare_21
theorem rX6_compare_23 : ab_Run X 38 23 (0, 0, 0) L (ab_I i :: ab_R a :: st) σ Q ↔ ((ab_sh σ a).1 = 21 ∧ 0 ≤ i ∧ i < (ab_sh σ a).2) ∧ ab_Run X 38 24 (0, 0, 0) L (ab_I (ab_rd σ a i) :: st) σ Q := ab_r_iaload (by decide) kc_X6_compare dX6_compare_23
theorem rX6_compare_24 : ab_Run X 38 24 (0, 0, 0) L st σ Q ↔ ab_Run X 38 25 (0, 0, 0) L (ab_I (-1) :: st) σ Q := ab_r_iconst (by decide) kc_X6_compare dX6_compare_24
theorem rX6_compare_25 : ab_Run X 38 25 (0, 0, 0) L (ab_I b :: ab_I a :: st) σ Q ↔ (¬ a = b → ab_Run X 38 32 (0, 0, 0) L st σ Q) ∧ (¬ (¬ a = b) → ab_Run X 38 28 (0, 0, 0) L st σ Q) := ab_r_icmp_ne rfl kc_X6_compare dX6_compare_25
theorem rX6_compare_28 : ab_Run X 38 28 (0, 0, 0) L st σ Q ↔ ab_Run X 38 29 (0, 0, 0) L (ab_I 1 :: st) σ Q := ab_r_iconst (by decide) kc_X6_compare dX6_compare_28
theorem rX6_compare_29 : ab_Run X 38 29 (0, 0, 0) L st σ Q ↔ ab_Run X 38 33 (0, 0, 0) L st σ Q := ab_r_goto rfl kc_X6_compare dX6_compare_29
theorem rX6_compare_32 : ab_Run X 38 32 (0, 0, 0) L st σ Q ↔ ab_Run X 38 33 (0, 0, 0) L (ab_I 0 :: st) σ Q := ab_r_iconst (by decide) kc_X6_compare dX6_compare_32
theorem rX6_compare_33 : ab_Run X 38 33 (0, 0, 0) [l0, l1, l2, l3, l4, l5, l6, l7, l8] (ab_I z :: st) σ Q ↔ (!ab_isJ l5) = true ∧ ab_Run X 38 35 (0, 0, 0) [l0, l1, l2, l3, l4, l5, ab_I z, l7, l8] st σ Q := ab_r_istore (Nat.le_of_ble_eq_true rfl) kc_X6_compare dX6_compare_33
theorem rX6_compare_35 : ab_Run X 38 35 (0, 0, 0) [ab_R z, l1, l2, l3, l4, l5, l6, l7, l8] st σ Q ↔ z ≠ 0 ∧ ab_Run X 38 36 (0, 0, 0) [ab_R z, l1, l2, l3, l4, l5, l6, l7, l8] (ab_R z :: st) σ Q := ab_r_aload_n rfl kc_X6_compare dX6_compare_35
theorem rX6_compare_36 : ab_Run X 38 36 (0, 0, 0) L (ab_R a :: st) σ Q ↔ (ab_sh σ a).1 = 7 ∧ ab_Run X 38 39 (0, 0, 0) L (ab_I (ab_rd σ a 4) :: st) σ Q := gF_6_34 ko_X6_compare kc_X6_compare dX6_compare_36
theorem rX6_compare_39 : ab_Run X 38 39 (0, 0, 0) L (ab_I a :: st) σ Q ↔ (¬ a = 0 → ab_Run X 38 52 (0, 0, 0) L st σ Q) ∧ (¬ (¬ a = 0) → ab_Run X 38 42 (0, 0, 0) L st σ Q) := ab_r_if_ne rfl kc_X6_compare dX6_compare_39
theorem rX6_compare_42 : ab_Run X 38 42 (0, 0, 0) [l0, l1, l2, l3, l4, ab_I z, l6, l7, l8] st σ Q ↔ ab_Run X 38 44 (0, 0, 0) [l0, l1, l2, l3, l4, ab_I z, l6, l7, l8] (ab_I z :: st) σ Q := ab_r_iload rfl kc_X6_compare dX6_compare_42
theorem rX6_compare_44 : ab_Run X 38 44 (0, 0, 0) L (ab_I a :: st) σ Q ↔ (a = 0 → ab_Run X 38 54 (0, 0, 0) L st σ Q) ∧ (¬ (a = 0) → ab_Run X 38 47 (0, 0, 0) L st σ Q) := ab_r_if_eq rfl kc_X6_compare dX6_compare_44
theorem rX6_compare_47 : ab_Run X 38 47 (0, 0, 0) [l0, l1, l2, l3, l4, l5, ab_I z, l7, l8] st σ Q ↔ ab_Run X 38 49 (0, 0, 0) [l0, l1, l2, l3, l4, l5, ab_I z, l7, l8] (ab_I z :: st) σ Q := ab_r_iload rfl kc_X6_compare dX6_compare_47
theorem rX6_compare_49 : ab_Run X 38 49 (0, 0, 0) L (ab_I a :: st) σ Q ↔ (a = 0 → ab_Run X 38 54 (0, 0, 0) L st σ Q) ∧ (¬ (a = 0) → ab_Run X 38 52 (0, 0, 0) L st σ Q) := ab_r_if_eq rfl kc_X6_compare dX6_compare_49
theorem rX6_compare_52 : ab_Run X 38 52 (0, 0, 0) L st σ Q ↔ ab_Run X 38 53 (0, 0, 0) L (ab_I 3 :: st) σ Q := ab_r_iconst (by decide) kc_X6_compare dX6_compare_52
theorem rX6_compare_53 : ab_Run X 38 53 (0, 0, 0) L [ab_I v] σ Q ↔ Q (some (ab_I v)) σ := ab_r_ireturnI rfl kc_X6_compare dX6_compare_53
theorem rX6_compare_54 : ab_Run X 38 54 (0, 0, 0) [l0, l1, l2, l3, l4, ab_I z, l6, l7, l8] st σ Q ↔ ab_Run X 38 56 (0, 0, 0) [l0, l1, l2, l3, l4, ab_I z, l6, l7, l8] (ab_I z :: st) σ Q := ab_r_iload rfl kc_X6_compare dX6_compare_54
theorem rX6_compare_56 : ab_Run X 38 56 (0, 0, 0) L (ab_I a :: st) σ Q ↔ (¬ a = 0 → ab_Run X 38 64 (0, 0, 0) L st σ Q) ∧ (¬ (¬ a = 0) → ab_Run X 38 59 (0, 0, 0) L st σ Q) := ab_r_if_ne rfl kc_X6_compare dX6_compare_56
theorem rX6_compare_59 : ab_Run X 38 59 (0, 0, 0) [l0, l1, l2, l3, l4, l5, ab_I z, l7, l8] st σ Q ↔ ab_Run X 38 61 (0, 0, 0) [l0, l1, l2, l3, l4, l5, ab_I z, l7, l8] (ab_I z :: st) σ Q := ab_r_iload rfl kc_X6_compare dX6_compare_59
theorem rX6_compare_61 : ab_Run X 38 61 (0, 0, 0) L (ab_I a :: st) σ Q ↔ (a = 0 → ab_Run X 38 75 (0, 0, 0) L st σ Q) ∧ (¬ (a = 0) → ab_Run X 38 64 (0, 0, 0) L st σ Q) := ab_r_if_eq rfl kc_X6_compare dX6_compare_61
theorem rX6_compare_64 : ab_Run X 38 64 (0, 0, 0) [l0, l1, l2, l3, l4, ab_I z, l6, l7, l8] st σ Q ↔ ab_Run X 38 66 (0, 0, 0) [l0, l1, l2, l3, l4, ab_I z, l6, l7, l8] (ab_I z :: st) σ Q := ab_r_iload rfl kc_X6_compare dX6_compare_64
theorem rX6_compare_66 : ab_Run X 38 66 (0, 0, 0) L (ab_I a :: st) σ Q ↔ (a = 0 → ab_Run X 38 73 (0, 0, 0) L st σ Q) ∧ (¬ (a = 0) → ab_Run X 38 69 (0, 0, 0) L st σ Q) := ab_r_if_eq rfl kc_X6_compare dX6_compare_66
theorem rX6_compare_69 : ab_Run X 38 69 (0, 0, 0) L st σ Q ↔ ab_Run X 38 70 (0, 0, 0) L (ab_I 0 :: st) σ Q := ab_r_iconst (by decide) kc_X6_compare dX6_compare_69
theorem rX6_compare_70 : ab_Run X 38 70 (0, 0, 0) L st σ Q ↔ ab_Run X 38 74 (0, 0, 0) L st σ Q := ab_r_goto rfl kc_X6_compare dX6_compare_70
theorem rX6_compare_73 : ab_Run X 38 73 (0, 0, 0) L st σ Q ↔ ab_Run X 38 74 (0, 0, 0) L (ab_I 1 :: st) σ Q := ab_r_iconst (by decide) kc_X6_compare dX6_compare_73
theorem rX6_compare_74 : ab_Run X 38 74 (0, 0, 0) L [ab_I v] σ Q ↔ Q (some (ab_I v)) σ := ab_r_ireturnI rfl kc_X6_compare dX6_compare_74
theorem rX6_compare_75 : ab_Run X 38 75 (0, 0, 0) [l0, ab_R z, l2, l3, l4, l5, l6, l7, l8] st σ Q ↔ z ≠ 0 ∧ ab_Run X 38 76 (0, 0, 0) [l0, ab_R z, l2, l3, l4, l5, l6, l7, l8] (ab_R z :: st) σ Q := ab_r_aload_n rfl kc_X6_compare dX6_compare_75
theorem rX6_compare_76 : ab_Run X 38 76 (0, 0, 0) L (ab_R a :: st) σ Q ↔ (ab_sh σ a).1 = 1 ∧ ab_Run X 38 79 (0, 0, 0) L (ab_R (ab_rd σ a 4) :: st) σ Q := gF_6_91 ko_X6_compare kc_X6_compare dX6_compare_76
theorem rX6_compare_79 : ab_Run X 38 79 (0, 0, 0) [l0, l1, ab_I z, l3, l4, l5, l6, l7, l8] st σ Q ↔ ab_Run X 38 80 (0, 0, 0) [l0, l1, ab_I z, l3, l4, l5, l6, l7, l8] (ab_I z :: st) σ Q := ab_r_iload_n rfl kc_X6_compare dX6_compare_79
theorem rX6_compare_80 : ab_Run X 38 80 (0, 0, 0) L (ab_I i :: ab_R a :: st) σ Q ↔ ((ab_sh σ a).1 = 21 ∧ 0 ≤ i ∧ i < (ab_sh σ a).2) ∧ ab_Run X 38 81 (0, 0, 0) L (ab_I (ab_rd σ a i) :: st) σ Q := ab_r_iaload (by decide) kc_X6_compare dX6_compare_80
theorem rX6_compare_81 : ab_Run X 38 81 (0, 0, 0) [l0, l1, l2, ab_R z, l4, l5, l6, l7, l8] st σ Q ↔ z ≠ 0 ∧ ab_Run X 38 82 (0, 0, 0) [l0, l1, l2, ab_R z, l4, l5, l6, l7, l8] (ab_R z :: st) σ Q := ab_r_aload_n rfl kc_X6_compare dX6_compare_81
theorem rX6_compare_82 : ab_Run X 38 82 (0, 0, 0) L (ab_R a :: st) σ Q ↔ (ab_sh σ a).1 = 1 ∧ ab_Run X 38 85 (0, 0, 0) L (ab_R (ab_rd σ a 5) :: st) σ Q := gF_6_94 ko_X6_compare kc_X6_compare dX6_compare_82
theorem rX6_compare_85 : ab_Run X 38 85 (0, 0, 0) [l0, l1, l2, l3, ab_I z, l5, l6, l7, l8] st σ Q ↔ ab_Run X 38 87 (0, 0, 0) [l0, l1, l2, l3, ab_I z, l5, l6, l7, l8] (ab_I z :: st) σ Q := ab_r_iload rfl kc_X6_compare dX6_compare_85
theorem rX6_compare_87 : ab_Run X 38 87 (0, 0, 0) L (ab_I i :: ab_R a :: st) σ Q ↔ ((ab_sh σ a).1 = 21 ∧ 0 ≤ i ∧ i < (ab_sh σ a).2) ∧ ab_Run X 38 88 (0, 0, 0) L (ab_I (ab_rd σ a i) :: st) σ Q := ab_r_iaload (by decide) kc_X6_compare dX6_compare_87
theorem rX6_compare_88 : ab_Run X 38 88 (0, 0, 0) L (ab_I b :: ab_I a :: st) σ Q ↔ ab_Run X 38 89 (0, 0, 0) L (ab_I (ab_w32 (a * b)) :: st) σ Q := ab_r_imul kc_X6_compare dX6_compare_88
theorem rX6_compare_89 : ab_Run X 38 89 (0, 0, 0) [l0, l1, l2, l3, l4, l5, l6, l7, l8] (ab_I z :: st) σ Q ↔ (!ab_isJ l6) = true ∧ ab_Run X 38 91 (0, 0, 0) [l0, l1, l2, l3, l4, l5, l6, ab_I z, l8] st σ Q := ab_r_istore (Nat.le_of_ble_eq_true rfl) kc_X6_compare dX6_compare_89
theorem rX6_compare_91 : ab_Run X 38 91 (0, 0, 0) [l0, l1, l2, ab_R z, l4, l5, l6, l7, l8] st σ Q ↔ z ≠ 0 ∧ ab_Run X 38 92 (0, 0, 0) [l0, l1, l2, ab_R z, l4, l5, l6, l7, l8] (ab_R z :: st) σ Q := ab_r_aload_n rfl kc_X6_compare dX6_compare_91
theorem rX6_compare_92 : ab_Run X 38 92 (0, 0, 0) L (ab_R a :: st) σ Q ↔ (ab_sh σ a).1 = 1 ∧ ab_Run X 38 95 (0, 0, 0) L (ab_R (ab_rd σ a 4) :: st) σ Q := gF_6_91 ko_X6_compare kc_X6_compare dX6_compare_92
theorem rX6_compare_95 : ab_Run X 38 95 (0, 0, 0) [l0, l1, l2, l3, ab_I z, l5, l6, l7, l8] st σ Q ↔ ab_Run X 38 97 (0, 0, 0) [l0, l1, l2, l3, ab_I z, l5, l6, l7, l8] (ab_I z :: st) σ Q := ab_r_iload rfl kc_X6_compare dX6_compare_95
theorem rX6_compare_97 : ab_Run X 38 97 (0, 0, 0) L (ab_I i :: ab_R a :: st) σ Q ↔ ((ab_sh σ a).1 = 21 ∧ 0 ≤ i ∧ i < (ab_sh σ a).2) ∧ ab_Run X 38 98 (0, 0, 0) L (ab_I (ab_rd σ a i) :: st) σ Q := ab_r_iaload (by decide) kc_X6_compare dX6_compare_97
theorem rX6_compare_98 : ab_Run X 38 98 (0, 0, 0) [l0, ab_R z, l2, l3, l4, l5, l6, l7, l8] st σ Q ↔ z ≠ 0 ∧ ab_Run X 38 99 (0, 0, 0) [l0, ab_R z, l2, l3, l4, l5, l6, l7, l8] (ab_R z :: st) σ Q := ab_r_aload_n rfl kc_X6_compare dX6_compare_98
theorem rX6_compare_99 : ab_Run X 38 99 (0, 0, 0) L (ab_R a :: st) σ Q ↔ (ab_sh σ a).1 = 1 ∧ ab_Run X 38 102 (0, 0, 0) L (ab_R (ab_rd σ a 5) :: st) σ Q := gF_6_94 ko_X6_compare kc_X6_compare dX6_compare_99
theorem rX6_compare_102 : ab_Run X 38 102 (0, 0, 0) [l0, l1, ab_I z, l3, l4, l5, l6, l7, l8] st σ Q ↔ ab_Run X 38 103 (0, 0, 0) [l0, l1, ab_I z, l3, l4, l5, l6, l7, l8] (ab_I z :: st) σ Q := ab_r_iload_n rfl kc_X6_compare dX6_compare_102
theorem rX6_compare_103 : ab_Run X 38 103 (0, 0, 0) L (ab_I i :: ab_R a :: st) σ Q ↔ ((ab_sh σ a).1 = 21 ∧ 0 ≤ i ∧ i < (ab_sh σ a).2) ∧ ab_Run X 38 104 (0, 0, 0) L (ab_I (ab_rd σ a i) :: st) σ Q := ab_r_iaload (by decide) kc_X6_compare dX6_compare_103
theorem rX6_compare_104 : ab_Run X 38 104 (0, 0, 0) L (ab_I b :: ab_I a :: st) σ Q ↔ ab_Run X 38 105 (0, 0, 0) L (ab_I (ab_w32 (a * b)) :: st) σ Q := ab_r_imul kc_X6_compare dX6_compare_104
theorem rX6_compare_105 : ab_Run X 38 105 (0, 0, 0) [l0, l1, l2, l3, l4, l5, l6, l7, l8] (ab_I z :: st) σ Q ↔ (!ab_isJ l7) = true ∧ ab_Run X 38 107 (0, 0, 0) [l0, l1, l2, l3, l4, l5, l6, l7, ab_I z] st σ Q := ab_r_istore (Nat.le_of_ble_eq_true rfl) kc_X6_compare dX6_compare_105
theorem rX6_compare_107 : ab_Run X 38 107 (0, 0, 0) [l0, l1, l2, l3, l4, l5, l6, ab_I z, l8] st σ Q ↔ ab_Run X 38 109 (0, 0, 0) [l0, l1, l2, l3, l4, l5, l6, ab_I z, l8] (ab_I z :: st) σ Q := ab_r_iload rfl kc_X6_compare dX6_compare_107
theorem rX6_compare_109 : ab_Run X 38 109 (0, 0, 0) [l0, l1, l2, l3, l4, l5, l6, l7, ab_I z] st σ Q ↔ ab_Run X 38 111 (0, 0, 0) [l0, l1, l2, l3, l4, l5, l6, l7, ab_I z] (ab_I z :: st) σ Q := ab_r_iload rfl kc_X6_compare dX6_compare_109
theorem rX6_compare_111 : ab_Run X 38 111 (0, 0, 0) L (ab_I b :: ab_I a :: st) σ Q ↔ (¬ a = b → ab_Run X 38 116 (0, 0, 0) L st σ Q) ∧ (¬ (¬ a = b) → ab_Run X 38 114 (0, 0, 0) L st σ Q) := ab_r_icmp_ne rfl kc_X6_compare dX6_compare_111
theorem rX6_compare_114 : ab_Run X 38 114 (0, 0, 0) L st σ Q ↔ ab_Run X 38 115 (0, 0, 0) L (ab_I 2 :: st) σ Q := ab_r_iconst (by decide) kc_X6_compare dX6_compare_114
theorem rX6_compare_115 : ab_Run X 38 115 (0, 0, 0) L [ab_I v] σ Q ↔ Q (some (ab_I v)) σ := ab_r_ireturnI rfl kc_X6_compare dX6_compare_115
theorem rX6_compare_116 : ab_Run X 38 116 (0, 0, 0) [l0, l1, l2, l3, l4, l5, l6, ab_I z, l8] st σ Q ↔ ab_Run X 38 118 (0, 0, 0) [l0, l1, l2, l3, l4, l5, l6, ab_I z, l8] (ab_I z :: st) σ Q := ab_r_iload rfl kc_X6_compare dX6_compare_116
theorem rX6_compare_118 : ab_Run X 38 118 (0, 0, 0) [l0, l1, l2, l3, l4, l5, l6, l7, ab_I z] st σ Q ↔ ab_Run X 38 120 (0, 0, 0) [l0, l1, l2, l3, l4, l5, l6, l7, ab_I z] (ab_I z :: st) σ Q := ab_r_iload rfl kc_X6_compare dX6_compare_118
theorem rX6_compare_120 : ab_Run X 38 120 (0, 0, 0) L (ab_I b :: ab_I a :: st) σ Q ↔ (a ≤ b → ab_Run X 38 127 (0, 0, 0) L st σ Q) ∧ (¬ (a ≤ b) → ab_Run X 38 123 (0, 0, 0) L st σ Q) := ab_r_icmp_le rfl kc_X6_compare dX6_compare_120
theorem rX6_compare_123 : ab_Run X 38 123 (0, 0, 0) L st σ Q ↔ ab_Run X 38 124 (0, 0, 0) L (ab_I 1 :: st) σ Q := ab_r_iconst (by decide) kc_X6_compare dX6_compare_123
theorem rX6_compare_124 : ab_Run X 38 124 (0, 0, 0) L st σ Q ↔ ab_Run X 38 128 (0, 0, 0) L st σ Q := ab_r_goto rfl kc_X6_compare dX6_compare_124
theorem rX6_compare_127 : ab_Run X 38 127 (0, 0, 0) L st σ Q ↔ ab_Run X 38 128 (0, 0, 0) L (ab_I 0 :: st) σ Q := ab_r_iconst (by decide) kc_X6_compare dX6_compare_127
theorem rX6_compare_128 : ab_Run X 38 128 (0, 0, 0) L [ab_I v] σ Q ↔ Q (some (ab_I v)) σ := ab_r_ireturnI rfl kc_X6_compare dX6_compare_128
theorem kc_X6_weighLaid : ab_code 39 = cX6_weighLaid := rfl
theorem ko_X6_weighLaid : ab_ow 39 = 6 := rfl
theorem rX6_weighLaid_0 : ab_Run X 39 0 (2, 0, 0) [ab_R z] st σ Q ↔ z ≠ 0 ∧ ab_Run X 39 1 (2, 0, 0) [ab_R z] (ab_R z :: st) σ Q := ab_r_aload_n rfl kc_X6_weighLaid dX6_weighLaid_0
theorem rX6_weighLaid_1 : ab_Run X 39 1 (2, 0, 0) L (ab_R a :: st) σ Q ↔ (ab_sh σ a).1 = 7 ∧ ab_Run X 39 4 (2, 0, 0) L (ab_R (ab_rd σ a 0) :: st) σ Q := gF_6_12 ko_X6_weighLaid kc_X6_weighLaid dX6_weighLaid_1
theorem rX6_weighLaid_4 : ab_Run X 39 4 (2, 0, 0) L (ab_R a :: st) σ Q ↔ ((ab_sh σ a).1 = 1 ∧ ab_cats st ≤ 8) ∧ ab_Do X 4 [ab_R a] σ (fun r σ' => ab_Run X 39 7 (2, 0, 0) L (ab_psh r st) σ' Q) := ab_r_callV (w := []) (as := []) (b1 := (1, 0, 0)) 0 (Or.inl rfl) (by decide) ko_X6_weighLaid qM_6_97 (by decide) rfl rfl rfl rfl rfl (by decide) (Nat.le_of_ble_eq_true rfl) kc_X6_weighLaid dX6_weighLaid_4
theorem rX6_weighLaid_7 : ab_Run X 39 7 (2, 0, 0) [ab_R z] st σ Q ↔ z ≠ 0 ∧ ab_Run X 39 8 (2, 0, 0) [ab_R z] (ab_R z :: st) σ Q := ab_r_aload_n rfl kc_X6_weighLaid dX6_weighLaid_7
theorem rX6_weighLaid_8 : ab_Run X 39 8 (2, 0, 0) L (ab_R a :: st) σ Q ↔ (ab_sh σ a).1 = 7 ∧ ab_Run X 39 11 (2, 0, 0) L (ab_R (ab_rd σ a 1) :: st) σ Q := gF_6_18 ko_X6_weighLaid kc_X6_weighLaid dX6_weighLaid_8
theorem rX6_weighLaid_11 : ab_Run X 39 11 (2, 0, 0) L (ab_R a :: st) σ Q ↔ ((ab_sh σ a).1 = 1 ∧ ab_cats st ≤ 8) ∧ ab_Do X 4 [ab_R a] σ (fun r σ' => ab_Run X 39 14 (2, 0, 0) L (ab_psh r st) σ' Q) := ab_r_callV (w := []) (as := []) (b1 := (1, 0, 0)) 0 (Or.inl rfl) (by decide) ko_X6_weighLaid qM_6_97 (by decide) rfl rfl rfl rfl rfl (by decide) (Nat.le_of_ble_eq_true rfl) kc_X6_weighLaid dX6_weighLaid_11
theorem rX6_weighLaid_14 : ab_Run X 39 14 (2, 0, 0) [ab_R z] st σ Q ↔ z ≠ 0 ∧ ab_Run X 39 15 (2, 0, 0) [ab_R z] (ab_R z :: st) σ Q := ab_r_aload_n rfl kc_X6_weighLaid dX6_weighLaid_14
theorem rX6_weighLaid_15 : ab_Run X 39 15 (2, 0, 0) [ab_R z] st σ Q ↔ z ≠ 0 ∧ ab_Run X 39 16 (2, 0, 0) [ab_R z] (ab_R z :: st) σ Q := ab_r_aload_n rfl kc_X6_weighLaid dX6_weighLaid_15
theorem rX6_weighLaid_16 : ab_Run X 39 16 (2, 0, 0) L (ab_R a :: st) σ Q ↔ (ab_sh σ a).1 = 7 ∧ ab_Run X 39 19 (2, 0, 0) L (ab_R (ab_rd σ a 0) :: st) σ Q := gF_6_12 ko_X6_weighLaid kc_X6_weighLaid dX6_weighLaid_16
theorem rX6_weighLaid_19 : ab_Run X 39 19 (2, 0, 0) [ab_R z] st σ Q ↔ z ≠ 0 ∧ ab_Run X 39 20 (2, 0, 0) [ab_R z] (ab_R z :: st) σ Q := ab_r_aload_n rfl kc_X6_weighLaid dX6_weighLaid_19
theorem rX6_weighLaid_20 : ab_Run X 39 20 (2, 0, 0) L (ab_R a :: st) σ Q ↔ (ab_sh σ a).1 = 7 ∧ ab_Run X 39 23 (2, 0, 0) L (ab_R (ab_rd σ a 1) :: st) σ Q := gF_6_18 ko_X6_weighLaid kc_X6_weighLaid dX6_weighLaid_20
theorem rX6_weighLaid_23 : ab_Run X 39 23 (2, 0, 0) L (ab_R x2 :: ab_R x1 :: ab_R a :: st) σ Q ↔ ((ab_sh σ a).1 = 7 ∧ ab_cats st ≤ 8) ∧ ab_Do X 40 [ab_R a, ab_R x1, ab_R x2] σ (fun r σ' => ab_Run X 39 26 (2, 0, 0) L (ab_psh r st) σ' Q) := ab_r_callV (w := [ab_R x2, ab_R x1]) (as := [ab_R x1, ab_R x2]) (b1 := (1, 0, 0)) 0 (Or.inl rfl) (by decide) ko_X6_weighLaid qM_6_100 (by decide) rfl rfl rfl rfl rfl (by decide) (Nat.le_of_ble_eq_true rfl) kc_X6_weighLaid dX6_weighLaid_23
theorem rX6_weighLaid_26 : ab_Run X 39 26 (2, 0, 0) L [] σ Q ↔ Q none σ := ab_r_return rfl kc_X6_weighLaid dX6_weighLaid_26
theorem kc_X6_weigh : ab_code 40 = cX6_weigh := rfl
theorem ko_X6_weigh : ab_ow 40 = 6 := rfl
theorem rX6_weigh_0 : ab_Run X 40 0 (1, 0, 0) [l0, ab_R z, l2, l3, l4] st σ Q ↔ z ≠ 0 ∧ ab_Run X 40 1 (1, 0, 0) [l0, ab_R z, l2, l3, l4] (ab_R z :: st) σ Q := ab_r_aload_n rfl kc_X6_weigh dX6_weigh_0
theorem rX6_weigh_1 : ab_Run X 40 1 (1, 0, 0) L (ab_R a :: st) σ Q ↔ (ab_sh σ a).1 = 1 ∧ ab_Run X 40 4 (1, 0, 0) L (ab_I (ab_rd σ a 0) :: st) σ Q := gF_6_73 ko_X6_weigh kc_X6_weigh dX6_weigh_1
theorem rX6_weigh_4 : ab_Run X 40 4 (1, 0, 0) [l0, l1, ab_R z, l3, l4] st σ Q ↔ z ≠ 0 ∧ ab_Run X 40 5 (1, 0, 0) [l0, l1, ab_R z, l3, l4] (ab_R z :: st) σ Q := ab_r_aload_n rfl kc_X6_weigh dX6_weigh_4
theorem rX6_weigh_5 : ab_Run X 40 5 (1, 0, 0) L (ab_R a :: st) σ Q ↔ (ab_sh σ a).1 = 1 ∧ ab_Run X 40 8 (1, 0, 0) L (ab_I (ab_rd σ a 0) :: st) σ Q := gF_6_73 ko_X6_weigh kc_X6_weigh dX6_weigh_5
theorem rX6_weigh_8 : ab_Run X 40 8 (1, 0, 0) L (ab_I b :: ab_I a :: st) σ Q ↔ ab_Run X 40 9 (1, 0, 0) L (ab_I (ab_w32 (a + b)) :: st) σ Q := ab_r_iadd kc_X6_weigh dX6_weigh_8
theorem rX6_weigh_9 : ab_Run X 40 9 (1, 0, 0) [l0, l1, l2, l3, l4] (ab_I z :: st) σ Q ↔ (!ab_isJ l2) = true ∧ ab_Run X 40 10 (1, 0, 0) [l0, l1, l2, ab_I z, l4] st σ Q := ab_r_istore_n (Nat.le_of_ble_eq_true rfl) kc_X6_weigh dX6_weigh_9
theorem rX6_weigh_10 : ab_Run X 40 10 (1, 0, 0) [ab_R z, l1, l2, l3, l4] st σ Q ↔ z ≠ 0 ∧ ab_Run X 40 11 (1, 0, 0) [ab_R z, l1, l2, l3, l4] (ab_R z :: st) σ Q := ab_r_aload_n rfl kc_X6_weigh dX6_weigh_10
theorem rX6_weigh_11 : ab_Run X 40 11 (1, 0, 0) L st σ Q ↔ ab_Run X 40 13 (1, 0, 0) L (ab_I 100 :: st) σ Q := ab_r_bipush (by decide) kc_X6_weigh dX6_weigh_11
theorem rX6_weigh_13 : ab_Run X 40 13 (1, 0, 0) [l0, l1, l2, ab_I z, l4] st σ Q ↔ ab_Run X 40 14 (1, 0, 0) [l0, l1, l2, ab_I z, l4] (ab_I z :: st) σ Q := ab_r_iload_n rfl kc_X6_weigh dX6_weigh_13
theorem rX6_weigh_14 : ab_Run X 40 14 (1, 0, 0) L (ab_I b :: ab_I a :: st) σ Q ↔ ab_Run X 40 15 (1, 0, 0) L (ab_I (ab_w32 (a * b)) :: st) σ Q := ab_r_imul kc_X6_weigh dX6_weigh_14
theorem rX6_weigh_15 : ab_Run X 40 15 (1, 0, 0) L (ab_I z :: ab_R a :: st) σ Q ↔ (ab_sh σ a).1 = 7 ∧ ab_Run X 40 18 (1, 0, 0) L st (ab_wr σ a 3 z) Q := sF_6_25 ko_X6_weigh kc_X6_weigh dX6_weigh_15
theorem rX6_weigh_18 : ab_Run X 40 18 (1, 0, 0) L st σ Q ↔ ab_Run X 40 19 (1, 0, 0) L (ab_I 0 :: st) σ Q := ab_r_iconst (by decide) kc_X6_weigh dX6_weigh_18
theorem rX6_weigh_19 : ab_Run X 40 19 (1, 0, 0) [l0, l1, l2, l3, l4] (ab_I z :: st) σ Q ↔ (!ab_isJ l3) = true ∧ ab_Run X 40 21 (1, 0, 0) [l0, l1, l2, l3, ab_I z] st σ Q := ab_r_istore (Nat.le_of_ble_eq_true rfl) kc_X6_weigh dX6_weigh_19
theorem rX6_weigh_21 : ab_Run X 40 21 (1, 0, 0) [l0, l1, l2, l3, ab_I z] st σ Q ↔ ab_Run X 40 23 (1, 0, 0) [l0, l1, l2, l3, ab_I z] (ab_I z :: st) σ Q := ab_r_iload rfl kc_X6_weigh dX6_weigh_21
theorem rX6_weigh_23 : ab_Run X 40 23 (1, 0, 0) [ab_R z, l1, l2, l3, l4] st σ Q ↔ z ≠ 0 ∧ ab_Run X 40 24 (1, 0, 0) [ab_R z, l1, l2, l3, l4] (ab_R z :: st) σ Q := ab_r_aload_n rfl kc_X6_weigh dX6_weigh_23
theorem rX6_weigh_24 : ab_Run X 40 24 (1, 0, 0) L (ab_R a :: st) σ Q ↔ (ab_sh σ a).1 = 7 ∧ ab_Run X 40 27 (1, 0, 0) L (ab_R (ab_rd σ a 2) :: st) σ Q := gF_6_21 ko_X6_weigh kc_X6_weigh dX6_weigh_24
theorem rX6_weigh_27 : ab_Run X 40 27 (1, 0, 0) L (ab_R a :: st) σ Q ↔ (21 ≤ (ab_sh σ a).1 ∧ (ab_sh σ a).1 < 30) ∧ ab_Run X 40 28 (1, 0, 0) L (ab_I (ab_sh σ a).2 :: st) σ Q := ab_r_arraylength (by decide) kc_X6_weigh dX6_weigh_27
theorem rX6_weigh_28 : ab_Run X 40 28 (1, 0, 0) L (ab_I b :: ab_I a :: st) σ Q ↔ (b ≤ a → ab_Run X 40 45 (1, 0, 0) L st σ Q) ∧ (¬ (b ≤ a) → ab_Run X 40 31 (1, 0, 0) L st σ Q) := ab_r_icmp_ge rfl kc_X6_weigh dX6_weigh_28
theorem rX6_weigh_31 : ab_Run X 40 31 (1, 0, 0) [ab_R z, l1, l2, l3, l4] st σ Q ↔ z ≠ 0 ∧ ab_Run X 40 32 (1, 0, 0) [ab_R z, l1, l2, l3, l4] (ab_R z :: st) σ Q := ab_r_aload_n rfl kc_X6_weigh dX6_weigh_31
theorem rX6_weigh_32 : ab_Run X 40 32 (1, 0, 0) L (ab_R a :: st) σ Q ↔ (ab_sh σ a).1 = 7 ∧ ab_Run X 40 35 (1, 0, 0) L (ab_R (ab_rd σ a 2) :: st) σ Q := gF_6_21 ko_X6_weigh kc_X6_weigh dX6_weigh_32
theorem rX6_weigh_35 : ab_Run X 40 35 (1, 0, 0) [l0, l1, l2, l3, ab_I z] st σ Q ↔ ab_Run X 40 37 (1, 0, 0) [l0, l1, l2, l3, ab_I z] (ab_I z :: st) σ Q := ab_r_iload rfl kc_X6_weigh dX6_weigh_35
theorem rX6_weigh_37 : ab_Run X 40 37 (1, 0, 0) L st σ Q ↔ ab_Run X 40 38 (1, 0, 0) L (ab_I 0 :: st) σ Q := ab_r_iconst (by decide) kc_X6_weigh dX6_weigh_37
theorem rX6_weigh_38 : ab_Run X 40 38 (1, 0, 0) L (ab_I v :: ab_I i :: ab_R a :: st) σ Q ↔ ((ab_sh σ a).1 = 21 ∧ 0 ≤ i ∧ i < (ab_sh σ a).2) ∧ ab_Run X 40 39 (1, 0, 0) L st (ab_wr σ a i v) Q := ab_r_iastore kc_X6_weigh dX6_weigh_38
theorem rX6_weigh_39 : ab_Run X 40 39 (1, 0, 0) [l0, l1, l2, l3, ab_I z] st σ Q ↔ (!ab_isJ l3) = true ∧ ab_Run X 40 42 (1, 0, 0) [l0, l1, l2, l3, ab_I (ab_w32 (z + 1))] st σ Q := ab_r_iinc rfl (by decide) kc_X6_weigh dX6_weigh_39
theorem rX6_weigh_42 : ab_Run X 40 42 (1, 0, 0) L st σ Q ↔ ab_Run X 40 21 (1, 0, 0) L st σ Q := ab_r_goto rfl kc_X6_weigh dX6_weigh_42
theorem rX6_weigh_45 : ab_Run X 40 45 (1, 0, 0) [ab_R z, l1, l2, l3, l4] st σ Q ↔ z ≠ 0 ∧ ab_Run X 40 46 (1, 0, 0) [ab_R z, l1, l2, l3, l4] (ab_R z :: st) σ Q := ab_r_aload_n rfl kc_X6_weigh dX6_weigh_45
theorem rX6_weigh_46 : ab_Run X 40 46 (1, 0, 0) L (ab_R a :: st) σ Q ↔ (ab_sh σ a).1 = 7 ∧ ab_Run X 40 49 (1, 0, 0) L (ab_R (ab_rd σ a 2) :: st) σ Q := gF_6_21 ko_X6_weigh kc_X6_weigh dX6_weigh_46
theorem rX6_weigh_49 : ab_Run X 40 49 (1, 0, 0) [ab_R z, l1, l2, l3, l4] st σ Q ↔ z ≠ 0 ∧ ab_Run X 40 50 (1, 0, 0) [ab_R z, l1, l2, l3, l4] (ab_R z :: st) σ Q := ab_r_aload_n rfl kc_X6_weigh dX6_weigh_49
theorem rX6_weigh_50 : ab_Run X 40 50 (1, 0, 0) [l0, ab_R z, l2, l3, l4] st σ Q ↔ z ≠ 0 ∧ ab_Run X 40 51 (1, 0, 0) [l0, ab_R z, l2, l3, l4] (ab_R z :: st) σ Q := ab_r_aload_n rfl kc_X6_weigh dX6_weigh_50
theorem rX6_weigh_51 : ab_Run X 40 51 (1, 0, 0) L st σ Q ↔ ab_Run X 40 52 (1, 0, 0) L (ab_I 0 :: st) σ Q := ab_r_iconst (by decide) kc_X6_weigh dX6_weigh_51
theorem rX6_weigh_52 : ab_Run X 40 52 (1, 0, 0) [l0, l1, ab_R z, l3, l4] st σ Q ↔ z ≠ 0 ∧ ab_Run X 40 53 (1, 0, 0) [l0, l1, ab_R z, l3, l4] (ab_R z :: st) σ Q := ab_r_aload_n rfl kc_X6_weigh dX6_weigh_52
theorem rX6_weigh_53 : ab_Run X 40 53 (1, 0, 0) L st σ Q ↔ ab_Run X 40 54 (1, 0, 0) L (ab_I 0 :: st) σ Q := ab_r_iconst (by decide) kc_X6_weigh dX6_weigh_53
theorem rX6_weigh_54 : ab_Run X 40 54 (1, 0, 0) L (ab_I x4 :: ab_R x3 :: ab_I x2 :: ab_R x1 :: ab_R a :: st) σ Q ↔ ((ab_sh σ a).1 = 7 ∧ ab_cats st ≤ 8) ∧ ab_Do X 38 [ab_R a, ab_R x1, ab_I x2, ab_R x3, ab_I x4] σ (fun r σ' => ab_Run X 40 57 (1, 0, 0) L (ab_psh r st) σ' Q) := ab_r_callV (w := [ab_I x4, ab_R x3, ab_I x2, ab_R x1]) (as := [ab_R x1, ab_I x2, ab_R x3, ab_I x4]) (b1 := (0, 0, 0)) 0 (Or.inl rfl) (by decide) ko_X6_weigh qM_6_80 (by decide) rfl rfl rfl rfl rfl (by decide) (Nat.le_of_ble_eq_true rfl) kc_X6_weigh dX6_weigh_54
theorem rX6_weigh_57 : ab_Run X 40 57 (1, 0, 0) L (ab_I b :: ab_R a :: st) σ Q ↔ ab_Run X 40 58 (1, 0, 0) L (ab_I b :: ab_R a :: ab_I b :: ab_R a :: st) σ Q := ab_r_dup2 kc_X6_weigh dX6_weigh_57
theorem rX6_weigh_58 : ab_Run X 40 58 (1, 0, 0) L (ab_I i :: ab_R a :: st) σ Q ↔ ((ab_sh σ a).1 = 21 ∧ 0 ≤ i ∧ i < (ab_sh σ a).2) ∧ ab_Run X 40 59 (1, 0, 0) L (ab_I (ab_rd σ a i) :: st) σ Q := ab_r_iaload (by decide) kc_X6_weigh dX6_weigh_58
theorem rX6_weigh_59 : ab_Run X 40 59 (1, 0, 0) L st σ Q ↔ ab_Run X 40 61 (1, 0, 0) L (ab_I 100 :: st) σ Q := ab_r_bipush (by decide) kc_X6_weigh dX6_weigh_59
theorem rX6_weigh_61 : ab_Run X 40 61 (1, 0, 0) [ab_R z, l1, l2, l3, l4] st σ Q ↔ z ≠ 0 ∧ ab_Run X 40 62 (1, 0, 0) [ab_R z, l1, l2, l3, l4] (ab_R z :: st) σ Q := ab_r_aload_n rfl kc_X6_weigh dX6_weigh_61
theorem rX6_weigh_62 : ab_Run X 40 62 (1, 0, 0) L (ab_R a :: st) σ Q ↔ (ab_sh σ a).1 = 7 ∧ ab_Run X 40 65 (1, 0, 0) L (ab_I (ab_rd σ a 8) :: st) σ Q := gF_6_55 ko_X6_weigh kc_X6_weigh dX6_weigh_62
theorem rX6_weigh_65 : ab_Run X 40 65 (1, 0, 0) L (ab_I b :: ab_I a :: st) σ Q ↔ ab_Run X 40 66 (1, 0, 0) L (ab_I (ab_w32 (a - b)) :: st) σ Q := ab_r_isub kc_X6_weigh dX6_weigh_65
theorem rX6_weigh_66 : ab_Run X 40 66 (1, 0, 0) [l0, l1, l2, ab_I z, l4] st σ Q ↔ ab_Run X 40 67 (1, 0, 0) [l0, l1, l2, ab_I z, l4] (ab_I z :: st) σ Q := ab_r_iload_n rfl kc_X6_weigh dX6_weigh_66
theorem rX6_weigh_67 : ab_Run X 40 67 (1, 0, 0) L (ab_I b :: ab_I a :: st) σ Q ↔ ab_Run X 40 68 (1, 0, 0) L (ab_I (ab_w32 (a * b)) :: st) σ Q := ab_r_imul kc_X6_weigh dX6_weigh_67
theorem rX6_weigh_68 : ab_Run X 40 68 (1, 0, 0) L (ab_I b :: ab_I a :: st) σ Q ↔ ab_Run X 40 69 (1, 0, 0) L (ab_I (ab_w32 (a + b)) :: st) σ Q := ab_r_iadd kc_X6_weigh dX6_weigh_68
theorem rX6_weigh_69 : ab_Run X 40 69 (1, 0, 0) L (ab_I v :: ab_I i :: ab_R a :: st) σ Q ↔ ((ab_sh σ a).1 = 21 ∧ 0 ≤ i ∧ i < (ab_sh σ a).2) ∧ ab_Run X 40 70 (1, 0, 0) L st (ab_wr σ a i v) Q := ab_r_iastore kc_X6_weigh dX6_weigh_69
theorem rX6_weigh_70 : ab_Run X 40 70 (1, 0, 0) L st σ Q ↔ ab_Run X 40 71 (1, 0, 0) L (ab_I 1 :: st) σ Q := ab_r_iconst (by decide) kc_X6_weigh dX6_weigh_70
theorem rX6_weigh_71 : ab_Run X 40 71 (1, 0, 0) [l0, l1, l2, l3, l4] (ab_I z :: st) σ Q ↔ (!ab_isJ l3) = true ∧ ab_Run X 40 73 (1, 0, 0) [l0, l1, l2, l3, ab_I z] st σ Q := ab_r_istore (Nat.le_of_ble_eq_true rfl) kc_X6_weigh dX6_weigh_71
theorem rX6_weigh_73 : ab_Run X 40 73 (1, 0, 0) [l0, l1, l2, l3, ab_I z] st σ Q ↔ ab_Run X 40 75 (1, 0, 0) [l0, l1, l2, l3, ab_I z] (ab_I z :: st) σ Q := ab_r_iload rfl kc_X6_weigh dX6_weigh_73
theorem rX6_weigh_75 : ab_Run X 40 75 (1, 0, 0) [l0, ab_R z, l2, l3, l4] st σ Q ↔ z ≠ 0 ∧ ab_Run X 40 76 (1, 0, 0) [l0, ab_R z, l2, l3, l4] (ab_R z :: st) σ Q := ab_r_aload_n rfl kc_X6_weigh dX6_weigh_75
theorem rX6_weigh_76 : ab_Run X 40 76 (1, 0, 0) L (ab_R a :: st) σ Q ↔ (ab_sh σ a).1 = 1 ∧ ab_Run X 40 79 (1, 0, 0) L (ab_I (ab_rd σ a 0) :: st) σ Q := gF_6_73 ko_X6_weigh kc_X6_weigh dX6_weigh_76
theorem rX6_weigh_79 : ab_Run X 40 79 (1, 0, 0) L (ab_I b :: ab_I a :: st) σ Q ↔ (b < a → ab_Run X 40 109 (1, 0, 0) L st σ Q) ∧ (¬ (b < a) → ab_Run X 40 82 (1, 0, 0) L st σ Q) := ab_r_icmp_gt rfl kc_X6_weigh dX6_weigh_79
theorem rX6_weigh_82 : ab_Run X 40 82 (1, 0, 0) [ab_R z, l1, l2, l3, l4] st σ Q ↔ z ≠ 0 ∧ ab_Run X 40 83 (1, 0, 0) [ab_R z, l1, l2, l3, l4] (ab_R z :: st) σ Q := ab_r_aload_n rfl kc_X6_weigh dX6_weigh_82
theorem rX6_weigh_83 : ab_Run X 40 83 (1, 0, 0) L (ab_R a :: st) σ Q ↔ (ab_sh σ a).1 = 7 ∧ ab_Run X 40 86 (1, 0, 0) L (ab_R (ab_rd σ a 2) :: st) σ Q := gF_6_21 ko_X6_weigh kc_X6_weigh dX6_weigh_83
theorem rX6_weigh_86 : ab_Run X 40 86 (1, 0, 0) [ab_R z, l1, l2, l3, l4] st σ Q ↔ z ≠ 0 ∧ ab_Run X 40 87 (1, 0, 0) [ab_R z, l1, l2, l3, l4] (ab_R z :: st) σ Q := ab_r_aload_n rfl kc_X6_weigh dX6_weigh_86
theorem rX6_weigh_87 : ab_Run X 40 87 (1, 0, 0) [l0, ab_R z, l2, l3, l4] st σ Q ↔ z ≠ 0 ∧ ab_Run X 40 88 (1, 0, 0) [l0, ab_R z, l2, l3, l4] (ab_R z :: st) σ Q := ab_r_aload_n rfl kc_X6_weigh dX6_weigh_87
theorem rX6_weigh_88 : ab_Run X 40 88 (1, 0, 0) [l0, l1, l2, l3, ab_I z] st σ Q ↔ ab_Run X 40 90 (1, 0, 0) [l0, l1, l2, l3, ab_I z] (ab_I z :: st) σ Q := ab_r_iload rfl kc_X6_weigh dX6_weigh_88
theorem rX6_weigh_90 : ab_Run X 40 90 (1, 0, 0) [l0, l1, ab_R z, l3, l4] st σ Q ↔ z ≠ 0 ∧ ab_Run X 40 91 (1, 0, 0) [l0, l1, ab_R z, l3, l4] (ab_R z :: st) σ Q := ab_r_aload_n rfl kc_X6_weigh dX6_weigh_90
theorem rX6_weigh_91 : ab_Run X 40 91 (1, 0, 0) L st σ Q ↔ ab_Run X 40 92 (1, 0, 0) L (ab_I 0 :: st) σ Q := ab_r_iconst (by decide) kc_X6_weigh dX6_weigh_91
theorem rX6_weigh_92 : ab_Run X 40 92 (1, 0, 0) L (ab_I x4 :: ab_R x3 :: ab_I x2 :: ab_R x1 :: ab_R a :: st) σ Q ↔ ((ab_sh σ a).1 = 7 ∧ ab_cats st ≤ 8) ∧ ab_Do X 38 [ab_R a, ab_R x1, ab_I x2, ab_R x3, ab_I x4] σ (fun r σ' => ab_Run X 40 95 (1, 0, 0) L (ab_psh r st) σ' Q) := ab_r_callV (w := [ab_I x4, ab_R x3, ab_I x2, ab_R x1]) (as := [ab_R x1, ab_I x2, ab_R x3, ab_I x4]) (b1 := (0, 0, 0)) 0 (Or.inl rfl) (by decide) ko_X6_weigh qM_6_80 (by decide) rfl rfl rfl rfl rfl (by decide) (Nat.le_of_ble_eq_true rfl) kc_X6_weigh dX6_weigh_92
theorem rX6_weigh_95 : ab_Run X 40 95 (1, 0, 0) L (ab_I b :: ab_R a :: st) σ Q ↔ ab_Run X 40 96 (1, 0, 0) L (ab_I b :: ab_R a :: ab_I b :: ab_R a :: st) σ Q := ab_r_dup2 kc_X6_weigh dX6_weigh_95
theorem rX6_weigh_96 : ab_Run X 40 96 (1, 0, 0) L (ab_I i :: ab_R a :: st) σ Q ↔ ((ab_sh σ a).1 = 21 ∧ 0 ≤ i ∧ i < (ab_sh σ a).2) ∧ ab_Run X 40 97 (1, 0, 0) L (ab_I (ab_rd σ a i) :: st) σ Q := ab_r_iaload (by decide) kc_X6_weigh dX6_weigh_96
theorem rX6_weigh_97 : ab_Run X 40 97 (1, 0, 0) [ab_R z, l1, l2, l3, l4] st σ Q ↔ z ≠ 0 ∧ ab_Run X 40 98 (1, 0, 0) [ab_R z, l1, l2, l3, l4] (ab_R z :: st) σ Q := ab_r_aload_n rfl kc_X6_weigh dX6_weigh_97
theorem rX6_weigh_98 : ab_Run X 40 98 (1, 0, 0) L (ab_R a :: st) σ Q ↔ (ab_sh σ a).1 = 7 ∧ ab_Run X 40 101 (1, 0, 0) L (ab_I (ab_rd σ a 8) :: st) σ Q := gF_6_55 ko_X6_weigh kc_X6_weigh dX6_weigh_98
theorem rX6_weigh_101 : ab_Run X 40 101 (1, 0, 0) L (ab_I b :: ab_I a :: st) σ Q ↔ ab_Run X 40 102 (1, 0, 0) L (ab_I (ab_w32 (a + b)) :: st) σ Q := ab_r_iadd kc_X6_weigh dX6_weigh_101
theorem rX6_weigh_102 : ab_Run X 40 102 (1, 0, 0) L (ab_I v :: ab_I i :: ab_R a :: st) σ Q ↔ ((ab_sh σ a).1 = 21 ∧ 0 ≤ i ∧ i < (ab_sh σ a).2) ∧ ab_Run X 40 103 (1, 0, 0) L st (ab_wr σ a i v) Q := ab_r_iastore kc_X6_weigh dX6_weigh_102
theorem rX6_weigh_103 : ab_Run X 40 103 (1, 0, 0) [l0, l1, l2, l3, ab_I z] st σ Q ↔ (!ab_isJ l3) = true ∧ ab_Run X 40 106 (1, 0, 0) [l0, l1, l2, l3, ab_I (ab_w32 (z + 1))] st σ Q := ab_r_iinc rfl (by decide) kc_X6_weigh dX6_weigh_103
theorem rX6_weigh_106 : ab_Run X 40 106 (1, 0, 0) L st σ Q ↔ ab_Run X 40 73 (1, 0, 0) L st σ Q := ab_r_goto rfl kc_X6_weigh dX6_weigh_106
theorem rX6_weigh_109 : ab_Run X 40 109 (1, 0, 0) L st σ Q ↔ ab_Run X 40 110 (1, 0, 0) L (ab_I 1 :: st) σ Q := ab_r_iconst (by decide) kc_X6_weigh dX6_weigh_109
theorem rX6_weigh_110 : ab_Run X 40 110 (1, 0, 0) [l0, l1, l2, l3, l4] (ab_I z :: st) σ Q ↔ (!ab_isJ l3) = true ∧ ab_Run X 40 112 (1, 0, 0) [l0, l1, l2, l3, ab_I z] st σ Q := ab_r_istore (Nat.le_of_ble_eq_true rfl) kc_X6_weigh dX6_weigh_110
theorem rX6_weigh_112 : ab_Run X 40 112 (1, 0, 0) [l0, l1, l2, l3, ab_I z] st σ Q ↔ ab_Run X 40 114 (1, 0, 0) [l0, l1, l2, l3, ab_I z] (ab_I z :: st) σ Q := ab_r_iload rfl kc_X6_weigh dX6_weigh_112
theorem rX6_weigh_114 : ab_Run X 40 114 (1, 0, 0) [l0, l1, ab_R z, l3, l4] st σ Q ↔ z ≠ 0 ∧ ab_Run X 40 115 (1, 0, 0) [l0, l1, ab_R z, l3, l4] (ab_R z :: st) σ Q := ab_r_aload_n rfl kc_X6_weigh dX6_weigh_114
theorem rX6_weigh_115 : ab_Run X 40 115 (1, 0, 0) L (ab_R a :: st) σ Q ↔ (ab_sh σ a).1 = 1 ∧ ab_Run X 40 118 (1, 0, 0) L (ab_I (ab_rd σ a 0) :: st) σ Q := gF_6_73 ko_X6_weigh kc_X6_weigh dX6_weigh_115
theorem rX6_weigh_118 : ab_Run X 40 118 (1, 0, 0) L (ab_I b :: ab_I a :: st) σ Q ↔ (b < a → ab_Run X 40 148 (1, 0, 0) L st σ Q) ∧ (¬ (b < a) → ab_Run X 40 121 (1, 0, 0) L st σ Q) := ab_r_icmp_gt rfl kc_X6_weigh dX6_weigh_118
theorem rX6_weigh_121 : ab_Run X 40 121 (1, 0, 0) [ab_R z, l1, l2, l3, l4] st σ Q ↔ z ≠ 0 ∧ ab_Run X 40 122 (1, 0, 0) [ab_R z, l1, l2, l3, l4] (ab_R z :: st) σ Q := ab_r_aload_n rfl kc_X6_weigh dX6_weigh_121
theorem rX6_weigh_122 : ab_Run X 40 122 (1, 0, 0) L (ab_R a :: st) σ Q ↔ (ab_sh σ a).1 = 7 ∧ ab_Run X 40 125 (1, 0, 0) L (ab_R (ab_rd σ a 2) :: st) σ Q := gF_6_21 ko_X6_weigh kc_X6_weigh dX6_weigh_122
theorem rX6_weigh_125 : ab_Run X 40 125 (1, 0, 0) [ab_R z, l1, l2, l3, l4] st σ Q ↔ z ≠ 0 ∧ ab_Run X 40 126 (1, 0, 0) [ab_R z, l1, l2, l3, l4] (ab_R z :: st) σ Q := ab_r_aload_n rfl kc_X6_weigh dX6_weigh_125
theorem rX6_weigh_126 : ab_Run X 40 126 (1, 0, 0) [l0, ab_R z, l2, l3, l4] st σ Q ↔ z ≠ 0 ∧ ab_Run X 40 127 (1, 0, 0) [l0, ab_R z, l2, l3, l4] (ab_R z :: st) σ Q := ab_r_aload_n rfl kc_X6_weigh dX6_weigh_126
theorem rX6_weigh_127 : ab_Run X 40 127 (1, 0, 0) L st σ Q ↔ ab_Run X 40 128 (1, 0, 0) L (ab_I 0 :: st) σ Q := ab_r_iconst (by decide) kc_X6_weigh dX6_weigh_127
theorem rX6_weigh_128 : ab_Run X 40 128 (1, 0, 0) [l0, l1, ab_R z, l3, l4] st σ Q ↔ z ≠ 0 ∧ ab_Run X 40 129 (1, 0, 0) [l0, l1, ab_R z, l3, l4] (ab_R z :: st) σ Q := ab_r_aload_n rfl kc_X6_weigh dX6_weigh_128
theorem rX6_weigh_129 : ab_Run X 40 129 (1, 0, 0) [l0, l1, l2, l3, ab_I z] st σ Q ↔ ab_Run X 40 131 (1, 0, 0) [l0, l1, l2, l3, ab_I z] (ab_I z :: st) σ Q := ab_r_iload rfl kc_X6_weigh dX6_weigh_129
theorem rX6_weigh_131 : ab_Run X 40 131 (1, 0, 0) L (ab_I x4 :: ab_R x3 :: ab_I x2 :: ab_R x1 :: ab_R a :: st) σ Q ↔ ((ab_sh σ a).1 = 7 ∧ ab_cats st ≤ 8) ∧ ab_Do X 38 [ab_R a, ab_R x1, ab_I x2, ab_R x3, ab_I x4] σ (fun r σ' => ab_Run X 40 134 (1, 0, 0) L (ab_psh r st) σ' Q) := ab_r_callV (w := [ab_I x4, ab_R x3, ab_I x2, ab_R x1]) (as := [ab_R x1, ab_I x2, ab_R x3, ab_I x4]) (b1 := (0, 0, 0)) 0 (Or.inl rfl) (by decide) ko_X6_weigh qM_6_80 (by decide) rfl rfl rfl rfl rfl (by decide) (Nat.le_of_ble_eq_true rfl) kc_X6_weigh dX6_weigh_131
theorem rX6_weigh_134 : ab_Run X 40 134 (1, 0, 0) L (ab_I b :: ab_R a :: st) σ Q ↔ ab_Run X 40 135 (1, 0, 0) L (ab_I b :: ab_R a :: ab_I b :: ab_R a :: st) σ Q := ab_r_dup2 kc_X6_weigh dX6_weigh_134
theorem rX6_weigh_135 : ab_Run X 40 135 (1, 0, 0) L (ab_I i :: ab_R a :: st) σ Q ↔ ((ab_sh σ a).1 = 21 ∧ 0 ≤ i ∧ i < (ab_sh σ a).2) ∧ ab_Run X 40 136 (1, 0, 0) L (ab_I (ab_rd σ a i) :: st) σ Q := ab_r_iaload (by decide) kc_X6_weigh dX6_weigh_135
theorem rX6_weigh_136 : ab_Run X 40 136 (1, 0, 0) [ab_R z, l1, l2, l3, l4] st σ Q ↔ z ≠ 0 ∧ ab_Run X 40 137 (1, 0, 0) [ab_R z, l1, l2, l3, l4] (ab_R z :: st) σ Q := ab_r_aload_n rfl kc_X6_weigh dX6_weigh_136
theorem rX6_weigh_137 : ab_Run X 40 137 (1, 0, 0) L (ab_R a :: st) σ Q ↔ (ab_sh σ a).1 = 7 ∧ ab_Run X 40 140 (1, 0, 0) L (ab_I (ab_rd σ a 8) :: st) σ Q := gF_6_55 ko_X6_weigh kc_X6_weigh dX6_weigh_137
theorem rX6_weigh_140 : ab_Run X 40 140 (1, 0, 0) L (ab_I b :: ab_I a :: st) σ Q ↔ ab_Run X 40 141 (1, 0, 0) L (ab_I (ab_w32 (a + b)) :: st) σ Q := ab_r_iadd kc_X6_weigh dX6_weigh_140
theorem rX6_weigh_141 : ab_Run X 40 141 (1, 0, 0) L (ab_I v :: ab_I i :: ab_R a :: st) σ Q ↔ ((ab_sh σ a).1 = 21 ∧ 0 ≤ i ∧ i < (ab_sh σ a).2) ∧ ab_Run X 40 142 (1, 0, 0) L st (ab_wr σ a i v) Q := ab_r_iastore kc_X6_weigh dX6_weigh_141
theorem rX6_weigh_142 : ab_Run X 40 142 (1, 0, 0) [l0, l1, l2, l3, ab_I z] st σ Q ↔ (!ab_isJ l3) = true ∧ ab_Run X 40 145 (1, 0, 0) [l0, l1, l2, l3, ab_I (ab_w32 (z + 1))] st σ Q := ab_r_iinc rfl (by decide) kc_X6_weigh dX6_weigh_142
theorem rX6_weigh_145 : ab_Run X 40 145 (1, 0, 0) L st σ Q ↔ ab_Run X 40 112 (1, 0, 0) L st σ Q := ab_r_goto rfl kc_X6_weigh dX6_weigh_145
theorem rX6_weigh_148 : ab_Run X 40 148 (1, 0, 0) L [] σ Q ↔ Q none σ := ab_r_return rfl kc_X6_weigh dX6_weigh_148
theorem kc_X2_choose : ab_code 12 = cX2_choose := rfl
theorem ko_X2_choose : ab_ow 12 = 2 := rfl
theorem rX2_choose_0 : ab_Run X 12 0 (2, 0, 0) L st σ Q ↔ ab_Run X 12 1 (2, 0, 0) L (ab_I 0 :: st) σ Q := ab_r_iconst (by decide) kc_X2_choose dX2_choose_0
theorem rX2_choose_1 : ab_Run X 12 1 (2, 0, 0) [l0, l1, l2, l3, l4, l5, l6, l7, l8] (ab_I z :: st) σ Q ↔ (!ab_isJ l5) = true ∧ ab_Run X 12 3 (2, 0, 0) [l0, l1, l2, l3, l4, l5, ab_I z, l7, l8] st σ Q := ab_r_istore (Nat.le_of_ble_eq_true rfl) kc_X2_choose dX2_choose_1
theorem rX2_choose_3 : ab_Run X 12 3 (2, 0, 0) L st σ Q ↔ ab_Run X 12 4 (2, 0, 0) L (ab_I 1 :: st) σ Q := ab_r_iconst (by decide) kc_X2_choose dX2_choose_3
theorem rX2_choose_4 : ab_Run X 12 4 (2, 0, 0) [l0, l1, l2, l3, l4, l5, l6, l7, l8] (ab_I z :: st) σ Q ↔ (!ab_isJ l6) = true ∧ ab_Run X 12 6 (2, 0, 0) [l0, l1, l2, l3, l4, l5, l6, ab_I z, l8] st σ Q := ab_r_istore (Nat.le_of_ble_eq_true rfl) kc_X2_choose dX2_choose_4
theorem rX2_choose_6 : ab_Run X 12 6 (2, 0, 0) [l0, l1, l2, l3, l4, l5, l6, ab_I z, l8] st σ Q ↔ ab_Run X 12 8 (2, 0, 0) [l0, l1, l2, l3, l4, l5, l6, ab_I z, l8] (ab_I z :: st) σ Q := ab_r_iload rfl kc_X2_choose dX2_choose_6
theorem rX2_choose_8 : ab_Run X 12 8 (2, 0, 0) [l0, ab_R z, l2, l3, l4, l5, l6, l7, l8] st σ Q ↔ z ≠ 0 ∧ ab_Run X 12 9 (2, 0, 0) [l0, ab_R z, l2, l3, l4, l5, l6, l7, l8] (ab_R z :: st) σ Q := ab_r_aload_n rfl kc_X2_choose dX2_choose_8
theorem rX2_choose_9 : ab_Run X 12 9 (2, 0, 0) L (ab_R a :: st) σ Q ↔ (ab_sh σ a).1 = 2 ∧ ab_Run X 12 12 (2, 0, 0) L (ab_R (ab_rd σ a 3) :: st) σ Q := gF_2_42 ko_X2_choose kc_X2_choose dX2_choose_9
theorem rX2_choose_12 : ab_Run X 12 12 (2, 0, 0) [l0, l1, ab_I z, l3, l4, l5, l6, l7, l8] st σ Q ↔ ab_Run X 12 13 (2, 0, 0) [l0, l1, ab_I z, l3, l4, l5, l6, l7, l8] (ab_I z :: st) σ Q := ab_r_iload_n rfl kc_X2_choose dX2_choose_12
theorem rX2_choose_13 : ab_Run X 12 13 (2, 0, 0) L (ab_I i :: ab_R a :: st) σ Q ↔ ((ab_sh σ a).1 = 21 ∧ 0 ≤ i ∧ i < (ab_sh σ a).2) ∧ ab_Run X 12 14 (2, 0, 0) L (ab_I (ab_rd σ a i) :: st) σ Q := ab_r_iaload (by decide) kc_X2_choose dX2_choose_13
theorem rX2_choose_14 : ab_Run X 12 14 (2, 0, 0) L (ab_I b :: ab_I a :: st) σ Q ↔ (b < a → ab_Run X 12 99 (2, 0, 0) L st σ Q) ∧ (¬ (b < a) → ab_Run X 12 17 (2, 0, 0) L st σ Q) := ab_r_icmp_gt rfl kc_X2_choose dX2_choose_14
theorem rX2_choose_17 : ab_Run X 12 17 (2, 0, 0) [l0, l1, l2, ab_R z, l4, l5, l6, l7, l8] st σ Q ↔ z ≠ 0 ∧ ab_Run X 12 18 (2, 0, 0) [l0, l1, l2, ab_R z, l4, l5, l6, l7, l8] (ab_R z :: st) σ Q := ab_r_aload_n rfl kc_X2_choose dX2_choose_17
theorem rX2_choose_18 : ab_Run X 12 18 (2, 0, 0) L (ab_R a :: st) σ Q ↔ (ab_sh σ a).1 = 6 ∧ ab_Run X 12 21 (2, 0, 0) L (ab_I (ab_rd σ a 1) :: st) σ Q := gF_2_47 ko_X2_choose kc_X2_choose dX2_choose_18
theorem rX2_choose_21 : ab_Run X 12 21 (2, 0, 0) L st σ Q ↔ ab_Run X 12 22 (2, 0, 0) L (ab_I 2 :: st) σ Q := ab_r_iconst (by decide) kc_X2_choose dX2_choose_21
theorem rX2_choose_22 : ab_Run X 12 22 (2, 0, 0) L (ab_I b :: ab_I a :: st) σ Q ↔ (¬ a = b → ab_Run X 12 29 (2, 0, 0) L st σ Q) ∧ (¬ (¬ a = b) → ab_Run X 12 25 (2, 0, 0) L st σ Q) := ab_r_icmp_ne rfl kc_X2_choose dX2_choose_22
theorem rX2_choose_25 : ab_Run X 12 25 (2, 0, 0) L st σ Q ↔ ab_Run X 12 26 (2, 0, 0) L (ab_I 1 :: st) σ Q := ab_r_iconst (by decide) kc_X2_choose dX2_choose_25
theorem rX2_choose_26 : ab_Run X 12 26 (2, 0, 0) L st σ Q ↔ ab_Run X 12 30 (2, 0, 0) L st σ Q := ab_r_goto rfl kc_X2_choose dX2_choose_26
theorem rX2_choose_29 : ab_Run X 12 29 (2, 0, 0) L st σ Q ↔ ab_Run X 12 30 (2, 0, 0) L (ab_I 0 :: st) σ Q := ab_r_iconst (by decide) kc_X2_choose dX2_choose_29
theorem rX2_choose_30 : ab_Run X 12 30 (2, 0, 0) [l0, l1, l2, l3, l4, l5, l6, l7, l8] (ab_I z :: st) σ Q ↔ (!ab_isJ l7) = true ∧ ab_Run X 12 32 (2, 0, 0) [l0, l1, l2, l3, l4, l5, l6, l7, ab_I z] st σ Q := ab_r_istore (Nat.le_of_ble_eq_true rfl) kc_X2_choose dX2_choose_30
theorem rX2_choose_32 : ab_Run X 12 32 (2, 0, 0) [l0, l1, l2, l3, l4, l5, l6, l7, ab_I z] st σ Q ↔ ab_Run X 12 34 (2, 0, 0) [l0, l1, l2, l3, l4, l5, l6, l7, ab_I z] (ab_I z :: st) σ Q := ab_r_iload rfl kc_X2_choose dX2_choose_32
theorem rX2_choose_34 : ab_Run X 12 34 (2, 0, 0) L st σ Q ↔ ab_Run X 12 35 (2, 0, 0) L (ab_I 1 :: st) σ Q := ab_r_iconst (by decide) kc_X2_choose dX2_choose_34
theorem rX2_choose_35 : ab_Run X 12 35 (2, 0, 0) L (ab_I b :: ab_I a :: st) σ Q ↔ (b < a → ab_Run X 12 93 (2, 0, 0) L st σ Q) ∧ (¬ (b < a) → ab_Run X 12 38 (2, 0, 0) L st σ Q) := ab_r_icmp_gt rfl kc_X2_choose dX2_choose_35
theorem rX2_choose_38 : ab_Run X 12 38 (2, 0, 0) [ab_R z, l1, l2, l3, l4, l5, l6, l7, l8] st σ Q ↔ z ≠ 0 ∧ ab_Run X 12 39 (2, 0, 0) [ab_R z, l1, l2, l3, l4, l5, l6, l7, l8] (ab_R z :: st) σ Q := ab_r_aload_n rfl kc_X2_choose dX2_choose_38
theorem rX2_choose_39 : ab_Run X 12 39 (2, 0, 0) [l0, l1, l2, l3, ab_R z, l5, l6, l7, l8] st σ Q ↔ z ≠ 0 ∧ ab_Run X 12 41 (2, 0, 0) [l0, l1, l2, l3, ab_R z, l5, l6, l7, l8] (ab_R z :: st) σ Q := ab_r_aload rfl kc_X2_choose dX2_choose_39
theorem rX2_choose_41 : ab_Run X 12 41 (2, 0, 0) [l0, l1, l2, l3, l4, l5, ab_I z, l7, l8] st σ Q ↔ ab_Run X 12 43 (2, 0, 0) [l0, l1, l2, l3, l4, l5, ab_I z, l7, l8] (ab_I z :: st) σ Q := ab_r_iload rfl kc_X2_choose dX2_choose_41
theorem rX2_choose_43 : ab_Run X 12 43 (2, 0, 0) L (ab_I i :: ab_R a :: st) σ Q ↔ ((25 ≤ (ab_sh σ a).1 ∧ (ab_sh σ a).1 < 30) ∧ 0 ≤ i ∧ i < (ab_sh σ a).2) ∧ ab_Run X 12 44 (2, 0, 0) L (ab_R (ab_rd σ a i) :: st) σ Q := ab_r_aaload kc_X2_choose dX2_choose_43
theorem rX2_choose_44 : ab_Run X 12 44 (2, 0, 0) [l0, ab_R z, l2, l3, l4, l5, l6, l7, l8] st σ Q ↔ z ≠ 0 ∧ ab_Run X 12 45 (2, 0, 0) [l0, ab_R z, l2, l3, l4, l5, l6, l7, l8] (ab_R z :: st) σ Q := ab_r_aload_n rfl kc_X2_choose dX2_choose_44
theorem rX2_choose_45 : ab_Run X 12 45 (2, 0, 0) [l0, l1, ab_I z, l3, l4, l5, l6, l7, l8] st σ Q ↔ ab_Run X 12 46 (2, 0, 0) [l0, l1, ab_I z, l3, l4, l5, l6, l7, l8] (ab_I z :: st) σ Q := ab_r_iload_n rfl kc_X2_choose dX2_choose_45
theorem rX2_choose_46 : ab_Run X 12 46 (2, 0, 0) [l0, l1, l2, ab_R z, l4, l5, l6, l7, l8] st σ Q ↔ z ≠ 0 ∧ ab_Run X 12 47 (2, 0, 0) [l0, l1, l2, ab_R z, l4, l5, l6, l7, l8] (ab_R z :: st) σ Q := ab_r_aload_n rfl kc_X2_choose dX2_choose_46
theorem rX2_choose_47 : ab_Run X 12 47 (2, 0, 0) [l0, l1, l2, l3, l4, l5, l6, ab_I z, l8] st σ Q ↔ ab_Run X 12 49 (2, 0, 0) [l0, l1, l2, l3, l4, l5, l6, ab_I z, l8] (ab_I z :: st) σ Q := ab_r_iload rfl kc_X2_choose dX2_choose_47
theorem rX2_choose_49 : ab_Run X 12 49 (2, 0, 0) [l0, l1, l2, l3, l4, l5, l6, l7, ab_I z] st σ Q ↔ ab_Run X 12 51 (2, 0, 0) [l0, l1, l2, l3, l4, l5, l6, l7, ab_I z] (ab_I z :: st) σ Q := ab_r_iload rfl kc_X2_choose dX2_choose_49
theorem rX2_choose_51 : ab_Run X 12 51 (2, 0, 0) L st σ Q ↔ ab_Run X 12 52 (2, 0, 0) L (ab_I 1 :: st) σ Q := ab_r_iconst (by decide) kc_X2_choose dX2_choose_51
theorem rX2_choose_52 : ab_Run X 12 52 (2, 0, 0) L (ab_I b :: ab_I a :: st) σ Q ↔ (¬ a = b → ab_Run X 12 59 (2, 0, 0) L st σ Q) ∧ (¬ (¬ a = b) → ab_Run X 12 55 (2, 0, 0) L st σ Q) := ab_r_icmp_ne rfl kc_X2_choose dX2_choose_52
theorem rX2_choose_55 : ab_Run X 12 55 (2, 0, 0) L st σ Q ↔ ab_Run X 12 56 (2, 0, 0) L (ab_I 1 :: st) σ Q := ab_r_iconst (by decide) kc_X2_choose dX2_choose_55
theorem rX2_choose_56 : ab_Run X 12 56 (2, 0, 0) L st σ Q ↔ ab_Run X 12 60 (2, 0, 0) L st σ Q := ab_r_goto rfl kc_X2_choose dX2_choose_56
theorem rX2_choose_59 : ab_Run X 12 59 (2, 0, 0) L st σ Q ↔ ab_Run X 12 60 (2, 0, 0) L (ab_I 0 :: st) σ Q := ab_r_iconst (by decide) kc_X2_choose dX2_choose_59
theorem rX2_choose_60 : ab_Run X 12 60 (2, 0, 0) L (ab_I x6 :: ab_I x5 :: ab_R x4 :: ab_I x3 :: ab_R x2 :: ab_R x1 :: ab_R a :: st) σ Q ↔ ((ab_sh σ a).1 = 7 ∧ ab_cats st ≤ 8) ∧ ab_Do X 35 [ab_R a, ab_R x1, ab_R x2, ab_I x3, ab_R x4, ab_I x5, ab_I x6] σ (fun r σ' => ab_Run X 12 63 (2, 0, 0) L (ab_psh r st) σ' Q) := ab_r_callV (w := [ab_I x6, ab_I x5, ab_R x4, ab_I x3, ab_R x2, ab_R x1]) (as := [ab_R x1, ab_R x2, ab_I x3, ab_R x4, ab_I x5, ab_I x6]) (b1 := (1, 0, 0)) 0 (Or.inl rfl) (by decide) ko_X2_choose qM_2_53 (by decide) rfl rfl rfl rfl rfl (by decide) (Nat.le_of_ble_eq_true rfl) kc_X2_choose dX2_choose_60
theorem rX2_choose_63 : ab_Run X 12 63 (2, 0, 0) [l0, l1, l2, l3, ab_R z, l5, l6, l7, l8] st σ Q ↔ z ≠ 0 ∧ ab_Run X 12 65 (2, 0, 0) [l0, l1, l2, l3, ab_R z, l5, l6, l7, l8] (ab_R z :: st) σ Q := ab_r_aload rfl kc_X2_choose dX2_choose_63
theorem rX2_choose_65 : ab_Run X 12 65 (2, 0, 0) [l0, l1, l2, l3, l4, l5, ab_I z, l7, l8] st σ Q ↔ ab_Run X 12 67 (2, 0, 0) [l0, l1, l2, l3, l4, l5, ab_I z, l7, l8] (ab_I z :: st) σ Q := ab_r_iload rfl kc_X2_choose dX2_choose_65
theorem rX2_choose_67 : ab_Run X 12 67 (2, 0, 0) L (ab_I i :: ab_R a :: st) σ Q ↔ ((25 ≤ (ab_sh σ a).1 ∧ (ab_sh σ a).1 < 30) ∧ 0 ≤ i ∧ i < (ab_sh σ a).2) ∧ ab_Run X 12 68 (2, 0, 0) L (ab_R (ab_rd σ a i) :: st) σ Q := ab_r_aaload kc_X2_choose dX2_choose_67
theorem rX2_choose_68 : ab_Run X 12 68 (2, 0, 0) L (ab_R a :: st) σ Q ↔ ((ab_sh σ a).1 = 1 ∧ ab_cats st ≤ 8) ∧ ab_Do X 4 [ab_R a] σ (fun r σ' => ab_Run X 12 71 (2, 0, 0) L (ab_psh r st) σ' Q) := ab_r_callV (w := []) (as := []) (b1 := (1, 0, 0)) 0 (Or.inl rfl) (by decide) ko_X2_choose qM_2_59 (by decide) rfl rfl rfl rfl rfl (by decide) (Nat.le_of_ble_eq_true rfl) kc_X2_choose dX2_choose_68
theorem rX2_choose_71 : ab_Run X 12 71 (2, 0, 0) [l0, l1, l2, l3, l4, ab_R z, l6, l7, l8] st σ Q ↔ z ≠ 0 ∧ ab_Run X 12 73 (2, 0, 0) [l0, l1, l2, l3, l4, ab_R z, l6, l7, l8] (ab_R z :: st) σ Q := ab_r_aload rfl kc_X2_choose dX2_choose_71
theorem rX2_choose_73 : ab_Run X 12 73 (2, 0, 0) [l0, l1, l2, l3, l4, l5, ab_I z, l7, l8] st σ Q ↔ ab_Run X 12 75 (2, 0, 0) [l0, l1, l2, l3, l4, l5, ab_I z, l7, l8] (ab_I z :: st) σ Q := ab_r_iload rfl kc_X2_choose dX2_choose_73
theorem rX2_choose_75 : ab_Run X 12 75 (2, 0, 0) L st σ Q ↔ ab_Run X 12 77 (2, 0, 0) L (ab_I 10 :: st) σ Q := ab_r_bipush (by decide) kc_X2_choose dX2_choose_75
theorem rX2_choose_77 : ab_Run X 12 77 (2, 0, 0) [l0, l1, l2, l3, l4, l5, l6, ab_I z, l8] st σ Q ↔ ab_Run X 12 79 (2, 0, 0) [l0, l1, l2, l3, l4, l5, l6, ab_I z, l8] (ab_I z :: st) σ Q := ab_r_iload rfl kc_X2_choose dX2_choose_77
theorem rX2_choose_79 : ab_Run X 12 79 (2, 0, 0) L (ab_I b :: ab_I a :: st) σ Q ↔ ab_Run X 12 80 (2, 0, 0) L (ab_I (ab_w32 (a * b)) :: st) σ Q := ab_r_imul kc_X2_choose dX2_choose_79
theorem rX2_choose_80 : ab_Run X 12 80 (2, 0, 0) [l0, l1, l2, l3, l4, l5, l6, l7, ab_I z] st σ Q ↔ ab_Run X 12 82 (2, 0, 0) [l0, l1, l2, l3, l4, l5, l6, l7, ab_I z] (ab_I z :: st) σ Q := ab_r_iload rfl kc_X2_choose dX2_choose_80
theorem rX2_choose_82 : ab_Run X 12 82 (2, 0, 0) L (ab_I b :: ab_I a :: st) σ Q ↔ ab_Run X 12 83 (2, 0, 0) L (ab_I (ab_w32 (a + b)) :: st) σ Q := ab_r_iadd kc_X2_choose dX2_choose_82
theorem rX2_choose_83 : ab_Run X 12 83 (2, 0, 0) L (ab_I v :: ab_I i :: ab_R a :: st) σ Q ↔ ((ab_sh σ a).1 = 21 ∧ 0 ≤ i ∧ i < (ab_sh σ a).2) ∧ ab_Run X 12 84 (2, 0, 0) L st (ab_wr σ a i v) Q := ab_r_iastore kc_X2_choose dX2_choose_83
theorem rX2_choose_84 : ab_Run X 12 84 (2, 0, 0) [l0, l1, l2, l3, l4, l5, ab_I z, l7, l8] st σ Q ↔ (!ab_isJ l5) = true ∧ ab_Run X 12 87 (2, 0, 0) [l0, l1, l2, l3, l4, l5, ab_I (ab_w32 (z + 1)), l7, l8] st σ Q := ab_r_iinc rfl (by decide) kc_X2_choose dX2_choose_84
theorem rX2_choose_87 : ab_Run X 12 87 (2, 0, 0) [l0, l1, l2, l3, l4, l5, l6, l7, ab_I z] st σ Q ↔ (!ab_isJ l7) = true ∧ ab_Run X 12 90 (2, 0, 0) [l0, l1, l2, l3, l4, l5, l6, l7, ab_I (ab_w32 (z + 1))] st σ Q := ab_r_iinc rfl (by decide) kc_X2_choose dX2_choose_87
theorem rX2_choose_90 : ab_Run X 12 90 (2, 0, 0) L st σ Q ↔ ab_Run X 12 32 (2, 0, 0) L st σ Q := ab_r_goto rfl kc_X2_choose dX2_choose_90
theorem rX2_choose_93 : ab_Run X 12 93 (2, 0, 0) [l0, l1, l2, l3, l4, l5, l6, ab_I z, l8] st σ Q ↔ (!ab_isJ l6) = true ∧ ab_Run X 12 96 (2, 0, 0) [l0, l1, l2, l3, l4, l5, l6, ab_I (ab_w32 (z + 1)), l8] st σ Q := ab_r_iinc rfl (by decide) kc_X2_choose dX2_choose_93
theorem rX2_choose_96 : ab_Run X 12 96 (2, 0, 0) L st σ Q ↔ ab_Run X 12 6 (2, 0, 0) L st σ Q := ab_r_goto rfl kc_X2_choose dX2_choose_96
theorem rX2_choose_99 : ab_Run X 12 99 (2, 0, 0) [l0, l1, l2, l3, l4, l5, ab_I z, l7, l8] st σ Q ↔ ab_Run X 12 101 (2, 0, 0) [l0, l1, l2, l3, l4, l5, ab_I z, l7, l8] (ab_I z :: st) σ Q := ab_r_iload rfl kc_X2_choose dX2_choose_99
theorem rX2_choose_101 : ab_Run X 12 101 (2, 0, 0) L [ab_I v] σ Q ↔ Q (some (ab_I v)) σ := ab_r_ireturnI rfl kc_X2_choose dX2_choose_101
theorem kc_X2_bestAgainst : ab_code 13 = cX2_bestAgainst := rfl
theorem ko_X2_bestAgainst : ab_ow 13 = 2 := rfl
theorem rX2_bestAgainst_0 : ab_Run X 13 0 (3, 0, 0) [ab_R z, l1, l2, l3, l4, l5, l6] st σ Q ↔ z ≠ 0 ∧ ab_Run X 13 1 (3, 0, 0) [ab_R z, l1, l2, l3, l4, l5, l6] (ab_R z :: st) σ Q := ab_r_aload_n rfl kc_X2_bestAgainst dX2_bestAgainst_0
theorem rX2_bestAgainst_1 : ab_Run X 13 1 (3, 0, 0) [l0, ab_R z, l2, l3, l4, l5, l6] st σ Q ↔ z ≠ 0 ∧ ab_Run X 13 2 (3, 0, 0) [l0, ab_R z, l2, l3, l4, l5, l6] (ab_R z :: st) σ Q := ab_r_aload_n rfl kc_X2_bestAgainst dX2_bestAgainst_1
theorem rX2_bestAgainst_2 : ab_Run X 13 2 (3, 0, 0) [l0, l1, ab_R z, l3, l4, l5, l6] st σ Q ↔ z ≠ 0 ∧ ab_Run X 13 3 (3, 0, 0) [l0, l1, ab_R z, l3, l4, l5, l6] (ab_R z :: st) σ Q := ab_r_aload_n rfl kc_X2_bestAgainst dX2_bestAgainst_2
theorem rX2_bestAgainst_3 : ab_Run X 13 3 (3, 0, 0) L st σ Q ↔ ab_Run X 13 4 (3, 0, 0) L (ab_I 0 :: st) σ Q := ab_r_iconst (by decide) kc_X2_bestAgainst dX2_bestAgainst_3
theorem rX2_bestAgainst_4 : ab_Run X 13 4 (3, 0, 0) [l0, l1, l2, ab_R z, l4, l5, l6] st σ Q ↔ z ≠ 0 ∧ ab_Run X 13 5 (3, 0, 0) [l0, l1, l2, ab_R z, l4, l5, l6] (ab_R z :: st) σ Q := ab_r_aload_n rfl kc_X2_bestAgainst dX2_bestAgainst_4
theorem rX2_bestAgainst_5 : ab_Run X 13 5 (3, 0, 0) [ab_R z, l1, l2, l3, l4, l5, l6] st σ Q ↔ z ≠ 0 ∧ ab_Run X 13 6 (3, 0, 0) [ab_R z, l1, l2, l3, l4, l5, l6] (ab_R z :: st) σ Q := ab_r_aload_n rfl kc_X2_bestAgainst dX2_bestAgainst_5
theorem rX2_bestAgainst_6 : ab_Run X 13 6 (3, 0, 0) L (ab_R a :: st) σ Q ↔ (ab_sh σ a).1 = 3 ∧ ab_Run X 13 9 (3, 0, 0) L (ab_R (ab_rd σ a 0) :: st) σ Q := gF_2_13 ko_X2_bestAgainst kc_X2_bestAgainst dX2_bestAgainst_6
theorem rX2_bestAgainst_9 : ab_Run X 13 9 (3, 0, 0) [ab_R z, l1, l2, l3, l4, l5, l6] st σ Q ↔ z ≠ 0 ∧ ab_Run X 13 10 (3, 0, 0) [ab_R z, l1, l2, l3, l4, l5, l6] (ab_R z :: st) σ Q := ab_r_aload_n rfl kc_X2_bestAgainst dX2_bestAgainst_9
theorem rX2_bestAgainst_10 : ab_Run X 13 10 (3, 0, 0) L (ab_R a :: st) σ Q ↔ (ab_sh σ a).1 = 3 ∧ ab_Run X 13 13 (3, 0, 0) L (ab_R (ab_rd σ a 2) :: st) σ Q := gF_2_20 ko_X2_bestAgainst kc_X2_bestAgainst dX2_bestAgainst_10
theorem rX2_bestAgainst_13 : ab_Run X 13 13 (3, 0, 0) L (ab_R x6 :: ab_R x5 :: ab_R x4 :: ab_I x3 :: ab_R x2 :: ab_R x1 :: st) σ Q ↔ ab_cats st ≤ 8 ∧ ab_Do X 12 [ab_R x1, ab_R x2, ab_I x3, ab_R x4, ab_R x5, ab_R x6] σ (fun r σ' => ab_Run X 13 16 (3, 0, 0) L (ab_psh r st) σ' Q) := ab_r_callS (w := [ab_R x6, ab_R x5, ab_R x4, ab_I x3, ab_R x2, ab_R x1]) (as := [ab_R x1, ab_R x2, ab_I x3, ab_R x4, ab_R x5, ab_R x6]) (b1 := (2, 0, 0)) (by decide) ko_X2_bestAgainst qM_2_62 (by decide) rfl rfl rfl rfl (by decide) (Nat.le_of_ble_eq_true rfl) kc_X2_bestAgainst dX2_bestAgainst_13
theorem rX2_bestAgainst_16 : ab_Run X 13 16 (3, 0, 0) L (ab_I z :: ab_R a :: st) σ Q ↔ (ab_sh σ a).1 = 3 ∧ ab_Run X 13 19 (3, 0, 0) L st (ab_wr σ a 8 z) Q := sF_2_66 ko_X2_bestAgainst kc_X2_bestAgainst dX2_bestAgainst_16
theorem rX2_bestAgainst_19 : ab_Run X 13 19 (3, 0, 0) [l0, ab_R z, l2, l3, l4, l5, l6] st σ Q ↔ z ≠ 0 ∧ ab_Run X 13 20 (3, 0, 0) [l0, ab_R z, l2, l3, l4, l5, l6] (ab_R z :: st) σ Q := ab_r_aload_n rfl kc_X2_bestAgainst dX2_bestAgainst_19
theorem rX2_bestAgainst_20 : ab_Run X 13 20 (3, 0, 0) L (ab_R a :: st) σ Q ↔ (ab_sh σ a).1 = 7 ∧ ab_Run X 13 23 (3, 0, 0) L (ab_R (ab_rd σ a 1) :: st) σ Q := gF_2_69 ko_X2_bestAgainst kc_X2_bestAgainst dX2_bestAgainst_20
theorem rX2_bestAgainst_23 : ab_Run X 13 23 (3, 0, 0) L (ab_R a :: st) σ Q ↔ ((ab_sh σ a).1 = 1 ∧ ab_cats st ≤ 8) ∧ ab_Do X 4 [ab_R a] σ (fun r σ' => ab_Run X 13 26 (3, 0, 0) L (ab_psh r st) σ' Q) := ab_r_callV (w := []) (as := []) (b1 := (1, 0, 0)) 0 (Or.inl rfl) (by decide) ko_X2_bestAgainst qM_2_59 (by decide) rfl rfl rfl rfl rfl (by decide) (Nat.le_of_ble_eq_true rfl) kc_X2_bestAgainst dX2_bestAgainst_23
theorem rX2_bestAgainst_26 : ab_Run X 13 26 (3, 0, 0) L st σ Q ↔ ab_Run X 13 27 (3, 0, 0) L (ab_I 0 :: st) σ Q := ab_r_iconst (by decide) kc_X2_bestAgainst dX2_bestAgainst_26
theorem rX2_bestAgainst_27 : ab_Run X 13 27 (3, 0, 0) [l0, l1, l2, l3, l4, l5, l6] (ab_I z :: st) σ Q ↔ (!ab_isJ l3) = true ∧ ab_Run X 13 29 (3, 0, 0) [l0, l1, l2, l3, ab_I z, l5, l6] st σ Q := ab_r_istore (Nat.le_of_ble_eq_true rfl) kc_X2_bestAgainst dX2_bestAgainst_27
theorem rX2_bestAgainst_29 : ab_Run X 13 29 (3, 0, 0) L st σ Q ↔ ab_Run X 13 30 (3, 0, 0) L (ab_I (-1) :: st) σ Q := ab_r_iconst (by decide) kc_X2_bestAgainst dX2_bestAgainst_29
theorem rX2_bestAgainst_30 : ab_Run X 13 30 (3, 0, 0) [l0, l1, l2, l3, l4, l5, l6] (ab_I z :: st) σ Q ↔ (!ab_isJ l4) = true ∧ ab_Run X 13 32 (3, 0, 0) [l0, l1, l2, l3, l4, ab_I z, l6] st σ Q := ab_r_istore (Nat.le_of_ble_eq_true rfl) kc_X2_bestAgainst dX2_bestAgainst_30
theorem rX2_bestAgainst_32 : ab_Run X 13 32 (3, 0, 0) L st σ Q ↔ ab_Run X 13 33 (3, 0, 0) L (ab_I 0 :: st) σ Q := ab_r_iconst (by decide) kc_X2_bestAgainst dX2_bestAgainst_32
theorem rX2_bestAgainst_33 : ab_Run X 13 33 (3, 0, 0) [l0, l1, l2, l3, l4, l5, l6] (ab_I z :: st) σ Q ↔ (!ab_isJ l5) = true ∧ ab_Run X 13 35 (3, 0, 0) [l0, l1, l2, l3, l4, l5, ab_I z] st σ Q := ab_r_istore (Nat.le_of_ble_eq_true rfl) kc_X2_bestAgainst dX2_bestAgainst_33
theorem rX2_bestAgainst_35 : ab_Run X 13 35 (3, 0, 0) [l0, l1, l2, l3, l4, l5, ab_I z] st σ Q ↔ ab_Run X 13 37 (3, 0, 0) [l0, l1, l2, l3, l4, l5, ab_I z] (ab_I z :: st) σ Q := ab_r_iload rfl kc_X2_bestAgainst dX2_bestAgainst_35
theorem rX2_bestAgainst_37 : ab_Run X 13 37 (3, 0, 0) [ab_R z, l1, l2, l3, l4, l5, l6] st σ Q ↔ z ≠ 0 ∧ ab_Run X 13 38 (3, 0, 0) [ab_R z, l1, l2, l3, l4, l5, l6] (ab_R z :: st) σ Q := ab_r_aload_n rfl kc_X2_bestAgainst dX2_bestAgainst_37
theorem rX2_bestAgainst_38 : ab_Run X 13 38 (3, 0, 0) L (ab_R a :: st) σ Q ↔ (ab_sh σ a).1 = 3 ∧ ab_Run X 13 41 (3, 0, 0) L (ab_I (ab_rd σ a 8) :: st) σ Q := gF_2_66 ko_X2_bestAgainst kc_X2_bestAgainst dX2_bestAgainst_38
theorem rX2_bestAgainst_41 : ab_Run X 13 41 (3, 0, 0) L (ab_I b :: ab_I a :: st) σ Q ↔ (b ≤ a → ab_Run X 13 93 (3, 0, 0) L st σ Q) ∧ (¬ (b ≤ a) → ab_Run X 13 44 (3, 0, 0) L st σ Q) := ab_r_icmp_ge rfl kc_X2_bestAgainst dX2_bestAgainst_41
theorem rX2_bestAgainst_44 : ab_Run X 13 44 (3, 0, 0) [l0, ab_R z, l2, l3, l4, l5, l6] st σ Q ↔ z ≠ 0 ∧ ab_Run X 13 45 (3, 0, 0) [l0, ab_R z, l2, l3, l4, l5, l6] (ab_R z :: st) σ Q := ab_r_aload_n rfl kc_X2_bestAgainst dX2_bestAgainst_44
theorem rX2_bestAgainst_45 : ab_Run X 13 45 (3, 0, 0) [ab_R z, l1, l2, l3, l4, l5, l6] st σ Q ↔ z ≠ 0 ∧ ab_Run X 13 46 (3, 0, 0) [ab_R z, l1, l2, l3, l4, l5, l6] (ab_R z :: st) σ Q := ab_r_aload_n rfl kc_X2_bestAgainst dX2_bestAgainst_45
theorem rX2_bestAgainst_46 : ab_Run X 13 46 (3, 0, 0) L (ab_R a :: st) σ Q ↔ (ab_sh σ a).1 = 3 ∧ ab_Run X 13 49 (3, 0, 0) L (ab_R (ab_rd σ a 0) :: st) σ Q := gF_2_13 ko_X2_bestAgainst kc_X2_bestAgainst dX2_bestAgainst_46
theorem rX2_bestAgainst_49 : ab_Run X 13 49 (3, 0, 0) [l0, l1, l2, l3, l4, l5, ab_I z] st σ Q ↔ ab_Run X 13 51 (3, 0, 0) [l0, l1, l2, l3, l4, l5, ab_I z] (ab_I z :: st) σ Q := ab_r_iload rfl kc_X2_bestAgainst dX2_bestAgainst_49
theorem rX2_bestAgainst_51 : ab_Run X 13 51 (3, 0, 0) L (ab_I i :: ab_R a :: st) σ Q ↔ ((25 ≤ (ab_sh σ a).1 ∧ (ab_sh σ a).1 < 30) ∧ 0 ≤ i ∧ i < (ab_sh σ a).2) ∧ ab_Run X 13 52 (3, 0, 0) L (ab_R (ab_rd σ a i) :: st) σ Q := ab_r_aaload kc_X2_bestAgainst dX2_bestAgainst_51
theorem rX2_bestAgainst_52 : ab_Run X 13 52 (3, 0, 0) [l0, ab_R z, l2, l3, l4, l5, l6] st σ Q ↔ z ≠ 0 ∧ ab_Run X 13 53 (3, 0, 0) [l0, ab_R z, l2, l3, l4, l5, l6] (ab_R z :: st) σ Q := ab_r_aload_n rfl kc_X2_bestAgainst dX2_bestAgainst_52
theorem rX2_bestAgainst_53 : ab_Run X 13 53 (3, 0, 0) L (ab_R a :: st) σ Q ↔ (ab_sh σ a).1 = 7 ∧ ab_Run X 13 56 (3, 0, 0) L (ab_R (ab_rd σ a 1) :: st) σ Q := gF_2_69 ko_X2_bestAgainst kc_X2_bestAgainst dX2_bestAgainst_53
theorem rX2_bestAgainst_56 : ab_Run X 13 56 (3, 0, 0) L (ab_R x2 :: ab_R x1 :: ab_R a :: st) σ Q ↔ ((ab_sh σ a).1 = 7 ∧ ab_cats st ≤ 8) ∧ ab_Do X 40 [ab_R a, ab_R x1, ab_R x2] σ (fun r σ' => ab_Run X 13 59 (3, 0, 0) L (ab_psh r st) σ' Q) := ab_r_callV (w := [ab_R x2, ab_R x1]) (as := [ab_R x1, ab_R x2]) (b1 := (1, 0, 0)) 0 (Or.inl rfl) (by decide) ko_X2_bestAgainst qM_2_73 (by decide) rfl rfl rfl rfl rfl (by decide) (Nat.le_of_ble_eq_true rfl) kc_X2_bestAgainst dX2_bestAgainst_56
theorem rX2_bestAgainst_59 : ab_Run X 13 59 (3, 0, 0) [l0, ab_R z, l2, l3, l4, l5, l6] st σ Q ↔ z ≠ 0 ∧ ab_Run X 13 60 (3, 0, 0) [l0, ab_R z, l2, l3, l4, l5, l6] (ab_R z :: st) σ Q := ab_r_aload_n rfl kc_X2_bestAgainst dX2_bestAgainst_59
theorem rX2_bestAgainst_60 : ab_Run X 13 60 (3, 0, 0) L (ab_R a :: st) σ Q ↔ (ab_sh σ a).1 = 7 ∧ ab_Run X 13 63 (3, 0, 0) L (ab_R (ab_rd σ a 2) :: st) σ Q := gF_2_77 ko_X2_bestAgainst kc_X2_bestAgainst dX2_bestAgainst_60
theorem rX2_bestAgainst_63 : ab_Run X 13 63 (3, 0, 0) L st σ Q ↔ ab_Run X 13 64 (3, 0, 0) L (ab_I 0 :: st) σ Q := ab_r_iconst (by decide) kc_X2_bestAgainst dX2_bestAgainst_63
theorem rX2_bestAgainst_64 : ab_Run X 13 64 (3, 0, 0) L (ab_I i :: ab_R a :: st) σ Q ↔ ((ab_sh σ a).1 = 21 ∧ 0 ≤ i ∧ i < (ab_sh σ a).2) ∧ ab_Run X 13 65 (3, 0, 0) L (ab_I (ab_rd σ a i) :: st) σ Q := ab_r_iaload (by decide) kc_X2_bestAgainst dX2_bestAgainst_64
theorem rX2_bestAgainst_65 : ab_Run X 13 65 (3, 0, 0) [l0, l1, l2, l3, l4, ab_I z, l6] st σ Q ↔ ab_Run X 13 67 (3, 0, 0) [l0, l1, l2, l3, l4, ab_I z, l6] (ab_I z :: st) σ Q := ab_r_iload rfl kc_X2_bestAgainst dX2_bestAgainst_65
theorem rX2_bestAgainst_67 : ab_Run X 13 67 (3, 0, 0) L (ab_I b :: ab_I a :: st) σ Q ↔ (a ≤ b → ab_Run X 13 87 (3, 0, 0) L st σ Q) ∧ (¬ (a ≤ b) → ab_Run X 13 70 (3, 0, 0) L st σ Q) := ab_r_icmp_le rfl kc_X2_bestAgainst dX2_bestAgainst_67
theorem rX2_bestAgainst_70 : ab_Run X 13 70 (3, 0, 0) [l0, ab_R z, l2, l3, l4, l5, l6] st σ Q ↔ z ≠ 0 ∧ ab_Run X 13 71 (3, 0, 0) [l0, ab_R z, l2, l3, l4, l5, l6] (ab_R z :: st) σ Q := ab_r_aload_n rfl kc_X2_bestAgainst dX2_bestAgainst_70
theorem rX2_bestAgainst_71 : ab_Run X 13 71 (3, 0, 0) L (ab_R a :: st) σ Q ↔ (ab_sh σ a).1 = 7 ∧ ab_Run X 13 74 (3, 0, 0) L (ab_R (ab_rd σ a 2) :: st) σ Q := gF_2_77 ko_X2_bestAgainst kc_X2_bestAgainst dX2_bestAgainst_71
theorem rX2_bestAgainst_74 : ab_Run X 13 74 (3, 0, 0) L st σ Q ↔ ab_Run X 13 75 (3, 0, 0) L (ab_I 0 :: st) σ Q := ab_r_iconst (by decide) kc_X2_bestAgainst dX2_bestAgainst_74
theorem rX2_bestAgainst_75 : ab_Run X 13 75 (3, 0, 0) L (ab_I i :: ab_R a :: st) σ Q ↔ ((ab_sh σ a).1 = 21 ∧ 0 ≤ i ∧ i < (ab_sh σ a).2) ∧ ab_Run X 13 76 (3, 0, 0) L (ab_I (ab_rd σ a i) :: st) σ Q := ab_r_iaload (by decide) kc_X2_bestAgainst dX2_bestAgainst_75
theorem rX2_bestAgainst_76 : ab_Run X 13 76 (3, 0, 0) [l0, l1, l2, l3, l4, l5, l6] (ab_I z :: st) σ Q ↔ (!ab_isJ l4) = true ∧ ab_Run X 13 78 (3, 0, 0) [l0, l1, l2, l3, l4, ab_I z, l6] st σ Q := ab_r_istore (Nat.le_of_ble_eq_true rfl) kc_X2_bestAgainst dX2_bestAgainst_76
theorem rX2_bestAgainst_78 : ab_Run X 13 78 (3, 0, 0) [ab_R z, l1, l2, l3, l4, l5, l6] st σ Q ↔ z ≠ 0 ∧ ab_Run X 13 79 (3, 0, 0) [ab_R z, l1, l2, l3, l4, l5, l6] (ab_R z :: st) σ Q := ab_r_aload_n rfl kc_X2_bestAgainst dX2_bestAgainst_78
theorem rX2_bestAgainst_79 : ab_Run X 13 79 (3, 0, 0) L (ab_R a :: st) σ Q ↔ (ab_sh σ a).1 = 3 ∧ ab_Run X 13 82 (3, 0, 0) L (ab_R (ab_rd σ a 2) :: st) σ Q := gF_2_20 ko_X2_bestAgainst kc_X2_bestAgainst dX2_bestAgainst_79
theorem rX2_bestAgainst_82 : ab_Run X 13 82 (3, 0, 0) [l0, l1, l2, l3, l4, l5, ab_I z] st σ Q ↔ ab_Run X 13 84 (3, 0, 0) [l0, l1, l2, l3, l4, l5, ab_I z] (ab_I z :: st) σ Q := ab_r_iload rfl kc_X2_bestAgainst dX2_bestAgainst_82
theorem rX2_bestAgainst_84 : ab_Run X 13 84 (3, 0, 0) L (ab_I i :: ab_R a :: st) σ Q ↔ ((ab_sh σ a).1 = 21 ∧ 0 ≤ i ∧ i < (ab_sh σ a).2) ∧ ab_Run X 13 85 (3, 0, 0) L (ab_I (ab_rd σ a i) :: st) σ Q := ab_r_iaload (by decide) kc_X2_bestAgainst dX2_bestAgainst_84
theorem rX2_bestAgainst_85 : ab_Run X 13 85 (3, 0, 0) [l0, l1, l2, l3, l4, l5, l6] (ab_I z :: st) σ Q ↔ (!ab_isJ l3) = true ∧ ab_Run X 13 87 (3, 0, 0) [l0, l1, l2, l3, ab_I z, l5, l6] st σ Q := ab_r_istore (Nat.le_of_ble_eq_true rfl) kc_X2_bestAgainst dX2_bestAgainst_85
theorem rX2_bestAgainst_87 : ab_Run X 13 87 (3, 0, 0) [l0, l1, l2, l3, l4, l5, ab_I z] st σ Q ↔ (!ab_isJ l5) = true ∧ ab_Run X 13 90 (3, 0, 0) [l0, l1, l2, l3, l4, l5, ab_I (ab_w32 (z + 1))] st σ Q := ab_r_iinc rfl (by decide) kc_X2_bestAgainst dX2_bestAgainst_87
theorem rX2_bestAgainst_90 : ab_Run X 13 90 (3, 0, 0) L st σ Q ↔ ab_Run X 13 35 (3, 0, 0) L st σ Q := ab_r_goto rfl kc_X2_bestAgainst dX2_bestAgainst_90
theorem rX2_bestAgainst_93 : ab_Run X 13 93 (3, 0, 0) [l0, l1, l2, l3, ab_I z, l5, l6] st σ Q ↔ ab_Run X 13 95 (3, 0, 0) [l0, l1, l2, l3, ab_I z, l5, l6] (ab_I z :: st) σ Q := ab_r_iload rfl kc_X2_bestAgainst dX2_bestAgainst_93
theorem rX2_bestAgainst_95 : ab_Run X 13 95 (3, 0, 0) L [ab_I v] σ Q ↔ Q (some (ab_I v)) σ := ab_r_ireturnI rfl kc_X2_bestAgainst dX2_bestAgainst_95
theorem kc_X2_play : ab_code 14 = cX2_play := rfl
theorem ko_X2_play : ab_ow 14 = 2 := rfl
theorem rX2_play_0 : ab_Run X 14 0 (3, 0, 0) [l0, ab_R z, l2, l3, l4, l5, l6] st σ Q ↔ z ≠ 0 ∧ ab_Run X 14 1 (3, 0, 0) [l0, ab_R z, l2, l3, l4, l5, l6] (ab_R z :: st) σ Q := ab_r_aload_n rfl kc_X2_play dX2_play_0
theorem rX2_play_1 : ab_Run X 14 1 (3, 0, 0) [l0, l1, l2, ab_R z, l4, l5, l6] st σ Q ↔ z ≠ 0 ∧ ab_Run X 14 2 (3, 0, 0) [l0, l1, l2, ab_R z, l4, l5, l6] (ab_R z :: st) σ Q := ab_r_aload_n rfl kc_X2_play dX2_play_1
theorem rX2_play_2 : ab_Run X 14 2 (3, 0, 0) [l0, l1, l2, l3, ab_R z, l5, l6] st σ Q ↔ z ≠ 0 ∧ ab_Run X 14 4 (3, 0, 0) [l0, l1, l2, l3, ab_R z, l5, l6] (ab_R z :: st) σ Q := ab_r_aload rfl kc_X2_play dX2_play_2
theorem rX2_play_4 : ab_Run X 14 4 (3, 0, 0) L (ab_R x2 :: ab_R x1 :: ab_R a :: st) σ Q ↔ ((ab_sh σ a).1 = 7 ∧ ab_cats st ≤ 8) ∧ ab_Do X 34 [ab_R a, ab_R x1, ab_R x2] σ (fun r σ' => ab_Run X 14 7 (3, 0, 0) L (ab_psh r st) σ' Q) := ab_r_callV (w := [ab_R x2, ab_R x1]) (as := [ab_R x1, ab_R x2]) (b1 := (0, 0, 0)) 0 (Or.inl rfl) (by decide) ko_X2_play qM_2_80 (by decide) rfl rfl rfl rfl rfl (by decide) (Nat.le_of_ble_eq_true rfl) kc_X2_play dX2_play_4
theorem rX2_play_7 : ab_Run X 14 7 (3, 0, 0) [ab_R z, l1, l2, l3, l4, l5, l6] st σ Q ↔ z ≠ 0 ∧ ab_Run X 14 8 (3, 0, 0) [ab_R z, l1, l2, l3, l4, l5, l6] (ab_R z :: st) σ Q := ab_r_aload_n rfl kc_X2_play dX2_play_7
theorem rX2_play_8 : ab_Run X 14 8 (3, 0, 0) [l0, ab_R z, l2, l3, l4, l5, l6] st σ Q ↔ z ≠ 0 ∧ ab_Run X 14 9 (3, 0, 0) [l0, ab_R z, l2, l3, l4, l5, l6] (ab_R z :: st) σ Q := ab_r_aload_n rfl kc_X2_play dX2_play_8
theorem rX2_play_9 : ab_Run X 14 9 (3, 0, 0) [l0, l1, ab_R z, l3, l4, l5, l6] st σ Q ↔ z ≠ 0 ∧ ab_Run X 14 10 (3, 0, 0) [l0, l1, ab_R z, l3, l4, l5, l6] (ab_R z :: st) σ Q := ab_r_aload_n rfl kc_X2_play dX2_play_9
theorem rX2_play_10 : ab_Run X 14 10 (3, 0, 0) L st σ Q ↔ ab_Run X 14 11 (3, 0, 0) L (ab_I 0 :: st) σ Q := ab_r_iconst (by decide) kc_X2_play dX2_play_10
theorem rX2_play_11 : ab_Run X 14 11 (3, 0, 0) [l0, l1, l2, ab_R z, l4, l5, l6] st σ Q ↔ z ≠ 0 ∧ ab_Run X 14 12 (3, 0, 0) [l0, l1, l2, ab_R z, l4, l5, l6] (ab_R z :: st) σ Q := ab_r_aload_n rfl kc_X2_play dX2_play_11
theorem rX2_play_12 : ab_Run X 14 12 (3, 0, 0) [ab_R z, l1, l2, l3, l4, l5, l6] st σ Q ↔ z ≠ 0 ∧ ab_Run X 14 13 (3, 0, 0) [ab_R z, l1, l2, l3, l4, l5, l6] (ab_R z :: st) σ Q := ab_r_aload_n rfl kc_X2_play dX2_play_12
theorem rX2_play_13 : ab_Run X 14 13 (3, 0, 0) L (ab_R a :: st) σ Q ↔ (ab_sh σ a).1 = 3 ∧ ab_Run X 14 16 (3, 0, 0) L (ab_R (ab_rd σ a 0) :: st) σ Q := gF_2_13 ko_X2_play kc_X2_play dX2_play_13
theorem rX2_play_16 : ab_Run X 14 16 (3, 0, 0) [ab_R z, l1, l2, l3, l4, l5, l6] st σ Q ↔ z ≠ 0 ∧ ab_Run X 14 17 (3, 0, 0) [ab_R z, l1, l2, l3, l4, l5, l6] (ab_R z :: st) σ Q := ab_r_aload_n rfl kc_X2_play dX2_play_16
theorem rX2_play_17 : ab_Run X 14 17 (3, 0, 0) L (ab_R a :: st) σ Q ↔ (ab_sh σ a).1 = 3 ∧ ab_Run X 14 20 (3, 0, 0) L (ab_R (ab_rd σ a 2) :: st) σ Q := gF_2_20 ko_X2_play kc_X2_play dX2_play_17
theorem rX2_play_20 : ab_Run X 14 20 (3, 0, 0) L (ab_R x6 :: ab_R x5 :: ab_R x4 :: ab_I x3 :: ab_R x2 :: ab_R x1 :: st) σ Q ↔ ab_cats st ≤ 8 ∧ ab_Do X 12 [ab_R x1, ab_R x2, ab_I x3, ab_R x4, ab_R x5, ab_R x6] σ (fun r σ' => ab_Run X 14 23 (3, 0, 0) L (ab_psh r st) σ' Q) := ab_r_callS (w := [ab_R x6, ab_R x5, ab_R x4, ab_I x3, ab_R x2, ab_R x1]) (as := [ab_R x1, ab_R x2, ab_I x3, ab_R x4, ab_R x5, ab_R x6]) (b1 := (2, 0, 0)) (by decide) ko_X2_play qM_2_62 (by decide) rfl rfl rfl rfl (by decide) (Nat.le_of_ble_eq_true rfl) kc_X2_play dX2_play_20
theorem rX2_play_23 : ab_Run X 14 23 (3, 0, 0) L (ab_I z :: ab_R a :: st) σ Q ↔ (ab_sh σ a).1 = 3 ∧ ab_Run X 14 26 (3, 0, 0) L st (ab_wr σ a 8 z) Q := sF_2_66 ko_X2_play kc_X2_play dX2_play_23
theorem rX2_play_26 : ab_Run X 14 26 (3, 0, 0) [ab_R z, l1, l2, l3, l4, l5, l6] st σ Q ↔ z ≠ 0 ∧ ab_Run X 14 27 (3, 0, 0) [ab_R z, l1, l2, l3, l4, l5, l6] (ab_R z :: st) σ Q := ab_r_aload_n rfl kc_X2_play dX2_play_26
theorem rX2_play_27 : ab_Run X 14 27 (3, 0, 0) [l0, ab_R z, l2, l3, l4, l5, l6] st σ Q ↔ z ≠ 0 ∧ ab_Run X 14 28 (3, 0, 0) [l0, ab_R z, l2, l3, l4, l5, l6] (ab_R z :: st) σ Q := ab_r_aload_n rfl kc_X2_play dX2_play_27
theorem rX2_play_28 : ab_Run X 14 28 (3, 0, 0) [l0, l1, ab_R z, l3, l4, l5, l6] st σ Q ↔ z ≠ 0 ∧ ab_Run X 14 29 (3, 0, 0) [l0, l1, ab_R z, l3, l4, l5, l6] (ab_R z :: st) σ Q := ab_r_aload_n rfl kc_X2_play dX2_play_28
theorem rX2_play_29 : ab_Run X 14 29 (3, 0, 0) L st σ Q ↔ ab_Run X 14 30 (3, 0, 0) L (ab_I 1 :: st) σ Q := ab_r_iconst (by decide) kc_X2_play dX2_play_29
theorem rX2_play_30 : ab_Run X 14 30 (3, 0, 0) [l0, l1, l2, l3, ab_R z, l5, l6] st σ Q ↔ z ≠ 0 ∧ ab_Run X 14 32 (3, 0, 0) [l0, l1, l2, l3, ab_R z, l5, l6] (ab_R z :: st) σ Q := ab_r_aload rfl kc_X2_play dX2_play_30
theorem rX2_play_32 : ab_Run X 14 32 (3, 0, 0) [ab_R z, l1, l2, l3, l4, l5, l6] st σ Q ↔ z ≠ 0 ∧ ab_Run X 14 33 (3, 0, 0) [ab_R z, l1, l2, l3, l4, l5, l6] (ab_R z :: st) σ Q := ab_r_aload_n rfl kc_X2_play dX2_play_32
theorem rX2_play_33 : ab_Run X 14 33 (3, 0, 0) L (ab_R a :: st) σ Q ↔ (ab_sh σ a).1 = 3 ∧ ab_Run X 14 36 (3, 0, 0) L (ab_R (ab_rd σ a 1) :: st) σ Q := gF_2_17 ko_X2_play kc_X2_play dX2_play_33
theorem rX2_play_36 : ab_Run X 14 36 (3, 0, 0) [ab_R z, l1, l2, l3, l4, l5, l6] st σ Q ↔ z ≠ 0 ∧ ab_Run X 14 37 (3, 0, 0) [ab_R z, l1, l2, l3, l4, l5, l6] (ab_R z :: st) σ Q := ab_r_aload_n rfl kc_X2_play dX2_play_36
theorem rX2_play_37 : ab_Run X 14 37 (3, 0, 0) L (ab_R a :: st) σ Q ↔ (ab_sh σ a).1 = 3 ∧ ab_Run X 14 40 (3, 0, 0) L (ab_R (ab_rd σ a 3) :: st) σ Q := gF_2_24 ko_X2_play kc_X2_play dX2_play_37
theorem rX2_play_40 : ab_Run X 14 40 (3, 0, 0) L (ab_R x6 :: ab_R x5 :: ab_R x4 :: ab_I x3 :: ab_R x2 :: ab_R x1 :: st) σ Q ↔ ab_cats st ≤ 8 ∧ ab_Do X 12 [ab_R x1, ab_R x2, ab_I x3, ab_R x4, ab_R x5, ab_R x6] σ (fun r σ' => ab_Run X 14 43 (3, 0, 0) L (ab_psh r st) σ' Q) := ab_r_callS (w := [ab_R x6, ab_R x5, ab_R x4, ab_I x3, ab_R x2, ab_R x1]) (as := [ab_R x1, ab_R x2, ab_I x3, ab_R x4, ab_R x5, ab_R x6]) (b1 := (2, 0, 0)) (by decide) ko_X2_play qM_2_62 (by decide) rfl rfl rfl rfl (by decide) (Nat.le_of_ble_eq_true rfl) kc_X2_play dX2_play_40
theorem rX2_play_43 : ab_Run X 14 43 (3, 0, 0) L (ab_I z :: ab_R a :: st) σ Q ↔ (ab_sh σ a).1 = 3 ∧ ab_Run X 14 46 (3, 0, 0) L st (ab_wr σ a 9 z) Q := sF_2_84 ko_X2_play kc_X2_play dX2_play_43
theorem rX2_play_46 : ab_Run X 14 46 (3, 0, 0) L st σ Q ↔ ab_Run X 14 47 (3, 0, 0) L (ab_I 0 :: st) σ Q := ab_r_iconst (by decide) kc_X2_play dX2_play_46
theorem rX2_play_47 : ab_Run X 14 47 (3, 0, 0) [l0, l1, l2, l3, l4, l5, l6] (ab_I z :: st) σ Q ↔ (!ab_isJ l4) = true ∧ ab_Run X 14 49 (3, 0, 0) [l0, l1, l2, l3, l4, ab_I z, l6] st σ Q := ab_r_istore (Nat.le_of_ble_eq_true rfl) kc_X2_play dX2_play_47
theorem rX2_play_49 : ab_Run X 14 49 (3, 0, 0) [l0, l1, l2, l3, l4, ab_I z, l6] st σ Q ↔ ab_Run X 14 51 (3, 0, 0) [l0, l1, l2, l3, l4, ab_I z, l6] (ab_I z :: st) σ Q := ab_r_iload rfl kc_X2_play dX2_play_49
theorem rX2_play_51 : ab_Run X 14 51 (3, 0, 0) L st σ Q ↔ ab_Run X 14 53 (3, 0, 0) L (ab_I 12 :: st) σ Q := ab_r_bipush (by decide) kc_X2_play dX2_play_51
theorem rX2_play_53 : ab_Run X 14 53 (3, 0, 0) L (ab_I b :: ab_I a :: st) σ Q ↔ (b ≤ a → ab_Run X 14 78 (3, 0, 0) L st σ Q) ∧ (¬ (b ≤ a) → ab_Run X 14 56 (3, 0, 0) L st σ Q) := ab_r_icmp_ge rfl kc_X2_play dX2_play_53
theorem rX2_play_56 : ab_Run X 14 56 (3, 0, 0) [ab_R z, l1, l2, l3, l4, l5, l6] st σ Q ↔ z ≠ 0 ∧ ab_Run X 14 57 (3, 0, 0) [ab_R z, l1, l2, l3, l4, l5, l6] (ab_R z :: st) σ Q := ab_r_aload_n rfl kc_X2_play dX2_play_56
theorem rX2_play_57 : ab_Run X 14 57 (3, 0, 0) L (ab_R a :: st) σ Q ↔ (ab_sh σ a).1 = 3 ∧ ab_Run X 14 60 (3, 0, 0) L (ab_R (ab_rd σ a 6) :: st) σ Q := gF_2_35 ko_X2_play kc_X2_play dX2_play_57
theorem rX2_play_60 : ab_Run X 14 60 (3, 0, 0) [l0, l1, l2, l3, l4, ab_I z, l6] st σ Q ↔ ab_Run X 14 62 (3, 0, 0) [l0, l1, l2, l3, l4, ab_I z, l6] (ab_I z :: st) σ Q := ab_r_iload rfl kc_X2_play dX2_play_60
theorem rX2_play_62 : ab_Run X 14 62 (3, 0, 0) L st σ Q ↔ ab_Run X 14 63 (3, 0, 0) L (ab_I 0 :: st) σ Q := ab_r_iconst (by decide) kc_X2_play dX2_play_62
theorem rX2_play_63 : ab_Run X 14 63 (3, 0, 0) L (ab_I v :: ab_I i :: ab_R a :: st) σ Q ↔ ((ab_sh σ a).1 = 21 ∧ 0 ≤ i ∧ i < (ab_sh σ a).2) ∧ ab_Run X 14 64 (3, 0, 0) L st (ab_wr σ a i v) Q := ab_r_iastore kc_X2_play dX2_play_63
theorem rX2_play_64 : ab_Run X 14 64 (3, 0, 0) [ab_R z, l1, l2, l3, l4, l5, l6] st σ Q ↔ z ≠ 0 ∧ ab_Run X 14 65 (3, 0, 0) [ab_R z, l1, l2, l3, l4, l5, l6] (ab_R z :: st) σ Q := ab_r_aload_n rfl kc_X2_play dX2_play_64
theorem rX2_play_65 : ab_Run X 14 65 (3, 0, 0) L (ab_R a :: st) σ Q ↔ (ab_sh σ a).1 = 3 ∧ ab_Run X 14 68 (3, 0, 0) L (ab_R (ab_rd σ a 7) :: st) σ Q := gF_2_38 ko_X2_play kc_X2_play dX2_play_65
theorem rX2_play_68 : ab_Run X 14 68 (3, 0, 0) [l0, l1, l2, l3, l4, ab_I z, l6] st σ Q ↔ ab_Run X 14 70 (3, 0, 0) [l0, l1, l2, l3, l4, ab_I z, l6] (ab_I z :: st) σ Q := ab_r_iload rfl kc_X2_play dX2_play_68
theorem rX2_play_70 : ab_Run X 14 70 (3, 0, 0) L st σ Q ↔ ab_Run X 14 71 (3, 0, 0) L (ab_I 0 :: st) σ Q := ab_r_iconst (by decide) kc_X2_play dX2_play_70
theorem rX2_play_71 : ab_Run X 14 71 (3, 0, 0) L (ab_I v :: ab_I i :: ab_R a :: st) σ Q ↔ ((ab_sh σ a).1 = 21 ∧ 0 ≤ i ∧ i < (ab_sh σ a).2) ∧ ab_Run X 14 72 (3, 0, 0) L st (ab_wr σ a i v) Q := ab_r_iastore kc_X2_play dX2_play_71
theorem rX2_play_72 : ab_Run X 14 72 (3, 0, 0) [l0, l1, l2, l3, l4, ab_I z, l6] st σ Q ↔ (!ab_isJ l4) = true ∧ ab_Run X 14 75 (3, 0, 0) [l0, l1, l2, l3, l4, ab_I (ab_w32 (z + 1)), l6] st σ Q := ab_r_iinc rfl (by decide) kc_X2_play dX2_play_72
theorem rX2_play_75 : ab_Run X 14 75 (3, 0, 0) L st σ Q ↔ ab_Run X 14 49 (3, 0, 0) L st σ Q := ab_r_goto rfl kc_X2_play dX2_play_75
theorem rX2_play_78 : ab_Run X 14 78 (3, 0, 0) L st σ Q ↔ ab_Run X 14 79 (3, 0, 0) L (ab_I 0 :: st) σ Q := ab_r_iconst (by decide) kc_X2_play dX2_play_78
theorem rX2_play_79 : ab_Run X 14 79 (3, 0, 0) [l0, l1, l2, l3, l4, l5, l6] (ab_I z :: st) σ Q ↔ (!ab_isJ l4) = true ∧ ab_Run X 14 81 (3, 0, 0) [l0, l1, l2, l3, l4, ab_I z, l6] st σ Q := ab_r_istore (Nat.le_of_ble_eq_true rfl) kc_X2_play dX2_play_79
theorem rX2_play_81 : ab_Run X 14 81 (3, 0, 0) [l0, l1, l2, l3, l4, ab_I z, l6] st σ Q ↔ ab_Run X 14 83 (3, 0, 0) [l0, l1, l2, l3, l4, ab_I z, l6] (ab_I z :: st) σ Q := ab_r_iload rfl kc_X2_play dX2_play_81
theorem rX2_play_83 : ab_Run X 14 83 (3, 0, 0) [ab_R z, l1, l2, l3, l4, l5, l6] st σ Q ↔ z ≠ 0 ∧ ab_Run X 14 84 (3, 0, 0) [ab_R z, l1, l2, l3, l4, l5, l6] (ab_R z :: st) σ Q := ab_r_aload_n rfl kc_X2_play dX2_play_83
theorem rX2_play_84 : ab_Run X 14 84 (3, 0, 0) L (ab_R a :: st) σ Q ↔ (ab_sh σ a).1 = 3 ∧ ab_Run X 14 87 (3, 0, 0) L (ab_I (ab_rd σ a 8) :: st) σ Q := gF_2_66 ko_X2_play kc_X2_play dX2_play_84
theorem rX2_play_87 : ab_Run X 14 87 (3, 0, 0) L (ab_I b :: ab_I a :: st) σ Q ↔ (b ≤ a → ab_Run X 14 218 (3, 0, 0) L st σ Q) ∧ (¬ (b ≤ a) → ab_Run X 14 90 (3, 0, 0) L st σ Q) := ab_r_icmp_ge rfl kc_X2_play dX2_play_87
theorem rX2_play_90 : ab_Run X 14 90 (3, 0, 0) L st σ Q ↔ ab_Run X 14 91 (3, 0, 0) L (ab_I 0 :: st) σ Q := ab_r_iconst (by decide) kc_X2_play dX2_play_90
theorem rX2_play_91 : ab_Run X 14 91 (3, 0, 0) [l0, l1, l2, l3, l4, l5, l6] (ab_I z :: st) σ Q ↔ (!ab_isJ l5) = true ∧ ab_Run X 14 93 (3, 0, 0) [l0, l1, l2, l3, l4, l5, ab_I z] st σ Q := ab_r_istore (Nat.le_of_ble_eq_true rfl) kc_X2_play dX2_play_91
theorem rX2_play_93 : ab_Run X 14 93 (3, 0, 0) [l0, l1, l2, l3, l4, l5, ab_I z] st σ Q ↔ ab_Run X 14 95 (3, 0, 0) [l0, l1, l2, l3, l4, l5, ab_I z] (ab_I z :: st) σ Q := ab_r_iload rfl kc_X2_play dX2_play_93
theorem rX2_play_95 : ab_Run X 14 95 (3, 0, 0) [ab_R z, l1, l2, l3, l4, l5, l6] st σ Q ↔ z ≠ 0 ∧ ab_Run X 14 96 (3, 0, 0) [ab_R z, l1, l2, l3, l4, l5, l6] (ab_R z :: st) σ Q := ab_r_aload_n rfl kc_X2_play dX2_play_95
theorem rX2_play_96 : ab_Run X 14 96 (3, 0, 0) L (ab_R a :: st) σ Q ↔ (ab_sh σ a).1 = 3 ∧ ab_Run X 14 99 (3, 0, 0) L (ab_I (ab_rd σ a 9) :: st) σ Q := gF_2_84 ko_X2_play kc_X2_play dX2_play_96
theorem rX2_play_99 : ab_Run X 14 99 (3, 0, 0) L (ab_I b :: ab_I a :: st) σ Q ↔ (b ≤ a → ab_Run X 14 212 (3, 0, 0) L st σ Q) ∧ (¬ (b ≤ a) → ab_Run X 14 102 (3, 0, 0) L st σ Q) := ab_r_icmp_ge rfl kc_X2_play dX2_play_99
theorem rX2_play_102 : ab_Run X 14 102 (3, 0, 0) [l0, ab_R z, l2, l3, l4, l5, l6] st σ Q ↔ z ≠ 0 ∧ ab_Run X 14 103 (3, 0, 0) [l0, ab_R z, l2, l3, l4, l5, l6] (ab_R z :: st) σ Q := ab_r_aload_n rfl kc_X2_play dX2_play_102
theorem rX2_play_103 : ab_Run X 14 103 (3, 0, 0) [ab_R z, l1, l2, l3, l4, l5, l6] st σ Q ↔ z ≠ 0 ∧ ab_Run X 14 104 (3, 0, 0) [ab_R z, l1, l2, l3, l4, l5, l6] (ab_R z :: st) σ Q := ab_r_aload_n rfl kc_X2_play dX2_play_103
theorem rX2_play_104 : ab_Run X 14 104 (3, 0, 0) L (ab_R a :: st) σ Q ↔ (ab_sh σ a).1 = 3 ∧ ab_Run X 14 107 (3, 0, 0) L (ab_R (ab_rd σ a 0) :: st) σ Q := gF_2_13 ko_X2_play kc_X2_play dX2_play_104
theorem rX2_play_107 : ab_Run X 14 107 (3, 0, 0) [l0, l1, l2, l3, l4, ab_I z, l6] st σ Q ↔ ab_Run X 14 109 (3, 0, 0) [l0, l1, l2, l3, l4, ab_I z, l6] (ab_I z :: st) σ Q := ab_r_iload rfl kc_X2_play dX2_play_107
theorem rX2_play_109 : ab_Run X 14 109 (3, 0, 0) L (ab_I i :: ab_R a :: st) σ Q ↔ ((25 ≤ (ab_sh σ a).1 ∧ (ab_sh σ a).1 < 30) ∧ 0 ≤ i ∧ i < (ab_sh σ a).2) ∧ ab_Run X 14 110 (3, 0, 0) L (ab_R (ab_rd σ a i) :: st) σ Q := ab_r_aaload kc_X2_play dX2_play_109
theorem rX2_play_110 : ab_Run X 14 110 (3, 0, 0) [ab_R z, l1, l2, l3, l4, l5, l6] st σ Q ↔ z ≠ 0 ∧ ab_Run X 14 111 (3, 0, 0) [ab_R z, l1, l2, l3, l4, l5, l6] (ab_R z :: st) σ Q := ab_r_aload_n rfl kc_X2_play dX2_play_110
theorem rX2_play_111 : ab_Run X 14 111 (3, 0, 0) L (ab_R a :: st) σ Q ↔ (ab_sh σ a).1 = 3 ∧ ab_Run X 14 114 (3, 0, 0) L (ab_R (ab_rd σ a 1) :: st) σ Q := gF_2_17 ko_X2_play kc_X2_play dX2_play_111
theorem rX2_play_114 : ab_Run X 14 114 (3, 0, 0) [l0, l1, l2, l3, l4, l5, ab_I z] st σ Q ↔ ab_Run X 14 116 (3, 0, 0) [l0, l1, l2, l3, l4, l5, ab_I z] (ab_I z :: st) σ Q := ab_r_iload rfl kc_X2_play dX2_play_114
theorem rX2_play_116 : ab_Run X 14 116 (3, 0, 0) L (ab_I i :: ab_R a :: st) σ Q ↔ ((25 ≤ (ab_sh σ a).1 ∧ (ab_sh σ a).1 < 30) ∧ 0 ≤ i ∧ i < (ab_sh σ a).2) ∧ ab_Run X 14 117 (3, 0, 0) L (ab_R (ab_rd σ a i) :: st) σ Q := ab_r_aaload kc_X2_play dX2_play_116
theorem rX2_play_117 : ab_Run X 14 117 (3, 0, 0) L (ab_R x2 :: ab_R x1 :: ab_R a :: st) σ Q ↔ ((ab_sh σ a).1 = 7 ∧ ab_cats st ≤ 8) ∧ ab_Do X 40 [ab_R a, ab_R x1, ab_R x2] σ (fun r σ' => ab_Run X 14 120 (3, 0, 0) L (ab_psh r st) σ' Q) := ab_r_callV (w := [ab_R x2, ab_R x1]) (as := [ab_R x1, ab_R x2]) (b1 := (1, 0, 0)) 0 (Or.inl rfl) (by decide) ko_X2_play qM_2_73 (by decide) rfl rfl rfl rfl rfl (by decide) (Nat.le_of_ble_eq_true rfl) kc_X2_play dX2_play_117
theorem rX2_play_120 : ab_Run X 14 120 (3, 0, 0) [ab_R z, l1, l2, l3, l4, l5, l6] st σ Q ↔ z ≠ 0 ∧ ab_Run X 14 121 (3, 0, 0) [ab_R z, l1, l2, l3, l4, l5, l6] (ab_R z :: st) σ Q := ab_r_aload_n rfl kc_X2_play dX2_play_120
theorem rX2_play_121 : ab_Run X 14 121 (3, 0, 0) L (ab_R a :: st) σ Q ↔ (ab_sh σ a).1 = 3 ∧ ab_Run X 14 124 (3, 0, 0) L (ab_R (ab_rd σ a 4) :: st) σ Q := gF_2_29 ko_X2_play kc_X2_play dX2_play_121
theorem rX2_play_124 : ab_Run X 14 124 (3, 0, 0) [l0, l1, l2, l3, l4, ab_I z, l6] st σ Q ↔ ab_Run X 14 126 (3, 0, 0) [l0, l1, l2, l3, l4, ab_I z, l6] (ab_I z :: st) σ Q := ab_r_iload rfl kc_X2_play dX2_play_124
theorem rX2_play_126 : ab_Run X 14 126 (3, 0, 0) L (ab_I i :: ab_R a :: st) σ Q ↔ ((25 ≤ (ab_sh σ a).1 ∧ (ab_sh σ a).1 < 30) ∧ 0 ≤ i ∧ i < (ab_sh σ a).2) ∧ ab_Run X 14 127 (3, 0, 0) L (ab_R (ab_rd σ a i) :: st) σ Q := ab_r_aaload kc_X2_play dX2_play_126
theorem rX2_play_127 : ab_Run X 14 127 (3, 0, 0) [l0, l1, l2, l3, l4, l5, ab_I z] st σ Q ↔ ab_Run X 14 129 (3, 0, 0) [l0, l1, l2, l3, l4, l5, ab_I z] (ab_I z :: st) σ Q := ab_r_iload rfl kc_X2_play dX2_play_127
theorem rX2_play_129 : ab_Run X 14 129 (3, 0, 0) [l0, ab_R z, l2, l3, l4, l5, l6] st σ Q ↔ z ≠ 0 ∧ ab_Run X 14 130 (3, 0, 0) [l0, ab_R z, l2, l3, l4, l5, l6] (ab_R z :: st) σ Q := ab_r_aload_n rfl kc_X2_play dX2_play_129
theorem rX2_play_130 : ab_Run X 14 130 (3, 0, 0) L (ab_R a :: st) σ Q ↔ (ab_sh σ a).1 = 7 ∧ ab_Run X 14 133 (3, 0, 0) L (ab_R (ab_rd σ a 2) :: st) σ Q := gF_2_77 ko_X2_play kc_X2_play dX2_play_130
theorem rX2_play_133 : ab_Run X 14 133 (3, 0, 0) L st σ Q ↔ ab_Run X 14 134 (3, 0, 0) L (ab_I 0 :: st) σ Q := ab_r_iconst (by decide) kc_X2_play dX2_play_133
theorem rX2_play_134 : ab_Run X 14 134 (3, 0, 0) L (ab_I i :: ab_R a :: st) σ Q ↔ ((ab_sh σ a).1 = 21 ∧ 0 ≤ i ∧ i < (ab_sh σ a).2) ∧ ab_Run X 14 135 (3, 0, 0) L (ab_I (ab_rd σ a i) :: st) σ Q := ab_r_iaload (by decide) kc_X2_play dX2_play_134
theorem rX2_play_135 : ab_Run X 14 135 (3, 0, 0) L (ab_I v :: ab_I i :: ab_R a :: st) σ Q ↔ ((ab_sh σ a).1 = 21 ∧ 0 ≤ i ∧ i < (ab_sh σ a).2) ∧ ab_Run X 14 136 (3, 0, 0) L st (ab_wr σ a i v) Q := ab_r_iastore kc_X2_play dX2_play_135
theorem rX2_play_136 : ab_Run X 14 136 (3, 0, 0) [ab_R z, l1, l2, l3, l4, l5, l6] st σ Q ↔ z ≠ 0 ∧ ab_Run X 14 137 (3, 0, 0) [ab_R z, l1, l2, l3, l4, l5, l6] (ab_R z :: st) σ Q := ab_r_aload_n rfl kc_X2_play dX2_play_136
theorem rX2_play_137 : ab_Run X 14 137 (3, 0, 0) L (ab_R a :: st) σ Q ↔ (ab_sh σ a).1 = 3 ∧ ab_Run X 14 140 (3, 0, 0) L (ab_R (ab_rd σ a 5) :: st) σ Q := gF_2_32 ko_X2_play kc_X2_play dX2_play_137
theorem rX2_play_140 : ab_Run X 14 140 (3, 0, 0) [l0, l1, l2, l3, l4, ab_I z, l6] st σ Q ↔ ab_Run X 14 142 (3, 0, 0) [l0, l1, l2, l3, l4, ab_I z, l6] (ab_I z :: st) σ Q := ab_r_iload rfl kc_X2_play dX2_play_140
theorem rX2_play_142 : ab_Run X 14 142 (3, 0, 0) L (ab_I i :: ab_R a :: st) σ Q ↔ ((25 ≤ (ab_sh σ a).1 ∧ (ab_sh σ a).1 < 30) ∧ 0 ≤ i ∧ i < (ab_sh σ a).2) ∧ ab_Run X 14 143 (3, 0, 0) L (ab_R (ab_rd σ a i) :: st) σ Q := ab_r_aaload kc_X2_play dX2_play_142
theorem rX2_play_143 : ab_Run X 14 143 (3, 0, 0) [l0, l1, l2, l3, l4, l5, ab_I z] st σ Q ↔ ab_Run X 14 145 (3, 0, 0) [l0, l1, l2, l3, l4, l5, ab_I z] (ab_I z :: st) σ Q := ab_r_iload rfl kc_X2_play dX2_play_143
theorem rX2_play_145 : ab_Run X 14 145 (3, 0, 0) [l0, ab_R z, l2, l3, l4, l5, l6] st σ Q ↔ z ≠ 0 ∧ ab_Run X 14 146 (3, 0, 0) [l0, ab_R z, l2, l3, l4, l5, l6] (ab_R z :: st) σ Q := ab_r_aload_n rfl kc_X2_play dX2_play_145
theorem rX2_play_146 : ab_Run X 14 146 (3, 0, 0) L (ab_R a :: st) σ Q ↔ (ab_sh σ a).1 = 7 ∧ ab_Run X 14 149 (3, 0, 0) L (ab_R (ab_rd σ a 2) :: st) σ Q := gF_2_77 ko_X2_play kc_X2_play dX2_play_146
theorem rX2_play_149 : ab_Run X 14 149 (3, 0, 0) L st σ Q ↔ ab_Run X 14 150 (3, 0, 0) L (ab_I 1 :: st) σ Q := ab_r_iconst (by decide) kc_X2_play dX2_play_149
theorem rX2_play_150 : ab_Run X 14 150 (3, 0, 0) L (ab_I i :: ab_R a :: st) σ Q ↔ ((ab_sh σ a).1 = 21 ∧ 0 ≤ i ∧ i < (ab_sh σ a).2) ∧ ab_Run X 14 151 (3, 0, 0) L (ab_I (ab_rd σ a i) :: st) σ Q := ab_r_iaload (by decide) kc_X2_play dX2_play_150
theorem rX2_play_151 : ab_Run X 14 151 (3, 0, 0) L (ab_I v :: ab_I i :: ab_R a :: st) σ Q ↔ ((ab_sh σ a).1 = 21 ∧ 0 ≤ i ∧ i < (ab_sh σ a).2) ∧ ab_Run X 14 152 (3, 0, 0) L st (ab_wr σ a i v) Q := ab_r_iastore kc_X2_play dX2_play_151
theorem rX2_play_152 : ab_Run X 14 152 (3, 0, 0) [ab_R z, l1, l2, l3, l4, l5, l6] st σ Q ↔ z ≠ 0 ∧ ab_Run X 14 153 (3, 0, 0) [ab_R z, l1, l2, l3, l4, l5, l6] (ab_R z :: st) σ Q := ab_r_aload_n rfl kc_X2_play dX2_play_152
theorem rX2_play_153 : ab_Run X 14 153 (3, 0, 0) L (ab_R a :: st) σ Q ↔ (ab_sh σ a).1 = 3 ∧ ab_Run X 14 156 (3, 0, 0) L (ab_R (ab_rd σ a 6) :: st) σ Q := gF_2_35 ko_X2_play kc_X2_play dX2_play_153
theorem rX2_play_156 : ab_Run X 14 156 (3, 0, 0) [l0, l1, l2, l3, l4, l5, ab_I z] st σ Q ↔ ab_Run X 14 158 (3, 0, 0) [l0, l1, l2, l3, l4, l5, ab_I z] (ab_I z :: st) σ Q := ab_r_iload rfl kc_X2_play dX2_play_156
theorem rX2_play_158 : ab_Run X 14 158 (3, 0, 0) [ab_R z, l1, l2, l3, l4, l5, l6] st σ Q ↔ z ≠ 0 ∧ ab_Run X 14 159 (3, 0, 0) [ab_R z, l1, l2, l3, l4, l5, l6] (ab_R z :: st) σ Q := ab_r_aload_n rfl kc_X2_play dX2_play_158
theorem rX2_play_159 : ab_Run X 14 159 (3, 0, 0) L (ab_R a :: st) σ Q ↔ (ab_sh σ a).1 = 3 ∧ ab_Run X 14 162 (3, 0, 0) L (ab_R (ab_rd σ a 6) :: st) σ Q := gF_2_35 ko_X2_play kc_X2_play dX2_play_159
theorem rX2_play_162 : ab_Run X 14 162 (3, 0, 0) [l0, l1, l2, l3, l4, l5, ab_I z] st σ Q ↔ ab_Run X 14 164 (3, 0, 0) [l0, l1, l2, l3, l4, l5, ab_I z] (ab_I z :: st) σ Q := ab_r_iload rfl kc_X2_play dX2_play_162
theorem rX2_play_164 : ab_Run X 14 164 (3, 0, 0) L (ab_I i :: ab_R a :: st) σ Q ↔ ((ab_sh σ a).1 = 21 ∧ 0 ≤ i ∧ i < (ab_sh σ a).2) ∧ ab_Run X 14 165 (3, 0, 0) L (ab_I (ab_rd σ a i) :: st) σ Q := ab_r_iaload (by decide) kc_X2_play dX2_play_164
theorem rX2_play_165 : ab_Run X 14 165 (3, 0, 0) [ab_R z, l1, l2, l3, l4, l5, l6] st σ Q ↔ z ≠ 0 ∧ ab_Run X 14 166 (3, 0, 0) [ab_R z, l1, l2, l3, l4, l5, l6] (ab_R z :: st) σ Q := ab_r_aload_n rfl kc_X2_play dX2_play_165
theorem rX2_play_166 : ab_Run X 14 166 (3, 0, 0) L (ab_R a :: st) σ Q ↔ (ab_sh σ a).1 = 3 ∧ ab_Run X 14 169 (3, 0, 0) L (ab_R (ab_rd σ a 4) :: st) σ Q := gF_2_29 ko_X2_play kc_X2_play dX2_play_166
theorem rX2_play_169 : ab_Run X 14 169 (3, 0, 0) [l0, l1, l2, l3, l4, ab_I z, l6] st σ Q ↔ ab_Run X 14 171 (3, 0, 0) [l0, l1, l2, l3, l4, ab_I z, l6] (ab_I z :: st) σ Q := ab_r_iload rfl kc_X2_play dX2_play_169
theorem rX2_play_171 : ab_Run X 14 171 (3, 0, 0) L (ab_I i :: ab_R a :: st) σ Q ↔ ((25 ≤ (ab_sh σ a).1 ∧ (ab_sh σ a).1 < 30) ∧ 0 ≤ i ∧ i < (ab_sh σ a).2) ∧ ab_Run X 14 172 (3, 0, 0) L (ab_R (ab_rd σ a i) :: st) σ Q := ab_r_aaload kc_X2_play dX2_play_171
theorem rX2_play_172 : ab_Run X 14 172 (3, 0, 0) [l0, l1, l2, l3, l4, l5, ab_I z] st σ Q ↔ ab_Run X 14 174 (3, 0, 0) [l0, l1, l2, l3, l4, l5, ab_I z] (ab_I z :: st) σ Q := ab_r_iload rfl kc_X2_play dX2_play_172
theorem rX2_play_174 : ab_Run X 14 174 (3, 0, 0) L (ab_I i :: ab_R a :: st) σ Q ↔ ((ab_sh σ a).1 = 21 ∧ 0 ≤ i ∧ i < (ab_sh σ a).2) ∧ ab_Run X 14 175 (3, 0, 0) L (ab_I (ab_rd σ a i) :: st) σ Q := ab_r_iaload (by decide) kc_X2_play dX2_play_174
theorem rX2_play_175 : ab_Run X 14 175 (3, 0, 0) L (ab_I b :: ab_I a :: st) σ Q ↔ ab_cats st ≤ 8 ∧ ab_Run X 14 178 (3, 0, 0) L (ab_I (if a < b then b else a) :: st) σ Q := ab_r_math 1004 (Or.inl ⟨rfl, rfl⟩) (by decide) ko_X2_play qM_2_87 (by decide) kc_X2_play dX2_play_175
theorem rX2_play_178 : ab_Run X 14 178 (3, 0, 0) L (ab_I v :: ab_I i :: ab_R a :: st) σ Q ↔ ((ab_sh σ a).1 = 21 ∧ 0 ≤ i ∧ i < (ab_sh σ a).2) ∧ ab_Run X 14 179 (3, 0, 0) L st (ab_wr σ a i v) Q := ab_r_iastore kc_X2_play dX2_play_178
theorem rX2_play_179 : ab_Run X 14 179 (3, 0, 0) [ab_R z, l1, l2, l3, l4, l5, l6] st σ Q ↔ z ≠ 0 ∧ ab_Run X 14 180 (3, 0, 0) [ab_R z, l1, l2, l3, l4, l5, l6] (ab_R z :: st) σ Q := ab_r_aload_n rfl kc_X2_play dX2_play_179
theorem rX2_play_180 : ab_Run X 14 180 (3, 0, 0) L (ab_R a :: st) σ Q ↔ (ab_sh σ a).1 = 3 ∧ ab_Run X 14 183 (3, 0, 0) L (ab_R (ab_rd σ a 7) :: st) σ Q := gF_2_38 ko_X2_play kc_X2_play dX2_play_180
theorem rX2_play_183 : ab_Run X 14 183 (3, 0, 0) [l0, l1, l2, l3, l4, ab_I z, l6] st σ Q ↔ ab_Run X 14 185 (3, 0, 0) [l0, l1, l2, l3, l4, ab_I z, l6] (ab_I z :: st) σ Q := ab_r_iload rfl kc_X2_play dX2_play_183
theorem rX2_play_185 : ab_Run X 14 185 (3, 0, 0) [ab_R z, l1, l2, l3, l4, l5, l6] st σ Q ↔ z ≠ 0 ∧ ab_Run X 14 186 (3, 0, 0) [ab_R z, l1, l2, l3, l4, l5, l6] (ab_R z :: st) σ Q := ab_r_aload_n rfl kc_X2_play dX2_play_185
theorem rX2_play_186 : ab_Run X 14 186 (3, 0, 0) L (ab_R a :: st) σ Q ↔ (ab_sh σ a).1 = 3 ∧ ab_Run X 14 189 (3, 0, 0) L (ab_R (ab_rd σ a 7) :: st) σ Q := gF_2_38 ko_X2_play kc_X2_play dX2_play_186
theorem rX2_play_189 : ab_Run X 14 189 (3, 0, 0) [l0, l1, l2, l3, l4, ab_I z, l6] st σ Q ↔ ab_Run X 14 191 (3, 0, 0) [l0, l1, l2, l3, l4, ab_I z, l6] (ab_I z :: st) σ Q := ab_r_iload rfl kc_X2_play dX2_play_189
theorem rX2_play_191 : ab_Run X 14 191 (3, 0, 0) L (ab_I i :: ab_R a :: st) σ Q ↔ ((ab_sh σ a).1 = 21 ∧ 0 ≤ i ∧ i < (ab_sh σ a).2) ∧ ab_Run X 14 192 (3, 0, 0) L (ab_I (ab_rd σ a i) :: st) σ Q := ab_r_iaload (by decide) kc_X2_play dX2_play_191
theorem rX2_play_192 : ab_Run X 14 192 (3, 0, 0) [ab_R z, l1, l2, l3, l4, l5, l6] st σ Q ↔ z ≠ 0 ∧ ab_Run X 14 193 (3, 0, 0) [ab_R z, l1, l2, l3, l4, l5, l6] (ab_R z :: st) σ Q := ab_r_aload_n rfl kc_X2_play dX2_play_192
theorem rX2_play_193 : ab_Run X 14 193 (3, 0, 0) L (ab_R a :: st) σ Q ↔ (ab_sh σ a).1 = 3 ∧ ab_Run X 14 196 (3, 0, 0) L (ab_R (ab_rd σ a 5) :: st) σ Q := gF_2_32 ko_X2_play kc_X2_play dX2_play_193
theorem rX2_play_196 : ab_Run X 14 196 (3, 0, 0) [l0, l1, l2, l3, l4, ab_I z, l6] st σ Q ↔ ab_Run X 14 198 (3, 0, 0) [l0, l1, l2, l3, l4, ab_I z, l6] (ab_I z :: st) σ Q := ab_r_iload rfl kc_X2_play dX2_play_196
theorem rX2_play_198 : ab_Run X 14 198 (3, 0, 0) L (ab_I i :: ab_R a :: st) σ Q ↔ ((25 ≤ (ab_sh σ a).1 ∧ (ab_sh σ a).1 < 30) ∧ 0 ≤ i ∧ i < (ab_sh σ a).2) ∧ ab_Run X 14 199 (3, 0, 0) L (ab_R (ab_rd σ a i) :: st) σ Q := ab_r_aaload kc_X2_play dX2_play_198
theorem rX2_play_199 : ab_Run X 14 199 (3, 0, 0) [l0, l1, l2, l3, l4, l5, ab_I z] st σ Q ↔ ab_Run X 14 201 (3, 0, 0) [l0, l1, l2, l3, l4, l5, ab_I z] (ab_I z :: st) σ Q := ab_r_iload rfl kc_X2_play dX2_play_199
theorem rX2_play_201 : ab_Run X 14 201 (3, 0, 0) L (ab_I i :: ab_R a :: st) σ Q ↔ ((ab_sh σ a).1 = 21 ∧ 0 ≤ i ∧ i < (ab_sh σ a).2) ∧ ab_Run X 14 202 (3, 0, 0) L (ab_I (ab_rd σ a i) :: st) σ Q := ab_r_iaload (by decide) kc_X2_play dX2_play_201
theorem rX2_play_202 : ab_Run X 14 202 (3, 0, 0) L (ab_I b :: ab_I a :: st) σ Q ↔ ab_cats st ≤ 8 ∧ ab_Run X 14 205 (3, 0, 0) L (ab_I (if a < b then b else a) :: st) σ Q := ab_r_math 1004 (Or.inl ⟨rfl, rfl⟩) (by decide) ko_X2_play qM_2_87 (by decide) kc_X2_play dX2_play_202
theorem rX2_play_205 : ab_Run X 14 205 (3, 0, 0) L (ab_I v :: ab_I i :: ab_R a :: st) σ Q ↔ ((ab_sh σ a).1 = 21 ∧ 0 ≤ i ∧ i < (ab_sh σ a).2) ∧ ab_Run X 14 206 (3, 0, 0) L st (ab_wr σ a i v) Q := ab_r_iastore kc_X2_play dX2_play_205
theorem rX2_play_206 : ab_Run X 14 206 (3, 0, 0) [l0, l1, l2, l3, l4, l5, ab_I z] st σ Q ↔ (!ab_isJ l5) = true ∧ ab_Run X 14 209 (3, 0, 0) [l0, l1, l2, l3, l4, l5, ab_I (ab_w32 (z + 1))] st σ Q := ab_r_iinc rfl (by decide) kc_X2_play dX2_play_206
theorem rX2_play_209 : ab_Run X 14 209 (3, 0, 0) L st σ Q ↔ ab_Run X 14 93 (3, 0, 0) L st σ Q := ab_r_goto rfl kc_X2_play dX2_play_209
theorem rX2_play_212 : ab_Run X 14 212 (3, 0, 0) [l0, l1, l2, l3, l4, ab_I z, l6] st σ Q ↔ (!ab_isJ l4) = true ∧ ab_Run X 14 215 (3, 0, 0) [l0, l1, l2, l3, l4, ab_I (ab_w32 (z + 1)), l6] st σ Q := ab_r_iinc rfl (by decide) kc_X2_play dX2_play_212
theorem rX2_play_215 : ab_Run X 14 215 (3, 0, 0) L st σ Q ↔ ab_Run X 14 81 (3, 0, 0) L st σ Q := ab_r_goto rfl kc_X2_play dX2_play_215
theorem rX2_play_218 : ab_Run X 14 218 (3, 0, 0) L [] σ Q ↔ Q none σ := ab_r_return rfl kc_X2_play dX2_play_218
theorem kc_X2_isRest : ab_code 15 = cX2_isRest := rfl
theorem ko_X2_isRest : ab_ow 15 = 2 := rfl
theorem rX2_isRest_0 : ab_Run X 15 0 (0, 0, 0) [ab_R z, l1, l2] st σ Q ↔ z ≠ 0 ∧ ab_Run X 15 1 (0, 0, 0) [ab_R z, l1, l2] (ab_R z :: st) σ Q := ab_r_aload_n rfl kc_X2_isRest dX2_isRest_0
theorem rX2_isRest_1 : ab_Run X 15 1 (0, 0, 0) L (ab_R a :: st) σ Q ↔ (ab_sh σ a).1 = 3 ∧ ab_Run X 15 4 (0, 0, 0) L (ab_R (ab_rd σ a 4) :: st) σ Q := gF_2_29 ko_X2_isRest kc_X2_isRest dX2_isRest_1
theorem rX2_isRest_4 : ab_Run X 15 4 (0, 0, 0) [l0, ab_I z, l2] st σ Q ↔ ab_Run X 15 5 (0, 0, 0) [l0, ab_I z, l2] (ab_I z :: st) σ Q := ab_r_iload_n rfl kc_X2_isRest dX2_isRest_4
theorem rX2_isRest_5 : ab_Run X 15 5 (0, 0, 0) L (ab_I i :: ab_R a :: st) σ Q ↔ ((25 ≤ (ab_sh σ a).1 ∧ (ab_sh σ a).1 < 30) ∧ 0 ≤ i ∧ i < (ab_sh σ a).2) ∧ ab_Run X 15 6 (0, 0, 0) L (ab_R (ab_rd σ a i) :: st) σ Q := ab_r_aaload kc_X2_isRest dX2_isRest_5
theorem rX2_isRest_6 : ab_Run X 15 6 (0, 0, 0) [l0, l1, ab_I z] st σ Q ↔ ab_Run X 15 7 (0, 0, 0) [l0, l1, ab_I z] (ab_I z :: st) σ Q := ab_r_iload_n rfl kc_X2_isRest dX2_isRest_6
theorem rX2_isRest_7 : ab_Run X 15 7 (0, 0, 0) L (ab_I i :: ab_R a :: st) σ Q ↔ ((ab_sh σ a).1 = 21 ∧ 0 ≤ i ∧ i < (ab_sh σ a).2) ∧ ab_Run X 15 8 (0, 0, 0) L (ab_I (ab_rd σ a i) :: st) σ Q := ab_r_iaload (by decide) kc_X2_isRest dX2_isRest_7
theorem rX2_isRest_8 : ab_Run X 15 8 (0, 0, 0) [ab_R z, l1, l2] st σ Q ↔ z ≠ 0 ∧ ab_Run X 15 9 (0, 0, 0) [ab_R z, l1, l2] (ab_R z :: st) σ Q := ab_r_aload_n rfl kc_X2_isRest dX2_isRest_8
theorem rX2_isRest_9 : ab_Run X 15 9 (0, 0, 0) L (ab_R a :: st) σ Q ↔ (ab_sh σ a).1 = 3 ∧ ab_Run X 15 12 (0, 0, 0) L (ab_R (ab_rd σ a 6) :: st) σ Q := gF_2_35 ko_X2_isRest kc_X2_isRest dX2_isRest_9
theorem rX2_isRest_12 : ab_Run X 15 12 (0, 0, 0) [l0, l1, ab_I z] st σ Q ↔ ab_Run X 15 13 (0, 0, 0) [l0, l1, ab_I z] (ab_I z :: st) σ Q := ab_r_iload_n rfl kc_X2_isRest dX2_isRest_12
theorem rX2_isRest_13 : ab_Run X 15 13 (0, 0, 0) L (ab_I i :: ab_R a :: st) σ Q ↔ ((ab_sh σ a).1 = 21 ∧ 0 ≤ i ∧ i < (ab_sh σ a).2) ∧ ab_Run X 15 14 (0, 0, 0) L (ab_I (ab_rd σ a i) :: st) σ Q := ab_r_iaload (by decide) kc_X2_isRest dX2_isRest_13
theorem rX2_isRest_14 : ab_Run X 15 14 (0, 0, 0) L (ab_I b :: ab_I a :: st) σ Q ↔ (¬ a = b → ab_Run X 15 38 (0, 0, 0) L st σ Q) ∧ (¬ (¬ a = b) → ab_Run X 15 17 (0, 0, 0) L st σ Q) := ab_r_icmp_ne rfl kc_X2_isRest dX2_isRest_14
theorem rX2_isRest_17 : ab_Run X 15 17 (0, 0, 0) [ab_R z, l1, l2] st σ Q ↔ z ≠ 0 ∧ ab_Run X 15 18 (0, 0, 0) [ab_R z, l1, l2] (ab_R z :: st) σ Q := ab_r_aload_n rfl kc_X2_isRest dX2_isRest_17
theorem rX2_isRest_18 : ab_Run X 15 18 (0, 0, 0) L (ab_R a :: st) σ Q ↔ (ab_sh σ a).1 = 3 ∧ ab_Run X 15 21 (0, 0, 0) L (ab_R (ab_rd σ a 5) :: st) σ Q := gF_2_32 ko_X2_isRest kc_X2_isRest dX2_isRest_18
theorem rX2_isRest_21 : ab_Run X 15 21 (0, 0, 0) [l0, ab_I z, l2] st σ Q ↔ ab_Run X 15 22 (0, 0, 0) [l0, ab_I z, l2] (ab_I z :: st) σ Q := ab_r_iload_n rfl kc_X2_isRest dX2_isRest_21
theorem rX2_isRest_22 : ab_Run X 15 22 (0, 0, 0) L (ab_I i :: ab_R a :: st) σ Q ↔ ((25 ≤ (ab_sh σ a).1 ∧ (ab_sh σ a).1 < 30) ∧ 0 ≤ i ∧ i < (ab_sh σ a).2) ∧ ab_Run X 15 23 (0, 0, 0) L (ab_R (ab_rd σ a i) :: st) σ Q := ab_r_aaload kc_X2_isRest dX2_isRest_22
theorem rX2_isRest_23 : ab_Run X 15 23 (0, 0, 0) [l0, l1, ab_I z] st σ Q ↔ ab_Run X 15 24 (0, 0, 0) [l0, l1, ab_I z] (ab_I z :: st) σ Q := ab_r_iload_n rfl kc_X2_isRest dX2_isRest_23
theorem rX2_isRest_24 : ab_Run X 15 24 (0, 0, 0) L (ab_I i :: ab_R a :: st) σ Q ↔ ((ab_sh σ a).1 = 21 ∧ 0 ≤ i ∧ i < (ab_sh σ a).2) ∧ ab_Run X 15 25 (0, 0, 0) L (ab_I (ab_rd σ a i) :: st) σ Q := ab_r_iaload (by decide) kc_X2_isRest dX2_isRest_24
theorem rX2_isRest_25 : ab_Run X 15 25 (0, 0, 0) [ab_R z, l1, l2] st σ Q ↔ z ≠ 0 ∧ ab_Run X 15 26 (0, 0, 0) [ab_R z, l1, l2] (ab_R z :: st) σ Q := ab_r_aload_n rfl kc_X2_isRest dX2_isRest_25
theorem rX2_isRest_26 : ab_Run X 15 26 (0, 0, 0) L (ab_R a :: st) σ Q ↔ (ab_sh σ a).1 = 3 ∧ ab_Run X 15 29 (0, 0, 0) L (ab_R (ab_rd σ a 7) :: st) σ Q := gF_2_38 ko_X2_isRest kc_X2_isRest dX2_isRest_26
theorem rX2_isRest_29 : ab_Run X 15 29 (0, 0, 0) [l0, ab_I z, l2] st σ Q ↔ ab_Run X 15 30 (0, 0, 0) [l0, ab_I z, l2] (ab_I z :: st) σ Q := ab_r_iload_n rfl kc_X2_isRest dX2_isRest_29
theorem rX2_isRest_30 : ab_Run X 15 30 (0, 0, 0) L (ab_I i :: ab_R a :: st) σ Q ↔ ((ab_sh σ a).1 = 21 ∧ 0 ≤ i ∧ i < (ab_sh σ a).2) ∧ ab_Run X 15 31 (0, 0, 0) L (ab_I (ab_rd σ a i) :: st) σ Q := ab_r_iaload (by decide) kc_X2_isRest dX2_isRest_30
theorem rX2_isRest_31 : ab_Run X 15 31 (0, 0, 0) L (ab_I b :: ab_I a :: st) σ Q ↔ (¬ a = b → ab_Run X 15 38 (0, 0, 0) L st σ Q) ∧ (¬ (¬ a = b) → ab_Run X 15 34 (0, 0, 0) L st σ Q) := ab_r_icmp_ne rfl kc_X2_isRest dX2_isRest_31
theorem rX2_isRest_34 : ab_Run X 15 34 (0, 0, 0) L st σ Q ↔ ab_Run X 15 35 (0, 0, 0) L (ab_I 1 :: st) σ Q := ab_r_iconst (by decide) kc_X2_isRest dX2_isRest_34
theorem rX2_isRest_35 : ab_Run X 15 35 (0, 0, 0) L st σ Q ↔ ab_Run X 15 39 (0, 0, 0) L st σ Q := ab_r_goto rfl kc_X2_isRest dX2_isRest_35
theorem rX2_isRest_38 : ab_Run X 15 38 (0, 0, 0) L st σ Q ↔ ab_Run X 15 39 (0, 0, 0) L (ab_I 0 :: st) σ Q := ab_r_iconst (by decide) kc_X2_isRest dX2_isRest_38
theorem rX2_isRest_39 : ab_Run X 15 39 (0, 0, 0) L [ab_I v] σ Q ↔ (v = 0 ∨ v = 1) ∧ Q (some (ab_I v)) σ := ab_r_ireturnZ rfl kc_X2_isRest dX2_isRest_39
theorem kc_X2_countRests : ab_code 16 = cX2_countRests := rfl
theorem ko_X2_countRests : ab_ow 16 = 2 := rfl
theorem rX2_countRests_0 : ab_Run X 16 0 (1, 0, 0) L st σ Q ↔ ab_Run X 16 1 (1, 0, 0) L (ab_I 0 :: st) σ Q := ab_r_iconst (by decide) kc_X2_countRests dX2_countRests_0
theorem rX2_countRests_1 : ab_Run X 16 1 (1, 0, 0) [l0, l1, l2, l3] (ab_I z :: st) σ Q ↔ (!ab_isJ l0) = true ∧ ab_Run X 16 2 (1, 0, 0) [l0, ab_I z, l2, l3] st σ Q := ab_r_istore_n (Nat.le_of_ble_eq_true rfl) kc_X2_countRests dX2_countRests_1
theorem rX2_countRests_2 : ab_Run X 16 2 (1, 0, 0) L st σ Q ↔ ab_Run X 16 3 (1, 0, 0) L (ab_I 0 :: st) σ Q := ab_r_iconst (by decide) kc_X2_countRests dX2_countRests_2
theorem rX2_countRests_3 : ab_Run X 16 3 (1, 0, 0) [l0, l1, l2, l3] (ab_I z :: st) σ Q ↔ (!ab_isJ l1) = true ∧ ab_Run X 16 4 (1, 0, 0) [l0, l1, ab_I z, l3] st σ Q := ab_r_istore_n (Nat.le_of_ble_eq_true rfl) kc_X2_countRests dX2_countRests_3
theorem rX2_countRests_4 : ab_Run X 16 4 (1, 0, 0) [l0, l1, ab_I z, l3] st σ Q ↔ ab_Run X 16 5 (1, 0, 0) [l0, l1, ab_I z, l3] (ab_I z :: st) σ Q := ab_r_iload_n rfl kc_X2_countRests dX2_countRests_4
theorem rX2_countRests_5 : ab_Run X 16 5 (1, 0, 0) [ab_R z, l1, l2, l3] st σ Q ↔ z ≠ 0 ∧ ab_Run X 16 6 (1, 0, 0) [ab_R z, l1, l2, l3] (ab_R z :: st) σ Q := ab_r_aload_n rfl kc_X2_countRests dX2_countRests_5
theorem rX2_countRests_6 : ab_Run X 16 6 (1, 0, 0) L (ab_R a :: st) σ Q ↔ (ab_sh σ a).1 = 3 ∧ ab_Run X 16 9 (1, 0, 0) L (ab_I (ab_rd σ a 8) :: st) σ Q := gF_2_66 ko_X2_countRests kc_X2_countRests dX2_countRests_6
theorem rX2_countRests_9 : ab_Run X 16 9 (1, 0, 0) L (ab_I b :: ab_I a :: st) σ Q ↔ (b ≤ a → ab_Run X 16 46 (1, 0, 0) L st σ Q) ∧ (¬ (b ≤ a) → ab_Run X 16 12 (1, 0, 0) L st σ Q) := ab_r_icmp_ge rfl kc_X2_countRests dX2_countRests_9
theorem rX2_countRests_12 : ab_Run X 16 12 (1, 0, 0) L st σ Q ↔ ab_Run X 16 13 (1, 0, 0) L (ab_I 0 :: st) σ Q := ab_r_iconst (by decide) kc_X2_countRests dX2_countRests_12
theorem rX2_countRests_13 : ab_Run X 16 13 (1, 0, 0) [l0, l1, l2, l3] (ab_I z :: st) σ Q ↔ (!ab_isJ l2) = true ∧ ab_Run X 16 14 (1, 0, 0) [l0, l1, l2, ab_I z] st σ Q := ab_r_istore_n (Nat.le_of_ble_eq_true rfl) kc_X2_countRests dX2_countRests_13
theorem rX2_countRests_14 : ab_Run X 16 14 (1, 0, 0) [l0, l1, l2, ab_I z] st σ Q ↔ ab_Run X 16 15 (1, 0, 0) [l0, l1, l2, ab_I z] (ab_I z :: st) σ Q := ab_r_iload_n rfl kc_X2_countRests dX2_countRests_14
theorem rX2_countRests_15 : ab_Run X 16 15 (1, 0, 0) [ab_R z, l1, l2, l3] st σ Q ↔ z ≠ 0 ∧ ab_Run X 16 16 (1, 0, 0) [ab_R z, l1, l2, l3] (ab_R z :: st) σ Q := ab_r_aload_n rfl kc_X2_countRests dX2_countRests_15
theorem rX2_countRests_16 : ab_Run X 16 16 (1, 0, 0) L (ab_R a :: st) σ Q ↔ (ab_sh σ a).1 = 3 ∧ ab_Run X 16 19 (1, 0, 0) L (ab_I (ab_rd σ a 9) :: st) σ Q := gF_2_84 ko_X2_countRests kc_X2_countRests dX2_countRests_16
theorem rX2_countRests_19 : ab_Run X 16 19 (1, 0, 0) L (ab_I b :: ab_I a :: st) σ Q ↔ (b ≤ a → ab_Run X 16 40 (1, 0, 0) L st σ Q) ∧ (¬ (b ≤ a) → ab_Run X 16 22 (1, 0, 0) L st σ Q) := ab_r_icmp_ge rfl kc_X2_countRests dX2_countRests_19
theorem rX2_countRests_22 : ab_Run X 16 22 (1, 0, 0) [ab_R z, l1, l2, l3] st σ Q ↔ z ≠ 0 ∧ ab_Run X 16 23 (1, 0, 0) [ab_R z, l1, l2, l3] (ab_R z :: st) σ Q := ab_r_aload_n rfl kc_X2_countRests dX2_countRests_22
theorem rX2_countRests_23 : ab_Run X 16 23 (1, 0, 0) [l0, l1, ab_I z, l3] st σ Q ↔ ab_Run X 16 24 (1, 0, 0) [l0, l1, ab_I z, l3] (ab_I z :: st) σ Q := ab_r_iload_n rfl kc_X2_countRests dX2_countRests_23
theorem rX2_countRests_24 : ab_Run X 16 24 (1, 0, 0) [l0, l1, l2, ab_I z] st σ Q ↔ ab_Run X 16 25 (1, 0, 0) [l0, l1, l2, ab_I z] (ab_I z :: st) σ Q := ab_r_iload_n rfl kc_X2_countRests dX2_countRests_24
theorem rX2_countRests_25 : ab_Run X 16 25 (1, 0, 0) L (ab_I x2 :: ab_I x1 :: ab_R a :: st) σ Q ↔ ((ab_sh σ a).1 = 3 ∧ ab_cats st ≤ 8) ∧ ab_Do X 15 [ab_R a, ab_I x1, ab_I x2] σ (fun r σ' => ab_Run X 16 28 (1, 0, 0) L (ab_psh r st) σ' Q) := ab_r_callV (w := [ab_I x2, ab_I x1]) (as := [ab_I x1, ab_I x2]) (b1 := (0, 0, 0)) 0 (Or.inl rfl) (by decide) ko_X2_countRests qM_2_93 (by decide) rfl rfl rfl rfl rfl (by decide) (Nat.le_of_ble_eq_true rfl) kc_X2_countRests dX2_countRests_25
theorem rX2_countRests_28 : ab_Run X 16 28 (1, 0, 0) L (ab_I a :: st) σ Q ↔ (a = 0 → ab_Run X 16 34 (1, 0, 0) L st σ Q) ∧ (¬ (a = 0) → ab_Run X 16 31 (1, 0, 0) L st σ Q) := ab_r_if_eq rfl kc_X2_countRests dX2_countRests_28
theorem rX2_countRests_31 : ab_Run X 16 31 (1, 0, 0) [l0, ab_I z, l2, l3] st σ Q ↔ (!ab_isJ l0) = true ∧ ab_Run X 16 34 (1, 0, 0) [l0, ab_I (ab_w32 (z + 1)), l2, l3] st σ Q := ab_r_iinc rfl (by decide) kc_X2_countRests dX2_countRests_31
theorem rX2_countRests_34 : ab_Run X 16 34 (1, 0, 0) [l0, l1, l2, ab_I z] st σ Q ↔ (!ab_isJ l2) = true ∧ ab_Run X 16 37 (1, 0, 0) [l0, l1, l2, ab_I (ab_w32 (z + 1))] st σ Q := ab_r_iinc rfl (by decide) kc_X2_countRests dX2_countRests_34
theorem rX2_countRests_37 : ab_Run X 16 37 (1, 0, 0) L st σ Q ↔ ab_Run X 16 14 (1, 0, 0) L st σ Q := ab_r_goto rfl kc_X2_countRests dX2_countRests_37
theorem rX2_countRests_40 : ab_Run X 16 40 (1, 0, 0) [l0, l1, ab_I z, l3] st σ Q ↔ (!ab_isJ l1) = true ∧ ab_Run X 16 43 (1, 0, 0) [l0, l1, ab_I (ab_w32 (z + 1)), l3] st σ Q := ab_r_iinc rfl (by decide) kc_X2_countRests dX2_countRests_40
theorem rX2_countRests_43 : ab_Run X 16 43 (1, 0, 0) L st σ Q ↔ ab_Run X 16 4 (1, 0, 0) L st σ Q := ab_r_goto rfl kc_X2_countRests dX2_countRests_43
theorem rX2_countRests_46 : ab_Run X 16 46 (1, 0, 0) [l0, ab_I z, l2, l3] st σ Q ↔ ab_Run X 16 47 (1, 0, 0) [l0, ab_I z, l2, l3] (ab_I z :: st) σ Q := ab_r_iload_n rfl kc_X2_countRests dX2_countRests_46
theorem rX2_countRests_47 : ab_Run X 16 47 (1, 0, 0) L [ab_I v] σ Q ↔ Q (some (ab_I v)) σ := ab_r_ireturnI rfl kc_X2_countRests dX2_countRests_47
theorem kc_X2_firstRest : ab_code 17 = cX2_firstRest := rfl
theorem ko_X2_firstRest : ab_ow 17 = 2 := rfl
theorem rX2_firstRest_0 : ab_Run X 17 0 (1, 0, 0) L st σ Q ↔ ab_Run X 17 1 (1, 0, 0) L (ab_I 0 :: st) σ Q := ab_r_iconst (by decide) kc_X2_firstRest dX2_firstRest_0
theorem rX2_firstRest_1 : ab_Run X 17 1 (1, 0, 0) [l0, l1, l2] (ab_I z :: st) σ Q ↔ (!ab_isJ l0) = true ∧ ab_Run X 17 2 (1, 0, 0) [l0, ab_I z, l2] st σ Q := ab_r_istore_n (Nat.le_of_ble_eq_true rfl) kc_X2_firstRest dX2_firstRest_1
theorem rX2_firstRest_2 : ab_Run X 17 2 (1, 0, 0) [l0, ab_I z, l2] st σ Q ↔ ab_Run X 17 3 (1, 0, 0) [l0, ab_I z, l2] (ab_I z :: st) σ Q := ab_r_iload_n rfl kc_X2_firstRest dX2_firstRest_2
theorem rX2_firstRest_3 : ab_Run X 17 3 (1, 0, 0) [ab_R z, l1, l2] st σ Q ↔ z ≠ 0 ∧ ab_Run X 17 4 (1, 0, 0) [ab_R z, l1, l2] (ab_R z :: st) σ Q := ab_r_aload_n rfl kc_X2_firstRest dX2_firstRest_3
theorem rX2_firstRest_4 : ab_Run X 17 4 (1, 0, 0) L (ab_R a :: st) σ Q ↔ (ab_sh σ a).1 = 3 ∧ ab_Run X 17 7 (1, 0, 0) L (ab_I (ab_rd σ a 8) :: st) σ Q := gF_2_66 ko_X2_firstRest kc_X2_firstRest dX2_firstRest_4
theorem rX2_firstRest_7 : ab_Run X 17 7 (1, 0, 0) L (ab_I b :: ab_I a :: st) σ Q ↔ (b ≤ a → ab_Run X 17 58 (1, 0, 0) L st σ Q) ∧ (¬ (b ≤ a) → ab_Run X 17 10 (1, 0, 0) L st σ Q) := ab_r_icmp_ge rfl kc_X2_firstRest dX2_firstRest_7
theorem rX2_firstRest_10 : ab_Run X 17 10 (1, 0, 0) L st σ Q ↔ ab_Run X 17 11 (1, 0, 0) L (ab_I 0 :: st) σ Q := ab_r_iconst (by decide) kc_X2_firstRest dX2_firstRest_10
theorem rX2_firstRest_11 : ab_Run X 17 11 (1, 0, 0) [l0, l1, l2] (ab_I z :: st) σ Q ↔ (!ab_isJ l1) = true ∧ ab_Run X 17 12 (1, 0, 0) [l0, l1, ab_I z] st σ Q := ab_r_istore_n (Nat.le_of_ble_eq_true rfl) kc_X2_firstRest dX2_firstRest_11
theorem rX2_firstRest_12 : ab_Run X 17 12 (1, 0, 0) [l0, l1, ab_I z] st σ Q ↔ ab_Run X 17 13 (1, 0, 0) [l0, l1, ab_I z] (ab_I z :: st) σ Q := ab_r_iload_n rfl kc_X2_firstRest dX2_firstRest_12
theorem rX2_firstRest_13 : ab_Run X 17 13 (1, 0, 0) [ab_R z, l1, l2] st σ Q ↔ z ≠ 0 ∧ ab_Run X 17 14 (1, 0, 0) [ab_R z, l1, l2] (ab_R z :: st) σ Q := ab_r_aload_n rfl kc_X2_firstRest dX2_firstRest_13
theorem rX2_firstRest_14 : ab_Run X 17 14 (1, 0, 0) L (ab_R a :: st) σ Q ↔ (ab_sh σ a).1 = 3 ∧ ab_Run X 17 17 (1, 0, 0) L (ab_I (ab_rd σ a 9) :: st) σ Q := gF_2_84 ko_X2_firstRest kc_X2_firstRest dX2_firstRest_14
theorem rX2_firstRest_17 : ab_Run X 17 17 (1, 0, 0) L (ab_I b :: ab_I a :: st) σ Q ↔ (b ≤ a → ab_Run X 17 52 (1, 0, 0) L st σ Q) ∧ (¬ (b ≤ a) → ab_Run X 17 20 (1, 0, 0) L st σ Q) := ab_r_icmp_ge rfl kc_X2_firstRest dX2_firstRest_17
theorem rX2_firstRest_20 : ab_Run X 17 20 (1, 0, 0) [ab_R z, l1, l2] st σ Q ↔ z ≠ 0 ∧ ab_Run X 17 21 (1, 0, 0) [ab_R z, l1, l2] (ab_R z :: st) σ Q := ab_r_aload_n rfl kc_X2_firstRest dX2_firstRest_20
theorem rX2_firstRest_21 : ab_Run X 17 21 (1, 0, 0) [l0, ab_I z, l2] st σ Q ↔ ab_Run X 17 22 (1, 0, 0) [l0, ab_I z, l2] (ab_I z :: st) σ Q := ab_r_iload_n rfl kc_X2_firstRest dX2_firstRest_21
theorem rX2_firstRest_22 : ab_Run X 17 22 (1, 0, 0) [l0, l1, ab_I z] st σ Q ↔ ab_Run X 17 23 (1, 0, 0) [l0, l1, ab_I z] (ab_I z :: st) σ Q := ab_r_iload_n rfl kc_X2_firstRest dX2_firstRest_22
theorem rX2_firstRest_23 : ab_Run X 17 23 (1, 0, 0) L (ab_I x2 :: ab_I x1 :: ab_R a :: st) σ Q ↔ ((ab_sh σ a).1 = 3 ∧ ab_cats st ≤ 8) ∧ ab_Do X 15 [ab_R a, ab_I x1, ab_I x2] σ (fun r σ' => ab_Run X 17 26 (1, 0, 0) L (ab_psh r st) σ' Q) := ab_r_callV (w := [ab_I x2, ab_I x1]) (as := [ab_I x1, ab_I x2]) (b1 := (0, 0, 0)) 0 (Or.inl rfl) (by decide) ko_X2_firstRest qM_2_93 (by decide) rfl rfl rfl rfl rfl (by decide) (Nat.le_of_ble_eq_true rfl) kc_X2_firstRest dX2_firstRest_23
theorem rX2_firstRest_26 : ab_Run X 17 26 (1, 0, 0) L (ab_I a :: st) σ Q ↔ (a = 0 → ab_Run X 17 46 (1, 0, 0) L st σ Q) ∧ (¬ (a = 0) → ab_Run X 17 29 (1, 0, 0) L st σ Q) := ab_r_if_eq rfl kc_X2_firstRest dX2_firstRest_26
theorem rX2_firstRest_29 : ab_Run X 17 29 (1, 0, 0) L st σ Q ↔ ab_Run X 17 31 (1, 0, 0) L (ab_I 100 :: st) σ Q := ab_r_bipush (by decide) kc_X2_firstRest dX2_firstRest_29
theorem rX2_firstRest_31 : ab_Run X 17 31 (1, 0, 0) [ab_R z, l1, l2] st σ Q ↔ z ≠ 0 ∧ ab_Run X 17 32 (1, 0, 0) [ab_R z, l1, l2] (ab_R z :: st) σ Q := ab_r_aload_n rfl kc_X2_firstRest dX2_firstRest_31
theorem rX2_firstRest_32 : ab_Run X 17 32 (1, 0, 0) L (ab_R a :: st) σ Q ↔ (ab_sh σ a).1 = 3 ∧ ab_Run X 17 35 (1, 0, 0) L (ab_R (ab_rd σ a 2) :: st) σ Q := gF_2_20 ko_X2_firstRest kc_X2_firstRest dX2_firstRest_32
theorem rX2_firstRest_35 : ab_Run X 17 35 (1, 0, 0) [l0, ab_I z, l2] st σ Q ↔ ab_Run X 17 36 (1, 0, 0) [l0, ab_I z, l2] (ab_I z :: st) σ Q := ab_r_iload_n rfl kc_X2_firstRest dX2_firstRest_35
theorem rX2_firstRest_36 : ab_Run X 17 36 (1, 0, 0) L (ab_I i :: ab_R a :: st) σ Q ↔ ((ab_sh σ a).1 = 21 ∧ 0 ≤ i ∧ i < (ab_sh σ a).2) ∧ ab_Run X 17 37 (1, 0, 0) L (ab_I (ab_rd σ a i) :: st) σ Q := ab_r_iaload (by decide) kc_X2_firstRest dX2_firstRest_36
theorem rX2_firstRest_37 : ab_Run X 17 37 (1, 0, 0) L (ab_I b :: ab_I a :: st) σ Q ↔ ab_Run X 17 38 (1, 0, 0) L (ab_I (ab_w32 (a * b)) :: st) σ Q := ab_r_imul kc_X2_firstRest dX2_firstRest_37
theorem rX2_firstRest_38 : ab_Run X 17 38 (1, 0, 0) [ab_R z, l1, l2] st σ Q ↔ z ≠ 0 ∧ ab_Run X 17 39 (1, 0, 0) [ab_R z, l1, l2] (ab_R z :: st) σ Q := ab_r_aload_n rfl kc_X2_firstRest dX2_firstRest_38
theorem rX2_firstRest_39 : ab_Run X 17 39 (1, 0, 0) L (ab_R a :: st) σ Q ↔ (ab_sh σ a).1 = 3 ∧ ab_Run X 17 42 (1, 0, 0) L (ab_R (ab_rd σ a 3) :: st) σ Q := gF_2_24 ko_X2_firstRest kc_X2_firstRest dX2_firstRest_39
theorem rX2_firstRest_42 : ab_Run X 17 42 (1, 0, 0) [l0, l1, ab_I z] st σ Q ↔ ab_Run X 17 43 (1, 0, 0) [l0, l1, ab_I z] (ab_I z :: st) σ Q := ab_r_iload_n rfl kc_X2_firstRest dX2_firstRest_42
theorem rX2_firstRest_43 : ab_Run X 17 43 (1, 0, 0) L (ab_I i :: ab_R a :: st) σ Q ↔ ((ab_sh σ a).1 = 21 ∧ 0 ≤ i ∧ i < (ab_sh σ a).2) ∧ ab_Run X 17 44 (1, 0, 0) L (ab_I (ab_rd σ a i) :: st) σ Q := ab_r_iaload (by decide) kc_X2_firstRest dX2_firstRest_43
theorem rX2_firstRest_44 : ab_Run X 17 44 (1, 0, 0) L (ab_I b :: ab_I a :: st) σ Q ↔ ab_Run X 17 45 (1, 0, 0) L (ab_I (ab_w32 (a + b)) :: st) σ Q := ab_r_iadd kc_X2_firstRest dX2_firstRest_44
theorem rX2_firstRest_45 : ab_Run X 17 45 (1, 0, 0) L [ab_I v] σ Q ↔ Q (some (ab_I v)) σ := ab_r_ireturnI rfl kc_X2_firstRest dX2_firstRest_45
theorem rX2_firstRest_46 : ab_Run X 17 46 (1, 0, 0) [l0, l1, ab_I z] st σ Q ↔ (!ab_isJ l1) = true ∧ ab_Run X 17 49 (1, 0, 0) [l0, l1, ab_I (ab_w32 (z + 1))] st σ Q := ab_r_iinc rfl (by decide) kc_X2_firstRest dX2_firstRest_46
theorem rX2_firstRest_49 : ab_Run X 17 49 (1, 0, 0) L st σ Q ↔ ab_Run X 17 12 (1, 0, 0) L st σ Q := ab_r_goto rfl kc_X2_firstRest dX2_firstRest_49
theorem rX2_firstRest_52 : ab_Run X 17 52 (1, 0, 0) [l0, ab_I z, l2] st σ Q ↔ (!ab_isJ l0) = true ∧ ab_Run X 17 55 (1, 0, 0) [l0, ab_I (ab_w32 (z + 1)), l2] st σ Q := ab_r_iinc rfl (by decide) kc_X2_firstRest dX2_firstRest_52
theorem rX2_firstRest_55 : ab_Run X 17 55 (1, 0, 0) L st σ Q ↔ ab_Run X 17 2 (1, 0, 0) L st σ Q := ab_r_goto rfl kc_X2_firstRest dX2_firstRest_55
theorem rX2_firstRest_58 : ab_Run X 17 58 (1, 0, 0) L st σ Q ↔ ab_Run X 17 60 (1, 0, 0) L (ab_I (-2) :: st) σ Q := ab_r_bipush (by decide) kc_X2_firstRest dX2_firstRest_58
theorem rX2_firstRest_60 : ab_Run X 17 60 (1, 0, 0) L [ab_I v] σ Q ↔ Q (some (ab_I v)) σ := ab_r_ireturnI rfl kc_X2_firstRest dX2_firstRest_60
theorem kc_X2_surest : ab_code 18 = cX2_surest := rfl
theorem ko_X2_surest : ab_ow 18 = 2 := rfl
theorem rX2_surest_0 : ab_Run X 18 0 (1, 0, 0) L st σ Q ↔ ab_Run X 18 1 (1, 0, 0) L (ab_I 0 :: st) σ Q := ab_r_iconst (by decide) kc_X2_surest dX2_surest_0
theorem rX2_surest_1 : ab_Run X 18 1 (1, 0, 0) [l0, l1, l2, l3, l4] (ab_I z :: st) σ Q ↔ (!ab_isJ l0) = true ∧ ab_Run X 18 2 (1, 0, 0) [l0, ab_I z, l2, l3, l4] st σ Q := ab_r_istore_n (Nat.le_of_ble_eq_true rfl) kc_X2_surest dX2_surest_1
theorem rX2_surest_2 : ab_Run X 18 2 (1, 0, 0) L st σ Q ↔ ab_Run X 18 3 (1, 0, 0) L (ab_I 0 :: st) σ Q := ab_r_iconst (by decide) kc_X2_surest dX2_surest_2
theorem rX2_surest_3 : ab_Run X 18 3 (1, 0, 0) [l0, l1, l2, l3, l4] (ab_I z :: st) σ Q ↔ (!ab_isJ l1) = true ∧ ab_Run X 18 4 (1, 0, 0) [l0, l1, ab_I z, l3, l4] st σ Q := ab_r_istore_n (Nat.le_of_ble_eq_true rfl) kc_X2_surest dX2_surest_3
theorem rX2_surest_4 : ab_Run X 18 4 (1, 0, 0) [l0, l1, ab_I z, l3, l4] st σ Q ↔ ab_Run X 18 5 (1, 0, 0) [l0, l1, ab_I z, l3, l4] (ab_I z :: st) σ Q := ab_r_iload_n rfl kc_X2_surest dX2_surest_4
theorem rX2_surest_5 : ab_Run X 18 5 (1, 0, 0) [ab_R z, l1, l2, l3, l4] st σ Q ↔ z ≠ 0 ∧ ab_Run X 18 6 (1, 0, 0) [ab_R z, l1, l2, l3, l4] (ab_R z :: st) σ Q := ab_r_aload_n rfl kc_X2_surest dX2_surest_5
theorem rX2_surest_6 : ab_Run X 18 6 (1, 0, 0) L (ab_R a :: st) σ Q ↔ (ab_sh σ a).1 = 3 ∧ ab_Run X 18 9 (1, 0, 0) L (ab_I (ab_rd σ a 8) :: st) σ Q := gF_2_66 ko_X2_surest kc_X2_surest dX2_surest_6
theorem rX2_surest_9 : ab_Run X 18 9 (1, 0, 0) L (ab_I b :: ab_I a :: st) σ Q ↔ (b ≤ a → ab_Run X 18 59 (1, 0, 0) L st σ Q) ∧ (¬ (b ≤ a) → ab_Run X 18 12 (1, 0, 0) L st σ Q) := ab_r_icmp_ge rfl kc_X2_surest dX2_surest_9
theorem rX2_surest_12 : ab_Run X 18 12 (1, 0, 0) L st σ Q ↔ ab_Run X 18 14 (1, 0, 0) L (ab_I 2147483647 :: st) σ Q := ab_r_ldc rfl ko_X2_surest (by decide +kernel) kc_X2_surest dX2_surest_12
theorem rX2_surest_14 : ab_Run X 18 14 (1, 0, 0) [l0, l1, l2, l3, l4] (ab_I z :: st) σ Q ↔ (!ab_isJ l2) = true ∧ ab_Run X 18 15 (1, 0, 0) [l0, l1, l2, ab_I z, l4] st σ Q := ab_r_istore_n (Nat.le_of_ble_eq_true rfl) kc_X2_surest dX2_surest_14
theorem rX2_surest_15 : ab_Run X 18 15 (1, 0, 0) L st σ Q ↔ ab_Run X 18 16 (1, 0, 0) L (ab_I 0 :: st) σ Q := ab_r_iconst (by decide) kc_X2_surest dX2_surest_15
theorem rX2_surest_16 : ab_Run X 18 16 (1, 0, 0) [l0, l1, l2, l3, l4] (ab_I z :: st) σ Q ↔ (!ab_isJ l3) = true ∧ ab_Run X 18 18 (1, 0, 0) [l0, l1, l2, l3, ab_I z] st σ Q := ab_r_istore (Nat.le_of_ble_eq_true rfl) kc_X2_surest dX2_surest_16
theorem rX2_surest_18 : ab_Run X 18 18 (1, 0, 0) [l0, l1, l2, l3, ab_I z] st σ Q ↔ ab_Run X 18 20 (1, 0, 0) [l0, l1, l2, l3, ab_I z] (ab_I z :: st) σ Q := ab_r_iload rfl kc_X2_surest dX2_surest_18
theorem rX2_surest_20 : ab_Run X 18 20 (1, 0, 0) [ab_R z, l1, l2, l3, l4] st σ Q ↔ z ≠ 0 ∧ ab_Run X 18 21 (1, 0, 0) [ab_R z, l1, l2, l3, l4] (ab_R z :: st) σ Q := ab_r_aload_n rfl kc_X2_surest dX2_surest_20
theorem rX2_surest_21 : ab_Run X 18 21 (1, 0, 0) L (ab_R a :: st) σ Q ↔ (ab_sh σ a).1 = 3 ∧ ab_Run X 18 24 (1, 0, 0) L (ab_I (ab_rd σ a 9) :: st) σ Q := gF_2_84 ko_X2_surest kc_X2_surest dX2_surest_21
theorem rX2_surest_24 : ab_Run X 18 24 (1, 0, 0) L (ab_I b :: ab_I a :: st) σ Q ↔ (b ≤ a → ab_Run X 18 47 (1, 0, 0) L st σ Q) ∧ (¬ (b ≤ a) → ab_Run X 18 27 (1, 0, 0) L st σ Q) := ab_r_icmp_ge rfl kc_X2_surest dX2_surest_24
theorem rX2_surest_27 : ab_Run X 18 27 (1, 0, 0) [l0, l1, l2, ab_I z, l4] st σ Q ↔ ab_Run X 18 28 (1, 0, 0) [l0, l1, l2, ab_I z, l4] (ab_I z :: st) σ Q := ab_r_iload_n rfl kc_X2_surest dX2_surest_27
theorem rX2_surest_28 : ab_Run X 18 28 (1, 0, 0) [ab_R z, l1, l2, l3, l4] st σ Q ↔ z ≠ 0 ∧ ab_Run X 18 29 (1, 0, 0) [ab_R z, l1, l2, l3, l4] (ab_R z :: st) σ Q := ab_r_aload_n rfl kc_X2_surest dX2_surest_28
theorem rX2_surest_29 : ab_Run X 18 29 (1, 0, 0) L (ab_R a :: st) σ Q ↔ (ab_sh σ a).1 = 3 ∧ ab_Run X 18 32 (1, 0, 0) L (ab_R (ab_rd σ a 4) :: st) σ Q := gF_2_29 ko_X2_surest kc_X2_surest dX2_surest_29
theorem rX2_surest_32 : ab_Run X 18 32 (1, 0, 0) [l0, l1, ab_I z, l3, l4] st σ Q ↔ ab_Run X 18 33 (1, 0, 0) [l0, l1, ab_I z, l3, l4] (ab_I z :: st) σ Q := ab_r_iload_n rfl kc_X2_surest dX2_surest_32
theorem rX2_surest_33 : ab_Run X 18 33 (1, 0, 0) L (ab_I i :: ab_R a :: st) σ Q ↔ ((25 ≤ (ab_sh σ a).1 ∧ (ab_sh σ a).1 < 30) ∧ 0 ≤ i ∧ i < (ab_sh σ a).2) ∧ ab_Run X 18 34 (1, 0, 0) L (ab_R (ab_rd σ a i) :: st) σ Q := ab_r_aaload kc_X2_surest dX2_surest_33
theorem rX2_surest_34 : ab_Run X 18 34 (1, 0, 0) [l0, l1, l2, l3, ab_I z] st σ Q ↔ ab_Run X 18 36 (1, 0, 0) [l0, l1, l2, l3, ab_I z] (ab_I z :: st) σ Q := ab_r_iload rfl kc_X2_surest dX2_surest_34
theorem rX2_surest_36 : ab_Run X 18 36 (1, 0, 0) L (ab_I i :: ab_R a :: st) σ Q ↔ ((ab_sh σ a).1 = 21 ∧ 0 ≤ i ∧ i < (ab_sh σ a).2) ∧ ab_Run X 18 37 (1, 0, 0) L (ab_I (ab_rd σ a i) :: st) σ Q := ab_r_iaload (by decide) kc_X2_surest dX2_surest_36
theorem rX2_surest_37 : ab_Run X 18 37 (1, 0, 0) L (ab_I b :: ab_I a :: st) σ Q ↔ ab_cats st ≤ 8 ∧ ab_Run X 18 40 (1, 0, 0) L (ab_I (if b < a then b else a) :: st) σ Q := ab_r_math 1005 (Or.inr ⟨rfl, rfl⟩) (by decide) ko_X2_surest qM_2_100 (by decide) kc_X2_surest dX2_surest_37
theorem rX2_surest_40 : ab_Run X 18 40 (1, 0, 0) [l0, l1, l2, l3, l4] (ab_I z :: st) σ Q ↔ (!ab_isJ l2) = true ∧ ab_Run X 18 41 (1, 0, 0) [l0, l1, l2, ab_I z, l4] st σ Q := ab_r_istore_n (Nat.le_of_ble_eq_true rfl) kc_X2_surest dX2_surest_40
theorem rX2_surest_41 : ab_Run X 18 41 (1, 0, 0) [l0, l1, l2, l3, ab_I z] st σ Q ↔ (!ab_isJ l3) = true ∧ ab_Run X 18 44 (1, 0, 0) [l0, l1, l2, l3, ab_I (ab_w32 (z + 1))] st σ Q := ab_r_iinc rfl (by decide) kc_X2_surest dX2_surest_41
theorem rX2_surest_44 : ab_Run X 18 44 (1, 0, 0) L st σ Q ↔ ab_Run X 18 18 (1, 0, 0) L st σ Q := ab_r_goto rfl kc_X2_surest dX2_surest_44
theorem rX2_surest_47 : ab_Run X 18 47 (1, 0, 0) [l0, ab_I z, l2, l3, l4] st σ Q ↔ ab_Run X 18 48 (1, 0, 0) [l0, ab_I z, l2, l3, l4] (ab_I z :: st) σ Q := ab_r_iload_n rfl kc_X2_surest dX2_surest_47
theorem rX2_surest_48 : ab_Run X 18 48 (1, 0, 0) [l0, l1, l2, ab_I z, l4] st σ Q ↔ ab_Run X 18 49 (1, 0, 0) [l0, l1, l2, ab_I z, l4] (ab_I z :: st) σ Q := ab_r_iload_n rfl kc_X2_surest dX2_surest_48
theorem rX2_surest_49 : ab_Run X 18 49 (1, 0, 0) L (ab_I b :: ab_I a :: st) σ Q ↔ ab_cats st ≤ 8 ∧ ab_Run X 18 52 (1, 0, 0) L (ab_I (if a < b then b else a) :: st) σ Q := ab_r_math 1004 (Or.inl ⟨rfl, rfl⟩) (by decide) ko_X2_surest qM_2_87 (by decide) kc_X2_surest dX2_surest_49
theorem rX2_surest_52 : ab_Run X 18 52 (1, 0, 0) [l0, l1, l2, l3, l4] (ab_I z :: st) σ Q ↔ (!ab_isJ l0) = true ∧ ab_Run X 18 53 (1, 0, 0) [l0, ab_I z, l2, l3, l4] st σ Q := ab_r_istore_n (Nat.le_of_ble_eq_true rfl) kc_X2_surest dX2_surest_52
theorem rX2_surest_53 : ab_Run X 18 53 (1, 0, 0) [l0, l1, ab_I z, l3, l4] st σ Q ↔ (!ab_isJ l1) = true ∧ ab_Run X 18 56 (1, 0, 0) [l0, l1, ab_I (ab_w32 (z + 1)), l3, l4] st σ Q := ab_r_iinc rfl (by decide) kc_X2_surest dX2_surest_53
theorem rX2_surest_56 : ab_Run X 18 56 (1, 0, 0) L st σ Q ↔ ab_Run X 18 4 (1, 0, 0) L st σ Q := ab_r_goto rfl kc_X2_surest dX2_surest_56
theorem rX2_surest_59 : ab_Run X 18 59 (1, 0, 0) [l0, ab_I z, l2, l3, l4] st σ Q ↔ ab_Run X 18 60 (1, 0, 0) [l0, ab_I z, l2, l3, l4] (ab_I z :: st) σ Q := ab_r_iload_n rfl kc_X2_surest dX2_surest_59
theorem rX2_surest_60 : ab_Run X 18 60 (1, 0, 0) L [ab_I v] σ Q ↔ Q (some (ab_I v)) σ := ab_r_ireturnI rfl kc_X2_surest dX2_surest_60
theorem kc_X8_begin : ab_code 62 = cX8_begin := rfl
theorem ko_X8_begin : ab_ow 62 = 8 := rfl
theorem rX8_begin_0 : ab_Run X 62 0 (0, 0, 0) L st σ Q ↔ ab_Run X 62 1 (0, 0, 0) L (ab_I 0 :: st) σ Q := ab_r_iconst (by decide) kc_X8_begin dX8_begin_0
theorem rX8_begin_1 : ab_Run X 62 1 (0, 0, 0) [l0, l1, l2] (ab_I z :: st) σ Q ↔ (!ab_isJ l1) = true ∧ ab_Run X 62 2 (0, 0, 0) [l0, l1, ab_I z] st σ Q := ab_r_istore_n (Nat.le_of_ble_eq_true rfl) kc_X8_begin dX8_begin_1
theorem rX8_begin_2 : ab_Run X 62 2 (0, 0, 0) [l0, l1, ab_I z] st σ Q ↔ ab_Run X 62 3 (0, 0, 0) [l0, l1, ab_I z] (ab_I z :: st) σ Q := ab_r_iload_n rfl kc_X8_begin dX8_begin_2
theorem rX8_begin_3 : ab_Run X 62 3 (0, 0, 0) L st σ Q ↔ ab_Run X 62 4 (0, 0, 0) L (ab_I 5 :: st) σ Q := ab_r_iconst (by decide) kc_X8_begin dX8_begin_3
theorem rX8_begin_4 : ab_Run X 62 4 (0, 0, 0) L (ab_I b :: ab_I a :: st) σ Q ↔ (b ≤ a → ab_Run X 62 50 (0, 0, 0) L st σ Q) ∧ (¬ (b ≤ a) → ab_Run X 62 7 (0, 0, 0) L st σ Q) := ab_r_icmp_ge rfl kc_X8_begin dX8_begin_4
theorem rX8_begin_7 : ab_Run X 62 7 (0, 0, 0) [ab_R z, l1, l2] st σ Q ↔ z ≠ 0 ∧ ab_Run X 62 8 (0, 0, 0) [ab_R z, l1, l2] (ab_R z :: st) σ Q := ab_r_aload_n rfl kc_X8_begin dX8_begin_7
theorem rX8_begin_8 : ab_Run X 62 8 (0, 0, 0) L (ab_R a :: st) σ Q ↔ (ab_sh σ a).1 = 9 ∧ ab_Run X 62 11 (0, 0, 0) L (ab_R (ab_rd σ a 0) :: st) σ Q := gF_8_9 ko_X8_begin kc_X8_begin dX8_begin_8
theorem rX8_begin_11 : ab_Run X 62 11 (0, 0, 0) [l0, l1, ab_I z] st σ Q ↔ ab_Run X 62 12 (0, 0, 0) [l0, l1, ab_I z] (ab_I z :: st) σ Q := ab_r_iload_n rfl kc_X8_begin dX8_begin_11
theorem rX8_begin_12 : ab_Run X 62 12 (0, 0, 0) [l0, ab_R z, l2] st σ Q ↔ z ≠ 0 ∧ ab_Run X 62 13 (0, 0, 0) [l0, ab_R z, l2] (ab_R z :: st) σ Q := ab_r_aload_n rfl kc_X8_begin dX8_begin_12
theorem rX8_begin_13 : ab_Run X 62 13 (0, 0, 0) L (ab_R a :: st) σ Q ↔ (ab_sh σ a).1 = 5 ∧ ab_Run X 62 16 (0, 0, 0) L (ab_R (ab_rd σ a 6) :: st) σ Q := gF_8_25 ko_X8_begin kc_X8_begin dX8_begin_13
theorem rX8_begin_16 : ab_Run X 62 16 (0, 0, 0) [l0, l1, ab_I z] st σ Q ↔ ab_Run X 62 17 (0, 0, 0) [l0, l1, ab_I z] (ab_I z :: st) σ Q := ab_r_iload_n rfl kc_X8_begin dX8_begin_16
theorem rX8_begin_17 : ab_Run X 62 17 (0, 0, 0) L (ab_I i :: ab_R a :: st) σ Q ↔ ((25 ≤ (ab_sh σ a).1 ∧ (ab_sh σ a).1 < 30) ∧ 0 ≤ i ∧ i < (ab_sh σ a).2) ∧ ab_Run X 62 18 (0, 0, 0) L (ab_R (ab_rd σ a i) :: st) σ Q := ab_r_aaload kc_X8_begin dX8_begin_17
theorem rX8_begin_18 : ab_Run X 62 18 (0, 0, 0) L (ab_R a :: st) σ Q ↔ (ab_sh σ a).1 = 2 ∧ ab_Run X 62 21 (0, 0, 0) L (ab_I (ab_rd σ a 1) :: st) σ Q := gF_8_31 ko_X8_begin kc_X8_begin dX8_begin_18
theorem rX8_begin_21 : ab_Run X 62 21 (0, 0, 0) L (ab_I v :: ab_I i :: ab_R a :: st) σ Q ↔ ((ab_sh σ a).1 = 21 ∧ 0 ≤ i ∧ i < (ab_sh σ a).2) ∧ ab_Run X 62 22 (0, 0, 0) L st (ab_wr σ a i v) Q := ab_r_iastore kc_X8_begin dX8_begin_21
theorem rX8_begin_22 : ab_Run X 62 22 (0, 0, 0) [ab_R z, l1, l2] st σ Q ↔ z ≠ 0 ∧ ab_Run X 62 23 (0, 0, 0) [ab_R z, l1, l2] (ab_R z :: st) σ Q := ab_r_aload_n rfl kc_X8_begin dX8_begin_22
theorem rX8_begin_23 : ab_Run X 62 23 (0, 0, 0) L (ab_R a :: st) σ Q ↔ (ab_sh σ a).1 = 9 ∧ ab_Run X 62 26 (0, 0, 0) L (ab_R (ab_rd σ a 1) :: st) σ Q := gF_8_15 ko_X8_begin kc_X8_begin dX8_begin_23
theorem rX8_begin_26 : ab_Run X 62 26 (0, 0, 0) [l0, l1, ab_I z] st σ Q ↔ ab_Run X 62 27 (0, 0, 0) [l0, l1, ab_I z] (ab_I z :: st) σ Q := ab_r_iload_n rfl kc_X8_begin dX8_begin_26
theorem rX8_begin_27 : ab_Run X 62 27 (0, 0, 0) [l0, ab_R z, l2] st σ Q ↔ z ≠ 0 ∧ ab_Run X 62 28 (0, 0, 0) [l0, ab_R z, l2] (ab_R z :: st) σ Q := ab_r_aload_n rfl kc_X8_begin dX8_begin_27
theorem rX8_begin_28 : ab_Run X 62 28 (0, 0, 0) L (ab_R a :: st) σ Q ↔ (ab_sh σ a).1 = 5 ∧ ab_Run X 62 31 (0, 0, 0) L (ab_R (ab_rd σ a 6) :: st) σ Q := gF_8_25 ko_X8_begin kc_X8_begin dX8_begin_28
theorem rX8_begin_31 : ab_Run X 62 31 (0, 0, 0) [l0, l1, ab_I z] st σ Q ↔ ab_Run X 62 32 (0, 0, 0) [l0, l1, ab_I z] (ab_I z :: st) σ Q := ab_r_iload_n rfl kc_X8_begin dX8_begin_31
theorem rX8_begin_32 : ab_Run X 62 32 (0, 0, 0) L (ab_I i :: ab_R a :: st) σ Q ↔ ((25 ≤ (ab_sh σ a).1 ∧ (ab_sh σ a).1 < 30) ∧ 0 ≤ i ∧ i < (ab_sh σ a).2) ∧ ab_Run X 62 33 (0, 0, 0) L (ab_R (ab_rd σ a i) :: st) σ Q := ab_r_aaload kc_X8_begin dX8_begin_32
theorem rX8_begin_33 : ab_Run X 62 33 (0, 0, 0) L (ab_R a :: st) σ Q ↔ (ab_sh σ a).1 = 2 ∧ ab_Run X 62 36 (0, 0, 0) L (ab_I (ab_rd σ a 2) :: st) σ Q := gF_8_37 ko_X8_begin kc_X8_begin dX8_begin_33
theorem rX8_begin_36 : ab_Run X 62 36 (0, 0, 0) L (ab_I v :: ab_I i :: ab_R a :: st) σ Q ↔ ((ab_sh σ a).1 = 21 ∧ 0 ≤ i ∧ i < (ab_sh σ a).2) ∧ ab_Run X 62 37 (0, 0, 0) L st (ab_wr σ a i v) Q := ab_r_iastore kc_X8_begin dX8_begin_36
theorem rX8_begin_37 : ab_Run X 62 37 (0, 0, 0) [ab_R z, l1, l2] st σ Q ↔ z ≠ 0 ∧ ab_Run X 62 38 (0, 0, 0) [ab_R z, l1, l2] (ab_R z :: st) σ Q := ab_r_aload_n rfl kc_X8_begin dX8_begin_37
theorem rX8_begin_38 : ab_Run X 62 38 (0, 0, 0) L (ab_R a :: st) σ Q ↔ (ab_sh σ a).1 = 9 ∧ ab_Run X 62 41 (0, 0, 0) L (ab_R (ab_rd σ a 2) :: st) σ Q := gF_8_18 ko_X8_begin kc_X8_begin dX8_begin_38
theorem rX8_begin_41 : ab_Run X 62 41 (0, 0, 0) [l0, l1, ab_I z] st σ Q ↔ ab_Run X 62 42 (0, 0, 0) [l0, l1, ab_I z] (ab_I z :: st) σ Q := ab_r_iload_n rfl kc_X8_begin dX8_begin_41
theorem rX8_begin_42 : ab_Run X 62 42 (0, 0, 0) L st σ Q ↔ ab_Run X 62 43 (0, 0, 0) L (ab_I 0 :: st) σ Q := ab_r_iconst (by decide) kc_X8_begin dX8_begin_42
theorem rX8_begin_43B (h : (ab_sh σ a).1 = 23 ∧ 0 ≤ i ∧ i < (ab_sh σ a).2) : ab_Run X 62 43 (0, 0, 0) L (ab_I v :: ab_I i :: ab_R a :: st) σ Q ↔ ab_Run X 62 44 (0, 0, 0) L st (ab_wr σ a i (ab_w8 v)) Q := ab_r_bastoreB h kc_X8_begin dX8_begin_43
theorem rX8_begin_43Z (h : (ab_sh σ a).1 = 24 ∧ 0 ≤ i ∧ i < (ab_sh σ a).2 ∧ (v = 0 ∨ v = 1)) : ab_Run X 62 43 (0, 0, 0) L (ab_I v :: ab_I i :: ab_R a :: st) σ Q ↔ ab_Run X 62 44 (0, 0, 0) L st (ab_wr σ a i v) Q := ab_r_bastoreZ h kc_X8_begin dX8_begin_43
theorem rX8_begin_44 : ab_Run X 62 44 (0, 0, 0) [l0, l1, ab_I z] st σ Q ↔ (!ab_isJ l1) = true ∧ ab_Run X 62 47 (0, 0, 0) [l0, l1, ab_I (ab_w32 (z + 1))] st σ Q := ab_r_iinc rfl (by decide) kc_X8_begin dX8_begin_44
theorem rX8_begin_47 : ab_Run X 62 47 (0, 0, 0) L st σ Q ↔ ab_Run X 62 2 (0, 0, 0) L st σ Q := ab_r_goto rfl kc_X8_begin dX8_begin_47
theorem rX8_begin_50 : ab_Run X 62 50 (0, 0, 0) L st σ Q ↔ ab_Run X 62 51 (0, 0, 0) L (ab_I 0 :: st) σ Q := ab_r_iconst (by decide) kc_X8_begin dX8_begin_50
theorem rX8_begin_51 : ab_Run X 62 51 (0, 0, 0) [l0, l1, l2] (ab_I z :: st) σ Q ↔ (!ab_isJ l1) = true ∧ ab_Run X 62 52 (0, 0, 0) [l0, l1, ab_I z] st σ Q := ab_r_istore_n (Nat.le_of_ble_eq_true rfl) kc_X8_begin dX8_begin_51
theorem rX8_begin_52 : ab_Run X 62 52 (0, 0, 0) [l0, l1, ab_I z] st σ Q ↔ ab_Run X 62 53 (0, 0, 0) [l0, l1, ab_I z] (ab_I z :: st) σ Q := ab_r_iload_n rfl kc_X8_begin dX8_begin_52
theorem rX8_begin_53 : ab_Run X 62 53 (0, 0, 0) L st σ Q ↔ ab_Run X 62 55 (0, 0, 0) L (ab_I 6 :: st) σ Q := ab_r_bipush (by decide) kc_X8_begin dX8_begin_53
theorem rX8_begin_55 : ab_Run X 62 55 (0, 0, 0) L (ab_I b :: ab_I a :: st) σ Q ↔ (b ≤ a → ab_Run X 62 71 (0, 0, 0) L st σ Q) ∧ (¬ (b ≤ a) → ab_Run X 62 58 (0, 0, 0) L st σ Q) := ab_r_icmp_ge rfl kc_X8_begin dX8_begin_55
theorem rX8_begin_58 : ab_Run X 62 58 (0, 0, 0) [ab_R z, l1, l2] st σ Q ↔ z ≠ 0 ∧ ab_Run X 62 59 (0, 0, 0) [ab_R z, l1, l2] (ab_R z :: st) σ Q := ab_r_aload_n rfl kc_X8_begin dX8_begin_58
theorem rX8_begin_59 : ab_Run X 62 59 (0, 0, 0) L (ab_R a :: st) σ Q ↔ (ab_sh σ a).1 = 9 ∧ ab_Run X 62 62 (0, 0, 0) L (ab_R (ab_rd σ a 3) :: st) σ Q := gF_8_22 ko_X8_begin kc_X8_begin dX8_begin_59
theorem rX8_begin_62 : ab_Run X 62 62 (0, 0, 0) [l0, l1, ab_I z] st σ Q ↔ ab_Run X 62 63 (0, 0, 0) [l0, l1, ab_I z] (ab_I z :: st) σ Q := ab_r_iload_n rfl kc_X8_begin dX8_begin_62
theorem rX8_begin_63 : ab_Run X 62 63 (0, 0, 0) L st σ Q ↔ ab_Run X 62 64 (0, 0, 0) L (ab_I 0 :: st) σ Q := ab_r_iconst (by decide) kc_X8_begin dX8_begin_63
theorem rX8_begin_64 : ab_Run X 62 64 (0, 0, 0) L (ab_I v :: ab_I i :: ab_R a :: st) σ Q ↔ ((ab_sh σ a).1 = 21 ∧ 0 ≤ i ∧ i < (ab_sh σ a).2) ∧ ab_Run X 62 65 (0, 0, 0) L st (ab_wr σ a i v) Q := ab_r_iastore kc_X8_begin dX8_begin_64
theorem rX8_begin_65 : ab_Run X 62 65 (0, 0, 0) [l0, l1, ab_I z] st σ Q ↔ (!ab_isJ l1) = true ∧ ab_Run X 62 68 (0, 0, 0) [l0, l1, ab_I (ab_w32 (z + 1))] st σ Q := ab_r_iinc rfl (by decide) kc_X8_begin dX8_begin_65
theorem rX8_begin_68 : ab_Run X 62 68 (0, 0, 0) L st σ Q ↔ ab_Run X 62 52 (0, 0, 0) L st σ Q := ab_r_goto rfl kc_X8_begin dX8_begin_68
theorem rX8_begin_71 : ab_Run X 62 71 (0, 0, 0) [ab_R z, l1, l2] st σ Q ↔ z ≠ 0 ∧ ab_Run X 62 72 (0, 0, 0) [ab_R z, l1, l2] (ab_R z :: st) σ Q := ab_r_aload_n rfl kc_X8_begin dX8_begin_71
theorem rX8_begin_72 : ab_Run X 62 72 (0, 0, 0) L st σ Q ↔ ab_Run X 62 73 (0, 0, 0) L (ab_I 0 :: st) σ Q := ab_r_iconst (by decide) kc_X8_begin dX8_begin_72
theorem rX8_begin_73 : ab_Run X 62 73 (0, 0, 0) L (ab_I z :: ab_R a :: st) σ Q ↔ (ab_sh σ a).1 = 9 ∧ ab_Run X 62 76 (0, 0, 0) L st (ab_wr σ a 4 z) Q := sF_8_39 ko_X8_begin kc_X8_begin dX8_begin_73
theorem rX8_begin_76 : ab_Run X 62 76 (0, 0, 0) L [] σ Q ↔ Q none σ := ab_r_return rfl kc_X8_begin dX8_begin_76
theorem kc_X8_become : ab_code 63 = cX8_become := rfl
theorem ko_X8_become : ab_ow 63 = 8 := rfl
theorem rX8_become_0 : ab_Run X 63 0 (0, 0, 0) L st σ Q ↔ ab_Run X 63 1 (0, 0, 0) L (ab_I 0 :: st) σ Q := ab_r_iconst (by decide) kc_X8_become dX8_become_0
theorem rX8_become_1 : ab_Run X 63 1 (0, 0, 0) [l0, l1, l2] (ab_I z :: st) σ Q ↔ (!ab_isJ l1) = true ∧ ab_Run X 63 2 (0, 0, 0) [l0, l1, ab_I z] st σ Q := ab_r_istore_n (Nat.le_of_ble_eq_true rfl) kc_X8_become dX8_become_1
theorem rX8_become_2 : ab_Run X 63 2 (0, 0, 0) [l0, l1, ab_I z] st σ Q ↔ ab_Run X 63 3 (0, 0, 0) [l0, l1, ab_I z] (ab_I z :: st) σ Q := ab_r_iload_n rfl kc_X8_become dX8_become_2
theorem rX8_become_3 : ab_Run X 63 3 (0, 0, 0) L st σ Q ↔ ab_Run X 63 4 (0, 0, 0) L (ab_I 5 :: st) σ Q := ab_r_iconst (by decide) kc_X8_become dX8_become_3
theorem rX8_become_4 : ab_Run X 63 4 (0, 0, 0) L (ab_I b :: ab_I a :: st) σ Q ↔ (b ≤ a → ab_Run X 63 49 (0, 0, 0) L st σ Q) ∧ (¬ (b ≤ a) → ab_Run X 63 7 (0, 0, 0) L st σ Q) := ab_r_icmp_ge rfl kc_X8_become dX8_become_4
theorem rX8_become_7 : ab_Run X 63 7 (0, 0, 0) [ab_R z, l1, l2] st σ Q ↔ z ≠ 0 ∧ ab_Run X 63 8 (0, 0, 0) [ab_R z, l1, l2] (ab_R z :: st) σ Q := ab_r_aload_n rfl kc_X8_become dX8_become_7
theorem rX8_become_8 : ab_Run X 63 8 (0, 0, 0) L (ab_R a :: st) σ Q ↔ (ab_sh σ a).1 = 9 ∧ ab_Run X 63 11 (0, 0, 0) L (ab_R (ab_rd σ a 0) :: st) σ Q := gF_8_9 ko_X8_become kc_X8_become dX8_become_8
theorem rX8_become_11 : ab_Run X 63 11 (0, 0, 0) [l0, l1, ab_I z] st σ Q ↔ ab_Run X 63 12 (0, 0, 0) [l0, l1, ab_I z] (ab_I z :: st) σ Q := ab_r_iload_n rfl kc_X8_become dX8_become_11
theorem rX8_become_12 : ab_Run X 63 12 (0, 0, 0) [l0, ab_R z, l2] st σ Q ↔ z ≠ 0 ∧ ab_Run X 63 13 (0, 0, 0) [l0, ab_R z, l2] (ab_R z :: st) σ Q := ab_r_aload_n rfl kc_X8_become dX8_become_12
theorem rX8_become_13 : ab_Run X 63 13 (0, 0, 0) L (ab_R a :: st) σ Q ↔ (ab_sh σ a).1 = 9 ∧ ab_Run X 63 16 (0, 0, 0) L (ab_R (ab_rd σ a 0) :: st) σ Q := gF_8_9 ko_X8_become kc_X8_become dX8_become_13
theorem rX8_become_16 : ab_Run X 63 16 (0, 0, 0) [l0, l1, ab_I z] st σ Q ↔ ab_Run X 63 17 (0, 0, 0) [l0, l1, ab_I z] (ab_I z :: st) σ Q := ab_r_iload_n rfl kc_X8_become dX8_become_16
theorem rX8_become_17 : ab_Run X 63 17 (0, 0, 0) L (ab_I i :: ab_R a :: st) σ Q ↔ ((ab_sh σ a).1 = 21 ∧ 0 ≤ i ∧ i < (ab_sh σ a).2) ∧ ab_Run X 63 18 (0, 0, 0) L (ab_I (ab_rd σ a i) :: st) σ Q := ab_r_iaload (by decide) kc_X8_become dX8_become_17
theorem rX8_become_18 : ab_Run X 63 18 (0, 0, 0) L (ab_I v :: ab_I i :: ab_R a :: st) σ Q ↔ ((ab_sh σ a).1 = 21 ∧ 0 ≤ i ∧ i < (ab_sh σ a).2) ∧ ab_Run X 63 19 (0, 0, 0) L st (ab_wr σ a i v) Q := ab_r_iastore kc_X8_become dX8_become_18
theorem rX8_become_19 : ab_Run X 63 19 (0, 0, 0) [ab_R z, l1, l2] st σ Q ↔ z ≠ 0 ∧ ab_Run X 63 20 (0, 0, 0) [ab_R z, l1, l2] (ab_R z :: st) σ Q := ab_r_aload_n rfl kc_X8_become dX8_become_19
theorem rX8_become_20 : ab_Run X 63 20 (0, 0, 0) L (ab_R a :: st) σ Q ↔ (ab_sh σ a).1 = 9 ∧ ab_Run X 63 23 (0, 0, 0) L (ab_R (ab_rd σ a 1) :: st) σ Q := gF_8_15 ko_X8_become kc_X8_become dX8_become_20
theorem rX8_become_23 : ab_Run X 63 23 (0, 0, 0) [l0, l1, ab_I z] st σ Q ↔ ab_Run X 63 24 (0, 0, 0) [l0, l1, ab_I z] (ab_I z :: st) σ Q := ab_r_iload_n rfl kc_X8_become dX8_become_23
theorem rX8_become_24 : ab_Run X 63 24 (0, 0, 0) [l0, ab_R z, l2] st σ Q ↔ z ≠ 0 ∧ ab_Run X 63 25 (0, 0, 0) [l0, ab_R z, l2] (ab_R z :: st) σ Q := ab_r_aload_n rfl kc_X8_become dX8_become_24
theorem rX8_become_25 : ab_Run X 63 25 (0, 0, 0) L (ab_R a :: st) σ Q ↔ (ab_sh σ a).1 = 9 ∧ ab_Run X 63 28 (0, 0, 0) L (ab_R (ab_rd σ a 1) :: st) σ Q := gF_8_15 ko_X8_become kc_X8_become dX8_become_25
theorem rX8_become_28 : ab_Run X 63 28 (0, 0, 0) [l0, l1, ab_I z] st σ Q ↔ ab_Run X 63 29 (0, 0, 0) [l0, l1, ab_I z] (ab_I z :: st) σ Q := ab_r_iload_n rfl kc_X8_become dX8_become_28
theorem rX8_become_29 : ab_Run X 63 29 (0, 0, 0) L (ab_I i :: ab_R a :: st) σ Q ↔ ((ab_sh σ a).1 = 21 ∧ 0 ≤ i ∧ i < (ab_sh σ a).2) ∧ ab_Run X 63 30 (0, 0, 0) L (ab_I (ab_rd σ a i) :: st) σ Q := ab_r_iaload (by decide) kc_X8_become dX8_become_29
theorem rX8_become_30 : ab_Run X 63 30 (0, 0, 0) L (ab_I v :: ab_I i :: ab_R a :: st) σ Q ↔ ((ab_sh σ a).1 = 21 ∧ 0 ≤ i ∧ i < (ab_sh σ a).2) ∧ ab_Run X 63 31 (0, 0, 0) L st (ab_wr σ a i v) Q := ab_r_iastore kc_X8_become dX8_become_30
theorem rX8_become_31 : ab_Run X 63 31 (0, 0, 0) [ab_R z, l1, l2] st σ Q ↔ z ≠ 0 ∧ ab_Run X 63 32 (0, 0, 0) [ab_R z, l1, l2] (ab_R z :: st) σ Q := ab_r_aload_n rfl kc_X8_become dX8_become_31
theorem rX8_become_32 : ab_Run X 63 32 (0, 0, 0) L (ab_R a :: st) σ Q ↔ (ab_sh σ a).1 = 9 ∧ ab_Run X 63 35 (0, 0, 0) L (ab_R (ab_rd σ a 2) :: st) σ Q := gF_8_18 ko_X8_become kc_X8_become dX8_become_32
theorem rX8_become_35 : ab_Run X 63 35 (0, 0, 0) [l0, l1, ab_I z] st σ Q ↔ ab_Run X 63 36 (0, 0, 0) [l0, l1, ab_I z] (ab_I z :: st) σ Q := ab_r_iload_n rfl kc_X8_become dX8_become_35
theorem rX8_become_36 : ab_Run X 63 36 (0, 0, 0) [l0, ab_R z, l2] st σ Q ↔ z ≠ 0 ∧ ab_Run X 63 37 (0, 0, 0) [l0, ab_R z, l2] (ab_R z :: st) σ Q := ab_r_aload_n rfl kc_X8_become dX8_become_36
theorem rX8_become_37 : ab_Run X 63 37 (0, 0, 0) L (ab_R a :: st) σ Q ↔ (ab_sh σ a).1 = 9 ∧ ab_Run X 63 40 (0, 0, 0) L (ab_R (ab_rd σ a 2) :: st) σ Q := gF_8_18 ko_X8_become kc_X8_become dX8_become_37
theorem rX8_become_40 : ab_Run X 63 40 (0, 0, 0) [l0, l1, ab_I z] st σ Q ↔ ab_Run X 63 41 (0, 0, 0) [l0, l1, ab_I z] (ab_I z :: st) σ Q := ab_r_iload_n rfl kc_X8_become dX8_become_40
theorem rX8_become_41 : ab_Run X 63 41 (0, 0, 0) L (ab_I i :: ab_R a :: st) σ Q ↔ (((ab_sh σ a).1 = 23 ∨ (ab_sh σ a).1 = 24) ∧ 0 ≤ i ∧ i < (ab_sh σ a).2) ∧ ab_Run X 63 42 (0, 0, 0) L (ab_I (ab_rd σ a i) :: st) σ Q := ab_r_baload kc_X8_become dX8_become_41
theorem rX8_become_42B (h : (ab_sh σ a).1 = 23 ∧ 0 ≤ i ∧ i < (ab_sh σ a).2) : ab_Run X 63 42 (0, 0, 0) L (ab_I v :: ab_I i :: ab_R a :: st) σ Q ↔ ab_Run X 63 43 (0, 0, 0) L st (ab_wr σ a i (ab_w8 v)) Q := ab_r_bastoreB h kc_X8_become dX8_become_42
theorem rX8_become_42Z (h : (ab_sh σ a).1 = 24 ∧ 0 ≤ i ∧ i < (ab_sh σ a).2 ∧ (v = 0 ∨ v = 1)) : ab_Run X 63 42 (0, 0, 0) L (ab_I v :: ab_I i :: ab_R a :: st) σ Q ↔ ab_Run X 63 43 (0, 0, 0) L st (ab_wr σ a i v) Q := ab_r_bastoreZ h kc_X8_become dX8_become_42
theorem rX8_become_43 : ab_Run X 63 43 (0, 0, 0) [l0, l1, ab_I z] st σ Q ↔ (!ab_isJ l1) = true ∧ ab_Run X 63 46 (0, 0, 0) [l0, l1, ab_I (ab_w32 (z + 1))] st σ Q := ab_r_iinc rfl (by decide) kc_X8_become dX8_become_43
theorem rX8_become_46 : ab_Run X 63 46 (0, 0, 0) L st σ Q ↔ ab_Run X 63 2 (0, 0, 0) L st σ Q := ab_r_goto rfl kc_X8_become dX8_become_46
theorem rX8_become_49 : ab_Run X 63 49 (0, 0, 0) L st σ Q ↔ ab_Run X 63 50 (0, 0, 0) L (ab_I 0 :: st) σ Q := ab_r_iconst (by decide) kc_X8_become dX8_become_49
theorem rX8_become_50 : ab_Run X 63 50 (0, 0, 0) [l0, l1, l2] (ab_I z :: st) σ Q ↔ (!ab_isJ l1) = true ∧ ab_Run X 63 51 (0, 0, 0) [l0, l1, ab_I z] st σ Q := ab_r_istore_n (Nat.le_of_ble_eq_true rfl) kc_X8_become dX8_become_50
theorem rX8_become_51 : ab_Run X 63 51 (0, 0, 0) [l0, l1, ab_I z] st σ Q ↔ ab_Run X 63 52 (0, 0, 0) [l0, l1, ab_I z] (ab_I z :: st) σ Q := ab_r_iload_n rfl kc_X8_become dX8_become_51
theorem rX8_become_52 : ab_Run X 63 52 (0, 0, 0) L st σ Q ↔ ab_Run X 63 54 (0, 0, 0) L (ab_I 6 :: st) σ Q := ab_r_bipush (by decide) kc_X8_become dX8_become_52
theorem rX8_become_54 : ab_Run X 63 54 (0, 0, 0) L (ab_I b :: ab_I a :: st) σ Q ↔ (b ≤ a → ab_Run X 63 75 (0, 0, 0) L st σ Q) ∧ (¬ (b ≤ a) → ab_Run X 63 57 (0, 0, 0) L st σ Q) := ab_r_icmp_ge rfl kc_X8_become dX8_become_54
theorem rX8_become_57 : ab_Run X 63 57 (0, 0, 0) [ab_R z, l1, l2] st σ Q ↔ z ≠ 0 ∧ ab_Run X 63 58 (0, 0, 0) [ab_R z, l1, l2] (ab_R z :: st) σ Q := ab_r_aload_n rfl kc_X8_become dX8_become_57
theorem rX8_become_58 : ab_Run X 63 58 (0, 0, 0) L (ab_R a :: st) σ Q ↔ (ab_sh σ a).1 = 9 ∧ ab_Run X 63 61 (0, 0, 0) L (ab_R (ab_rd σ a 3) :: st) σ Q := gF_8_22 ko_X8_become kc_X8_become dX8_become_58
theorem rX8_become_61 : ab_Run X 63 61 (0, 0, 0) [l0, l1, ab_I z] st σ Q ↔ ab_Run X 63 62 (0, 0, 0) [l0, l1, ab_I z] (ab_I z :: st) σ Q := ab_r_iload_n rfl kc_X8_become dX8_become_61
theorem rX8_become_62 : ab_Run X 63 62 (0, 0, 0) [l0, ab_R z, l2] st σ Q ↔ z ≠ 0 ∧ ab_Run X 63 63 (0, 0, 0) [l0, ab_R z, l2] (ab_R z :: st) σ Q := ab_r_aload_n rfl kc_X8_become dX8_become_62
theorem rX8_become_63 : ab_Run X 63 63 (0, 0, 0) L (ab_R a :: st) σ Q ↔ (ab_sh σ a).1 = 9 ∧ ab_Run X 63 66 (0, 0, 0) L (ab_R (ab_rd σ a 3) :: st) σ Q := gF_8_22 ko_X8_become kc_X8_become dX8_become_63
theorem rX8_become_66 : ab_Run X 63 66 (0, 0, 0) [l0, l1, ab_I z] st σ Q ↔ ab_Run X 63 67 (0, 0, 0) [l0, l1, ab_I z] (ab_I z :: st) σ Q := ab_r_iload_n rfl kc_X8_become dX8_become_66
theorem rX8_become_67 : ab_Run X 63 67 (0, 0, 0) L (ab_I i :: ab_R a :: st) σ Q ↔ ((ab_sh σ a).1 = 21 ∧ 0 ≤ i ∧ i < (ab_sh σ a).2) ∧ ab_Run X 63 68 (0, 0, 0) L (ab_I (ab_rd σ a i) :: st) σ Q := ab_r_iaload (by decide) kc_X8_become dX8_become_67
theorem rX8_become_68 : ab_Run X 63 68 (0, 0, 0) L (ab_I v :: ab_I i :: ab_R a :: st) σ Q ↔ ((ab_sh σ a).1 = 21 ∧ 0 ≤ i ∧ i < (ab_sh σ a).2) ∧ ab_Run X 63 69 (0, 0, 0) L st (ab_wr σ a i v) Q := ab_r_iastore kc_X8_become dX8_become_68
theorem rX8_become_69 : ab_Run X 63 69 (0, 0, 0) [l0, l1, ab_I z] st σ Q ↔ (!ab_isJ l1) = true ∧ ab_Run X 63 72 (0, 0, 0) [l0, l1, ab_I (ab_w32 (z + 1))] st σ Q := ab_r_iinc rfl (by decide) kc_X8_become dX8_become_69
theorem rX8_become_72 : ab_Run X 63 72 (0, 0, 0) L st σ Q ↔ ab_Run X 63 51 (0, 0, 0) L st σ Q := ab_r_goto rfl kc_X8_become dX8_become_72
theorem rX8_become_75 : ab_Run X 63 75 (0, 0, 0) [ab_R z, l1, l2] st σ Q ↔ z ≠ 0 ∧ ab_Run X 63 76 (0, 0, 0) [ab_R z, l1, l2] (ab_R z :: st) σ Q := ab_r_aload_n rfl kc_X8_become dX8_become_75
theorem rX8_become_76 : ab_Run X 63 76 (0, 0, 0) [l0, ab_R z, l2] st σ Q ↔ z ≠ 0 ∧ ab_Run X 63 77 (0, 0, 0) [l0, ab_R z, l2] (ab_R z :: st) σ Q := ab_r_aload_n rfl kc_X8_become dX8_become_76
theorem rX8_become_77 : ab_Run X 63 77 (0, 0, 0) L (ab_R a :: st) σ Q ↔ (ab_sh σ a).1 = 9 ∧ ab_Run X 63 80 (0, 0, 0) L (ab_I (ab_rd σ a 4) :: st) σ Q := gF_8_39 ko_X8_become kc_X8_become dX8_become_77
theorem rX8_become_80 : ab_Run X 63 80 (0, 0, 0) L (ab_I z :: ab_R a :: st) σ Q ↔ (ab_sh σ a).1 = 9 ∧ ab_Run X 63 83 (0, 0, 0) L st (ab_wr σ a 4 z) Q := sF_8_39 ko_X8_become kc_X8_become dX8_become_80
theorem rX8_become_83 : ab_Run X 63 83 (0, 0, 0) L [] σ Q ↔ Q none σ := ab_r_return rfl kc_X8_become dX8_become_83
theorem kc_X8_draw : ab_code 64 = cX8_draw := rfl
theorem ko_X8_draw : ab_ow 64 = 8 := rfl
theorem rX8_draw_0 : ab_Run X 64 0 (0, 0, 0) [ab_R z, l1] st σ Q ↔ z ≠ 0 ∧ ab_Run X 64 1 (0, 0, 0) [ab_R z, l1] (ab_R z :: st) σ Q := ab_r_aload_n rfl kc_X8_draw dX8_draw_0
theorem rX8_draw_1 : ab_Run X 64 1 (0, 0, 0) L st σ Q ↔ ab_Run X 64 3 (0, 0, 0) L (ab_I 75 :: st) σ Q := ab_r_bipush (by decide) kc_X8_draw dX8_draw_1
theorem rX8_draw_3 : ab_Run X 64 3 (0, 0, 0) [ab_R z, l1] st σ Q ↔ z ≠ 0 ∧ ab_Run X 64 4 (0, 0, 0) [ab_R z, l1] (ab_R z :: st) σ Q := ab_r_aload_n rfl kc_X8_draw dX8_draw_3
theorem rX8_draw_4 : ab_Run X 64 4 (0, 0, 0) L (ab_R a :: st) σ Q ↔ (ab_sh σ a).1 = 9 ∧ ab_Run X 64 7 (0, 0, 0) L (ab_I (ab_rd σ a 4) :: st) σ Q := gF_8_39 ko_X8_draw kc_X8_draw dX8_draw_4
theorem rX8_draw_7 : ab_Run X 64 7 (0, 0, 0) L (ab_I b :: ab_I a :: st) σ Q ↔ ab_Run X 64 8 (0, 0, 0) L (ab_I (ab_w32 (a * b)) :: st) σ Q := ab_r_imul kc_X8_draw dX8_draw_7
theorem rX8_draw_8 : ab_Run X 64 8 (0, 0, 0) L st σ Q ↔ ab_Run X 64 10 (0, 0, 0) L (ab_I 74 :: st) σ Q := ab_r_bipush (by decide) kc_X8_draw dX8_draw_8
theorem rX8_draw_10 : ab_Run X 64 10 (0, 0, 0) L (ab_I b :: ab_I a :: st) σ Q ↔ ab_Run X 64 11 (0, 0, 0) L (ab_I (ab_w32 (a + b)) :: st) σ Q := ab_r_iadd kc_X8_draw dX8_draw_10
theorem rX8_draw_11 : ab_Run X 64 11 (0, 0, 0) L st σ Q ↔ ab_Run X 64 13 (0, 0, 0) L (ab_I 65537 :: st) σ Q := ab_r_ldc rfl ko_X8_draw (by decide +kernel) kc_X8_draw dX8_draw_11
theorem rX8_draw_13 : ab_Run X 64 13 (0, 0, 0) L (ab_I b :: ab_I a :: st) σ Q ↔ b ≠ 0 ∧ ab_Run X 64 14 (0, 0, 0) L (ab_I (a.tmod b) :: st) σ Q := ab_r_irem kc_X8_draw dX8_draw_13
theorem rX8_draw_14 : ab_Run X 64 14 (0, 0, 0) L (ab_I z :: ab_R a :: st) σ Q ↔ (ab_sh σ a).1 = 9 ∧ ab_Run X 64 17 (0, 0, 0) L st (ab_wr σ a 4 z) Q := sF_8_39 ko_X8_draw kc_X8_draw dX8_draw_14
theorem rX8_draw_17 : ab_Run X 64 17 (0, 0, 0) [l0, ab_I z] st σ Q ↔ ab_Run X 64 18 (0, 0, 0) [l0, ab_I z] (ab_I z :: st) σ Q := ab_r_iload_n rfl kc_X8_draw dX8_draw_17
theorem rX8_draw_18 : ab_Run X 64 18 (0, 0, 0) L (ab_I a :: st) σ Q ↔ (a ≤ 0 → ab_Run X 64 30 (0, 0, 0) L st σ Q) ∧ (¬ (a ≤ 0) → ab_Run X 64 21 (0, 0, 0) L st σ Q) := ab_r_if_le rfl kc_X8_draw dX8_draw_18
theorem rX8_draw_21 : ab_Run X 64 21 (0, 0, 0) [ab_R z, l1] st σ Q ↔ z ≠ 0 ∧ ab_Run X 64 22 (0, 0, 0) [ab_R z, l1] (ab_R z :: st) σ Q := ab_r_aload_n rfl kc_X8_draw dX8_draw_21
theorem rX8_draw_22 : ab_Run X 64 22 (0, 0, 0) L (ab_R a :: st) σ Q ↔ (ab_sh σ a).1 = 9 ∧ ab_Run X 64 25 (0, 0, 0) L (ab_I (ab_rd σ a 4) :: st) σ Q := gF_8_39 ko_X8_draw kc_X8_draw dX8_draw_22
theorem rX8_draw_25 : ab_Run X 64 25 (0, 0, 0) [l0, ab_I z] st σ Q ↔ ab_Run X 64 26 (0, 0, 0) [l0, ab_I z] (ab_I z :: st) σ Q := ab_r_iload_n rfl kc_X8_draw dX8_draw_25
theorem rX8_draw_26 : ab_Run X 64 26 (0, 0, 0) L (ab_I b :: ab_I a :: st) σ Q ↔ b ≠ 0 ∧ ab_Run X 64 27 (0, 0, 0) L (ab_I (a.tmod b) :: st) σ Q := ab_r_irem kc_X8_draw dX8_draw_26
theorem rX8_draw_27 : ab_Run X 64 27 (0, 0, 0) L st σ Q ↔ ab_Run X 64 31 (0, 0, 0) L st σ Q := ab_r_goto rfl kc_X8_draw dX8_draw_27
theorem rX8_draw_30 : ab_Run X 64 30 (0, 0, 0) L st σ Q ↔ ab_Run X 64 31 (0, 0, 0) L (ab_I 0 :: st) σ Q := ab_r_iconst (by decide) kc_X8_draw dX8_draw_30
theorem rX8_draw_31 : ab_Run X 64 31 (0, 0, 0) L [ab_I v] σ Q ↔ Q (some (ab_I v)) σ := ab_r_ireturnI rfl kc_X8_draw dX8_draw_31
theorem kc_X8_drawFlaw : ab_code 65 = cX8_drawFlaw := rfl
theorem ko_X8_drawFlaw : ab_ow 65 = 8 := rfl
theorem rX8_drawFlaw_0 : ab_Run X 65 0 (1, 0, 0) [ab_R z, l1, l2] st σ Q ↔ z ≠ 0 ∧ ab_Run X 65 1 (1, 0, 0) [ab_R z, l1, l2] (ab_R z :: st) σ Q := ab_r_aload_n rfl kc_X8_drawFlaw dX8_drawFlaw_0
theorem rX8_drawFlaw_1 : ab_Run X 65 1 (1, 0, 0) L st σ Q ↔ ab_Run X 65 3 (1, 0, 0) L (ab_I 100 :: st) σ Q := ab_r_bipush (by decide) kc_X8_drawFlaw dX8_drawFlaw_1
theorem rX8_drawFlaw_3 : ab_Run X 65 3 (1, 0, 0) L (ab_I x1 :: ab_R a :: st) σ Q ↔ ((ab_sh σ a).1 = 9 ∧ ab_cats st ≤ 8) ∧ ab_Do X 64 [ab_R a, ab_I x1] σ (fun r σ' => ab_Run X 65 6 (1, 0, 0) L (ab_psh r st) σ' Q) := ab_r_callV (w := [ab_I x1]) (as := [ab_I x1]) (b1 := (0, 0, 0)) 0 (Or.inl rfl) (by decide) ko_X8_drawFlaw qM_8_43 (by decide) rfl rfl rfl rfl rfl (by decide) (Nat.le_of_ble_eq_true rfl) kc_X8_drawFlaw dX8_drawFlaw_3
theorem rX8_drawFlaw_6 : ab_Run X 65 6 (1, 0, 0) [l0, ab_I z, l2] st σ Q ↔ ab_Run X 65 7 (1, 0, 0) [l0, ab_I z, l2] (ab_I z :: st) σ Q := ab_r_iload_n rfl kc_X8_drawFlaw dX8_drawFlaw_6
theorem rX8_drawFlaw_7 : ab_Run X 65 7 (1, 0, 0) L (ab_I b :: ab_I a :: st) σ Q ↔ (b ≤ a → ab_Run X 65 18 (1, 0, 0) L st σ Q) ∧ (¬ (b ≤ a) → ab_Run X 65 10 (1, 0, 0) L st σ Q) := ab_r_icmp_ge rfl kc_X8_drawFlaw dX8_drawFlaw_7
theorem rX8_drawFlaw_10 : ab_Run X 65 10 (1, 0, 0) [ab_R z, l1, l2] st σ Q ↔ z ≠ 0 ∧ ab_Run X 65 11 (1, 0, 0) [ab_R z, l1, l2] (ab_R z :: st) σ Q := ab_r_aload_n rfl kc_X8_drawFlaw dX8_drawFlaw_10
theorem rX8_drawFlaw_11 : ab_Run X 65 11 (1, 0, 0) [l0, l1, ab_I z] st σ Q ↔ ab_Run X 65 12 (1, 0, 0) [l0, l1, ab_I z] (ab_I z :: st) σ Q := ab_r_iload_n rfl kc_X8_drawFlaw dX8_drawFlaw_11
theorem rX8_drawFlaw_12 : ab_Run X 65 12 (1, 0, 0) L (ab_I x1 :: ab_R a :: st) σ Q ↔ ((ab_sh σ a).1 = 9 ∧ ab_cats st ≤ 8) ∧ ab_Do X 64 [ab_R a, ab_I x1] σ (fun r σ' => ab_Run X 65 15 (1, 0, 0) L (ab_psh r st) σ' Q) := ab_r_callV (w := [ab_I x1]) (as := [ab_I x1]) (b1 := (0, 0, 0)) 0 (Or.inl rfl) (by decide) ko_X8_drawFlaw qM_8_43 (by decide) rfl rfl rfl rfl rfl (by decide) (Nat.le_of_ble_eq_true rfl) kc_X8_drawFlaw dX8_drawFlaw_12
theorem rX8_drawFlaw_15 : ab_Run X 65 15 (1, 0, 0) L st σ Q ↔ ab_Run X 65 19 (1, 0, 0) L st σ Q := ab_r_goto rfl kc_X8_drawFlaw dX8_drawFlaw_15
theorem rX8_drawFlaw_18 : ab_Run X 65 18 (1, 0, 0) L st σ Q ↔ ab_Run X 65 19 (1, 0, 0) L (ab_I (-1) :: st) σ Q := ab_r_iconst (by decide) kc_X8_drawFlaw dX8_drawFlaw_18
theorem rX8_drawFlaw_19 : ab_Run X 65 19 (1, 0, 0) L [ab_I v] σ Q ↔ Q (some (ab_I v)) σ := ab_r_ireturnI rfl kc_X8_drawFlaw dX8_drawFlaw_19
theorem kc_X9_hasRoom : ab_code 67 = cX9_hasRoom := rfl
theorem ko_X9_hasRoom : ab_ow 67 = 9 := rfl
theorem rX9_hasRoom_0 : ab_Run X 67 0 (0, 0, 0) [ab_R z, l1] st σ Q ↔ z ≠ 0 ∧ ab_Run X 67 1 (0, 0, 0) [ab_R z, l1] (ab_R z :: st) σ Q := ab_r_aload_n rfl kc_X9_hasRoom dX9_hasRoom_0
theorem rX9_hasRoom_1 : ab_Run X 67 1 (0, 0, 0) L (ab_R a :: st) σ Q ↔ (ab_sh σ a).1 = 10 ∧ ab_Run X 67 4 (0, 0, 0) L (ab_I (ab_rd σ a 1) :: st) σ Q := gF_9_13 ko_X9_hasRoom kc_X9_hasRoom dX9_hasRoom_1
theorem rX9_hasRoom_4 : ab_Run X 67 4 (0, 0, 0) [l0, ab_I z] st σ Q ↔ ab_Run X 67 5 (0, 0, 0) [l0, ab_I z] (ab_I z :: st) σ Q := ab_r_iload_n rfl kc_X9_hasRoom dX9_hasRoom_4
theorem rX9_hasRoom_5 : ab_Run X 67 5 (0, 0, 0) L (ab_I b :: ab_I a :: st) σ Q ↔ ab_Run X 67 6 (0, 0, 0) L (ab_I (ab_w32 (a + b)) :: st) σ Q := ab_r_iadd kc_X9_hasRoom dX9_hasRoom_5
theorem rX9_hasRoom_6 : ab_Run X 67 6 (0, 0, 0) [ab_R z, l1] st σ Q ↔ z ≠ 0 ∧ ab_Run X 67 7 (0, 0, 0) [ab_R z, l1] (ab_R z :: st) σ Q := ab_r_aload_n rfl kc_X9_hasRoom dX9_hasRoom_6
theorem rX9_hasRoom_7 : ab_Run X 67 7 (0, 0, 0) L (ab_R a :: st) σ Q ↔ (ab_sh σ a).1 = 10 ∧ ab_Run X 67 10 (0, 0, 0) L (ab_R (ab_rd σ a 0) :: st) σ Q := gF_9_7 ko_X9_hasRoom kc_X9_hasRoom dX9_hasRoom_7
theorem rX9_hasRoom_10 : ab_Run X 67 10 (0, 0, 0) L (ab_R a :: st) σ Q ↔ (21 ≤ (ab_sh σ a).1 ∧ (ab_sh σ a).1 < 30) ∧ ab_Run X 67 11 (0, 0, 0) L (ab_I (ab_sh σ a).2 :: st) σ Q := ab_r_arraylength (by decide) kc_X9_hasRoom dX9_hasRoom_10
theorem rX9_hasRoom_11 : ab_Run X 67 11 (0, 0, 0) L (ab_I b :: ab_I a :: st) σ Q ↔ (b < a → ab_Run X 67 18 (0, 0, 0) L st σ Q) ∧ (¬ (b < a) → ab_Run X 67 14 (0, 0, 0) L st σ Q) := ab_r_icmp_gt rfl kc_X9_hasRoom dX9_hasRoom_11
theorem rX9_hasRoom_14 : ab_Run X 67 14 (0, 0, 0) L st σ Q ↔ ab_Run X 67 15 (0, 0, 0) L (ab_I 1 :: st) σ Q := ab_r_iconst (by decide) kc_X9_hasRoom dX9_hasRoom_14
theorem rX9_hasRoom_15 : ab_Run X 67 15 (0, 0, 0) L st σ Q ↔ ab_Run X 67 19 (0, 0, 0) L st σ Q := ab_r_goto rfl kc_X9_hasRoom dX9_hasRoom_15
theorem rX9_hasRoom_18 : ab_Run X 67 18 (0, 0, 0) L st σ Q ↔ ab_Run X 67 19 (0, 0, 0) L (ab_I 0 :: st) σ Q := ab_r_iconst (by decide) kc_X9_hasRoom dX9_hasRoom_18
theorem rX9_hasRoom_19 : ab_Run X 67 19 (0, 0, 0) L [ab_I v] σ Q ↔ (v = 0 ∨ v = 1) ∧ Q (some (ab_I v)) σ := ab_r_ireturnZ rfl kc_X9_hasRoom dX9_hasRoom_19
theorem kc_X9_add : ab_code 68 = cX9_add := rfl
theorem ko_X9_add : ab_ow 68 = 9 := rfl
theorem rX9_add_0 : ab_Run X 68 0 (1, 0, 0) [ab_R z, l1, l2] st σ Q ↔ z ≠ 0 ∧ ab_Run X 68 1 (1, 0, 0) [ab_R z, l1, l2] (ab_R z :: st) σ Q := ab_r_aload_n rfl kc_X9_add dX9_add_0
theorem rX9_add_1 : ab_Run X 68 1 (1, 0, 0) L st σ Q ↔ ab_Run X 68 2 (1, 0, 0) L (ab_I 4 :: st) σ Q := ab_r_iconst (by decide) kc_X9_add dX9_add_1
theorem rX9_add_2 : ab_Run X 68 2 (1, 0, 0) L (ab_I x1 :: ab_R a :: st) σ Q ↔ ((ab_sh σ a).1 = 10 ∧ ab_cats st ≤ 8) ∧ ab_Do X 67 [ab_R a, ab_I x1] σ (fun r σ' => ab_Run X 68 5 (1, 0, 0) L (ab_psh r st) σ' Q) := ab_r_callV (w := [ab_I x1]) (as := [ab_I x1]) (b1 := (0, 0, 0)) 0 (Or.inl rfl) (by decide) ko_X9_add qM_9_17 (by decide) rfl rfl rfl rfl rfl (by decide) (Nat.le_of_ble_eq_true rfl) kc_X9_add dX9_add_2
theorem rX9_add_5 : ab_Run X 68 5 (1, 0, 0) L (ab_I a :: st) σ Q ↔ (a = 0 → ab_Run X 68 44 (1, 0, 0) L st σ Q) ∧ (¬ (a = 0) → ab_Run X 68 8 (1, 0, 0) L st σ Q) := ab_r_if_eq rfl kc_X9_add dX9_add_5
theorem rX9_add_8 : ab_Run X 68 8 (1, 0, 0) L st σ Q ↔ ab_Run X 68 10 (1, 0, 0) L (ab_I 24 :: st) σ Q := ab_r_bipush (by decide) kc_X9_add dX9_add_8
theorem rX9_add_10 : ab_Run X 68 10 (1, 0, 0) [l0, l1, l2] (ab_I z :: st) σ Q ↔ (!ab_isJ l1) = true ∧ ab_Run X 68 11 (1, 0, 0) [l0, l1, ab_I z] st σ Q := ab_r_istore_n (Nat.le_of_ble_eq_true rfl) kc_X9_add dX9_add_10
theorem rX9_add_11 : ab_Run X 68 11 (1, 0, 0) [l0, l1, ab_I z] st σ Q ↔ ab_Run X 68 12 (1, 0, 0) [l0, l1, ab_I z] (ab_I z :: st) σ Q := ab_r_iload_n rfl kc_X9_add dX9_add_11
theorem rX9_add_12 : ab_Run X 68 12 (1, 0, 0) L (ab_I a :: st) σ Q ↔ (a < 0 → ab_Run X 68 44 (1, 0, 0) L st σ Q) ∧ (¬ (a < 0) → ab_Run X 68 15 (1, 0, 0) L st σ Q) := ab_r_if_lt rfl kc_X9_add dX9_add_12
theorem rX9_add_15 : ab_Run X 68 15 (1, 0, 0) [ab_R z, l1, l2] st σ Q ↔ z ≠ 0 ∧ ab_Run X 68 16 (1, 0, 0) [ab_R z, l1, l2] (ab_R z :: st) σ Q := ab_r_aload_n rfl kc_X9_add dX9_add_15
theorem rX9_add_16 : ab_Run X 68 16 (1, 0, 0) L (ab_R a :: st) σ Q ↔ (ab_sh σ a).1 = 10 ∧ ab_Run X 68 19 (1, 0, 0) L (ab_R (ab_rd σ a 0) :: st) σ Q := gF_9_7 ko_X9_add kc_X9_add dX9_add_16
theorem rX9_add_19 : ab_Run X 68 19 (1, 0, 0) [ab_R z, l1, l2] st σ Q ↔ z ≠ 0 ∧ ab_Run X 68 20 (1, 0, 0) [ab_R z, l1, l2] (ab_R z :: st) σ Q := ab_r_aload_n rfl kc_X9_add dX9_add_19
theorem rX9_add_20 : ab_Run X 68 20 (1, 0, 0) L (ab_R a :: st) σ Q ↔ (ab_sh σ a).1 = 10 ∧ ab_Run X 68 23 (1, 0, 0) L (ab_I (ab_rd σ a 1) :: st) σ Q := gF_9_13 ko_X9_add kc_X9_add dX9_add_20
theorem rX9_add_23 : ab_Run X 68 23 (1, 0, 0) [l0, ab_I z, l2] st σ Q ↔ ab_Run X 68 24 (1, 0, 0) [l0, ab_I z, l2] (ab_I z :: st) σ Q := ab_r_iload_n rfl kc_X9_add dX9_add_23
theorem rX9_add_24 : ab_Run X 68 24 (1, 0, 0) [l0, l1, ab_I z] st σ Q ↔ ab_Run X 68 25 (1, 0, 0) [l0, l1, ab_I z] (ab_I z :: st) σ Q := ab_r_iload_n rfl kc_X9_add dX9_add_24
theorem rX9_add_25 : ab_Run X 68 25 (1, 0, 0) L (ab_I b :: ab_I a :: st) σ Q ↔ ab_Run X 68 26 (1, 0, 0) L (ab_I (ab_ok32 (fun x y => (x.toUInt32 >>> (y.toUInt32 &&& Int32.toUInt32 31)).toInt32) a b) :: st) σ Q := ab_r_iushr kc_X9_add dX9_add_25
theorem rX9_add_26 : ab_Run X 68 26 (1, 0, 0) L (ab_I a :: st) σ Q ↔ ab_Run X 68 27 (1, 0, 0) L (ab_I (ab_w8 a) :: st) σ Q := ab_r_i2b kc_X9_add dX9_add_26
theorem rX9_add_27B (h : (ab_sh σ a).1 = 23 ∧ 0 ≤ i ∧ i < (ab_sh σ a).2) : ab_Run X 68 27 (1, 0, 0) L (ab_I v :: ab_I i :: ab_R a :: st) σ Q ↔ ab_Run X 68 28 (1, 0, 0) L st (ab_wr σ a i (ab_w8 v)) Q := ab_r_bastoreB h kc_X9_add dX9_add_27
theorem rX9_add_27Z (h : (ab_sh σ a).1 = 24 ∧ 0 ≤ i ∧ i < (ab_sh σ a).2 ∧ (v = 0 ∨ v = 1)) : ab_Run X 68 27 (1, 0, 0) L (ab_I v :: ab_I i :: ab_R a :: st) σ Q ↔ ab_Run X 68 28 (1, 0, 0) L st (ab_wr σ a i v) Q := ab_r_bastoreZ h kc_X9_add dX9_add_27
theorem rX9_add_28 : ab_Run X 68 28 (1, 0, 0) [ab_R z, l1, l2] st σ Q ↔ z ≠ 0 ∧ ab_Run X 68 29 (1, 0, 0) [ab_R z, l1, l2] (ab_R z :: st) σ Q := ab_r_aload_n rfl kc_X9_add dX9_add_28
theorem rX9_add_29I : ab_Run X 68 29 (1, 0, 0) L (ab_I a :: st) σ Q ↔ ab_Run X 68 30 (1, 0, 0) L (ab_I a :: ab_I a :: st) σ Q := ab_r_dupI kc_X9_add dX9_add_29
theorem rX9_add_29R : ab_Run X 68 29 (1, 0, 0) L (ab_R a :: st) σ Q ↔ ab_Run X 68 30 (1, 0, 0) L (ab_R a :: ab_R a :: st) σ Q := ab_r_dupR kc_X9_add dX9_add_29
theorem rX9_add_30 : ab_Run X 68 30 (1, 0, 0) L (ab_R a :: st) σ Q ↔ (ab_sh σ a).1 = 10 ∧ ab_Run X 68 33 (1, 0, 0) L (ab_I (ab_rd σ a 1) :: st) σ Q := gF_9_13 ko_X9_add kc_X9_add dX9_add_30
theorem rX9_add_33 : ab_Run X 68 33 (1, 0, 0) L st σ Q ↔ ab_Run X 68 34 (1, 0, 0) L (ab_I 1 :: st) σ Q := ab_r_iconst (by decide) kc_X9_add dX9_add_33
theorem rX9_add_34 : ab_Run X 68 34 (1, 0, 0) L (ab_I b :: ab_I a :: st) σ Q ↔ ab_Run X 68 35 (1, 0, 0) L (ab_I (ab_w32 (a + b)) :: st) σ Q := ab_r_iadd kc_X9_add dX9_add_34
theorem rX9_add_35 : ab_Run X 68 35 (1, 0, 0) L (ab_I z :: ab_R a :: st) σ Q ↔ (ab_sh σ a).1 = 10 ∧ ab_Run X 68 38 (1, 0, 0) L st (ab_wr σ a 1 z) Q := sF_9_13 ko_X9_add kc_X9_add dX9_add_35
theorem rX9_add_38 : ab_Run X 68 38 (1, 0, 0) [l0, l1, ab_I z] st σ Q ↔ (!ab_isJ l1) = true ∧ ab_Run X 68 41 (1, 0, 0) [l0, l1, ab_I (ab_w32 (z + (-8)))] st σ Q := ab_r_iinc rfl (by decide) kc_X9_add dX9_add_38
theorem rX9_add_41 : ab_Run X 68 41 (1, 0, 0) L st σ Q ↔ ab_Run X 68 11 (1, 0, 0) L st σ Q := ab_r_goto rfl kc_X9_add dX9_add_41
theorem rX9_add_44 : ab_Run X 68 44 (1, 0, 0) L [] σ Q ↔ Q none σ := ab_r_return rfl kc_X9_add dX9_add_44
theorem kc_X9_open : ab_code 69 = cX9_open := rfl
theorem ko_X9_open : ab_ow 69 = 9 := rfl
theorem rX9_open_0 : ab_Run X 69 0 (2, 0, 0) [ab_R z, l1] st σ Q ↔ z ≠ 0 ∧ ab_Run X 69 1 (2, 0, 0) [ab_R z, l1] (ab_R z :: st) σ Q := ab_r_aload_n rfl kc_X9_open dX9_open_0
theorem rX9_open_1 : ab_Run X 69 1 (2, 0, 0) L st σ Q ↔ ab_Run X 69 2 (2, 0, 0) L (ab_I 0 :: st) σ Q := ab_r_iconst (by decide) kc_X9_open dX9_open_1
theorem rX9_open_2 : ab_Run X 69 2 (2, 0, 0) [l0, ab_I z] st σ Q ↔ ab_Run X 69 3 (2, 0, 0) [l0, ab_I z] (ab_I z :: st) σ Q := ab_r_iload_n rfl kc_X9_open dX9_open_2
theorem rX9_open_3 : ab_Run X 69 3 (2, 0, 0) [ab_R z, l1] st σ Q ↔ z ≠ 0 ∧ ab_Run X 69 4 (2, 0, 0) [ab_R z, l1] (ab_R z :: st) σ Q := ab_r_aload_n rfl kc_X9_open dX9_open_3
theorem rX9_open_4 : ab_Run X 69 4 (2, 0, 0) L (ab_R a :: st) σ Q ↔ (ab_sh σ a).1 = 10 ∧ ab_Run X 69 7 (2, 0, 0) L (ab_I (ab_rd σ a 1) :: st) σ Q := gF_9_13 ko_X9_open kc_X9_open dX9_open_4
theorem rX9_open_7 : ab_Run X 69 7 (2, 0, 0) L (ab_I b :: ab_I a :: st) σ Q ↔ ab_cats st ≤ 8 ∧ ab_Run X 69 10 (2, 0, 0) L (ab_I (if b < a then b else a) :: st) σ Q := ab_r_math 1005 (Or.inr ⟨rfl, rfl⟩) (by decide) ko_X9_open qM_9_21 (by decide) kc_X9_open dX9_open_7
theorem rX9_open_10 : ab_Run X 69 10 (2, 0, 0) L (ab_I b :: ab_I a :: st) σ Q ↔ ab_cats st ≤ 8 ∧ ab_Run X 69 13 (2, 0, 0) L (ab_I (if a < b then b else a) :: st) σ Q := ab_r_math 1004 (Or.inl ⟨rfl, rfl⟩) (by decide) ko_X9_open qM_9_27 (by decide) kc_X9_open dX9_open_10
theorem rX9_open_13 : ab_Run X 69 13 (2, 0, 0) L (ab_I z :: ab_R a :: st) σ Q ↔ (ab_sh σ a).1 = 10 ∧ ab_Run X 69 16 (2, 0, 0) L st (ab_wr σ a 7 z) Q := sF_9_30 ko_X9_open kc_X9_open dX9_open_13
theorem rX9_open_16 : ab_Run X 69 16 (2, 0, 0) [ab_R z, l1] st σ Q ↔ z ≠ 0 ∧ ab_Run X 69 17 (2, 0, 0) [ab_R z, l1] (ab_R z :: st) σ Q := ab_r_aload_n rfl kc_X9_open dX9_open_16
theorem rX9_open_17 : ab_Run X 69 17 (2, 0, 0) L st σ Q ↔ ab_Run X 69 18 (2, 0, 0) L (ab_I 0 :: st) σ Q := ab_r_iconst (by decide) kc_X9_open dX9_open_17
theorem rX9_open_18 : ab_Run X 69 18 (2, 0, 0) L (ab_I z :: ab_R a :: st) σ Q ↔ (ab_sh σ a).1 = 10 ∧ ab_Run X 69 21 (2, 0, 0) L st (ab_wr σ a 6 z) Q := sF_9_33 ko_X9_open kc_X9_open dX9_open_18
theorem rX9_open_21 : ab_Run X 69 21 (2, 0, 0) [ab_R z, l1] st σ Q ↔ z ≠ 0 ∧ ab_Run X 69 22 (2, 0, 0) [ab_R z, l1] (ab_R z :: st) σ Q := ab_r_aload_n rfl kc_X9_open dX9_open_21
theorem rX9_open_22 : ab_Run X 69 22 (2, 0, 0) L (ab_R a :: st) σ Q ↔ ((ab_sh σ a).1 = 10 ∧ ab_cats st ≤ 8) ∧ ab_Do X 70 [ab_R a] σ (fun r σ' => ab_Run X 69 25 (2, 0, 0) L (ab_psh r st) σ' Q) := ab_r_callV (w := []) (as := []) (b1 := (1, 0, 0)) 0 (Or.inl rfl) (by decide) ko_X9_open qM_9_36 (by decide) rfl rfl rfl rfl rfl (by decide) (Nat.le_of_ble_eq_true rfl) kc_X9_open dX9_open_22
theorem rX9_open_25 : ab_Run X 69 25 (2, 0, 0) L [] σ Q ↔ Q none σ := ab_r_return rfl kc_X9_open dX9_open_25
theorem kc_X9_next : ab_code 70 = cX9_next := rfl
theorem ko_X9_next : ab_ow 70 = 9 := rfl
theorem rX9_next_0 : ab_Run X 70 0 (1, 0, 0) [ab_R z] st σ Q ↔ z ≠ 0 ∧ ab_Run X 70 1 (1, 0, 0) [ab_R z] (ab_R z :: st) σ Q := ab_r_aload_n rfl kc_X9_next dX9_next_0
theorem rX9_next_1 : ab_Run X 70 1 (1, 0, 0) [ab_R z] st σ Q ↔ z ≠ 0 ∧ ab_Run X 70 2 (1, 0, 0) [ab_R z] (ab_R z :: st) σ Q := ab_r_aload_n rfl kc_X9_next dX9_next_1
theorem rX9_next_2 : ab_Run X 70 2 (1, 0, 0) L (ab_R a :: st) σ Q ↔ (ab_sh σ a).1 = 10 ∧ ab_Run X 70 5 (1, 0, 0) L (ab_I (ab_rd σ a 6) :: st) σ Q := gF_9_33 ko_X9_next kc_X9_next dX9_next_2
theorem rX9_next_5 : ab_Run X 70 5 (1, 0, 0) L (ab_I z :: ab_R a :: st) σ Q ↔ (ab_sh σ a).1 = 10 ∧ ab_Run X 70 8 (1, 0, 0) L st (ab_wr σ a 3 z) Q := sF_9_39 ko_X9_next kc_X9_next dX9_next_5
theorem rX9_next_8 : ab_Run X 70 8 (1, 0, 0) [ab_R z] st σ Q ↔ z ≠ 0 ∧ ab_Run X 70 9 (1, 0, 0) [ab_R z] (ab_R z :: st) σ Q := ab_r_aload_n rfl kc_X9_next dX9_next_8
theorem rX9_next_9 : ab_Run X 70 9 (1, 0, 0) L (ab_R a :: st) σ Q ↔ (ab_sh σ a).1 = 10 ∧ ab_Run X 70 12 (1, 0, 0) L (ab_I (ab_rd σ a 3) :: st) σ Q := gF_9_39 ko_X9_next kc_X9_next dX9_next_9
theorem rX9_next_12 : ab_Run X 70 12 (1, 0, 0) [ab_R z] st σ Q ↔ z ≠ 0 ∧ ab_Run X 70 13 (1, 0, 0) [ab_R z] (ab_R z :: st) σ Q := ab_r_aload_n rfl kc_X9_next dX9_next_12
theorem rX9_next_13 : ab_Run X 70 13 (1, 0, 0) L (ab_R a :: st) σ Q ↔ (ab_sh σ a).1 = 10 ∧ ab_Run X 70 16 (1, 0, 0) L (ab_I (ab_rd σ a 7) :: st) σ Q := gF_9_30 ko_X9_next kc_X9_next dX9_next_13
theorem rX9_next_16 : ab_Run X 70 16 (1, 0, 0) L (ab_I b :: ab_I a :: st) σ Q ↔ (b ≤ a → ab_Run X 70 46 (1, 0, 0) L st σ Q) ∧ (¬ (b ≤ a) → ab_Run X 70 19 (1, 0, 0) L st σ Q) := ab_r_icmp_ge rfl kc_X9_next dX9_next_16
theorem rX9_next_19 : ab_Run X 70 19 (1, 0, 0) [ab_R z] st σ Q ↔ z ≠ 0 ∧ ab_Run X 70 20 (1, 0, 0) [ab_R z] (ab_R z :: st) σ Q := ab_r_aload_n rfl kc_X9_next dX9_next_19
theorem rX9_next_20 : ab_Run X 70 20 (1, 0, 0) L (ab_R a :: st) σ Q ↔ (ab_sh σ a).1 = 10 ∧ ab_Run X 70 23 (1, 0, 0) L (ab_R (ab_rd σ a 0) :: st) σ Q := gF_9_7 ko_X9_next kc_X9_next dX9_next_20
theorem rX9_next_23 : ab_Run X 70 23 (1, 0, 0) [ab_R z] st σ Q ↔ z ≠ 0 ∧ ab_Run X 70 24 (1, 0, 0) [ab_R z] (ab_R z :: st) σ Q := ab_r_aload_n rfl kc_X9_next dX9_next_23
theorem rX9_next_24 : ab_Run X 70 24 (1, 0, 0) L (ab_R a :: st) σ Q ↔ (ab_sh σ a).1 = 10 ∧ ab_Run X 70 27 (1, 0, 0) L (ab_I (ab_rd σ a 3) :: st) σ Q := gF_9_39 ko_X9_next kc_X9_next dX9_next_24
theorem rX9_next_27 : ab_Run X 70 27 (1, 0, 0) L (ab_I i :: ab_R a :: st) σ Q ↔ (((ab_sh σ a).1 = 23 ∨ (ab_sh σ a).1 = 24) ∧ 0 ≤ i ∧ i < (ab_sh σ a).2) ∧ ab_Run X 70 28 (1, 0, 0) L (ab_I (ab_rd σ a i) :: st) σ Q := ab_r_baload kc_X9_next dX9_next_27
theorem rX9_next_28 : ab_Run X 70 28 (1, 0, 0) L st σ Q ↔ ab_Run X 70 30 (1, 0, 0) L (ab_I 32 :: st) σ Q := ab_r_bipush (by decide) kc_X9_next dX9_next_28
theorem rX9_next_30 : ab_Run X 70 30 (1, 0, 0) L (ab_I b :: ab_I a :: st) σ Q ↔ (¬ a = b → ab_Run X 70 46 (1, 0, 0) L st σ Q) ∧ (¬ (¬ a = b) → ab_Run X 70 33 (1, 0, 0) L st σ Q) := ab_r_icmp_ne rfl kc_X9_next dX9_next_30
theorem rX9_next_33 : ab_Run X 70 33 (1, 0, 0) [ab_R z] st σ Q ↔ z ≠ 0 ∧ ab_Run X 70 34 (1, 0, 0) [ab_R z] (ab_R z :: st) σ Q := ab_r_aload_n rfl kc_X9_next dX9_next_33
theorem rX9_next_34I : ab_Run X 70 34 (1, 0, 0) L (ab_I a :: st) σ Q ↔ ab_Run X 70 35 (1, 0, 0) L (ab_I a :: ab_I a :: st) σ Q := ab_r_dupI kc_X9_next dX9_next_34
theorem rX9_next_34R : ab_Run X 70 34 (1, 0, 0) L (ab_R a :: st) σ Q ↔ ab_Run X 70 35 (1, 0, 0) L (ab_R a :: ab_R a :: st) σ Q := ab_r_dupR kc_X9_next dX9_next_34
theorem rX9_next_35 : ab_Run X 70 35 (1, 0, 0) L (ab_R a :: st) σ Q ↔ (ab_sh σ a).1 = 10 ∧ ab_Run X 70 38 (1, 0, 0) L (ab_I (ab_rd σ a 3) :: st) σ Q := gF_9_39 ko_X9_next kc_X9_next dX9_next_35
theorem rX9_next_38 : ab_Run X 70 38 (1, 0, 0) L st σ Q ↔ ab_Run X 70 39 (1, 0, 0) L (ab_I 1 :: st) σ Q := ab_r_iconst (by decide) kc_X9_next dX9_next_38
theorem rX9_next_39 : ab_Run X 70 39 (1, 0, 0) L (ab_I b :: ab_I a :: st) σ Q ↔ ab_Run X 70 40 (1, 0, 0) L (ab_I (ab_w32 (a + b)) :: st) σ Q := ab_r_iadd kc_X9_next dX9_next_39
theorem rX9_next_40 : ab_Run X 70 40 (1, 0, 0) L (ab_I z :: ab_R a :: st) σ Q ↔ (ab_sh σ a).1 = 10 ∧ ab_Run X 70 43 (1, 0, 0) L st (ab_wr σ a 3 z) Q := sF_9_39 ko_X9_next kc_X9_next dX9_next_40
theorem rX9_next_43 : ab_Run X 70 43 (1, 0, 0) L st σ Q ↔ ab_Run X 70 8 (1, 0, 0) L st σ Q := ab_r_goto rfl kc_X9_next dX9_next_43
theorem rX9_next_46 : ab_Run X 70 46 (1, 0, 0) [ab_R z] st σ Q ↔ z ≠ 0 ∧ ab_Run X 70 47 (1, 0, 0) [ab_R z] (ab_R z :: st) σ Q := ab_r_aload_n rfl kc_X9_next dX9_next_46
theorem rX9_next_47 : ab_Run X 70 47 (1, 0, 0) [ab_R z] st σ Q ↔ z ≠ 0 ∧ ab_Run X 70 48 (1, 0, 0) [ab_R z] (ab_R z :: st) σ Q := ab_r_aload_n rfl kc_X9_next dX9_next_47
theorem rX9_next_48 : ab_Run X 70 48 (1, 0, 0) L (ab_R a :: st) σ Q ↔ (ab_sh σ a).1 = 10 ∧ ab_Run X 70 51 (1, 0, 0) L (ab_I (ab_rd σ a 3) :: st) σ Q := gF_9_39 ko_X9_next kc_X9_next dX9_next_48
theorem rX9_next_51 : ab_Run X 70 51 (1, 0, 0) L st σ Q ↔ ab_Run X 70 52 (1, 0, 0) L (ab_I 1 :: st) σ Q := ab_r_iconst (by decide) kc_X9_next dX9_next_51
theorem rX9_next_52 : ab_Run X 70 52 (1, 0, 0) L (ab_I b :: ab_I a :: st) σ Q ↔ ab_Run X 70 53 (1, 0, 0) L (ab_I (ab_w32 (a + b)) :: st) σ Q := ab_r_iadd kc_X9_next dX9_next_52
theorem rX9_next_53 : ab_Run X 70 53 (1, 0, 0) L (ab_I z :: ab_R a :: st) σ Q ↔ (ab_sh σ a).1 = 10 ∧ ab_Run X 70 56 (1, 0, 0) L st (ab_wr σ a 6 z) Q := sF_9_33 ko_X9_next kc_X9_next dX9_next_53
theorem rX9_next_56 : ab_Run X 70 56 (1, 0, 0) [ab_R z] st σ Q ↔ z ≠ 0 ∧ ab_Run X 70 57 (1, 0, 0) [ab_R z] (ab_R z :: st) σ Q := ab_r_aload_n rfl kc_X9_next dX9_next_56
theorem rX9_next_57 : ab_Run X 70 57 (1, 0, 0) L (ab_R a :: st) σ Q ↔ (ab_sh σ a).1 = 10 ∧ ab_Run X 70 60 (1, 0, 0) L (ab_I (ab_rd σ a 3) :: st) σ Q := gF_9_39 ko_X9_next kc_X9_next dX9_next_57
theorem rX9_next_60 : ab_Run X 70 60 (1, 0, 0) [ab_R z] st σ Q ↔ z ≠ 0 ∧ ab_Run X 70 61 (1, 0, 0) [ab_R z] (ab_R z :: st) σ Q := ab_r_aload_n rfl kc_X9_next dX9_next_60
theorem rX9_next_61 : ab_Run X 70 61 (1, 0, 0) L (ab_R a :: st) σ Q ↔ (ab_sh σ a).1 = 10 ∧ ab_Run X 70 64 (1, 0, 0) L (ab_I (ab_rd σ a 7) :: st) σ Q := gF_9_30 ko_X9_next kc_X9_next dX9_next_61
theorem rX9_next_64 : ab_Run X 70 64 (1, 0, 0) L (ab_I b :: ab_I a :: st) σ Q ↔ (a < b → ab_Run X 70 83 (1, 0, 0) L st σ Q) ∧ (¬ (a < b) → ab_Run X 70 67 (1, 0, 0) L st σ Q) := ab_r_icmp_lt rfl kc_X9_next dX9_next_64
theorem rX9_next_67 : ab_Run X 70 67 (1, 0, 0) [ab_R z] st σ Q ↔ z ≠ 0 ∧ ab_Run X 70 68 (1, 0, 0) [ab_R z] (ab_R z :: st) σ Q := ab_r_aload_n rfl kc_X9_next dX9_next_67
theorem rX9_next_68 : ab_Run X 70 68 (1, 0, 0) [ab_R z] st σ Q ↔ z ≠ 0 ∧ ab_Run X 70 69 (1, 0, 0) [ab_R z] (ab_R z :: st) σ Q := ab_r_aload_n rfl kc_X9_next dX9_next_68
theorem rX9_next_69 : ab_Run X 70 69 (1, 0, 0) L (ab_R a :: st) σ Q ↔ (ab_sh σ a).1 = 10 ∧ ab_Run X 70 72 (1, 0, 0) L (ab_I (ab_rd σ a 7) :: st) σ Q := gF_9_30 ko_X9_next kc_X9_next dX9_next_69
theorem rX9_next_72 : ab_Run X 70 72 (1, 0, 0) L (ab_I z :: ab_R a :: st) σ Q ↔ (ab_sh σ a).1 = 10 ∧ ab_Run X 70 75 (1, 0, 0) L st (ab_wr σ a 6 z) Q := sF_9_33 ko_X9_next kc_X9_next dX9_next_72
theorem rX9_next_75 : ab_Run X 70 75 (1, 0, 0) [ab_R z] st σ Q ↔ z ≠ 0 ∧ ab_Run X 70 76 (1, 0, 0) [ab_R z] (ab_R z :: st) σ Q := ab_r_aload_n rfl kc_X9_next dX9_next_75
theorem rX9_next_76 : ab_Run X 70 76 (1, 0, 0) L st σ Q ↔ ab_Run X 70 77 (1, 0, 0) L (ab_I 0 :: st) σ Q := ab_r_iconst (by decide) kc_X9_next dX9_next_76
theorem rX9_next_77 : ab_Run X 70 77 (1, 0, 0) L (ab_I z :: ab_R a :: st) σ Q ↔ (ab_sh σ a).1 = 10 ∧ ab_Run X 70 80 (1, 0, 0) L st (ab_wr σ a 2 z) Q := sF_9_42 ko_X9_next kc_X9_next dX9_next_77
theorem rX9_next_80 : ab_Run X 70 80 (1, 0, 0) L st σ Q ↔ ab_Run X 70 202 (1, 0, 0) L st σ Q := ab_r_goto rfl kc_X9_next dX9_next_80
theorem rX9_next_83 : ab_Run X 70 83 (1, 0, 0) [ab_R z] st σ Q ↔ z ≠ 0 ∧ ab_Run X 70 84 (1, 0, 0) [ab_R z] (ab_R z :: st) σ Q := ab_r_aload_n rfl kc_X9_next dX9_next_83
theorem rX9_next_84 : ab_Run X 70 84 (1, 0, 0) L (ab_R a :: st) σ Q ↔ (ab_sh σ a).1 = 10 ∧ ab_Run X 70 87 (1, 0, 0) L (ab_R (ab_rd σ a 0) :: st) σ Q := gF_9_7 ko_X9_next kc_X9_next dX9_next_84
theorem rX9_next_87 : ab_Run X 70 87 (1, 0, 0) [ab_R z] st σ Q ↔ z ≠ 0 ∧ ab_Run X 70 88 (1, 0, 0) [ab_R z] (ab_R z :: st) σ Q := ab_r_aload_n rfl kc_X9_next dX9_next_87
theorem rX9_next_88 : ab_Run X 70 88 (1, 0, 0) L (ab_R a :: st) σ Q ↔ (ab_sh σ a).1 = 10 ∧ ab_Run X 70 91 (1, 0, 0) L (ab_I (ab_rd σ a 3) :: st) σ Q := gF_9_39 ko_X9_next kc_X9_next dX9_next_88
theorem rX9_next_91 : ab_Run X 70 91 (1, 0, 0) L (ab_I i :: ab_R a :: st) σ Q ↔ (((ab_sh σ a).1 = 23 ∨ (ab_sh σ a).1 = 24) ∧ 0 ≤ i ∧ i < (ab_sh σ a).2) ∧ ab_Run X 70 92 (1, 0, 0) L (ab_I (ab_rd σ a i) :: st) σ Q := ab_r_baload kc_X9_next dX9_next_91
theorem rX9_next_92 : ab_Run X 70 92 (1, 0, 0) L st σ Q ↔ ab_Run X 70 94 (1, 0, 0) L (ab_I 97 :: st) σ Q := ab_r_bipush (by decide) kc_X9_next dX9_next_92
theorem rX9_next_94 : ab_Run X 70 94 (1, 0, 0) L (ab_I b :: ab_I a :: st) σ Q ↔ (a < b → ab_Run X 70 118 (1, 0, 0) L st σ Q) ∧ (¬ (a < b) → ab_Run X 70 97 (1, 0, 0) L st σ Q) := ab_r_icmp_lt rfl kc_X9_next dX9_next_94
theorem rX9_next_97 : ab_Run X 70 97 (1, 0, 0) [ab_R z] st σ Q ↔ z ≠ 0 ∧ ab_Run X 70 98 (1, 0, 0) [ab_R z] (ab_R z :: st) σ Q := ab_r_aload_n rfl kc_X9_next dX9_next_97
theorem rX9_next_98 : ab_Run X 70 98 (1, 0, 0) L (ab_R a :: st) σ Q ↔ (ab_sh σ a).1 = 10 ∧ ab_Run X 70 101 (1, 0, 0) L (ab_R (ab_rd σ a 0) :: st) σ Q := gF_9_7 ko_X9_next kc_X9_next dX9_next_98
theorem rX9_next_101 : ab_Run X 70 101 (1, 0, 0) [ab_R z] st σ Q ↔ z ≠ 0 ∧ ab_Run X 70 102 (1, 0, 0) [ab_R z] (ab_R z :: st) σ Q := ab_r_aload_n rfl kc_X9_next dX9_next_101
theorem rX9_next_102 : ab_Run X 70 102 (1, 0, 0) L (ab_R a :: st) σ Q ↔ (ab_sh σ a).1 = 10 ∧ ab_Run X 70 105 (1, 0, 0) L (ab_I (ab_rd σ a 3) :: st) σ Q := gF_9_39 ko_X9_next kc_X9_next dX9_next_102
theorem rX9_next_105 : ab_Run X 70 105 (1, 0, 0) L (ab_I i :: ab_R a :: st) σ Q ↔ (((ab_sh σ a).1 = 23 ∨ (ab_sh σ a).1 = 24) ∧ 0 ≤ i ∧ i < (ab_sh σ a).2) ∧ ab_Run X 70 106 (1, 0, 0) L (ab_I (ab_rd σ a i) :: st) σ Q := ab_r_baload kc_X9_next dX9_next_105
theorem rX9_next_106 : ab_Run X 70 106 (1, 0, 0) L st σ Q ↔ ab_Run X 70 108 (1, 0, 0) L (ab_I 122 :: st) σ Q := ab_r_bipush (by decide) kc_X9_next dX9_next_106
theorem rX9_next_108 : ab_Run X 70 108 (1, 0, 0) L (ab_I b :: ab_I a :: st) σ Q ↔ (b < a → ab_Run X 70 118 (1, 0, 0) L st σ Q) ∧ (¬ (b < a) → ab_Run X 70 111 (1, 0, 0) L st σ Q) := ab_r_icmp_gt rfl kc_X9_next dX9_next_108
theorem rX9_next_111 : ab_Run X 70 111 (1, 0, 0) [ab_R z] st σ Q ↔ z ≠ 0 ∧ ab_Run X 70 112 (1, 0, 0) [ab_R z] (ab_R z :: st) σ Q := ab_r_aload_n rfl kc_X9_next dX9_next_111
theorem rX9_next_112 : ab_Run X 70 112 (1, 0, 0) L (ab_R a :: st) σ Q ↔ ((ab_sh σ a).1 = 10 ∧ ab_cats st ≤ 8) ∧ ab_Do X 71 [ab_R a] σ (fun r σ' => ab_Run X 70 115 (1, 0, 0) L (ab_psh r st) σ' Q) := ab_r_callV (w := []) (as := []) (b1 := (0, 0, 0)) 0 (Or.inl rfl) (by decide) ko_X9_next qM_9_45 (by decide) rfl rfl rfl rfl rfl (by decide) (Nat.le_of_ble_eq_true rfl) kc_X9_next dX9_next_112
theorem rX9_next_115 : ab_Run X 70 115 (1, 0, 0) L st σ Q ↔ ab_Run X 70 202 (1, 0, 0) L st σ Q := ab_r_goto rfl kc_X9_next dX9_next_115
theorem rX9_next_118 : ab_Run X 70 118 (1, 0, 0) [ab_R z] st σ Q ↔ z ≠ 0 ∧ ab_Run X 70 119 (1, 0, 0) [ab_R z] (ab_R z :: st) σ Q := ab_r_aload_n rfl kc_X9_next dX9_next_118
theorem rX9_next_119 : ab_Run X 70 119 (1, 0, 0) L (ab_R a :: st) σ Q ↔ (ab_sh σ a).1 = 10 ∧ ab_Run X 70 122 (1, 0, 0) L (ab_R (ab_rd σ a 0) :: st) σ Q := gF_9_7 ko_X9_next kc_X9_next dX9_next_119
theorem rX9_next_122 : ab_Run X 70 122 (1, 0, 0) [ab_R z] st σ Q ↔ z ≠ 0 ∧ ab_Run X 70 123 (1, 0, 0) [ab_R z] (ab_R z :: st) σ Q := ab_r_aload_n rfl kc_X9_next dX9_next_122
theorem rX9_next_123 : ab_Run X 70 123 (1, 0, 0) L (ab_R a :: st) σ Q ↔ (ab_sh σ a).1 = 10 ∧ ab_Run X 70 126 (1, 0, 0) L (ab_I (ab_rd σ a 3) :: st) σ Q := gF_9_39 ko_X9_next kc_X9_next dX9_next_123
theorem rX9_next_126 : ab_Run X 70 126 (1, 0, 0) L (ab_I i :: ab_R a :: st) σ Q ↔ (((ab_sh σ a).1 = 23 ∨ (ab_sh σ a).1 = 24) ∧ 0 ≤ i ∧ i < (ab_sh σ a).2) ∧ ab_Run X 70 127 (1, 0, 0) L (ab_I (ab_rd σ a i) :: st) σ Q := ab_r_baload kc_X9_next dX9_next_126
theorem rX9_next_127 : ab_Run X 70 127 (1, 0, 0) L st σ Q ↔ ab_Run X 70 129 (1, 0, 0) L (ab_I 48 :: st) σ Q := ab_r_bipush (by decide) kc_X9_next dX9_next_127
theorem rX9_next_129 : ab_Run X 70 129 (1, 0, 0) L (ab_I b :: ab_I a :: st) σ Q ↔ (a < b → ab_Run X 70 153 (1, 0, 0) L st σ Q) ∧ (¬ (a < b) → ab_Run X 70 132 (1, 0, 0) L st σ Q) := ab_r_icmp_lt rfl kc_X9_next dX9_next_129
theorem rX9_next_132 : ab_Run X 70 132 (1, 0, 0) [ab_R z] st σ Q ↔ z ≠ 0 ∧ ab_Run X 70 133 (1, 0, 0) [ab_R z] (ab_R z :: st) σ Q := ab_r_aload_n rfl kc_X9_next dX9_next_132
theorem rX9_next_133 : ab_Run X 70 133 (1, 0, 0) L (ab_R a :: st) σ Q ↔ (ab_sh σ a).1 = 10 ∧ ab_Run X 70 136 (1, 0, 0) L (ab_R (ab_rd σ a 0) :: st) σ Q := gF_9_7 ko_X9_next kc_X9_next dX9_next_133
theorem rX9_next_136 : ab_Run X 70 136 (1, 0, 0) [ab_R z] st σ Q ↔ z ≠ 0 ∧ ab_Run X 70 137 (1, 0, 0) [ab_R z] (ab_R z :: st) σ Q := ab_r_aload_n rfl kc_X9_next dX9_next_136
theorem rX9_next_137 : ab_Run X 70 137 (1, 0, 0) L (ab_R a :: st) σ Q ↔ (ab_sh σ a).1 = 10 ∧ ab_Run X 70 140 (1, 0, 0) L (ab_I (ab_rd σ a 3) :: st) σ Q := gF_9_39 ko_X9_next kc_X9_next dX9_next_137
theorem rX9_next_140 : ab_Run X 70 140 (1, 0, 0) L (ab_I i :: ab_R a :: st) σ Q ↔ (((ab_sh σ a).1 = 23 ∨ (ab_sh σ a).1 = 24) ∧ 0 ≤ i ∧ i < (ab_sh σ a).2) ∧ ab_Run X 70 141 (1, 0, 0) L (ab_I (ab_rd σ a i) :: st) σ Q := ab_r_baload kc_X9_next dX9_next_140
theorem rX9_next_141 : ab_Run X 70 141 (1, 0, 0) L st σ Q ↔ ab_Run X 70 143 (1, 0, 0) L (ab_I 57 :: st) σ Q := ab_r_bipush (by decide) kc_X9_next dX9_next_141
theorem rX9_next_143 : ab_Run X 70 143 (1, 0, 0) L (ab_I b :: ab_I a :: st) σ Q ↔ (b < a → ab_Run X 70 153 (1, 0, 0) L st σ Q) ∧ (¬ (b < a) → ab_Run X 70 146 (1, 0, 0) L st σ Q) := ab_r_icmp_gt rfl kc_X9_next dX9_next_143
theorem rX9_next_146 : ab_Run X 70 146 (1, 0, 0) [ab_R z] st σ Q ↔ z ≠ 0 ∧ ab_Run X 70 147 (1, 0, 0) [ab_R z] (ab_R z :: st) σ Q := ab_r_aload_n rfl kc_X9_next dX9_next_146
theorem rX9_next_147 : ab_Run X 70 147 (1, 0, 0) L (ab_R a :: st) σ Q ↔ ((ab_sh σ a).1 = 10 ∧ ab_cats st ≤ 8) ∧ ab_Do X 72 [ab_R a] σ (fun r σ' => ab_Run X 70 150 (1, 0, 0) L (ab_psh r st) σ' Q) := ab_r_callV (w := []) (as := []) (b1 := (0, 0, 0)) 0 (Or.inl rfl) (by decide) ko_X9_next qM_9_48 (by decide) rfl rfl rfl rfl rfl (by decide) (Nat.le_of_ble_eq_true rfl) kc_X9_next dX9_next_147
theorem rX9_next_150 : ab_Run X 70 150 (1, 0, 0) L st σ Q ↔ ab_Run X 70 202 (1, 0, 0) L st σ Q := ab_r_goto rfl kc_X9_next dX9_next_150
theorem rX9_next_153 : ab_Run X 70 153 (1, 0, 0) [ab_R z] st σ Q ↔ z ≠ 0 ∧ ab_Run X 70 154 (1, 0, 0) [ab_R z] (ab_R z :: st) σ Q := ab_r_aload_n rfl kc_X9_next dX9_next_153
theorem rX9_next_154 : ab_Run X 70 154 (1, 0, 0) L (ab_R a :: st) σ Q ↔ (ab_sh σ a).1 = 10 ∧ ab_Run X 70 157 (1, 0, 0) L (ab_R (ab_rd σ a 0) :: st) σ Q := gF_9_7 ko_X9_next kc_X9_next dX9_next_154
theorem rX9_next_157 : ab_Run X 70 157 (1, 0, 0) [ab_R z] st σ Q ↔ z ≠ 0 ∧ ab_Run X 70 158 (1, 0, 0) [ab_R z] (ab_R z :: st) σ Q := ab_r_aload_n rfl kc_X9_next dX9_next_157
theorem rX9_next_158 : ab_Run X 70 158 (1, 0, 0) L (ab_R a :: st) σ Q ↔ (ab_sh σ a).1 = 10 ∧ ab_Run X 70 161 (1, 0, 0) L (ab_I (ab_rd σ a 3) :: st) σ Q := gF_9_39 ko_X9_next kc_X9_next dX9_next_158
theorem rX9_next_161 : ab_Run X 70 161 (1, 0, 0) L (ab_I i :: ab_R a :: st) σ Q ↔ (((ab_sh σ a).1 = 23 ∨ (ab_sh σ a).1 = 24) ∧ 0 ≤ i ∧ i < (ab_sh σ a).2) ∧ ab_Run X 70 162 (1, 0, 0) L (ab_I (ab_rd σ a i) :: st) σ Q := ab_r_baload kc_X9_next dX9_next_161
theorem rX9_next_162 : ab_Run X 70 162 (1, 0, 0) L st σ Q ↔ ab_Run X 70 164 (1, 0, 0) L (ab_I 59 :: st) σ Q := ab_r_bipush (by decide) kc_X9_next dX9_next_162
theorem rX9_next_164 : ab_Run X 70 164 (1, 0, 0) L (ab_I b :: ab_I a :: st) σ Q ↔ (¬ a = b → ab_Run X 70 175 (1, 0, 0) L st σ Q) ∧ (¬ (¬ a = b) → ab_Run X 70 167 (1, 0, 0) L st σ Q) := ab_r_icmp_ne rfl kc_X9_next dX9_next_164
theorem rX9_next_167 : ab_Run X 70 167 (1, 0, 0) [ab_R z] st σ Q ↔ z ≠ 0 ∧ ab_Run X 70 168 (1, 0, 0) [ab_R z] (ab_R z :: st) σ Q := ab_r_aload_n rfl kc_X9_next dX9_next_167
theorem rX9_next_168 : ab_Run X 70 168 (1, 0, 0) L st σ Q ↔ ab_Run X 70 169 (1, 0, 0) L (ab_I 4 :: st) σ Q := ab_r_iconst (by decide) kc_X9_next dX9_next_168
theorem rX9_next_169 : ab_Run X 70 169 (1, 0, 0) L (ab_I z :: ab_R a :: st) σ Q ↔ (ab_sh σ a).1 = 10 ∧ ab_Run X 70 172 (1, 0, 0) L st (ab_wr σ a 2 z) Q := sF_9_42 ko_X9_next kc_X9_next dX9_next_169
theorem rX9_next_172 : ab_Run X 70 172 (1, 0, 0) L st σ Q ↔ ab_Run X 70 202 (1, 0, 0) L st σ Q := ab_r_goto rfl kc_X9_next dX9_next_172
theorem rX9_next_175 : ab_Run X 70 175 (1, 0, 0) [ab_R z] st σ Q ↔ z ≠ 0 ∧ ab_Run X 70 176 (1, 0, 0) [ab_R z] (ab_R z :: st) σ Q := ab_r_aload_n rfl kc_X9_next dX9_next_175
theorem rX9_next_176 : ab_Run X 70 176 (1, 0, 0) L (ab_R a :: st) σ Q ↔ (ab_sh σ a).1 = 10 ∧ ab_Run X 70 179 (1, 0, 0) L (ab_R (ab_rd σ a 0) :: st) σ Q := gF_9_7 ko_X9_next kc_X9_next dX9_next_176
theorem rX9_next_179 : ab_Run X 70 179 (1, 0, 0) [ab_R z] st σ Q ↔ z ≠ 0 ∧ ab_Run X 70 180 (1, 0, 0) [ab_R z] (ab_R z :: st) σ Q := ab_r_aload_n rfl kc_X9_next dX9_next_179
theorem rX9_next_180 : ab_Run X 70 180 (1, 0, 0) L (ab_R a :: st) σ Q ↔ (ab_sh σ a).1 = 10 ∧ ab_Run X 70 183 (1, 0, 0) L (ab_I (ab_rd σ a 3) :: st) σ Q := gF_9_39 ko_X9_next kc_X9_next dX9_next_180
theorem rX9_next_183 : ab_Run X 70 183 (1, 0, 0) L (ab_I i :: ab_R a :: st) σ Q ↔ (((ab_sh σ a).1 = 23 ∨ (ab_sh σ a).1 = 24) ∧ 0 ≤ i ∧ i < (ab_sh σ a).2) ∧ ab_Run X 70 184 (1, 0, 0) L (ab_I (ab_rd σ a i) :: st) σ Q := ab_r_baload kc_X9_next dX9_next_183
theorem rX9_next_184 : ab_Run X 70 184 (1, 0, 0) L st σ Q ↔ ab_Run X 70 186 (1, 0, 0) L (ab_I 44 :: st) σ Q := ab_r_bipush (by decide) kc_X9_next dX9_next_184
theorem rX9_next_186 : ab_Run X 70 186 (1, 0, 0) L (ab_I b :: ab_I a :: st) σ Q ↔ (¬ a = b → ab_Run X 70 197 (1, 0, 0) L st σ Q) ∧ (¬ (¬ a = b) → ab_Run X 70 189 (1, 0, 0) L st σ Q) := ab_r_icmp_ne rfl kc_X9_next dX9_next_186
theorem rX9_next_189 : ab_Run X 70 189 (1, 0, 0) [ab_R z] st σ Q ↔ z ≠ 0 ∧ ab_Run X 70 190 (1, 0, 0) [ab_R z] (ab_R z :: st) σ Q := ab_r_aload_n rfl kc_X9_next dX9_next_189
theorem rX9_next_190 : ab_Run X 70 190 (1, 0, 0) L st σ Q ↔ ab_Run X 70 191 (1, 0, 0) L (ab_I 5 :: st) σ Q := ab_r_iconst (by decide) kc_X9_next dX9_next_190
theorem rX9_next_191 : ab_Run X 70 191 (1, 0, 0) L (ab_I z :: ab_R a :: st) σ Q ↔ (ab_sh σ a).1 = 10 ∧ ab_Run X 70 194 (1, 0, 0) L st (ab_wr σ a 2 z) Q := sF_9_42 ko_X9_next kc_X9_next dX9_next_191
theorem rX9_next_194 : ab_Run X 70 194 (1, 0, 0) L st σ Q ↔ ab_Run X 70 202 (1, 0, 0) L st σ Q := ab_r_goto rfl kc_X9_next dX9_next_194
theorem rX9_next_197 : ab_Run X 70 197 (1, 0, 0) [ab_R z] st σ Q ↔ z ≠ 0 ∧ ab_Run X 70 198 (1, 0, 0) [ab_R z] (ab_R z :: st) σ Q := ab_r_aload_n rfl kc_X9_next dX9_next_197
theorem rX9_next_198 : ab_Run X 70 198 (1, 0, 0) L st σ Q ↔ ab_Run X 70 199 (1, 0, 0) L (ab_I 1 :: st) σ Q := ab_r_iconst (by decide) kc_X9_next dX9_next_198
theorem rX9_next_199 : ab_Run X 70 199 (1, 0, 0) L (ab_I z :: ab_R a :: st) σ Q ↔ (ab_sh σ a).1 = 10 ∧ ab_Run X 70 202 (1, 0, 0) L st (ab_wr σ a 2 z) Q := sF_9_42 ko_X9_next kc_X9_next dX9_next_199
theorem rX9_next_202 : ab_Run X 70 202 (1, 0, 0) L [] σ Q ↔ Q none σ := ab_r_return rfl kc_X9_next dX9_next_202
theorem kc_X9_takeWord : ab_code 71 = cX9_takeWord := rfl
theorem ko_X9_takeWord : ab_ow 71 = 9 := rfl
theorem rX9_takeWord_0 : ab_Run X 71 0 (0, 0, 0) [ab_R z, l1] st σ Q ↔ z ≠ 0 ∧ ab_Run X 71 1 (0, 0, 0) [ab_R z, l1] (ab_R z :: st) σ Q := ab_r_aload_n rfl kc_X9_takeWord dX9_takeWord_0
theorem rX9_takeWord_1 : ab_Run X 71 1 (0, 0, 0) L st σ Q ↔ ab_Run X 71 2 (0, 0, 0) L (ab_J 0 :: st) σ Q := ab_r_lconst kc_X9_takeWord dX9_takeWord_1
theorem rX9_takeWord_2 : ab_Run X 71 2 (0, 0, 0) L (ab_J z :: ab_R a :: st) σ Q ↔ (ab_sh σ a).1 = 10 ∧ ab_Run X 71 5 (0, 0, 0) L st (ab_wr σ a 5 z) Q := sF_9_51 ko_X9_takeWord kc_X9_takeWord dX9_takeWord_2
theorem rX9_takeWord_5 : ab_Run X 71 5 (0, 0, 0) [ab_R z, l1] st σ Q ↔ z ≠ 0 ∧ ab_Run X 71 6 (0, 0, 0) [ab_R z, l1] (ab_R z :: st) σ Q := ab_r_aload_n rfl kc_X9_takeWord dX9_takeWord_5
theorem rX9_takeWord_6 : ab_Run X 71 6 (0, 0, 0) L (ab_R a :: st) σ Q ↔ (ab_sh σ a).1 = 10 ∧ ab_Run X 71 9 (0, 0, 0) L (ab_I (ab_rd σ a 3) :: st) σ Q := gF_9_39 ko_X9_takeWord kc_X9_takeWord dX9_takeWord_6
theorem rX9_takeWord_9 : ab_Run X 71 9 (0, 0, 0) [l0, l1] (ab_I z :: st) σ Q ↔ (!ab_isJ l0) = true ∧ ab_Run X 71 10 (0, 0, 0) [l0, ab_I z] st σ Q := ab_r_istore_n (Nat.le_of_ble_eq_true rfl) kc_X9_takeWord dX9_takeWord_9
theorem rX9_takeWord_10 : ab_Run X 71 10 (0, 0, 0) [l0, ab_I z] st σ Q ↔ ab_Run X 71 11 (0, 0, 0) [l0, ab_I z] (ab_I z :: st) σ Q := ab_r_iload_n rfl kc_X9_takeWord dX9_takeWord_10
theorem rX9_takeWord_11 : ab_Run X 71 11 (0, 0, 0) [ab_R z, l1] st σ Q ↔ z ≠ 0 ∧ ab_Run X 71 12 (0, 0, 0) [ab_R z, l1] (ab_R z :: st) σ Q := ab_r_aload_n rfl kc_X9_takeWord dX9_takeWord_11
theorem rX9_takeWord_12 : ab_Run X 71 12 (0, 0, 0) L (ab_R a :: st) σ Q ↔ (ab_sh σ a).1 = 10 ∧ ab_Run X 71 15 (0, 0, 0) L (ab_I (ab_rd σ a 7) :: st) σ Q := gF_9_30 ko_X9_takeWord kc_X9_takeWord dX9_takeWord_12
theorem rX9_takeWord_15 : ab_Run X 71 15 (0, 0, 0) L (ab_I b :: ab_I a :: st) σ Q ↔ (b ≤ a → ab_Run X 71 71 (0, 0, 0) L st σ Q) ∧ (¬ (b ≤ a) → ab_Run X 71 18 (0, 0, 0) L st σ Q) := ab_r_icmp_ge rfl kc_X9_takeWord dX9_takeWord_15
theorem rX9_takeWord_18 : ab_Run X 71 18 (0, 0, 0) [ab_R z, l1] st σ Q ↔ z ≠ 0 ∧ ab_Run X 71 19 (0, 0, 0) [ab_R z, l1] (ab_R z :: st) σ Q := ab_r_aload_n rfl kc_X9_takeWord dX9_takeWord_18
theorem rX9_takeWord_19 : ab_Run X 71 19 (0, 0, 0) L (ab_R a :: st) σ Q ↔ (ab_sh σ a).1 = 10 ∧ ab_Run X 71 22 (0, 0, 0) L (ab_R (ab_rd σ a 0) :: st) σ Q := gF_9_7 ko_X9_takeWord kc_X9_takeWord dX9_takeWord_19
theorem rX9_takeWord_22 : ab_Run X 71 22 (0, 0, 0) [l0, ab_I z] st σ Q ↔ ab_Run X 71 23 (0, 0, 0) [l0, ab_I z] (ab_I z :: st) σ Q := ab_r_iload_n rfl kc_X9_takeWord dX9_takeWord_22
theorem rX9_takeWord_23 : ab_Run X 71 23 (0, 0, 0) L (ab_I i :: ab_R a :: st) σ Q ↔ (((ab_sh σ a).1 = 23 ∨ (ab_sh σ a).1 = 24) ∧ 0 ≤ i ∧ i < (ab_sh σ a).2) ∧ ab_Run X 71 24 (0, 0, 0) L (ab_I (ab_rd σ a i) :: st) σ Q := ab_r_baload kc_X9_takeWord dX9_takeWord_23
theorem rX9_takeWord_24 : ab_Run X 71 24 (0, 0, 0) L st σ Q ↔ ab_Run X 71 26 (0, 0, 0) L (ab_I 97 :: st) σ Q := ab_r_bipush (by decide) kc_X9_takeWord dX9_takeWord_24
theorem rX9_takeWord_26 : ab_Run X 71 26 (0, 0, 0) L (ab_I b :: ab_I a :: st) σ Q ↔ (a < b → ab_Run X 71 71 (0, 0, 0) L st σ Q) ∧ (¬ (a < b) → ab_Run X 71 29 (0, 0, 0) L st σ Q) := ab_r_icmp_lt rfl kc_X9_takeWord dX9_takeWord_26
theorem rX9_takeWord_29 : ab_Run X 71 29 (0, 0, 0) [ab_R z, l1] st σ Q ↔ z ≠ 0 ∧ ab_Run X 71 30 (0, 0, 0) [ab_R z, l1] (ab_R z :: st) σ Q := ab_r_aload_n rfl kc_X9_takeWord dX9_takeWord_29
theorem rX9_takeWord_30 : ab_Run X 71 30 (0, 0, 0) L (ab_R a :: st) σ Q ↔ (ab_sh σ a).1 = 10 ∧ ab_Run X 71 33 (0, 0, 0) L (ab_R (ab_rd σ a 0) :: st) σ Q := gF_9_7 ko_X9_takeWord kc_X9_takeWord dX9_takeWord_30
theorem rX9_takeWord_33 : ab_Run X 71 33 (0, 0, 0) [l0, ab_I z] st σ Q ↔ ab_Run X 71 34 (0, 0, 0) [l0, ab_I z] (ab_I z :: st) σ Q := ab_r_iload_n rfl kc_X9_takeWord dX9_takeWord_33
theorem rX9_takeWord_34 : ab_Run X 71 34 (0, 0, 0) L (ab_I i :: ab_R a :: st) σ Q ↔ (((ab_sh σ a).1 = 23 ∨ (ab_sh σ a).1 = 24) ∧ 0 ≤ i ∧ i < (ab_sh σ a).2) ∧ ab_Run X 71 35 (0, 0, 0) L (ab_I (ab_rd σ a i) :: st) σ Q := ab_r_baload kc_X9_takeWord dX9_takeWord_34
theorem rX9_takeWord_35 : ab_Run X 71 35 (0, 0, 0) L st σ Q ↔ ab_Run X 71 37 (0, 0, 0) L (ab_I 122 :: st) σ Q := ab_r_bipush (by decide) kc_X9_takeWord dX9_takeWord_35
theorem rX9_takeWord_37 : ab_Run X 71 37 (0, 0, 0) L (ab_I b :: ab_I a :: st) σ Q ↔ (b < a → ab_Run X 71 71 (0, 0, 0) L st σ Q) ∧ (¬ (b < a) → ab_Run X 71 40 (0, 0, 0) L st σ Q) := ab_r_icmp_gt rfl kc_X9_takeWord dX9_takeWord_37
theorem rX9_takeWord_40 : ab_Run X 71 40 (0, 0, 0) [ab_R z, l1] st σ Q ↔ z ≠ 0 ∧ ab_Run X 71 41 (0, 0, 0) [ab_R z, l1] (ab_R z :: st) σ Q := ab_r_aload_n rfl kc_X9_takeWord dX9_takeWord_40
theorem rX9_takeWord_41 : ab_Run X 71 41 (0, 0, 0) L st σ Q ↔ ab_Run X 71 44 (0, 0, 0) L (ab_J 27 :: st) σ Q := ab_r_ldc2_w rfl ko_X9_takeWord (by decide +kernel) kc_X9_takeWord dX9_takeWord_41
theorem rX9_takeWord_44 : ab_Run X 71 44 (0, 0, 0) [ab_R z, l1] st σ Q ↔ z ≠ 0 ∧ ab_Run X 71 45 (0, 0, 0) [ab_R z, l1] (ab_R z :: st) σ Q := ab_r_aload_n rfl kc_X9_takeWord dX9_takeWord_44
theorem rX9_takeWord_45 : ab_Run X 71 45 (0, 0, 0) L (ab_R a :: st) σ Q ↔ (ab_sh σ a).1 = 10 ∧ ab_Run X 71 48 (0, 0, 0) L (ab_J (ab_rd σ a 5) :: st) σ Q := gF_9_51 ko_X9_takeWord kc_X9_takeWord dX9_takeWord_45
theorem rX9_takeWord_48 : ab_Run X 71 48 (0, 0, 0) L (ab_J b :: ab_J a :: st) σ Q ↔ ab_Run X 71 49 (0, 0, 0) L (ab_J (ab_w64 (a * b)) :: st) σ Q := ab_r_lmul kc_X9_takeWord dX9_takeWord_48
theorem rX9_takeWord_49 : ab_Run X 71 49 (0, 0, 0) [ab_R z, l1] st σ Q ↔ z ≠ 0 ∧ ab_Run X 71 50 (0, 0, 0) [ab_R z, l1] (ab_R z :: st) σ Q := ab_r_aload_n rfl kc_X9_takeWord dX9_takeWord_49
theorem rX9_takeWord_50 : ab_Run X 71 50 (0, 0, 0) L (ab_R a :: st) σ Q ↔ (ab_sh σ a).1 = 10 ∧ ab_Run X 71 53 (0, 0, 0) L (ab_R (ab_rd σ a 0) :: st) σ Q := gF_9_7 ko_X9_takeWord kc_X9_takeWord dX9_takeWord_50
theorem rX9_takeWord_53 : ab_Run X 71 53 (0, 0, 0) [l0, ab_I z] st σ Q ↔ ab_Run X 71 54 (0, 0, 0) [l0, ab_I z] (ab_I z :: st) σ Q := ab_r_iload_n rfl kc_X9_takeWord dX9_takeWord_53
theorem rX9_takeWord_54 : ab_Run X 71 54 (0, 0, 0) L (ab_I i :: ab_R a :: st) σ Q ↔ (((ab_sh σ a).1 = 23 ∨ (ab_sh σ a).1 = 24) ∧ 0 ≤ i ∧ i < (ab_sh σ a).2) ∧ ab_Run X 71 55 (0, 0, 0) L (ab_I (ab_rd σ a i) :: st) σ Q := ab_r_baload kc_X9_takeWord dX9_takeWord_54
theorem rX9_takeWord_55 : ab_Run X 71 55 (0, 0, 0) L st σ Q ↔ ab_Run X 71 57 (0, 0, 0) L (ab_I 97 :: st) σ Q := ab_r_bipush (by decide) kc_X9_takeWord dX9_takeWord_55
theorem rX9_takeWord_57 : ab_Run X 71 57 (0, 0, 0) L (ab_I b :: ab_I a :: st) σ Q ↔ ab_Run X 71 58 (0, 0, 0) L (ab_I (ab_w32 (a - b)) :: st) σ Q := ab_r_isub kc_X9_takeWord dX9_takeWord_57
theorem rX9_takeWord_58 : ab_Run X 71 58 (0, 0, 0) L st σ Q ↔ ab_Run X 71 59 (0, 0, 0) L (ab_I 1 :: st) σ Q := ab_r_iconst (by decide) kc_X9_takeWord dX9_takeWord_58
theorem rX9_takeWord_59 : ab_Run X 71 59 (0, 0, 0) L (ab_I b :: ab_I a :: st) σ Q ↔ ab_Run X 71 60 (0, 0, 0) L (ab_I (ab_w32 (a + b)) :: st) σ Q := ab_r_iadd kc_X9_takeWord dX9_takeWord_59
theorem rX9_takeWord_60 : ab_Run X 71 60 (0, 0, 0) L (ab_I a :: st) σ Q ↔ ab_Run X 71 61 (0, 0, 0) L (ab_J a :: st) σ Q := ab_r_i2l kc_X9_takeWord dX9_takeWord_60
theorem rX9_takeWord_61 : ab_Run X 71 61 (0, 0, 0) L (ab_J b :: ab_J a :: st) σ Q ↔ ab_Run X 71 62 (0, 0, 0) L (ab_J (ab_w64 (a + b)) :: st) σ Q := ab_r_ladd kc_X9_takeWord dX9_takeWord_61
theorem rX9_takeWord_62 : ab_Run X 71 62 (0, 0, 0) L (ab_J z :: ab_R a :: st) σ Q ↔ (ab_sh σ a).1 = 10 ∧ ab_Run X 71 65 (0, 0, 0) L st (ab_wr σ a 5 z) Q := sF_9_51 ko_X9_takeWord kc_X9_takeWord dX9_takeWord_62
theorem rX9_takeWord_65 : ab_Run X 71 65 (0, 0, 0) [l0, ab_I z] st σ Q ↔ (!ab_isJ l0) = true ∧ ab_Run X 71 68 (0, 0, 0) [l0, ab_I (ab_w32 (z + 1))] st σ Q := ab_r_iinc rfl (by decide) kc_X9_takeWord dX9_takeWord_65
theorem rX9_takeWord_68 : ab_Run X 71 68 (0, 0, 0) L st σ Q ↔ ab_Run X 71 10 (0, 0, 0) L st σ Q := ab_r_goto rfl kc_X9_takeWord dX9_takeWord_68
theorem rX9_takeWord_71 : ab_Run X 71 71 (0, 0, 0) [ab_R z, l1] st σ Q ↔ z ≠ 0 ∧ ab_Run X 71 72 (0, 0, 0) [ab_R z, l1] (ab_R z :: st) σ Q := ab_r_aload_n rfl kc_X9_takeWord dX9_takeWord_71
theorem rX9_takeWord_72 : ab_Run X 71 72 (0, 0, 0) [l0, ab_I z] st σ Q ↔ ab_Run X 71 73 (0, 0, 0) [l0, ab_I z] (ab_I z :: st) σ Q := ab_r_iload_n rfl kc_X9_takeWord dX9_takeWord_72
theorem rX9_takeWord_73 : ab_Run X 71 73 (0, 0, 0) L (ab_I z :: ab_R a :: st) σ Q ↔ (ab_sh σ a).1 = 10 ∧ ab_Run X 71 76 (0, 0, 0) L st (ab_wr σ a 6 z) Q := sF_9_33 ko_X9_takeWord kc_X9_takeWord dX9_takeWord_73
theorem rX9_takeWord_76 : ab_Run X 71 76 (0, 0, 0) [ab_R z, l1] st σ Q ↔ z ≠ 0 ∧ ab_Run X 71 77 (0, 0, 0) [ab_R z, l1] (ab_R z :: st) σ Q := ab_r_aload_n rfl kc_X9_takeWord dX9_takeWord_76
theorem rX9_takeWord_77 : ab_Run X 71 77 (0, 0, 0) [l0, ab_I z] st σ Q ↔ ab_Run X 71 78 (0, 0, 0) [l0, ab_I z] (ab_I z :: st) σ Q := ab_r_iload_n rfl kc_X9_takeWord dX9_takeWord_77
theorem rX9_takeWord_78 : ab_Run X 71 78 (0, 0, 0) [ab_R z, l1] st σ Q ↔ z ≠ 0 ∧ ab_Run X 71 79 (0, 0, 0) [ab_R z, l1] (ab_R z :: st) σ Q := ab_r_aload_n rfl kc_X9_takeWord dX9_takeWord_78
theorem rX9_takeWord_79 : ab_Run X 71 79 (0, 0, 0) L (ab_R a :: st) σ Q ↔ (ab_sh σ a).1 = 10 ∧ ab_Run X 71 82 (0, 0, 0) L (ab_I (ab_rd σ a 3) :: st) σ Q := gF_9_39 ko_X9_takeWord kc_X9_takeWord dX9_takeWord_79
theorem rX9_takeWord_82 : ab_Run X 71 82 (0, 0, 0) L (ab_I b :: ab_I a :: st) σ Q ↔ ab_Run X 71 83 (0, 0, 0) L (ab_I (ab_w32 (a - b)) :: st) σ Q := ab_r_isub kc_X9_takeWord dX9_takeWord_82
theorem rX9_takeWord_83 : ab_Run X 71 83 (0, 0, 0) L st σ Q ↔ ab_Run X 71 85 (0, 0, 0) L (ab_I 8 :: st) σ Q := ab_r_bipush (by decide) kc_X9_takeWord dX9_takeWord_83
theorem rX9_takeWord_85 : ab_Run X 71 85 (0, 0, 0) L (ab_I b :: ab_I a :: st) σ Q ↔ (b < a → ab_Run X 71 92 (0, 0, 0) L st σ Q) ∧ (¬ (b < a) → ab_Run X 71 88 (0, 0, 0) L st σ Q) := ab_r_icmp_gt rfl kc_X9_takeWord dX9_takeWord_85
theorem rX9_takeWord_88 : ab_Run X 71 88 (0, 0, 0) L st σ Q ↔ ab_Run X 71 89 (0, 0, 0) L (ab_I 2 :: st) σ Q := ab_r_iconst (by decide) kc_X9_takeWord dX9_takeWord_88
theorem rX9_takeWord_89 : ab_Run X 71 89 (0, 0, 0) L st σ Q ↔ ab_Run X 71 93 (0, 0, 0) L st σ Q := ab_r_goto rfl kc_X9_takeWord dX9_takeWord_89
theorem rX9_takeWord_92 : ab_Run X 71 92 (0, 0, 0) L st σ Q ↔ ab_Run X 71 93 (0, 0, 0) L (ab_I 1 :: st) σ Q := ab_r_iconst (by decide) kc_X9_takeWord dX9_takeWord_92
theorem rX9_takeWord_93 : ab_Run X 71 93 (0, 0, 0) L (ab_I z :: ab_R a :: st) σ Q ↔ (ab_sh σ a).1 = 10 ∧ ab_Run X 71 96 (0, 0, 0) L st (ab_wr σ a 2 z) Q := sF_9_42 ko_X9_takeWord kc_X9_takeWord dX9_takeWord_93
theorem rX9_takeWord_96 : ab_Run X 71 96 (0, 0, 0) L [] σ Q ↔ Q none σ := ab_r_return rfl kc_X9_takeWord dX9_takeWord_96
theorem kc_X9_takeWhole : ab_code 72 = cX9_takeWhole := rfl
theorem ko_X9_takeWhole : ab_ow 72 = 9 := rfl
theorem rX9_takeWhole_0 : ab_Run X 72 0 (0, 0, 0) [ab_R z, l1] st σ Q ↔ z ≠ 0 ∧ ab_Run X 72 1 (0, 0, 0) [ab_R z, l1] (ab_R z :: st) σ Q := ab_r_aload_n rfl kc_X9_takeWhole dX9_takeWhole_0
theorem rX9_takeWhole_1 : ab_Run X 72 1 (0, 0, 0) L st σ Q ↔ ab_Run X 72 2 (0, 0, 0) L (ab_I 0 :: st) σ Q := ab_r_iconst (by decide) kc_X9_takeWhole dX9_takeWhole_1
theorem rX9_takeWhole_2 : ab_Run X 72 2 (0, 0, 0) L (ab_I z :: ab_R a :: st) σ Q ↔ (ab_sh σ a).1 = 10 ∧ ab_Run X 72 5 (0, 0, 0) L st (ab_wr σ a 4 z) Q := sF_9_57 ko_X9_takeWhole kc_X9_takeWhole dX9_takeWhole_2
theorem rX9_takeWhole_5 : ab_Run X 72 5 (0, 0, 0) [ab_R z, l1] st σ Q ↔ z ≠ 0 ∧ ab_Run X 72 6 (0, 0, 0) [ab_R z, l1] (ab_R z :: st) σ Q := ab_r_aload_n rfl kc_X9_takeWhole dX9_takeWhole_5
theorem rX9_takeWhole_6 : ab_Run X 72 6 (0, 0, 0) L (ab_R a :: st) σ Q ↔ (ab_sh σ a).1 = 10 ∧ ab_Run X 72 9 (0, 0, 0) L (ab_I (ab_rd σ a 3) :: st) σ Q := gF_9_39 ko_X9_takeWhole kc_X9_takeWhole dX9_takeWhole_6
theorem rX9_takeWhole_9 : ab_Run X 72 9 (0, 0, 0) [l0, l1] (ab_I z :: st) σ Q ↔ (!ab_isJ l0) = true ∧ ab_Run X 72 10 (0, 0, 0) [l0, ab_I z] st σ Q := ab_r_istore_n (Nat.le_of_ble_eq_true rfl) kc_X9_takeWhole dX9_takeWhole_9
theorem rX9_takeWhole_10 : ab_Run X 72 10 (0, 0, 0) [l0, ab_I z] st σ Q ↔ ab_Run X 72 11 (0, 0, 0) [l0, ab_I z] (ab_I z :: st) σ Q := ab_r_iload_n rfl kc_X9_takeWhole dX9_takeWhole_10
theorem rX9_takeWhole_11 : ab_Run X 72 11 (0, 0, 0) [ab_R z, l1] st σ Q ↔ z ≠ 0 ∧ ab_Run X 72 12 (0, 0, 0) [ab_R z, l1] (ab_R z :: st) σ Q := ab_r_aload_n rfl kc_X9_takeWhole dX9_takeWhole_11
theorem rX9_takeWhole_12 : ab_Run X 72 12 (0, 0, 0) L (ab_R a :: st) σ Q ↔ (ab_sh σ a).1 = 10 ∧ ab_Run X 72 15 (0, 0, 0) L (ab_I (ab_rd σ a 7) :: st) σ Q := gF_9_30 ko_X9_takeWhole kc_X9_takeWhole dX9_takeWhole_12
theorem rX9_takeWhole_15 : ab_Run X 72 15 (0, 0, 0) L (ab_I b :: ab_I a :: st) σ Q ↔ (b ≤ a → ab_Run X 72 67 (0, 0, 0) L st σ Q) ∧ (¬ (b ≤ a) → ab_Run X 72 18 (0, 0, 0) L st σ Q) := ab_r_icmp_ge rfl kc_X9_takeWhole dX9_takeWhole_15
theorem rX9_takeWhole_18 : ab_Run X 72 18 (0, 0, 0) [ab_R z, l1] st σ Q ↔ z ≠ 0 ∧ ab_Run X 72 19 (0, 0, 0) [ab_R z, l1] (ab_R z :: st) σ Q := ab_r_aload_n rfl kc_X9_takeWhole dX9_takeWhole_18
theorem rX9_takeWhole_19 : ab_Run X 72 19 (0, 0, 0) L (ab_R a :: st) σ Q ↔ (ab_sh σ a).1 = 10 ∧ ab_Run X 72 22 (0, 0, 0) L (ab_R (ab_rd σ a 0) :: st) σ Q := gF_9_7 ko_X9_takeWhole kc_X9_takeWhole dX9_takeWhole_19
theorem rX9_takeWhole_22 : ab_Run X 72 22 (0, 0, 0) [l0, ab_I z] st σ Q ↔ ab_Run X 72 23 (0, 0, 0) [l0, ab_I z] (ab_I z :: st) σ Q := ab_r_iload_n rfl kc_X9_takeWhole dX9_takeWhole_22
theorem rX9_takeWhole_23 : ab_Run X 72 23 (0, 0, 0) L (ab_I i :: ab_R a :: st) σ Q ↔ (((ab_sh σ a).1 = 23 ∨ (ab_sh σ a).1 = 24) ∧ 0 ≤ i ∧ i < (ab_sh σ a).2) ∧ ab_Run X 72 24 (0, 0, 0) L (ab_I (ab_rd σ a i) :: st) σ Q := ab_r_baload kc_X9_takeWhole dX9_takeWhole_23
theorem rX9_takeWhole_24 : ab_Run X 72 24 (0, 0, 0) L st σ Q ↔ ab_Run X 72 26 (0, 0, 0) L (ab_I 48 :: st) σ Q := ab_r_bipush (by decide) kc_X9_takeWhole dX9_takeWhole_24
theorem rX9_takeWhole_26 : ab_Run X 72 26 (0, 0, 0) L (ab_I b :: ab_I a :: st) σ Q ↔ (a < b → ab_Run X 72 67 (0, 0, 0) L st σ Q) ∧ (¬ (a < b) → ab_Run X 72 29 (0, 0, 0) L st σ Q) := ab_r_icmp_lt rfl kc_X9_takeWhole dX9_takeWhole_26
theorem rX9_takeWhole_29 : ab_Run X 72 29 (0, 0, 0) [ab_R z, l1] st σ Q ↔ z ≠ 0 ∧ ab_Run X 72 30 (0, 0, 0) [ab_R z, l1] (ab_R z :: st) σ Q := ab_r_aload_n rfl kc_X9_takeWhole dX9_takeWhole_29
theorem rX9_takeWhole_30 : ab_Run X 72 30 (0, 0, 0) L (ab_R a :: st) σ Q ↔ (ab_sh σ a).1 = 10 ∧ ab_Run X 72 33 (0, 0, 0) L (ab_R (ab_rd σ a 0) :: st) σ Q := gF_9_7 ko_X9_takeWhole kc_X9_takeWhole dX9_takeWhole_30
theorem rX9_takeWhole_33 : ab_Run X 72 33 (0, 0, 0) [l0, ab_I z] st σ Q ↔ ab_Run X 72 34 (0, 0, 0) [l0, ab_I z] (ab_I z :: st) σ Q := ab_r_iload_n rfl kc_X9_takeWhole dX9_takeWhole_33
theorem rX9_takeWhole_34 : ab_Run X 72 34 (0, 0, 0) L (ab_I i :: ab_R a :: st) σ Q ↔ (((ab_sh σ a).1 = 23 ∨ (ab_sh σ a).1 = 24) ∧ 0 ≤ i ∧ i < (ab_sh σ a).2) ∧ ab_Run X 72 35 (0, 0, 0) L (ab_I (ab_rd σ a i) :: st) σ Q := ab_r_baload kc_X9_takeWhole dX9_takeWhole_34
theorem rX9_takeWhole_35 : ab_Run X 72 35 (0, 0, 0) L st σ Q ↔ ab_Run X 72 37 (0, 0, 0) L (ab_I 57 :: st) σ Q := ab_r_bipush (by decide) kc_X9_takeWhole dX9_takeWhole_35
theorem rX9_takeWhole_37 : ab_Run X 72 37 (0, 0, 0) L (ab_I b :: ab_I a :: st) σ Q ↔ (b < a → ab_Run X 72 67 (0, 0, 0) L st σ Q) ∧ (¬ (b < a) → ab_Run X 72 40 (0, 0, 0) L st σ Q) := ab_r_icmp_gt rfl kc_X9_takeWhole dX9_takeWhole_37
theorem rX9_takeWhole_40 : ab_Run X 72 40 (0, 0, 0) [ab_R z, l1] st σ Q ↔ z ≠ 0 ∧ ab_Run X 72 41 (0, 0, 0) [ab_R z, l1] (ab_R z :: st) σ Q := ab_r_aload_n rfl kc_X9_takeWhole dX9_takeWhole_40
theorem rX9_takeWhole_41 : ab_Run X 72 41 (0, 0, 0) L st σ Q ↔ ab_Run X 72 43 (0, 0, 0) L (ab_I 10 :: st) σ Q := ab_r_bipush (by decide) kc_X9_takeWhole dX9_takeWhole_41
theorem rX9_takeWhole_43 : ab_Run X 72 43 (0, 0, 0) [ab_R z, l1] st σ Q ↔ z ≠ 0 ∧ ab_Run X 72 44 (0, 0, 0) [ab_R z, l1] (ab_R z :: st) σ Q := ab_r_aload_n rfl kc_X9_takeWhole dX9_takeWhole_43
theorem rX9_takeWhole_44 : ab_Run X 72 44 (0, 0, 0) L (ab_R a :: st) σ Q ↔ (ab_sh σ a).1 = 10 ∧ ab_Run X 72 47 (0, 0, 0) L (ab_I (ab_rd σ a 4) :: st) σ Q := gF_9_57 ko_X9_takeWhole kc_X9_takeWhole dX9_takeWhole_44
theorem rX9_takeWhole_47 : ab_Run X 72 47 (0, 0, 0) L (ab_I b :: ab_I a :: st) σ Q ↔ ab_Run X 72 48 (0, 0, 0) L (ab_I (ab_w32 (a * b)) :: st) σ Q := ab_r_imul kc_X9_takeWhole dX9_takeWhole_47
theorem rX9_takeWhole_48 : ab_Run X 72 48 (0, 0, 0) [ab_R z, l1] st σ Q ↔ z ≠ 0 ∧ ab_Run X 72 49 (0, 0, 0) [ab_R z, l1] (ab_R z :: st) σ Q := ab_r_aload_n rfl kc_X9_takeWhole dX9_takeWhole_48
theorem rX9_takeWhole_49 : ab_Run X 72 49 (0, 0, 0) L (ab_R a :: st) σ Q ↔ (ab_sh σ a).1 = 10 ∧ ab_Run X 72 52 (0, 0, 0) L (ab_R (ab_rd σ a 0) :: st) σ Q := gF_9_7 ko_X9_takeWhole kc_X9_takeWhole dX9_takeWhole_49
theorem rX9_takeWhole_52 : ab_Run X 72 52 (0, 0, 0) [l0, ab_I z] st σ Q ↔ ab_Run X 72 53 (0, 0, 0) [l0, ab_I z] (ab_I z :: st) σ Q := ab_r_iload_n rfl kc_X9_takeWhole dX9_takeWhole_52
theorem rX9_takeWhole_53 : ab_Run X 72 53 (0, 0, 0) L (ab_I i :: ab_R a :: st) σ Q ↔ (((ab_sh σ a).1 = 23 ∨ (ab_sh σ a).1 = 24) ∧ 0 ≤ i ∧ i < (ab_sh σ a).2) ∧ ab_Run X 72 54 (0, 0, 0) L (ab_I (ab_rd σ a i) :: st) σ Q := ab_r_baload kc_X9_takeWhole dX9_takeWhole_53
theorem rX9_takeWhole_54 : ab_Run X 72 54 (0, 0, 0) L st σ Q ↔ ab_Run X 72 56 (0, 0, 0) L (ab_I 48 :: st) σ Q := ab_r_bipush (by decide) kc_X9_takeWhole dX9_takeWhole_54
theorem rX9_takeWhole_56 : ab_Run X 72 56 (0, 0, 0) L (ab_I b :: ab_I a :: st) σ Q ↔ ab_Run X 72 57 (0, 0, 0) L (ab_I (ab_w32 (a - b)) :: st) σ Q := ab_r_isub kc_X9_takeWhole dX9_takeWhole_56
theorem rX9_takeWhole_57 : ab_Run X 72 57 (0, 0, 0) L (ab_I b :: ab_I a :: st) σ Q ↔ ab_Run X 72 58 (0, 0, 0) L (ab_I (ab_w32 (a + b)) :: st) σ Q := ab_r_iadd kc_X9_takeWhole dX9_takeWhole_57
theorem rX9_takeWhole_58 : ab_Run X 72 58 (0, 0, 0) L (ab_I z :: ab_R a :: st) σ Q ↔ (ab_sh σ a).1 = 10 ∧ ab_Run X 72 61 (0, 0, 0) L st (ab_wr σ a 4 z) Q := sF_9_57 ko_X9_takeWhole kc_X9_takeWhole dX9_takeWhole_58
theorem rX9_takeWhole_61 : ab_Run X 72 61 (0, 0, 0) [l0, ab_I z] st σ Q ↔ (!ab_isJ l0) = true ∧ ab_Run X 72 64 (0, 0, 0) [l0, ab_I (ab_w32 (z + 1))] st σ Q := ab_r_iinc rfl (by decide) kc_X9_takeWhole dX9_takeWhole_61
theorem rX9_takeWhole_64 : ab_Run X 72 64 (0, 0, 0) L st σ Q ↔ ab_Run X 72 10 (0, 0, 0) L st σ Q := ab_r_goto rfl kc_X9_takeWhole dX9_takeWhole_64
theorem rX9_takeWhole_67 : ab_Run X 72 67 (0, 0, 0) [ab_R z, l1] st σ Q ↔ z ≠ 0 ∧ ab_Run X 72 68 (0, 0, 0) [ab_R z, l1] (ab_R z :: st) σ Q := ab_r_aload_n rfl kc_X9_takeWhole dX9_takeWhole_67
theorem rX9_takeWhole_68 : ab_Run X 72 68 (0, 0, 0) [l0, ab_I z] st σ Q ↔ ab_Run X 72 69 (0, 0, 0) [l0, ab_I z] (ab_I z :: st) σ Q := ab_r_iload_n rfl kc_X9_takeWhole dX9_takeWhole_68
theorem rX9_takeWhole_69 : ab_Run X 72 69 (0, 0, 0) L (ab_I z :: ab_R a :: st) σ Q ↔ (ab_sh σ a).1 = 10 ∧ ab_Run X 72 72 (0, 0, 0) L st (ab_wr σ a 6 z) Q := sF_9_33 ko_X9_takeWhole kc_X9_takeWhole dX9_takeWhole_69
theorem rX9_takeWhole_72 : ab_Run X 72 72 (0, 0, 0) [ab_R z, l1] st σ Q ↔ z ≠ 0 ∧ ab_Run X 72 73 (0, 0, 0) [ab_R z, l1] (ab_R z :: st) σ Q := ab_r_aload_n rfl kc_X9_takeWhole dX9_takeWhole_72
theorem rX9_takeWhole_73 : ab_Run X 72 73 (0, 0, 0) [l0, ab_I z] st σ Q ↔ ab_Run X 72 74 (0, 0, 0) [l0, ab_I z] (ab_I z :: st) σ Q := ab_r_iload_n rfl kc_X9_takeWhole dX9_takeWhole_73
theorem rX9_takeWhole_74 : ab_Run X 72 74 (0, 0, 0) [ab_R z, l1] st σ Q ↔ z ≠ 0 ∧ ab_Run X 72 75 (0, 0, 0) [ab_R z, l1] (ab_R z :: st) σ Q := ab_r_aload_n rfl kc_X9_takeWhole dX9_takeWhole_74
theorem rX9_takeWhole_75 : ab_Run X 72 75 (0, 0, 0) L (ab_R a :: st) σ Q ↔ (ab_sh σ a).1 = 10 ∧ ab_Run X 72 78 (0, 0, 0) L (ab_I (ab_rd σ a 3) :: st) σ Q := gF_9_39 ko_X9_takeWhole kc_X9_takeWhole dX9_takeWhole_75
theorem rX9_takeWhole_78 : ab_Run X 72 78 (0, 0, 0) L (ab_I b :: ab_I a :: st) σ Q ↔ ab_Run X 72 79 (0, 0, 0) L (ab_I (ab_w32 (a - b)) :: st) σ Q := ab_r_isub kc_X9_takeWhole dX9_takeWhole_78
theorem rX9_takeWhole_79 : ab_Run X 72 79 (0, 0, 0) L st σ Q ↔ ab_Run X 72 80 (0, 0, 0) L (ab_I 2 :: st) σ Q := ab_r_iconst (by decide) kc_X9_takeWhole dX9_takeWhole_79
theorem rX9_takeWhole_80 : ab_Run X 72 80 (0, 0, 0) L (ab_I b :: ab_I a :: st) σ Q ↔ (b < a → ab_Run X 72 87 (0, 0, 0) L st σ Q) ∧ (¬ (b < a) → ab_Run X 72 83 (0, 0, 0) L st σ Q) := ab_r_icmp_gt rfl kc_X9_takeWhole dX9_takeWhole_80
theorem rX9_takeWhole_83 : ab_Run X 72 83 (0, 0, 0) L st σ Q ↔ ab_Run X 72 84 (0, 0, 0) L (ab_I 3 :: st) σ Q := ab_r_iconst (by decide) kc_X9_takeWhole dX9_takeWhole_83
theorem rX9_takeWhole_84 : ab_Run X 72 84 (0, 0, 0) L st σ Q ↔ ab_Run X 72 88 (0, 0, 0) L st σ Q := ab_r_goto rfl kc_X9_takeWhole dX9_takeWhole_84
theorem rX9_takeWhole_87 : ab_Run X 72 87 (0, 0, 0) L st σ Q ↔ ab_Run X 72 88 (0, 0, 0) L (ab_I 1 :: st) σ Q := ab_r_iconst (by decide) kc_X9_takeWhole dX9_takeWhole_87
theorem rX9_takeWhole_88 : ab_Run X 72 88 (0, 0, 0) L (ab_I z :: ab_R a :: st) σ Q ↔ (ab_sh σ a).1 = 10 ∧ ab_Run X 72 91 (0, 0, 0) L st (ab_wr σ a 2 z) Q := sF_9_42 ko_X9_takeWhole kc_X9_takeWhole dX9_takeWhole_88
theorem rX9_takeWhole_91 : ab_Run X 72 91 (0, 0, 0) L [] σ Q ↔ Q none σ := ab_r_return rfl kc_X9_takeWhole dX9_takeWhole_91
theorem kc_X9_reads : ab_code 73 = cX9_reads := rfl
theorem ko_X9_reads : ab_ow 73 = 9 := rfl
theorem rX9_reads_0 : ab_Run X 73 0 (10, 0, 0) [ab_R z, l1, l2] st σ Q ↔ z ≠ 0 ∧ ab_Run X 73 1 (10, 0, 0) [ab_R z, l1, l2] (ab_R z :: st) σ Q := ab_r_aload_n rfl kc_X9_reads dX9_reads_0
theorem rX9_reads_1 : ab_Run X 73 1 (10, 0, 0) L (ab_R a :: st) σ Q ↔ (ab_sh σ a).1 = 10 ∧ ab_Run X 73 4 (10, 0, 0) L (ab_I (ab_rd σ a 2) :: st) σ Q := gF_9_42 ko_X9_reads kc_X9_reads dX9_reads_1
theorem rX9_reads_4 : ab_Run X 73 4 (10, 0, 0) L st σ Q ↔ ab_Run X 73 5 (10, 0, 0) L (ab_I 2 :: st) σ Q := ab_r_iconst (by decide) kc_X9_reads dX9_reads_4
theorem rX9_reads_5 : ab_Run X 73 5 (10, 0, 0) L (ab_I b :: ab_I a :: st) σ Q ↔ (¬ a = b → ab_Run X 73 24 (10, 0, 0) L st σ Q) ∧ (¬ (¬ a = b) → ab_Run X 73 8 (10, 0, 0) L st σ Q) := ab_r_icmp_ne rfl kc_X9_reads dX9_reads_5
theorem rX9_reads_8 : ab_Run X 73 8 (10, 0, 0) [ab_R z, l1, l2] st σ Q ↔ z ≠ 0 ∧ ab_Run X 73 9 (10, 0, 0) [ab_R z, l1, l2] (ab_R z :: st) σ Q := ab_r_aload_n rfl kc_X9_reads dX9_reads_8
theorem rX9_reads_9 : ab_Run X 73 9 (10, 0, 0) L (ab_R a :: st) σ Q ↔ (ab_sh σ a).1 = 10 ∧ ab_Run X 73 12 (10, 0, 0) L (ab_I (ab_rd σ a 6) :: st) σ Q := gF_9_33 ko_X9_reads kc_X9_reads dX9_reads_9
theorem rX9_reads_12 : ab_Run X 73 12 (10, 0, 0) [ab_R z, l1, l2] st σ Q ↔ z ≠ 0 ∧ ab_Run X 73 13 (10, 0, 0) [ab_R z, l1, l2] (ab_R z :: st) σ Q := ab_r_aload_n rfl kc_X9_reads dX9_reads_12
theorem rX9_reads_13 : ab_Run X 73 13 (10, 0, 0) L (ab_R a :: st) σ Q ↔ (ab_sh σ a).1 = 10 ∧ ab_Run X 73 16 (10, 0, 0) L (ab_I (ab_rd σ a 3) :: st) σ Q := gF_9_39 ko_X9_reads kc_X9_reads dX9_reads_13
theorem rX9_reads_16 : ab_Run X 73 16 (10, 0, 0) L (ab_I b :: ab_I a :: st) σ Q ↔ ab_Run X 73 17 (10, 0, 0) L (ab_I (ab_w32 (a - b)) :: st) σ Q := ab_r_isub kc_X9_reads dX9_reads_16
theorem rX9_reads_17 : ab_Run X 73 17 (10, 0, 0) [l0, ab_R z, l2] st σ Q ↔ z ≠ 0 ∧ ab_Run X 73 18 (10, 0, 0) [l0, ab_R z, l2] (ab_R z :: st) σ Q := ab_r_aload_n rfl kc_X9_reads dX9_reads_17
theorem rX9_reads_18 : ab_Run X 73 18 (10, 0, 0) L (ab_R a :: st) σ Q ↔ (a ≤ -2 ∧ (-2 - a).toNat < ab_txt.length ∧ ab_cats st ≤ 8) ∧ ab_Run X 73 21 (10, 0, 0) L (ab_I (ab_txt.getD (-2 - a).toNat []).length :: st) σ Q := ab_r_strlen (by decide) ko_X9_reads qM_9_60 (by decide) kc_X9_reads dX9_reads_18
theorem rX9_reads_21 : ab_Run X 73 21 (10, 0, 0) L (ab_I b :: ab_I a :: st) σ Q ↔ (a = b → ab_Run X 73 26 (10, 0, 0) L st σ Q) ∧ (¬ (a = b) → ab_Run X 73 24 (10, 0, 0) L st σ Q) := ab_r_icmp_eq rfl kc_X9_reads dX9_reads_21
theorem rX9_reads_24 : ab_Run X 73 24 (10, 0, 0) L st σ Q ↔ ab_Run X 73 25 (10, 0, 0) L (ab_I 0 :: st) σ Q := ab_r_iconst (by decide) kc_X9_reads dX9_reads_24
theorem rX9_reads_25 : ab_Run X 73 25 (10, 0, 0) L [ab_I v] σ Q ↔ (v = 0 ∨ v = 1) ∧ Q (some (ab_I v)) σ := ab_r_ireturnZ rfl kc_X9_reads dX9_reads_25
theorem rX9_reads_26 : ab_Run X 73 26 (10, 0, 0) L st σ Q ↔ ab_Run X 73 27 (10, 0, 0) L (ab_I 0 :: st) σ Q := ab_r_iconst (by decide) kc_X9_reads dX9_reads_26
theorem rX9_reads_27 : ab_Run X 73 27 (10, 0, 0) [l0, l1, l2] (ab_I z :: st) σ Q ↔ (!ab_isJ l1) = true ∧ ab_Run X 73 28 (10, 0, 0) [l0, l1, ab_I z] st σ Q := ab_r_istore_n (Nat.le_of_ble_eq_true rfl) kc_X9_reads dX9_reads_27
theorem rX9_reads_28 : ab_Run X 73 28 (10, 0, 0) [l0, l1, ab_I z] st σ Q ↔ ab_Run X 73 29 (10, 0, 0) [l0, l1, ab_I z] (ab_I z :: st) σ Q := ab_r_iload_n rfl kc_X9_reads dX9_reads_28
theorem rX9_reads_29 : ab_Run X 73 29 (10, 0, 0) [l0, ab_R z, l2] st σ Q ↔ z ≠ 0 ∧ ab_Run X 73 30 (10, 0, 0) [l0, ab_R z, l2] (ab_R z :: st) σ Q := ab_r_aload_n rfl kc_X9_reads dX9_reads_29
theorem rX9_reads_30 : ab_Run X 73 30 (10, 0, 0) L (ab_R a :: st) σ Q ↔ (a ≤ -2 ∧ (-2 - a).toNat < ab_txt.length ∧ ab_cats st ≤ 8) ∧ ab_Run X 73 33 (10, 0, 0) L (ab_I (ab_txt.getD (-2 - a).toNat []).length :: st) σ Q := ab_r_strlen (by decide) ko_X9_reads qM_9_60 (by decide) kc_X9_reads dX9_reads_30
theorem rX9_reads_33 : ab_Run X 73 33 (10, 0, 0) L (ab_I b :: ab_I a :: st) σ Q ↔ (b ≤ a → ab_Run X 73 63 (10, 0, 0) L st σ Q) ∧ (¬ (b ≤ a) → ab_Run X 73 36 (10, 0, 0) L st σ Q) := ab_r_icmp_ge rfl kc_X9_reads dX9_reads_33
theorem rX9_reads_36 : ab_Run X 73 36 (10, 0, 0) [ab_R z, l1, l2] st σ Q ↔ z ≠ 0 ∧ ab_Run X 73 37 (10, 0, 0) [ab_R z, l1, l2] (ab_R z :: st) σ Q := ab_r_aload_n rfl kc_X9_reads dX9_reads_36
theorem rX9_reads_37 : ab_Run X 73 37 (10, 0, 0) L (ab_R a :: st) σ Q ↔ (ab_sh σ a).1 = 10 ∧ ab_Run X 73 40 (10, 0, 0) L (ab_R (ab_rd σ a 0) :: st) σ Q := gF_9_7 ko_X9_reads kc_X9_reads dX9_reads_37
theorem rX9_reads_40 : ab_Run X 73 40 (10, 0, 0) [ab_R z, l1, l2] st σ Q ↔ z ≠ 0 ∧ ab_Run X 73 41 (10, 0, 0) [ab_R z, l1, l2] (ab_R z :: st) σ Q := ab_r_aload_n rfl kc_X9_reads dX9_reads_40
theorem rX9_reads_41 : ab_Run X 73 41 (10, 0, 0) L (ab_R a :: st) σ Q ↔ (ab_sh σ a).1 = 10 ∧ ab_Run X 73 44 (10, 0, 0) L (ab_I (ab_rd σ a 3) :: st) σ Q := gF_9_39 ko_X9_reads kc_X9_reads dX9_reads_41
theorem rX9_reads_44 : ab_Run X 73 44 (10, 0, 0) [l0, l1, ab_I z] st σ Q ↔ ab_Run X 73 45 (10, 0, 0) [l0, l1, ab_I z] (ab_I z :: st) σ Q := ab_r_iload_n rfl kc_X9_reads dX9_reads_44
theorem rX9_reads_45 : ab_Run X 73 45 (10, 0, 0) L (ab_I b :: ab_I a :: st) σ Q ↔ ab_Run X 73 46 (10, 0, 0) L (ab_I (ab_w32 (a + b)) :: st) σ Q := ab_r_iadd kc_X9_reads dX9_reads_45
theorem rX9_reads_46 : ab_Run X 73 46 (10, 0, 0) L (ab_I i :: ab_R a :: st) σ Q ↔ (((ab_sh σ a).1 = 23 ∨ (ab_sh σ a).1 = 24) ∧ 0 ≤ i ∧ i < (ab_sh σ a).2) ∧ ab_Run X 73 47 (10, 0, 0) L (ab_I (ab_rd σ a i) :: st) σ Q := ab_r_baload kc_X9_reads dX9_reads_46
theorem rX9_reads_47 : ab_Run X 73 47 (10, 0, 0) [l0, ab_R z, l2] st σ Q ↔ z ≠ 0 ∧ ab_Run X 73 48 (10, 0, 0) [l0, ab_R z, l2] (ab_R z :: st) σ Q := ab_r_aload_n rfl kc_X9_reads dX9_reads_47
theorem rX9_reads_48 : ab_Run X 73 48 (10, 0, 0) [l0, l1, ab_I z] st σ Q ↔ ab_Run X 73 49 (10, 0, 0) [l0, l1, ab_I z] (ab_I z :: st) σ Q := ab_r_iload_n rfl kc_X9_reads dX9_reads_48
theorem rX9_reads_49 : ab_Run X 73 49 (10, 0, 0) L (ab_I j :: ab_R a :: st) σ Q ↔ (a ≤ -2 ∧ (-2 - a).toNat < ab_txt.length ∧ ab_cats st ≤ 8 ∧ 0 ≤ j ∧ j < (ab_txt.getD (-2 - a).toNat []).length) ∧ ab_Run X 73 52 (10, 0, 0) L (ab_I ((ab_txt.getD (-2 - a).toNat []).getD j.toNat 0) :: st) σ Q := ab_r_charAt (by decide) ko_X9_reads qM_9_65 (by decide) kc_X9_reads dX9_reads_49
theorem rX9_reads_52 : ab_Run X 73 52 (10, 0, 0) L (ab_I b :: ab_I a :: st) σ Q ↔ (a = b → ab_Run X 73 57 (10, 0, 0) L st σ Q) ∧ (¬ (a = b) → ab_Run X 73 55 (10, 0, 0) L st σ Q) := ab_r_icmp_eq rfl kc_X9_reads dX9_reads_52
theorem rX9_reads_55 : ab_Run X 73 55 (10, 0, 0) L st σ Q ↔ ab_Run X 73 56 (10, 0, 0) L (ab_I 0 :: st) σ Q := ab_r_iconst (by decide) kc_X9_reads dX9_reads_55
theorem rX9_reads_56 : ab_Run X 73 56 (10, 0, 0) L [ab_I v] σ Q ↔ (v = 0 ∨ v = 1) ∧ Q (some (ab_I v)) σ := ab_r_ireturnZ rfl kc_X9_reads dX9_reads_56
theorem rX9_reads_57 : ab_Run X 73 57 (10, 0, 0) [l0, l1, ab_I z] st σ Q ↔ (!ab_isJ l1) = true ∧ ab_Run X 73 60 (10, 0, 0) [l0, l1, ab_I (ab_w32 (z + 1))] st σ Q := ab_r_iinc rfl (by decide) kc_X9_reads dX9_reads_57
theorem rX9_reads_60 : ab_Run X 73 60 (10, 0, 0) L st σ Q ↔ ab_Run X 73 28 (10, 0, 0) L st σ Q := ab_r_goto rfl kc_X9_reads dX9_reads_60
theorem rX9_reads_63 : ab_Run X 73 63 (10, 0, 0) L st σ Q ↔ ab_Run X 73 64 (10, 0, 0) L (ab_I 1 :: st) σ Q := ab_r_iconst (by decide) kc_X9_reads dX9_reads_63
theorem rX9_reads_64 : ab_Run X 73 64 (10, 0, 0) L [ab_I v] σ Q ↔ (v = 0 ∨ v = 1) ∧ Q (some (ab_I v)) σ := ab_r_ireturnZ rfl kc_X9_reads dX9_reads_64
theorem kc_X10_find : ab_code 75 = cX10_find := rfl
theorem ko_X10_find : ab_ow 75 = 10 := rfl
theorem rX10_find_0 : ab_Run X 75 0 (12, 0, 0) [ab_R z, l1, l2, l3] st σ Q ↔ z ≠ 0 ∧ ab_Run X 75 1 (12, 0, 0) [ab_R z, l1, l2, l3] (ab_R z :: st) σ Q := ab_r_aload_n rfl kc_X10_find dX10_find_0
theorem rX10_find_1 : ab_Run X 75 1 (12, 0, 0) [l0, ab_I z, l2, l3] st σ Q ↔ ab_Run X 75 2 (12, 0, 0) [l0, ab_I z, l2, l3] (ab_I z :: st) σ Q := ab_r_iload_n rfl kc_X10_find dX10_find_1
theorem rX10_find_2 : ab_Run X 75 2 (12, 0, 0) L st σ Q ↔ ab_Run X 75 4 (12, 0, 0) L (ab_I 6 :: st) σ Q := ab_r_bipush (by decide) kc_X10_find dX10_find_2
theorem rX10_find_4 : ab_Run X 75 4 (12, 0, 0) L (ab_I b :: ab_I a :: st) σ Q ↔ ab_cats st ≤ 8 ∧ ab_Run X 75 7 (12, 0, 0) L (ab_I (if b < a then b else a) :: st) σ Q := ab_r_math 1005 (Or.inr ⟨rfl, rfl⟩) (by decide) ko_X10_find qM_10_18 (by decide) kc_X10_find dX10_find_4
theorem rX10_find_7 : ab_Run X 75 7 (12, 0, 0) L (ab_I z :: ab_R a :: st) σ Q ↔ (ab_sh σ a).1 = 11 ∧ ab_Run X 75 10 (12, 0, 0) L st (ab_wr σ a 2 z) Q := sF_10_24 ko_X10_find kc_X10_find dX10_find_7
theorem rX10_find_10 : ab_Run X 75 10 (12, 0, 0) [ab_R z, l1, l2, l3] st σ Q ↔ z ≠ 0 ∧ ab_Run X 75 11 (12, 0, 0) [ab_R z, l1, l2, l3] (ab_R z :: st) σ Q := ab_r_aload_n rfl kc_X10_find dX10_find_10
theorem rX10_find_11 : ab_Run X 75 11 (12, 0, 0) [l0, l1, ab_I z, l3] st σ Q ↔ ab_Run X 75 12 (12, 0, 0) [l0, l1, ab_I z, l3] (ab_I z :: st) σ Q := ab_r_iload_n rfl kc_X10_find dX10_find_11
theorem rX10_find_12 : ab_Run X 75 12 (12, 0, 0) L st σ Q ↔ ab_Run X 75 14 (12, 0, 0) L (ab_I 9 :: st) σ Q := ab_r_bipush (by decide) kc_X10_find dX10_find_12
theorem rX10_find_14 : ab_Run X 75 14 (12, 0, 0) L (ab_I b :: ab_I a :: st) σ Q ↔ ab_cats st ≤ 8 ∧ ab_Run X 75 17 (12, 0, 0) L (ab_I (if b < a then b else a) :: st) σ Q := ab_r_math 1005 (Or.inr ⟨rfl, rfl⟩) (by decide) ko_X10_find qM_10_18 (by decide) kc_X10_find dX10_find_14
theorem rX10_find_17 : ab_Run X 75 17 (12, 0, 0) L (ab_I z :: ab_R a :: st) σ Q ↔ (ab_sh σ a).1 = 11 ∧ ab_Run X 75 20 (12, 0, 0) L st (ab_wr σ a 3 z) Q := sF_10_28 ko_X10_find kc_X10_find dX10_find_17
theorem rX10_find_20 : ab_Run X 75 20 (12, 0, 0) L st σ Q ↔ ab_Run X 75 21 (12, 0, 0) L (ab_I 0 :: st) σ Q := ab_r_iconst (by decide) kc_X10_find dX10_find_20
theorem rX10_find_21 : ab_Run X 75 21 (12, 0, 0) [l0, l1, l2, l3] (ab_I z :: st) σ Q ↔ (!ab_isJ l2) = true ∧ ab_Run X 75 22 (12, 0, 0) [l0, l1, l2, ab_I z] st σ Q := ab_r_istore_n (Nat.le_of_ble_eq_true rfl) kc_X10_find dX10_find_21
theorem rX10_find_22 : ab_Run X 75 22 (12, 0, 0) [l0, l1, l2, ab_I z] st σ Q ↔ ab_Run X 75 23 (12, 0, 0) [l0, l1, l2, ab_I z] (ab_I z :: st) σ Q := ab_r_iload_n rfl kc_X10_find dX10_find_22
theorem rX10_find_23 : ab_Run X 75 23 (12, 0, 0) [ab_R z, l1, l2, l3] st σ Q ↔ z ≠ 0 ∧ ab_Run X 75 24 (12, 0, 0) [ab_R z, l1, l2, l3] (ab_R z :: st) σ Q := ab_r_aload_n rfl kc_X10_find dX10_find_23
theorem rX10_find_24 : ab_Run X 75 24 (12, 0, 0) L (ab_R a :: st) σ Q ↔ (ab_sh σ a).1 = 11 ∧ ab_Run X 75 27 (12, 0, 0) L (ab_R (ab_rd σ a 1) :: st) σ Q := gF_10_15 ko_X10_find kc_X10_find dX10_find_24
theorem rX10_find_27 : ab_Run X 75 27 (12, 0, 0) L (ab_R a :: st) σ Q ↔ (21 ≤ (ab_sh σ a).1 ∧ (ab_sh σ a).1 < 30) ∧ ab_Run X 75 28 (12, 0, 0) L (ab_I (ab_sh σ a).2 :: st) σ Q := ab_r_arraylength (by decide) kc_X10_find dX10_find_27
theorem rX10_find_28 : ab_Run X 75 28 (12, 0, 0) L (ab_I b :: ab_I a :: st) σ Q ↔ (b ≤ a → ab_Run X 75 44 (12, 0, 0) L st σ Q) ∧ (¬ (b ≤ a) → ab_Run X 75 31 (12, 0, 0) L st σ Q) := ab_r_icmp_ge rfl kc_X10_find dX10_find_28
theorem rX10_find_31 : ab_Run X 75 31 (12, 0, 0) [ab_R z, l1, l2, l3] st σ Q ↔ z ≠ 0 ∧ ab_Run X 75 32 (12, 0, 0) [ab_R z, l1, l2, l3] (ab_R z :: st) σ Q := ab_r_aload_n rfl kc_X10_find dX10_find_31
theorem rX10_find_32 : ab_Run X 75 32 (12, 0, 0) L (ab_R a :: st) σ Q ↔ (ab_sh σ a).1 = 11 ∧ ab_Run X 75 35 (12, 0, 0) L (ab_R (ab_rd σ a 1) :: st) σ Q := gF_10_15 ko_X10_find kc_X10_find dX10_find_32
theorem rX10_find_35 : ab_Run X 75 35 (12, 0, 0) [l0, l1, l2, ab_I z] st σ Q ↔ ab_Run X 75 36 (12, 0, 0) [l0, l1, l2, ab_I z] (ab_I z :: st) σ Q := ab_r_iload_n rfl kc_X10_find dX10_find_35
theorem rX10_find_36 : ab_Run X 75 36 (12, 0, 0) L st σ Q ↔ ab_Run X 75 37 (12, 0, 0) L (ab_I 0 :: st) σ Q := ab_r_iconst (by decide) kc_X10_find dX10_find_36
theorem rX10_find_37 : ab_Run X 75 37 (12, 0, 0) L (ab_I v :: ab_I i :: ab_R a :: st) σ Q ↔ ((ab_sh σ a).1 = 21 ∧ 0 ≤ i ∧ i < (ab_sh σ a).2) ∧ ab_Run X 75 38 (12, 0, 0) L st (ab_wr σ a i v) Q := ab_r_iastore kc_X10_find dX10_find_37
theorem rX10_find_38 : ab_Run X 75 38 (12, 0, 0) [l0, l1, l2, ab_I z] st σ Q ↔ (!ab_isJ l2) = true ∧ ab_Run X 75 41 (12, 0, 0) [l0, l1, l2, ab_I (ab_w32 (z + 1))] st σ Q := ab_r_iinc rfl (by decide) kc_X10_find dX10_find_38
theorem rX10_find_41 : ab_Run X 75 41 (12, 0, 0) L st σ Q ↔ ab_Run X 75 22 (12, 0, 0) L st σ Q := ab_r_goto rfl kc_X10_find dX10_find_41
theorem rX10_find_44 : ab_Run X 75 44 (12, 0, 0) [ab_R z, l1, l2, l3] st σ Q ↔ z ≠ 0 ∧ ab_Run X 75 45 (12, 0, 0) [ab_R z, l1, l2, l3] (ab_R z :: st) σ Q := ab_r_aload_n rfl kc_X10_find dX10_find_44
theorem rX10_find_45 : ab_Run X 75 45 (12, 0, 0) L (ab_R a :: st) σ Q ↔ (ab_sh σ a).1 = 11 ∧ ab_Run X 75 48 (12, 0, 0) L (ab_I (ab_rd σ a 2) :: st) σ Q := gF_10_24 ko_X10_find kc_X10_find dX10_find_45
theorem rX10_find_48 : ab_Run X 75 48 (12, 0, 0) L st σ Q ↔ ab_Run X 75 49 (12, 0, 0) L (ab_I 2 :: st) σ Q := ab_r_iconst (by decide) kc_X10_find dX10_find_48
theorem rX10_find_49 : ab_Run X 75 49 (12, 0, 0) L (ab_I b :: ab_I a :: st) σ Q ↔ (a < b → ab_Run X 75 64 (12, 0, 0) L st σ Q) ∧ (¬ (a < b) → ab_Run X 75 52 (12, 0, 0) L st σ Q) := ab_r_icmp_lt rfl kc_X10_find dX10_find_49
theorem rX10_find_52 : ab_Run X 75 52 (12, 0, 0) [ab_R z, l1, l2, l3] st σ Q ↔ z ≠ 0 ∧ ab_Run X 75 53 (12, 0, 0) [ab_R z, l1, l2, l3] (ab_R z :: st) σ Q := ab_r_aload_n rfl kc_X10_find dX10_find_52
theorem rX10_find_53 : ab_Run X 75 53 (12, 0, 0) L st σ Q ↔ ab_Run X 75 54 (12, 0, 0) L (ab_I 0 :: st) σ Q := ab_r_iconst (by decide) kc_X10_find dX10_find_53
theorem rX10_find_54 (h : (2 + (9 - x1).toNat, 0, 0).1 + 1 ≤ 12) : ab_Run X 75 54 (12, 0, 0) L (ab_I x1 :: ab_R a :: st) σ Q ↔ ((ab_sh σ a).1 = 11 ∧ ab_cats st ≤ 8) ∧ ab_Do X 76 [ab_R a, ab_I x1] σ (fun r σ' => ab_Run X 75 57 (12, 0, 0) L (ab_psh r st) σ' Q) := ab_r_callV (w := [ab_I x1]) (as := [ab_I x1]) (b1 := (2 + (9 - x1).toNat, 0, 0)) 0 (Or.inl rfl) (by decide) ko_X10_find qM_10_31 (by decide) rfl rfl rfl rfl rfl ⟨h, Nat.le_refl _, Nat.le_refl _⟩ (Nat.le_of_ble_eq_true rfl) kc_X10_find dX10_find_54
theorem rX10_find_57 : ab_Run X 75 57 (12, 0, 0) L (ab_I a :: st) σ Q ↔ (a = 0 → ab_Run X 75 64 (12, 0, 0) L st σ Q) ∧ (¬ (a = 0) → ab_Run X 75 60 (12, 0, 0) L st σ Q) := ab_r_if_eq rfl kc_X10_find dX10_find_57
theorem rX10_find_60 : ab_Run X 75 60 (12, 0, 0) L st σ Q ↔ ab_Run X 75 61 (12, 0, 0) L (ab_I 1 :: st) σ Q := ab_r_iconst (by decide) kc_X10_find dX10_find_60
theorem rX10_find_61 : ab_Run X 75 61 (12, 0, 0) L st σ Q ↔ ab_Run X 75 65 (12, 0, 0) L st σ Q := ab_r_goto rfl kc_X10_find dX10_find_61
theorem rX10_find_64 : ab_Run X 75 64 (12, 0, 0) L st σ Q ↔ ab_Run X 75 65 (12, 0, 0) L (ab_I 0 :: st) σ Q := ab_r_iconst (by decide) kc_X10_find dX10_find_64
theorem rX10_find_65 : ab_Run X 75 65 (12, 0, 0) L [ab_I v] σ Q ↔ (v = 0 ∨ v = 1) ∧ Q (some (ab_I v)) σ := ab_r_ireturnZ rfl kc_X10_find dX10_find_65
theorem kc_X10_findFrom : ab_code 76 = cX10_findFrom := rfl
theorem ko_X10_findFrom : ab_ow 76 = 10 := rfl
theorem rX10_findFrom_0 : ab_Run X 76 0 (d, 0, 0) [l0, ab_I z, l2, l3] st σ Q ↔ ab_Run X 76 1 (d, 0, 0) [l0, ab_I z, l2, l3] (ab_I z :: st) σ Q := ab_r_iload_n rfl kc_X10_findFrom dX10_findFrom_0
theorem rX10_findFrom_1 : ab_Run X 76 1 (d, 0, 0) [ab_R z, l1, l2, l3] st σ Q ↔ z ≠ 0 ∧ ab_Run X 76 2 (d, 0, 0) [ab_R z, l1, l2, l3] (ab_R z :: st) σ Q := ab_r_aload_n rfl kc_X10_findFrom dX10_findFrom_1
theorem rX10_findFrom_2 : ab_Run X 76 2 (d, 0, 0) L (ab_R a :: st) σ Q ↔ (ab_sh σ a).1 = 11 ∧ ab_Run X 76 5 (d, 0, 0) L (ab_I (ab_rd σ a 3) :: st) σ Q := gF_10_28 ko_X10_findFrom kc_X10_findFrom dX10_findFrom_2
theorem rX10_findFrom_5 : ab_Run X 76 5 (d, 0, 0) L (ab_I b :: ab_I a :: st) σ Q ↔ (a < b → ab_Run X 76 13 (d, 0, 0) L st σ Q) ∧ (¬ (a < b) → ab_Run X 76 8 (d, 0, 0) L st σ Q) := ab_r_icmp_lt rfl kc_X10_findFrom dX10_findFrom_5
theorem rX10_findFrom_8 : ab_Run X 76 8 (d, 0, 0) [ab_R z, l1, l2, l3] st σ Q ↔ z ≠ 0 ∧ ab_Run X 76 9 (d, 0, 0) [ab_R z, l1, l2, l3] (ab_R z :: st) σ Q := ab_r_aload_n rfl kc_X10_findFrom dX10_findFrom_8
theorem rX10_findFrom_9 (h : (1, 0, 0).1 + 1 ≤ d) : ab_Run X 76 9 (d, 0, 0) L (ab_R a :: st) σ Q ↔ ((ab_sh σ a).1 = 11 ∧ ab_cats st ≤ 8) ∧ ab_Do X 78 [ab_R a] σ (fun r σ' => ab_Run X 76 12 (d, 0, 0) L (ab_psh r st) σ' Q) := ab_r_callV (w := []) (as := []) (b1 := (1, 0, 0)) 0 (Or.inl rfl) (by decide) ko_X10_findFrom qM_10_35 (by decide) rfl rfl rfl rfl rfl ⟨h, Nat.le_refl _, Nat.le_refl _⟩ (Nat.le_of_ble_eq_true rfl) kc_X10_findFrom dX10_findFrom_9
theorem rX10_findFrom_12 : ab_Run X 76 12 (d, 0, 0) L [ab_I v] σ Q ↔ (v = 0 ∨ v = 1) ∧ Q (some (ab_I v)) σ := ab_r_ireturnZ rfl kc_X10_findFrom dX10_findFrom_12
theorem rX10_findFrom_13 : ab_Run X 76 13 (d, 0, 0) L st σ Q ↔ ab_Run X 76 14 (d, 0, 0) L (ab_I 0 :: st) σ Q := ab_r_iconst (by decide) kc_X10_findFrom dX10_findFrom_13
theorem rX10_findFrom_14 : ab_Run X 76 14 (d, 0, 0) [l0, l1, l2, l3] (ab_I z :: st) σ Q ↔ (!ab_isJ l1) = true ∧ ab_Run X 76 15 (d, 0, 0) [l0, l1, ab_I z, l3] st σ Q := ab_r_istore_n (Nat.le_of_ble_eq_true rfl) kc_X10_findFrom dX10_findFrom_14
theorem rX10_findFrom_15 : ab_Run X 76 15 (d, 0, 0) [l0, l1, ab_I z, l3] st σ Q ↔ ab_Run X 76 16 (d, 0, 0) [l0, l1, ab_I z, l3] (ab_I z :: st) σ Q := ab_r_iload_n rfl kc_X10_findFrom dX10_findFrom_15
theorem rX10_findFrom_16 : ab_Run X 76 16 (d, 0, 0) [ab_R z, l1, l2, l3] st σ Q ↔ z ≠ 0 ∧ ab_Run X 76 17 (d, 0, 0) [ab_R z, l1, l2, l3] (ab_R z :: st) σ Q := ab_r_aload_n rfl kc_X10_findFrom dX10_findFrom_16
theorem rX10_findFrom_17 : ab_Run X 76 17 (d, 0, 0) L (ab_R a :: st) σ Q ↔ (ab_sh σ a).1 = 11 ∧ ab_Run X 76 20 (d, 0, 0) L (ab_I (ab_rd σ a 2) :: st) σ Q := gF_10_24 ko_X10_findFrom kc_X10_findFrom dX10_findFrom_17
theorem rX10_findFrom_20 : ab_Run X 76 20 (d, 0, 0) L (ab_I b :: ab_I a :: st) σ Q ↔ (b ≤ a → ab_Run X 76 129 (d, 0, 0) L st σ Q) ∧ (¬ (b ≤ a) → ab_Run X 76 23 (d, 0, 0) L st σ Q) := ab_r_icmp_ge rfl kc_X10_findFrom dX10_findFrom_20
theorem rX10_findFrom_23 : ab_Run X 76 23 (d, 0, 0) [l0, l1, ab_I z, l3] st σ Q ↔ ab_Run X 76 24 (d, 0, 0) [l0, l1, ab_I z, l3] (ab_I z :: st) σ Q := ab_r_iload_n rfl kc_X10_findFrom dX10_findFrom_23
theorem rX10_findFrom_24 : ab_Run X 76 24 (d, 0, 0) L st σ Q ↔ ab_Run X 76 25 (d, 0, 0) L (ab_I 1 :: st) σ Q := ab_r_iconst (by decide) kc_X10_findFrom dX10_findFrom_24
theorem rX10_findFrom_25 : ab_Run X 76 25 (d, 0, 0) L (ab_I b :: ab_I a :: st) σ Q ↔ ab_Run X 76 26 (d, 0, 0) L (ab_I (ab_w32 (a + b)) :: st) σ Q := ab_r_iadd kc_X10_findFrom dX10_findFrom_25
theorem rX10_findFrom_26 : ab_Run X 76 26 (d, 0, 0) [l0, l1, l2, l3] (ab_I z :: st) σ Q ↔ (!ab_isJ l2) = true ∧ ab_Run X 76 27 (d, 0, 0) [l0, l1, l2, ab_I z] st σ Q := ab_r_istore_n (Nat.le_of_ble_eq_true rfl) kc_X10_findFrom dX10_findFrom_26
theorem rX10_findFrom_27 : ab_Run X 76 27 (d, 0, 0) [l0, l1, l2, ab_I z] st σ Q ↔ ab_Run X 76 28 (d, 0, 0) [l0, l1, l2, ab_I z] (ab_I z :: st) σ Q := ab_r_iload_n rfl kc_X10_findFrom dX10_findFrom_27
theorem rX10_findFrom_28 : ab_Run X 76 28 (d, 0, 0) [ab_R z, l1, l2, l3] st σ Q ↔ z ≠ 0 ∧ ab_Run X 76 29 (d, 0, 0) [ab_R z, l1, l2, l3] (ab_R z :: st) σ Q := ab_r_aload_n rfl kc_X10_findFrom dX10_findFrom_28
theorem rX10_findFrom_29 : ab_Run X 76 29 (d, 0, 0) L (ab_R a :: st) σ Q ↔ (ab_sh σ a).1 = 11 ∧ ab_Run X 76 32 (d, 0, 0) L (ab_I (ab_rd σ a 2) :: st) σ Q := gF_10_24 ko_X10_findFrom kc_X10_findFrom dX10_findFrom_29
theorem rX10_findFrom_32 : ab_Run X 76 32 (d, 0, 0) L (ab_I b :: ab_I a :: st) σ Q ↔ (b ≤ a → ab_Run X 76 123 (d, 0, 0) L st σ Q) ∧ (¬ (b ≤ a) → ab_Run X 76 35 (d, 0, 0) L st σ Q) := ab_r_icmp_ge rfl kc_X10_findFrom dX10_findFrom_32
theorem rX10_findFrom_35 : ab_Run X 76 35 (d, 0, 0) [ab_R z, l1, l2, l3] st σ Q ↔ z ≠ 0 ∧ ab_Run X 76 36 (d, 0, 0) [ab_R z, l1, l2, l3] (ab_R z :: st) σ Q := ab_r_aload_n rfl kc_X10_findFrom dX10_findFrom_35
theorem rX10_findFrom_36 : ab_Run X 76 36 (d, 0, 0) [l0, l1, ab_I z, l3] st σ Q ↔ ab_Run X 76 37 (d, 0, 0) [l0, l1, ab_I z, l3] (ab_I z :: st) σ Q := ab_r_iload_n rfl kc_X10_findFrom dX10_findFrom_36
theorem rX10_findFrom_37 : ab_Run X 76 37 (d, 0, 0) [l0, ab_I z, l2, l3] st σ Q ↔ ab_Run X 76 38 (d, 0, 0) [l0, ab_I z, l2, l3] (ab_I z :: st) σ Q := ab_r_iload_n rfl kc_X10_findFrom dX10_findFrom_37
theorem rX10_findFrom_38 (h : (0, 0, 0).1 + 1 ≤ d) : ab_Run X 76 38 (d, 0, 0) L (ab_I x2 :: ab_I x1 :: ab_R a :: st) σ Q ↔ ((ab_sh σ a).1 = 11 ∧ ab_cats st ≤ 8) ∧ ab_Do X 77 [ab_R a, ab_I x1, ab_I x2] σ (fun r σ' => ab_Run X 76 41 (d, 0, 0) L (ab_psh r st) σ' Q) := ab_r_callV (w := [ab_I x2, ab_I x1]) (as := [ab_I x1, ab_I x2]) (b1 := (0, 0, 0)) 0 (Or.inl rfl) (by decide) ko_X10_findFrom qM_10_39 (by decide) rfl rfl rfl rfl rfl ⟨h, Nat.le_refl _, Nat.le_refl _⟩ (Nat.le_of_ble_eq_true rfl) kc_X10_findFrom dX10_findFrom_38
theorem rX10_findFrom_41 : ab_Run X 76 41 (d, 0, 0) L (ab_I a :: st) σ Q ↔ (a = 0 → ab_Run X 76 117 (d, 0, 0) L st σ Q) ∧ (¬ (a = 0) → ab_Run X 76 44 (d, 0, 0) L st σ Q) := ab_r_if_eq rfl kc_X10_findFrom dX10_findFrom_41
theorem rX10_findFrom_44 : ab_Run X 76 44 (d, 0, 0) [ab_R z, l1, l2, l3] st σ Q ↔ z ≠ 0 ∧ ab_Run X 76 45 (d, 0, 0) [ab_R z, l1, l2, l3] (ab_R z :: st) σ Q := ab_r_aload_n rfl kc_X10_findFrom dX10_findFrom_44
theorem rX10_findFrom_45 : ab_Run X 76 45 (d, 0, 0) [l0, l1, l2, ab_I z] st σ Q ↔ ab_Run X 76 46 (d, 0, 0) [l0, l1, l2, ab_I z] (ab_I z :: st) σ Q := ab_r_iload_n rfl kc_X10_findFrom dX10_findFrom_45
theorem rX10_findFrom_46 : ab_Run X 76 46 (d, 0, 0) [l0, ab_I z, l2, l3] st σ Q ↔ ab_Run X 76 47 (d, 0, 0) [l0, ab_I z, l2, l3] (ab_I z :: st) σ Q := ab_r_iload_n rfl kc_X10_findFrom dX10_findFrom_46
theorem rX10_findFrom_47 (h : (0, 0, 0).1 + 1 ≤ d) : ab_Run X 76 47 (d, 0, 0) L (ab_I x2 :: ab_I x1 :: ab_R a :: st) σ Q ↔ ((ab_sh σ a).1 = 11 ∧ ab_cats st ≤ 8) ∧ ab_Do X 77 [ab_R a, ab_I x1, ab_I x2] σ (fun r σ' => ab_Run X 76 50 (d, 0, 0) L (ab_psh r st) σ' Q) := ab_r_callV (w := [ab_I x2, ab_I x1]) (as := [ab_I x1, ab_I x2]) (b1 := (0, 0, 0)) 0 (Or.inl rfl) (by decide) ko_X10_findFrom qM_10_39 (by decide) rfl rfl rfl rfl rfl ⟨h, Nat.le_refl _, Nat.le_refl _⟩ (Nat.le_of_ble_eq_true rfl) kc_X10_findFrom dX10_findFrom_47
theorem rX10_findFrom_50 : ab_Run X 76 50 (d, 0, 0) L (ab_I a :: st) σ Q ↔ (a = 0 → ab_Run X 76 117 (d, 0, 0) L st σ Q) ∧ (¬ (a = 0) → ab_Run X 76 53 (d, 0, 0) L st σ Q) := ab_r_if_eq rfl kc_X10_findFrom dX10_findFrom_50
theorem rX10_findFrom_53 : ab_Run X 76 53 (d, 0, 0) [ab_R z, l1, l2, l3] st σ Q ↔ z ≠ 0 ∧ ab_Run X 76 54 (d, 0, 0) [ab_R z, l1, l2, l3] (ab_R z :: st) σ Q := ab_r_aload_n rfl kc_X10_findFrom dX10_findFrom_53
theorem rX10_findFrom_54 : ab_Run X 76 54 (d, 0, 0) L (ab_R a :: st) σ Q ↔ (ab_sh σ a).1 = 11 ∧ ab_Run X 76 57 (d, 0, 0) L (ab_R (ab_rd σ a 0) :: st) σ Q := gF_10_9 ko_X10_findFrom kc_X10_findFrom dX10_findFrom_54
theorem rX10_findFrom_57 : ab_Run X 76 57 (d, 0, 0) [l0, ab_I z, l2, l3] st σ Q ↔ ab_Run X 76 58 (d, 0, 0) [l0, ab_I z, l2, l3] (ab_I z :: st) σ Q := ab_r_iload_n rfl kc_X10_findFrom dX10_findFrom_57
theorem rX10_findFrom_58 : ab_Run X 76 58 (d, 0, 0) L st σ Q ↔ ab_Run X 76 60 (d, 0, 0) L (ab_I 10 :: st) σ Q := ab_r_bipush (by decide) kc_X10_findFrom dX10_findFrom_58
theorem rX10_findFrom_60 : ab_Run X 76 60 (d, 0, 0) [l0, l1, ab_I z, l3] st σ Q ↔ ab_Run X 76 61 (d, 0, 0) [l0, l1, ab_I z, l3] (ab_I z :: st) σ Q := ab_r_iload_n rfl kc_X10_findFrom dX10_findFrom_60
theorem rX10_findFrom_61 : ab_Run X 76 61 (d, 0, 0) L (ab_I b :: ab_I a :: st) σ Q ↔ ab_Run X 76 62 (d, 0, 0) L (ab_I (ab_w32 (a * b)) :: st) σ Q := ab_r_imul kc_X10_findFrom dX10_findFrom_61
theorem rX10_findFrom_62 : ab_Run X 76 62 (d, 0, 0) [l0, l1, l2, ab_I z] st σ Q ↔ ab_Run X 76 63 (d, 0, 0) [l0, l1, l2, ab_I z] (ab_I z :: st) σ Q := ab_r_iload_n rfl kc_X10_findFrom dX10_findFrom_62
theorem rX10_findFrom_63 : ab_Run X 76 63 (d, 0, 0) L (ab_I b :: ab_I a :: st) σ Q ↔ ab_Run X 76 64 (d, 0, 0) L (ab_I (ab_w32 (a + b)) :: st) σ Q := ab_r_iadd kc_X10_findFrom dX10_findFrom_63
theorem rX10_findFrom_64 : ab_Run X 76 64 (d, 0, 0) L (ab_I v :: ab_I i :: ab_R a :: st) σ Q ↔ ((ab_sh σ a).1 = 21 ∧ 0 ≤ i ∧ i < (ab_sh σ a).2) ∧ ab_Run X 76 65 (d, 0, 0) L st (ab_wr σ a i v) Q := ab_r_iastore kc_X10_findFrom dX10_findFrom_64
theorem rX10_findFrom_65 : ab_Run X 76 65 (d, 0, 0) [ab_R z, l1, l2, l3] st σ Q ↔ z ≠ 0 ∧ ab_Run X 76 66 (d, 0, 0) [ab_R z, l1, l2, l3] (ab_R z :: st) σ Q := ab_r_aload_n rfl kc_X10_findFrom dX10_findFrom_65
theorem rX10_findFrom_66 : ab_Run X 76 66 (d, 0, 0) L (ab_R a :: st) σ Q ↔ (ab_sh σ a).1 = 11 ∧ ab_Run X 76 69 (d, 0, 0) L (ab_R (ab_rd σ a 1) :: st) σ Q := gF_10_15 ko_X10_findFrom kc_X10_findFrom dX10_findFrom_66
theorem rX10_findFrom_69 : ab_Run X 76 69 (d, 0, 0) [l0, l1, ab_I z, l3] st σ Q ↔ ab_Run X 76 70 (d, 0, 0) [l0, l1, ab_I z, l3] (ab_I z :: st) σ Q := ab_r_iload_n rfl kc_X10_findFrom dX10_findFrom_69
theorem rX10_findFrom_70 : ab_Run X 76 70 (d, 0, 0) L (ab_I b :: ab_R a :: st) σ Q ↔ ab_Run X 76 71 (d, 0, 0) L (ab_I b :: ab_R a :: ab_I b :: ab_R a :: st) σ Q := ab_r_dup2 kc_X10_findFrom dX10_findFrom_70
theorem rX10_findFrom_71 : ab_Run X 76 71 (d, 0, 0) L (ab_I i :: ab_R a :: st) σ Q ↔ ((ab_sh σ a).1 = 21 ∧ 0 ≤ i ∧ i < (ab_sh σ a).2) ∧ ab_Run X 76 72 (d, 0, 0) L (ab_I (ab_rd σ a i) :: st) σ Q := ab_r_iaload (by decide) kc_X10_findFrom dX10_findFrom_71
theorem rX10_findFrom_72 : ab_Run X 76 72 (d, 0, 0) L st σ Q ↔ ab_Run X 76 73 (d, 0, 0) L (ab_I 1 :: st) σ Q := ab_r_iconst (by decide) kc_X10_findFrom dX10_findFrom_72
theorem rX10_findFrom_73 : ab_Run X 76 73 (d, 0, 0) L (ab_I b :: ab_I a :: st) σ Q ↔ ab_Run X 76 74 (d, 0, 0) L (ab_I (ab_w32 (a + b)) :: st) σ Q := ab_r_iadd kc_X10_findFrom dX10_findFrom_73
theorem rX10_findFrom_74 : ab_Run X 76 74 (d, 0, 0) L (ab_I v :: ab_I i :: ab_R a :: st) σ Q ↔ ((ab_sh σ a).1 = 21 ∧ 0 ≤ i ∧ i < (ab_sh σ a).2) ∧ ab_Run X 76 75 (d, 0, 0) L st (ab_wr σ a i v) Q := ab_r_iastore kc_X10_findFrom dX10_findFrom_74
theorem rX10_findFrom_75 : ab_Run X 76 75 (d, 0, 0) [ab_R z, l1, l2, l3] st σ Q ↔ z ≠ 0 ∧ ab_Run X 76 76 (d, 0, 0) [ab_R z, l1, l2, l3] (ab_R z :: st) σ Q := ab_r_aload_n rfl kc_X10_findFrom dX10_findFrom_75
theorem rX10_findFrom_76 : ab_Run X 76 76 (d, 0, 0) L (ab_R a :: st) σ Q ↔ (ab_sh σ a).1 = 11 ∧ ab_Run X 76 79 (d, 0, 0) L (ab_R (ab_rd σ a 1) :: st) σ Q := gF_10_15 ko_X10_findFrom kc_X10_findFrom dX10_findFrom_76
theorem rX10_findFrom_79 : ab_Run X 76 79 (d, 0, 0) [l0, l1, l2, ab_I z] st σ Q ↔ ab_Run X 76 80 (d, 0, 0) [l0, l1, l2, ab_I z] (ab_I z :: st) σ Q := ab_r_iload_n rfl kc_X10_findFrom dX10_findFrom_79
theorem rX10_findFrom_80 : ab_Run X 76 80 (d, 0, 0) L (ab_I b :: ab_R a :: st) σ Q ↔ ab_Run X 76 81 (d, 0, 0) L (ab_I b :: ab_R a :: ab_I b :: ab_R a :: st) σ Q := ab_r_dup2 kc_X10_findFrom dX10_findFrom_80
theorem rX10_findFrom_81 : ab_Run X 76 81 (d, 0, 0) L (ab_I i :: ab_R a :: st) σ Q ↔ ((ab_sh σ a).1 = 21 ∧ 0 ≤ i ∧ i < (ab_sh σ a).2) ∧ ab_Run X 76 82 (d, 0, 0) L (ab_I (ab_rd σ a i) :: st) σ Q := ab_r_iaload (by decide) kc_X10_findFrom dX10_findFrom_81
theorem rX10_findFrom_82 : ab_Run X 76 82 (d, 0, 0) L st σ Q ↔ ab_Run X 76 83 (d, 0, 0) L (ab_I 1 :: st) σ Q := ab_r_iconst (by decide) kc_X10_findFrom dX10_findFrom_82
theorem rX10_findFrom_83 : ab_Run X 76 83 (d, 0, 0) L (ab_I b :: ab_I a :: st) σ Q ↔ ab_Run X 76 84 (d, 0, 0) L (ab_I (ab_w32 (a + b)) :: st) σ Q := ab_r_iadd kc_X10_findFrom dX10_findFrom_83
theorem rX10_findFrom_84 : ab_Run X 76 84 (d, 0, 0) L (ab_I v :: ab_I i :: ab_R a :: st) σ Q ↔ ((ab_sh σ a).1 = 21 ∧ 0 ≤ i ∧ i < (ab_sh σ a).2) ∧ ab_Run X 76 85 (d, 0, 0) L st (ab_wr σ a i v) Q := ab_r_iastore kc_X10_findFrom dX10_findFrom_84
theorem rX10_findFrom_85 : ab_Run X 76 85 (d, 0, 0) [ab_R z, l1, l2, l3] st σ Q ↔ z ≠ 0 ∧ ab_Run X 76 86 (d, 0, 0) [ab_R z, l1, l2, l3] (ab_R z :: st) σ Q := ab_r_aload_n rfl kc_X10_findFrom dX10_findFrom_85
theorem rX10_findFrom_86 : ab_Run X 76 86 (d, 0, 0) [l0, ab_I z, l2, l3] st σ Q ↔ ab_Run X 76 87 (d, 0, 0) [l0, ab_I z, l2, l3] (ab_I z :: st) σ Q := ab_r_iload_n rfl kc_X10_findFrom dX10_findFrom_86
theorem rX10_findFrom_87 : ab_Run X 76 87 (d, 0, 0) L st σ Q ↔ ab_Run X 76 88 (d, 0, 0) L (ab_I 1 :: st) σ Q := ab_r_iconst (by decide) kc_X10_findFrom dX10_findFrom_87
theorem rX10_findFrom_88 : ab_Run X 76 88 (d, 0, 0) L (ab_I b :: ab_I a :: st) σ Q ↔ ab_Run X 76 89 (d, 0, 0) L (ab_I (ab_w32 (a + b)) :: st) σ Q := ab_r_iadd kc_X10_findFrom dX10_findFrom_88
theorem rX10_findFrom_89 (h : (2 + (9 - x1).toNat, 0, 0).1 + 1 ≤ d) : ab_Run X 76 89 (d, 0, 0) L (ab_I x1 :: ab_R a :: st) σ Q ↔ ((ab_sh σ a).1 = 11 ∧ ab_cats st ≤ 8) ∧ ab_Do X 76 [ab_R a, ab_I x1] σ (fun r σ' => ab_Run X 76 92 (d, 0, 0) L (ab_psh r st) σ' Q) := ab_r_callV (w := [ab_I x1]) (as := [ab_I x1]) (b1 := (2 + (9 - x1).toNat, 0, 0)) 0 (Or.inl rfl) (by decide) ko_X10_findFrom qM_10_31 (by decide) rfl rfl rfl rfl rfl ⟨h, Nat.le_refl _, Nat.le_refl _⟩ (Nat.le_of_ble_eq_true rfl) kc_X10_findFrom dX10_findFrom_89
theorem rX10_findFrom_92 : ab_Run X 76 92 (d, 0, 0) L (ab_I a :: st) σ Q ↔ (a = 0 → ab_Run X 76 97 (d, 0, 0) L st σ Q) ∧ (¬ (a = 0) → ab_Run X 76 95 (d, 0, 0) L st σ Q) := ab_r_if_eq rfl kc_X10_findFrom dX10_findFrom_92
theorem rX10_findFrom_95 : ab_Run X 76 95 (d, 0, 0) L st σ Q ↔ ab_Run X 76 96 (d, 0, 0) L (ab_I 1 :: st) σ Q := ab_r_iconst (by decide) kc_X10_findFrom dX10_findFrom_95
theorem rX10_findFrom_96 : ab_Run X 76 96 (d, 0, 0) L [ab_I v] σ Q ↔ (v = 0 ∨ v = 1) ∧ Q (some (ab_I v)) σ := ab_r_ireturnZ rfl kc_X10_findFrom dX10_findFrom_96
theorem rX10_findFrom_97 : ab_Run X 76 97 (d, 0, 0) [ab_R z, l1, l2, l3] st σ Q ↔ z ≠ 0 ∧ ab_Run X 76 98 (d, 0, 0) [ab_R z, l1, l2, l3] (ab_R z :: st) σ Q := ab_r_aload_n rfl kc_X10_findFrom dX10_findFrom_97
theorem rX10_findFrom_98 : ab_Run X 76 98 (d, 0, 0) L (ab_R a :: st) σ Q ↔ (ab_sh σ a).1 = 11 ∧ ab_Run X 76 101 (d, 0, 0) L (ab_R (ab_rd σ a 1) :: st) σ Q := gF_10_15 ko_X10_findFrom kc_X10_findFrom dX10_findFrom_98
theorem rX10_findFrom_101 : ab_Run X 76 101 (d, 0, 0) [l0, l1, ab_I z, l3] st σ Q ↔ ab_Run X 76 102 (d, 0, 0) [l0, l1, ab_I z, l3] (ab_I z :: st) σ Q := ab_r_iload_n rfl kc_X10_findFrom dX10_findFrom_101
theorem rX10_findFrom_102 : ab_Run X 76 102 (d, 0, 0) L (ab_I b :: ab_R a :: st) σ Q ↔ ab_Run X 76 103 (d, 0, 0) L (ab_I b :: ab_R a :: ab_I b :: ab_R a :: st) σ Q := ab_r_dup2 kc_X10_findFrom dX10_findFrom_102
theorem rX10_findFrom_103 : ab_Run X 76 103 (d, 0, 0) L (ab_I i :: ab_R a :: st) σ Q ↔ ((ab_sh σ a).1 = 21 ∧ 0 ≤ i ∧ i < (ab_sh σ a).2) ∧ ab_Run X 76 104 (d, 0, 0) L (ab_I (ab_rd σ a i) :: st) σ Q := ab_r_iaload (by decide) kc_X10_findFrom dX10_findFrom_103
theorem rX10_findFrom_104 : ab_Run X 76 104 (d, 0, 0) L st σ Q ↔ ab_Run X 76 105 (d, 0, 0) L (ab_I 1 :: st) σ Q := ab_r_iconst (by decide) kc_X10_findFrom dX10_findFrom_104
theorem rX10_findFrom_105 : ab_Run X 76 105 (d, 0, 0) L (ab_I b :: ab_I a :: st) σ Q ↔ ab_Run X 76 106 (d, 0, 0) L (ab_I (ab_w32 (a - b)) :: st) σ Q := ab_r_isub kc_X10_findFrom dX10_findFrom_105
theorem rX10_findFrom_106 : ab_Run X 76 106 (d, 0, 0) L (ab_I v :: ab_I i :: ab_R a :: st) σ Q ↔ ((ab_sh σ a).1 = 21 ∧ 0 ≤ i ∧ i < (ab_sh σ a).2) ∧ ab_Run X 76 107 (d, 0, 0) L st (ab_wr σ a i v) Q := ab_r_iastore kc_X10_findFrom dX10_findFrom_106
theorem rX10_findFrom_107 : ab_Run X 76 107 (d, 0, 0) [ab_R z, l1, l2, l3] st σ Q ↔ z ≠ 0 ∧ ab_Run X 76 108 (d, 0, 0) [ab_R z, l1, l2, l3] (ab_R z :: st) σ Q := ab_r_aload_n rfl kc_X10_findFrom dX10_findFrom_107
theorem rX10_findFrom_108 : ab_Run X 76 108 (d, 0, 0) L (ab_R a :: st) σ Q ↔ (ab_sh σ a).1 = 11 ∧ ab_Run X 76 111 (d, 0, 0) L (ab_R (ab_rd σ a 1) :: st) σ Q := gF_10_15 ko_X10_findFrom kc_X10_findFrom dX10_findFrom_108
theorem rX10_findFrom_111 : ab_Run X 76 111 (d, 0, 0) [l0, l1, l2, ab_I z] st σ Q ↔ ab_Run X 76 112 (d, 0, 0) [l0, l1, l2, ab_I z] (ab_I z :: st) σ Q := ab_r_iload_n rfl kc_X10_findFrom dX10_findFrom_111
theorem rX10_findFrom_112 : ab_Run X 76 112 (d, 0, 0) L (ab_I b :: ab_R a :: st) σ Q ↔ ab_Run X 76 113 (d, 0, 0) L (ab_I b :: ab_R a :: ab_I b :: ab_R a :: st) σ Q := ab_r_dup2 kc_X10_findFrom dX10_findFrom_112
theorem rX10_findFrom_113 : ab_Run X 76 113 (d, 0, 0) L (ab_I i :: ab_R a :: st) σ Q ↔ ((ab_sh σ a).1 = 21 ∧ 0 ≤ i ∧ i < (ab_sh σ a).2) ∧ ab_Run X 76 114 (d, 0, 0) L (ab_I (ab_rd σ a i) :: st) σ Q := ab_r_iaload (by decide) kc_X10_findFrom dX10_findFrom_113
theorem rX10_findFrom_114 : ab_Run X 76 114 (d, 0, 0) L st σ Q ↔ ab_Run X 76 115 (d, 0, 0) L (ab_I 1 :: st) σ Q := ab_r_iconst (by decide) kc_X10_findFrom dX10_findFrom_114
theorem rX10_findFrom_115 : ab_Run X 76 115 (d, 0, 0) L (ab_I b :: ab_I a :: st) σ Q ↔ ab_Run X 76 116 (d, 0, 0) L (ab_I (ab_w32 (a - b)) :: st) σ Q := ab_r_isub kc_X10_findFrom dX10_findFrom_115
theorem rX10_findFrom_116 : ab_Run X 76 116 (d, 0, 0) L (ab_I v :: ab_I i :: ab_R a :: st) σ Q ↔ ((ab_sh σ a).1 = 21 ∧ 0 ≤ i ∧ i < (ab_sh σ a).2) ∧ ab_Run X 76 117 (d, 0, 0) L st (ab_wr σ a i v) Q := ab_r_iastore kc_X10_findFrom dX10_findFrom_116
theorem rX10_findFrom_117 : ab_Run X 76 117 (d, 0, 0) [l0, l1, l2, ab_I z] st σ Q ↔ (!ab_isJ l2) = true ∧ ab_Run X 76 120 (d, 0, 0) [l0, l1, l2, ab_I (ab_w32 (z + 1))] st σ Q := ab_r_iinc rfl (by decide) kc_X10_findFrom dX10_findFrom_117
theorem rX10_findFrom_120 : ab_Run X 76 120 (d, 0, 0) L st σ Q ↔ ab_Run X 76 27 (d, 0, 0) L st σ Q := ab_r_goto rfl kc_X10_findFrom dX10_findFrom_120
theorem rX10_findFrom_123 : ab_Run X 76 123 (d, 0, 0) [l0, l1, ab_I z, l3] st σ Q ↔ (!ab_isJ l1) = true ∧ ab_Run X 76 126 (d, 0, 0) [l0, l1, ab_I (ab_w32 (z + 1)), l3] st σ Q := ab_r_iinc rfl (by decide) kc_X10_findFrom dX10_findFrom_123
theorem rX10_findFrom_126 : ab_Run X 76 126 (d, 0, 0) L st σ Q ↔ ab_Run X 76 15 (d, 0, 0) L st σ Q := ab_r_goto rfl kc_X10_findFrom dX10_findFrom_126
theorem rX10_findFrom_129 : ab_Run X 76 129 (d, 0, 0) L st σ Q ↔ ab_Run X 76 130 (d, 0, 0) L (ab_I 0 :: st) σ Q := ab_r_iconst (by decide) kc_X10_findFrom dX10_findFrom_129
theorem rX10_findFrom_130 : ab_Run X 76 130 (d, 0, 0) L [ab_I v] σ Q ↔ (v = 0 ∨ v = 1) ∧ Q (some (ab_I v)) σ := ab_r_ireturnZ rfl kc_X10_findFrom dX10_findFrom_130
theorem kc_X10_mayPull : ab_code 77 = cX10_mayPull := rfl
theorem ko_X10_mayPull : ab_ow 77 = 10 := rfl
theorem rX10_mayPull_0 : ab_Run X 77 0 (0, 0, 0) [ab_R z, l1, l2] st σ Q ↔ z ≠ 0 ∧ ab_Run X 77 1 (0, 0, 0) [ab_R z, l1, l2] (ab_R z :: st) σ Q := ab_r_aload_n rfl kc_X10_mayPull dX10_mayPull_0
theorem rX10_mayPull_1 : ab_Run X 77 1 (0, 0, 0) L (ab_R a :: st) σ Q ↔ (ab_sh σ a).1 = 11 ∧ ab_Run X 77 4 (0, 0, 0) L (ab_R (ab_rd σ a 1) :: st) σ Q := gF_10_15 ko_X10_mayPull kc_X10_mayPull dX10_mayPull_1
theorem rX10_mayPull_4 : ab_Run X 77 4 (0, 0, 0) [l0, ab_I z, l2] st σ Q ↔ ab_Run X 77 5 (0, 0, 0) [l0, ab_I z, l2] (ab_I z :: st) σ Q := ab_r_iload_n rfl kc_X10_mayPull dX10_mayPull_4
theorem rX10_mayPull_5 : ab_Run X 77 5 (0, 0, 0) L (ab_I i :: ab_R a :: st) σ Q ↔ ((ab_sh σ a).1 = 21 ∧ 0 ≤ i ∧ i < (ab_sh σ a).2) ∧ ab_Run X 77 6 (0, 0, 0) L (ab_I (ab_rd σ a i) :: st) σ Q := ab_r_iaload (by decide) kc_X10_mayPull dX10_mayPull_5
theorem rX10_mayPull_6 : ab_Run X 77 6 (0, 0, 0) [ab_R z, l1, l2] st σ Q ↔ z ≠ 0 ∧ ab_Run X 77 7 (0, 0, 0) [ab_R z, l1, l2] (ab_R z :: st) σ Q := ab_r_aload_n rfl kc_X10_mayPull dX10_mayPull_6
theorem rX10_mayPull_7 : ab_Run X 77 7 (0, 0, 0) L (ab_R a :: st) σ Q ↔ (ab_sh σ a).1 = 11 ∧ ab_Run X 77 10 (0, 0, 0) L (ab_I (ab_rd σ a 2) :: st) σ Q := gF_10_24 ko_X10_mayPull kc_X10_mayPull dX10_mayPull_7
theorem rX10_mayPull_10 : ab_Run X 77 10 (0, 0, 0) L (ab_I b :: ab_I a :: st) σ Q ↔ ab_Run X 77 11 (0, 0, 0) L (ab_I (ab_w32 (a * b)) :: st) σ Q := ab_r_imul kc_X10_mayPull dX10_mayPull_10
theorem rX10_mayPull_11 : ab_Run X 77 11 (0, 0, 0) L st σ Q ↔ ab_Run X 77 12 (0, 0, 0) L (ab_I 2 :: st) σ Q := ab_r_iconst (by decide) kc_X10_mayPull dX10_mayPull_11
theorem rX10_mayPull_12 : ab_Run X 77 12 (0, 0, 0) [ab_R z, l1, l2] st σ Q ↔ z ≠ 0 ∧ ab_Run X 77 13 (0, 0, 0) [ab_R z, l1, l2] (ab_R z :: st) σ Q := ab_r_aload_n rfl kc_X10_mayPull dX10_mayPull_12
theorem rX10_mayPull_13 : ab_Run X 77 13 (0, 0, 0) L (ab_R a :: st) σ Q ↔ (ab_sh σ a).1 = 11 ∧ ab_Run X 77 16 (0, 0, 0) L (ab_I (ab_rd σ a 3) :: st) σ Q := gF_10_28 ko_X10_mayPull kc_X10_mayPull dX10_mayPull_13
theorem rX10_mayPull_16 : ab_Run X 77 16 (0, 0, 0) L (ab_I b :: ab_I a :: st) σ Q ↔ ab_Run X 77 17 (0, 0, 0) L (ab_I (ab_w32 (a * b)) :: st) σ Q := ab_r_imul kc_X10_mayPull dX10_mayPull_16
theorem rX10_mayPull_17 : ab_Run X 77 17 (0, 0, 0) L (ab_I b :: ab_I a :: st) σ Q ↔ (a < b → ab_Run X 77 22 (0, 0, 0) L st σ Q) ∧ (¬ (a < b) → ab_Run X 77 20 (0, 0, 0) L st σ Q) := ab_r_icmp_lt rfl kc_X10_mayPull dX10_mayPull_17
theorem rX10_mayPull_20 : ab_Run X 77 20 (0, 0, 0) L st σ Q ↔ ab_Run X 77 21 (0, 0, 0) L (ab_I 0 :: st) σ Q := ab_r_iconst (by decide) kc_X10_mayPull dX10_mayPull_20
theorem rX10_mayPull_21 : ab_Run X 77 21 (0, 0, 0) L [ab_I v] σ Q ↔ (v = 0 ∨ v = 1) ∧ Q (some (ab_I v)) σ := ab_r_ireturnZ rfl kc_X10_mayPull dX10_mayPull_21
theorem rX10_mayPull_22 : ab_Run X 77 22 (0, 0, 0) [l0, l1, ab_I z] st σ Q ↔ ab_Run X 77 23 (0, 0, 0) [l0, l1, ab_I z] (ab_I z :: st) σ Q := ab_r_iload_n rfl kc_X10_mayPull dX10_mayPull_22
theorem rX10_mayPull_23 : ab_Run X 77 23 (0, 0, 0) L (ab_I a :: st) σ Q ↔ (a = 0 → ab_Run X 77 56 (0, 0, 0) L st σ Q) ∧ (¬ (a = 0) → ab_Run X 77 26 (0, 0, 0) L st σ Q) := ab_r_if_eq rfl kc_X10_mayPull dX10_mayPull_23
theorem rX10_mayPull_26 : ab_Run X 77 26 (0, 0, 0) [ab_R z, l1, l2] st σ Q ↔ z ≠ 0 ∧ ab_Run X 77 27 (0, 0, 0) [ab_R z, l1, l2] (ab_R z :: st) σ Q := ab_r_aload_n rfl kc_X10_mayPull dX10_mayPull_26
theorem rX10_mayPull_27 : ab_Run X 77 27 (0, 0, 0) L (ab_R a :: st) σ Q ↔ (ab_sh σ a).1 = 11 ∧ ab_Run X 77 30 (0, 0, 0) L (ab_R (ab_rd σ a 0) :: st) σ Q := gF_10_9 ko_X10_mayPull kc_X10_mayPull dX10_mayPull_27
theorem rX10_mayPull_30 : ab_Run X 77 30 (0, 0, 0) [l0, l1, ab_I z] st σ Q ↔ ab_Run X 77 31 (0, 0, 0) [l0, l1, ab_I z] (ab_I z :: st) σ Q := ab_r_iload_n rfl kc_X10_mayPull dX10_mayPull_30
theorem rX10_mayPull_31 : ab_Run X 77 31 (0, 0, 0) L st σ Q ↔ ab_Run X 77 32 (0, 0, 0) L (ab_I 1 :: st) σ Q := ab_r_iconst (by decide) kc_X10_mayPull dX10_mayPull_31
theorem rX10_mayPull_32 : ab_Run X 77 32 (0, 0, 0) L (ab_I b :: ab_I a :: st) σ Q ↔ ab_Run X 77 33 (0, 0, 0) L (ab_I (ab_w32 (a - b)) :: st) σ Q := ab_r_isub kc_X10_mayPull dX10_mayPull_32
theorem rX10_mayPull_33 : ab_Run X 77 33 (0, 0, 0) L (ab_I i :: ab_R a :: st) σ Q ↔ ((ab_sh σ a).1 = 21 ∧ 0 ≤ i ∧ i < (ab_sh σ a).2) ∧ ab_Run X 77 34 (0, 0, 0) L (ab_I (ab_rd σ a i) :: st) σ Q := ab_r_iaload (by decide) kc_X10_mayPull dX10_mayPull_33
theorem rX10_mayPull_34 : ab_Run X 77 34 (0, 0, 0) L st σ Q ↔ ab_Run X 77 36 (0, 0, 0) L (ab_I 10 :: st) σ Q := ab_r_bipush (by decide) kc_X10_mayPull dX10_mayPull_34
theorem rX10_mayPull_36 : ab_Run X 77 36 (0, 0, 0) L (ab_I b :: ab_I a :: st) σ Q ↔ b ≠ 0 ∧ ab_Run X 77 37 (0, 0, 0) L (ab_I (ab_w32 (a.tdiv b)) :: st) σ Q := ab_r_idiv kc_X10_mayPull dX10_mayPull_36
theorem rX10_mayPull_37 : ab_Run X 77 37 (0, 0, 0) [l0, ab_I z, l2] st σ Q ↔ ab_Run X 77 38 (0, 0, 0) [l0, ab_I z, l2] (ab_I z :: st) σ Q := ab_r_iload_n rfl kc_X10_mayPull dX10_mayPull_37
theorem rX10_mayPull_38 : ab_Run X 77 38 (0, 0, 0) L (ab_I b :: ab_I a :: st) σ Q ↔ (a = b → ab_Run X 77 60 (0, 0, 0) L st σ Q) ∧ (¬ (a = b) → ab_Run X 77 41 (0, 0, 0) L st σ Q) := ab_r_icmp_eq rfl kc_X10_mayPull dX10_mayPull_38
theorem rX10_mayPull_41 : ab_Run X 77 41 (0, 0, 0) [ab_R z, l1, l2] st σ Q ↔ z ≠ 0 ∧ ab_Run X 77 42 (0, 0, 0) [ab_R z, l1, l2] (ab_R z :: st) σ Q := ab_r_aload_n rfl kc_X10_mayPull dX10_mayPull_41
theorem rX10_mayPull_42 : ab_Run X 77 42 (0, 0, 0) L (ab_R a :: st) σ Q ↔ (ab_sh σ a).1 = 11 ∧ ab_Run X 77 45 (0, 0, 0) L (ab_R (ab_rd σ a 0) :: st) σ Q := gF_10_9 ko_X10_mayPull kc_X10_mayPull dX10_mayPull_42
theorem rX10_mayPull_45 : ab_Run X 77 45 (0, 0, 0) [l0, l1, ab_I z] st σ Q ↔ ab_Run X 77 46 (0, 0, 0) [l0, l1, ab_I z] (ab_I z :: st) σ Q := ab_r_iload_n rfl kc_X10_mayPull dX10_mayPull_45
theorem rX10_mayPull_46 : ab_Run X 77 46 (0, 0, 0) L st σ Q ↔ ab_Run X 77 47 (0, 0, 0) L (ab_I 1 :: st) σ Q := ab_r_iconst (by decide) kc_X10_mayPull dX10_mayPull_46
theorem rX10_mayPull_47 : ab_Run X 77 47 (0, 0, 0) L (ab_I b :: ab_I a :: st) σ Q ↔ ab_Run X 77 48 (0, 0, 0) L (ab_I (ab_w32 (a - b)) :: st) σ Q := ab_r_isub kc_X10_mayPull dX10_mayPull_47
theorem rX10_mayPull_48 : ab_Run X 77 48 (0, 0, 0) L (ab_I i :: ab_R a :: st) σ Q ↔ ((ab_sh σ a).1 = 21 ∧ 0 ≤ i ∧ i < (ab_sh σ a).2) ∧ ab_Run X 77 49 (0, 0, 0) L (ab_I (ab_rd σ a i) :: st) σ Q := ab_r_iaload (by decide) kc_X10_mayPull dX10_mayPull_48
theorem rX10_mayPull_49 : ab_Run X 77 49 (0, 0, 0) L st σ Q ↔ ab_Run X 77 51 (0, 0, 0) L (ab_I 10 :: st) σ Q := ab_r_bipush (by decide) kc_X10_mayPull dX10_mayPull_49
theorem rX10_mayPull_51 : ab_Run X 77 51 (0, 0, 0) L (ab_I b :: ab_I a :: st) σ Q ↔ b ≠ 0 ∧ ab_Run X 77 52 (0, 0, 0) L (ab_I (a.tmod b) :: st) σ Q := ab_r_irem kc_X10_mayPull dX10_mayPull_51
theorem rX10_mayPull_52 : ab_Run X 77 52 (0, 0, 0) [l0, ab_I z, l2] st σ Q ↔ ab_Run X 77 53 (0, 0, 0) [l0, ab_I z, l2] (ab_I z :: st) σ Q := ab_r_iload_n rfl kc_X10_mayPull dX10_mayPull_52
theorem rX10_mayPull_53 : ab_Run X 77 53 (0, 0, 0) L (ab_I b :: ab_I a :: st) σ Q ↔ (a = b → ab_Run X 77 60 (0, 0, 0) L st σ Q) ∧ (¬ (a = b) → ab_Run X 77 56 (0, 0, 0) L st σ Q) := ab_r_icmp_eq rfl kc_X10_mayPull dX10_mayPull_53
theorem rX10_mayPull_56 : ab_Run X 77 56 (0, 0, 0) L st σ Q ↔ ab_Run X 77 57 (0, 0, 0) L (ab_I 1 :: st) σ Q := ab_r_iconst (by decide) kc_X10_mayPull dX10_mayPull_56
theorem rX10_mayPull_57 : ab_Run X 77 57 (0, 0, 0) L st σ Q ↔ ab_Run X 77 61 (0, 0, 0) L st σ Q := ab_r_goto rfl kc_X10_mayPull dX10_mayPull_57
theorem rX10_mayPull_60 : ab_Run X 77 60 (0, 0, 0) L st σ Q ↔ ab_Run X 77 61 (0, 0, 0) L (ab_I 0 :: st) σ Q := ab_r_iconst (by decide) kc_X10_mayPull dX10_mayPull_60
theorem rX10_mayPull_61 : ab_Run X 77 61 (0, 0, 0) L [ab_I v] σ Q ↔ (v = 0 ∨ v = 1) ∧ Q (some (ab_I v)) σ := ab_r_ireturnZ rfl kc_X10_mayPull dX10_mayPull_61
theorem kc_X10_isEven : ab_code 78 = cX10_isEven := rfl
theorem ko_X10_isEven : ab_ow 78 = 10 := rfl
theorem rX10_isEven_0 : ab_Run X 78 0 (1, 0, 0) L st σ Q ↔ ab_Run X 78 2 (1, 0, 0) L (ab_I 2147483647 :: st) σ Q := ab_r_ldc rfl ko_X10_isEven (by decide +kernel) kc_X10_isEven dX10_isEven_0
theorem rX10_isEven_2 : ab_Run X 78 2 (1, 0, 0) [l0, l1, l2, l3] (ab_I z :: st) σ Q ↔ (!ab_isJ l0) = true ∧ ab_Run X 78 3 (1, 0, 0) [l0, ab_I z, l2, l3] st σ Q := ab_r_istore_n (Nat.le_of_ble_eq_true rfl) kc_X10_isEven dX10_isEven_2
theorem rX10_isEven_3 : ab_Run X 78 3 (1, 0, 0) L st σ Q ↔ ab_Run X 78 4 (1, 0, 0) L (ab_I 0 :: st) σ Q := ab_r_iconst (by decide) kc_X10_isEven dX10_isEven_3
theorem rX10_isEven_4 : ab_Run X 78 4 (1, 0, 0) [l0, l1, l2, l3] (ab_I z :: st) σ Q ↔ (!ab_isJ l1) = true ∧ ab_Run X 78 5 (1, 0, 0) [l0, l1, ab_I z, l3] st σ Q := ab_r_istore_n (Nat.le_of_ble_eq_true rfl) kc_X10_isEven dX10_isEven_4
theorem rX10_isEven_5 : ab_Run X 78 5 (1, 0, 0) L st σ Q ↔ ab_Run X 78 6 (1, 0, 0) L (ab_I 0 :: st) σ Q := ab_r_iconst (by decide) kc_X10_isEven dX10_isEven_5
theorem rX10_isEven_6 : ab_Run X 78 6 (1, 0, 0) [l0, l1, l2, l3] (ab_I z :: st) σ Q ↔ (!ab_isJ l2) = true ∧ ab_Run X 78 7 (1, 0, 0) [l0, l1, l2, ab_I z] st σ Q := ab_r_istore_n (Nat.le_of_ble_eq_true rfl) kc_X10_isEven dX10_isEven_6
theorem rX10_isEven_7 : ab_Run X 78 7 (1, 0, 0) [l0, l1, l2, ab_I z] st σ Q ↔ ab_Run X 78 8 (1, 0, 0) [l0, l1, l2, ab_I z] (ab_I z :: st) σ Q := ab_r_iload_n rfl kc_X10_isEven dX10_isEven_7
theorem rX10_isEven_8 : ab_Run X 78 8 (1, 0, 0) [ab_R z, l1, l2, l3] st σ Q ↔ z ≠ 0 ∧ ab_Run X 78 9 (1, 0, 0) [ab_R z, l1, l2, l3] (ab_R z :: st) σ Q := ab_r_aload_n rfl kc_X10_isEven dX10_isEven_8
theorem rX10_isEven_9 : ab_Run X 78 9 (1, 0, 0) L (ab_R a :: st) σ Q ↔ (ab_sh σ a).1 = 11 ∧ ab_Run X 78 12 (1, 0, 0) L (ab_I (ab_rd σ a 2) :: st) σ Q := gF_10_24 ko_X10_isEven kc_X10_isEven dX10_isEven_9
theorem rX10_isEven_12 : ab_Run X 78 12 (1, 0, 0) L (ab_I b :: ab_I a :: st) σ Q ↔ (b ≤ a → ab_Run X 78 43 (1, 0, 0) L st σ Q) ∧ (¬ (b ≤ a) → ab_Run X 78 15 (1, 0, 0) L st σ Q) := ab_r_icmp_ge rfl kc_X10_isEven dX10_isEven_12
theorem rX10_isEven_15 : ab_Run X 78 15 (1, 0, 0) [l0, ab_I z, l2, l3] st σ Q ↔ ab_Run X 78 16 (1, 0, 0) [l0, ab_I z, l2, l3] (ab_I z :: st) σ Q := ab_r_iload_n rfl kc_X10_isEven dX10_isEven_15
theorem rX10_isEven_16 : ab_Run X 78 16 (1, 0, 0) [ab_R z, l1, l2, l3] st σ Q ↔ z ≠ 0 ∧ ab_Run X 78 17 (1, 0, 0) [ab_R z, l1, l2, l3] (ab_R z :: st) σ Q := ab_r_aload_n rfl kc_X10_isEven dX10_isEven_16
theorem rX10_isEven_17 : ab_Run X 78 17 (1, 0, 0) L (ab_R a :: st) σ Q ↔ (ab_sh σ a).1 = 11 ∧ ab_Run X 78 20 (1, 0, 0) L (ab_R (ab_rd σ a 1) :: st) σ Q := gF_10_15 ko_X10_isEven kc_X10_isEven dX10_isEven_17
theorem rX10_isEven_20 : ab_Run X 78 20 (1, 0, 0) [l0, l1, l2, ab_I z] st σ Q ↔ ab_Run X 78 21 (1, 0, 0) [l0, l1, l2, ab_I z] (ab_I z :: st) σ Q := ab_r_iload_n rfl kc_X10_isEven dX10_isEven_20
theorem rX10_isEven_21 : ab_Run X 78 21 (1, 0, 0) L (ab_I i :: ab_R a :: st) σ Q ↔ ((ab_sh σ a).1 = 21 ∧ 0 ≤ i ∧ i < (ab_sh σ a).2) ∧ ab_Run X 78 22 (1, 0, 0) L (ab_I (ab_rd σ a i) :: st) σ Q := ab_r_iaload (by decide) kc_X10_isEven dX10_isEven_21
theorem rX10_isEven_22 : ab_Run X 78 22 (1, 0, 0) L (ab_I b :: ab_I a :: st) σ Q ↔ ab_cats st ≤ 8 ∧ ab_Run X 78 25 (1, 0, 0) L (ab_I (if b < a then b else a) :: st) σ Q := ab_r_math 1005 (Or.inr ⟨rfl, rfl⟩) (by decide) ko_X10_isEven qM_10_18 (by decide) kc_X10_isEven dX10_isEven_22
theorem rX10_isEven_25 : ab_Run X 78 25 (1, 0, 0) [l0, l1, l2, l3] (ab_I z :: st) σ Q ↔ (!ab_isJ l0) = true ∧ ab_Run X 78 26 (1, 0, 0) [l0, ab_I z, l2, l3] st σ Q := ab_r_istore_n (Nat.le_of_ble_eq_true rfl) kc_X10_isEven dX10_isEven_25
theorem rX10_isEven_26 : ab_Run X 78 26 (1, 0, 0) [l0, l1, ab_I z, l3] st σ Q ↔ ab_Run X 78 27 (1, 0, 0) [l0, l1, ab_I z, l3] (ab_I z :: st) σ Q := ab_r_iload_n rfl kc_X10_isEven dX10_isEven_26
theorem rX10_isEven_27 : ab_Run X 78 27 (1, 0, 0) [ab_R z, l1, l2, l3] st σ Q ↔ z ≠ 0 ∧ ab_Run X 78 28 (1, 0, 0) [ab_R z, l1, l2, l3] (ab_R z :: st) σ Q := ab_r_aload_n rfl kc_X10_isEven dX10_isEven_27
theorem rX10_isEven_28 : ab_Run X 78 28 (1, 0, 0) L (ab_R a :: st) σ Q ↔ (ab_sh σ a).1 = 11 ∧ ab_Run X 78 31 (1, 0, 0) L (ab_R (ab_rd σ a 1) :: st) σ Q := gF_10_15 ko_X10_isEven kc_X10_isEven dX10_isEven_28
theorem rX10_isEven_31 : ab_Run X 78 31 (1, 0, 0) [l0, l1, l2, ab_I z] st σ Q ↔ ab_Run X 78 32 (1, 0, 0) [l0, l1, l2, ab_I z] (ab_I z :: st) σ Q := ab_r_iload_n rfl kc_X10_isEven dX10_isEven_31
theorem rX10_isEven_32 : ab_Run X 78 32 (1, 0, 0) L (ab_I i :: ab_R a :: st) σ Q ↔ ((ab_sh σ a).1 = 21 ∧ 0 ≤ i ∧ i < (ab_sh σ a).2) ∧ ab_Run X 78 33 (1, 0, 0) L (ab_I (ab_rd σ a i) :: st) σ Q := ab_r_iaload (by decide) kc_X10_isEven dX10_isEven_32
theorem rX10_isEven_33 : ab_Run X 78 33 (1, 0, 0) L (ab_I b :: ab_I a :: st) σ Q ↔ ab_cats st ≤ 8 ∧ ab_Run X 78 36 (1, 0, 0) L (ab_I (if a < b then b else a) :: st) σ Q := ab_r_math 1004 (Or.inl ⟨rfl, rfl⟩) (by decide) ko_X10_isEven qM_10_46 (by decide) kc_X10_isEven dX10_isEven_33
theorem rX10_isEven_36 : ab_Run X 78 36 (1, 0, 0) [l0, l1, l2, l3] (ab_I z :: st) σ Q ↔ (!ab_isJ l1) = true ∧ ab_Run X 78 37 (1, 0, 0) [l0, l1, ab_I z, l3] st σ Q := ab_r_istore_n (Nat.le_of_ble_eq_true rfl) kc_X10_isEven dX10_isEven_36
theorem rX10_isEven_37 : ab_Run X 78 37 (1, 0, 0) [l0, l1, l2, ab_I z] st σ Q ↔ (!ab_isJ l2) = true ∧ ab_Run X 78 40 (1, 0, 0) [l0, l1, l2, ab_I (ab_w32 (z + 1))] st σ Q := ab_r_iinc rfl (by decide) kc_X10_isEven dX10_isEven_37
theorem rX10_isEven_40 : ab_Run X 78 40 (1, 0, 0) L st σ Q ↔ ab_Run X 78 7 (1, 0, 0) L st σ Q := ab_r_goto rfl kc_X10_isEven dX10_isEven_40
theorem rX10_isEven_43 : ab_Run X 78 43 (1, 0, 0) [l0, l1, ab_I z, l3] st σ Q ↔ ab_Run X 78 44 (1, 0, 0) [l0, l1, ab_I z, l3] (ab_I z :: st) σ Q := ab_r_iload_n rfl kc_X10_isEven dX10_isEven_43
theorem rX10_isEven_44 : ab_Run X 78 44 (1, 0, 0) [l0, ab_I z, l2, l3] st σ Q ↔ ab_Run X 78 45 (1, 0, 0) [l0, ab_I z, l2, l3] (ab_I z :: st) σ Q := ab_r_iload_n rfl kc_X10_isEven dX10_isEven_44
theorem rX10_isEven_45 : ab_Run X 78 45 (1, 0, 0) L (ab_I b :: ab_I a :: st) σ Q ↔ ab_Run X 78 46 (1, 0, 0) L (ab_I (ab_w32 (a - b)) :: st) σ Q := ab_r_isub kc_X10_isEven dX10_isEven_45
theorem rX10_isEven_46 : ab_Run X 78 46 (1, 0, 0) L st σ Q ↔ ab_Run X 78 47 (1, 0, 0) L (ab_I 1 :: st) σ Q := ab_r_iconst (by decide) kc_X10_isEven dX10_isEven_46
theorem rX10_isEven_47 : ab_Run X 78 47 (1, 0, 0) L (ab_I b :: ab_I a :: st) σ Q ↔ (b < a → ab_Run X 78 54 (1, 0, 0) L st σ Q) ∧ (¬ (b < a) → ab_Run X 78 50 (1, 0, 0) L st σ Q) := ab_r_icmp_gt rfl kc_X10_isEven dX10_isEven_47
theorem rX10_isEven_50 : ab_Run X 78 50 (1, 0, 0) L st σ Q ↔ ab_Run X 78 51 (1, 0, 0) L (ab_I 1 :: st) σ Q := ab_r_iconst (by decide) kc_X10_isEven dX10_isEven_50
theorem rX10_isEven_51 : ab_Run X 78 51 (1, 0, 0) L st σ Q ↔ ab_Run X 78 55 (1, 0, 0) L st σ Q := ab_r_goto rfl kc_X10_isEven dX10_isEven_51
theorem rX10_isEven_54 : ab_Run X 78 54 (1, 0, 0) L st σ Q ↔ ab_Run X 78 55 (1, 0, 0) L (ab_I 0 :: st) σ Q := ab_r_iconst (by decide) kc_X10_isEven dX10_isEven_54
theorem rX10_isEven_55 : ab_Run X 78 55 (1, 0, 0) L [ab_I v] σ Q ↔ (v = 0 ∨ v = 1) ∧ Q (some (ab_I v)) σ := ab_r_ireturnZ rfl kc_X10_isEven dX10_isEven_55
theorem kc_X12_find : ab_code 153 = cX12_find := rfl
theorem ko_X12_find : ab_ow 153 = 12 := rfl
theorem rX12_find_0 : ab_Run X 153 0 (0, 0, 0) L st σ Q ↔ ab_Run X 153 1 (0, 0, 0) L (ab_I 0 :: st) σ Q := ab_r_iconst (by decide) kc_X12_find dX12_find_0
theorem rX12_find_1 : ab_Run X 153 1 (0, 0, 0) [l0, l1, l2, l3] (ab_I z :: st) σ Q ↔ (!ab_isJ l2) = true ∧ ab_Run X 153 2 (0, 0, 0) [l0, l1, l2, ab_I z] st σ Q := ab_r_istore_n (Nat.le_of_ble_eq_true rfl) kc_X12_find dX12_find_1
theorem rX12_find_2 : ab_Run X 153 2 (0, 0, 0) [l0, l1, l2, ab_I z] st σ Q ↔ ab_Run X 153 3 (0, 0, 0) [l0, l1, l2, ab_I z] (ab_I z :: st) σ Q := ab_r_iload_n rfl kc_X12_find dX12_find_2
theorem rX12_find_3 : ab_Run X 153 3 (0, 0, 0) [ab_R z, l1, l2, l3] st σ Q ↔ z ≠ 0 ∧ ab_Run X 153 4 (0, 0, 0) [ab_R z, l1, l2, l3] (ab_R z :: st) σ Q := ab_r_aload_n rfl kc_X12_find dX12_find_3
theorem rX12_find_4 : ab_Run X 153 4 (0, 0, 0) L (ab_R a :: st) σ Q ↔ (ab_sh σ a).1 = 13 ∧ ab_Run X 153 7 (0, 0, 0) L (ab_I (ab_rd σ a 10) :: st) σ Q := gF_12_77 ko_X12_find kc_X12_find dX12_find_4
theorem rX12_find_7 : ab_Run X 153 7 (0, 0, 0) L (ab_I b :: ab_I a :: st) σ Q ↔ (b ≤ a → ab_Run X 153 29 (0, 0, 0) L st σ Q) ∧ (¬ (b ≤ a) → ab_Run X 153 10 (0, 0, 0) L st σ Q) := ab_r_icmp_ge rfl kc_X12_find dX12_find_7
theorem rX12_find_10 : ab_Run X 153 10 (0, 0, 0) [ab_R z, l1, l2, l3] st σ Q ↔ z ≠ 0 ∧ ab_Run X 153 11 (0, 0, 0) [ab_R z, l1, l2, l3] (ab_R z :: st) σ Q := ab_r_aload_n rfl kc_X12_find dX12_find_10
theorem rX12_find_11 : ab_Run X 153 11 (0, 0, 0) L (ab_R a :: st) σ Q ↔ (ab_sh σ a).1 = 13 ∧ ab_Run X 153 14 (0, 0, 0) L (ab_R (ab_rd σ a 30) :: st) σ Q := gF_12_66 ko_X12_find kc_X12_find dX12_find_11
theorem rX12_find_14 : ab_Run X 153 14 (0, 0, 0) [l0, l1, l2, ab_I z] st σ Q ↔ ab_Run X 153 15 (0, 0, 0) [l0, l1, l2, ab_I z] (ab_I z :: st) σ Q := ab_r_iload_n rfl kc_X12_find dX12_find_14
theorem rX12_find_15 : ab_Run X 153 15 (0, 0, 0) L (ab_I i :: ab_R a :: st) σ Q ↔ ((ab_sh σ a).1 = 22 ∧ 0 ≤ i ∧ i < (ab_sh σ a).2) ∧ ab_Run X 153 16 (0, 0, 0) L (ab_J (ab_rd σ a i) :: st) σ Q := ab_r_laload kc_X12_find dX12_find_15
theorem rX12_find_16 : ab_Run X 153 16 (0, 0, 0) [l0, ab_J z, l2, l3] st σ Q ↔ ab_Run X 153 17 (0, 0, 0) [l0, ab_J z, l2, l3] (ab_J z :: st) σ Q := ab_r_lload_n rfl kc_X12_find dX12_find_16
theorem rX12_find_17 : ab_Run X 153 17 (0, 0, 0) L (ab_J b :: ab_J a :: st) σ Q ↔ ab_Run X 153 18 (0, 0, 0) L (ab_I (if b < a then 1 else if a = b then 0 else -1) :: st) σ Q := ab_r_lcmp kc_X12_find dX12_find_17
theorem rX12_find_18 : ab_Run X 153 18 (0, 0, 0) L (ab_I a :: st) σ Q ↔ (¬ a = 0 → ab_Run X 153 23 (0, 0, 0) L st σ Q) ∧ (¬ (¬ a = 0) → ab_Run X 153 21 (0, 0, 0) L st σ Q) := ab_r_if_ne rfl kc_X12_find dX12_find_18
theorem rX12_find_21 : ab_Run X 153 21 (0, 0, 0) [l0, l1, l2, ab_I z] st σ Q ↔ ab_Run X 153 22 (0, 0, 0) [l0, l1, l2, ab_I z] (ab_I z :: st) σ Q := ab_r_iload_n rfl kc_X12_find dX12_find_21
theorem rX12_find_22 : ab_Run X 153 22 (0, 0, 0) L [ab_I v] σ Q ↔ Q (some (ab_I v)) σ := ab_r_ireturnI rfl kc_X12_find dX12_find_22
theorem rX12_find_23 : ab_Run X 153 23 (0, 0, 0) [l0, l1, l2, ab_I z] st σ Q ↔ (!ab_isJ l2) = true ∧ ab_Run X 153 26 (0, 0, 0) [l0, l1, l2, ab_I (ab_w32 (z + 1))] st σ Q := ab_r_iinc rfl (by decide) kc_X12_find dX12_find_23
theorem rX12_find_26 : ab_Run X 153 26 (0, 0, 0) L st σ Q ↔ ab_Run X 153 2 (0, 0, 0) L st σ Q := ab_r_goto rfl kc_X12_find dX12_find_26
theorem rX12_find_29 : ab_Run X 153 29 (0, 0, 0) L st σ Q ↔ ab_Run X 153 30 (0, 0, 0) L (ab_I (-1) :: st) σ Q := ab_r_iconst (by decide) kc_X12_find dX12_find_29
theorem rX12_find_30 : ab_Run X 153 30 (0, 0, 0) L [ab_I v] σ Q ↔ Q (some (ab_I v)) σ := ab_r_ireturnI rfl kc_X12_find dX12_find_30
theorem kc_X12_many : ab_code 154 = cX12_many := rfl
theorem ko_X12_many : ab_ow 154 = 12 := rfl
theorem rX12_many_0 : ab_Run X 154 0 (0, 0, 0) [ab_R z, l1, l2] st σ Q ↔ z ≠ 0 ∧ ab_Run X 154 1 (0, 0, 0) [ab_R z, l1, l2] (ab_R z :: st) σ Q := ab_r_aload_n rfl kc_X12_many dX12_many_0
theorem rX12_many_1 : ab_Run X 154 1 (0, 0, 0) L (ab_R a :: st) σ Q ↔ (ab_sh σ a).1 = 13 ∧ ab_Run X 154 4 (0, 0, 0) L (ab_R (ab_rd σ a 14) :: st) σ Q := gF_12_18 ko_X12_many kc_X12_many dX12_many_1
theorem rX12_many_4 : ab_Run X 154 4 (0, 0, 0) L st σ Q ↔ ab_Run X 154 5 (0, 0, 0) L (ab_I 2 :: st) σ Q := ab_r_iconst (by decide) kc_X12_many dX12_many_4
theorem rX12_many_5 : ab_Run X 154 5 (0, 0, 0) [l0, ab_I z, l2] st σ Q ↔ ab_Run X 154 6 (0, 0, 0) [l0, ab_I z, l2] (ab_I z :: st) σ Q := ab_r_iload_n rfl kc_X12_many dX12_many_5
theorem rX12_many_6 : ab_Run X 154 6 (0, 0, 0) L (ab_I b :: ab_I a :: st) σ Q ↔ ab_Run X 154 7 (0, 0, 0) L (ab_I (ab_w32 (a * b)) :: st) σ Q := ab_r_imul kc_X12_many dX12_many_6
theorem rX12_many_7 : ab_Run X 154 7 (0, 0, 0) [l0, l1, ab_I z] st σ Q ↔ ab_Run X 154 8 (0, 0, 0) [l0, l1, ab_I z] (ab_I z :: st) σ Q := ab_r_iload_n rfl kc_X12_many dX12_many_7
theorem rX12_many_8 : ab_Run X 154 8 (0, 0, 0) L (ab_I b :: ab_I a :: st) σ Q ↔ ab_Run X 154 9 (0, 0, 0) L (ab_I (ab_w32 (a + b)) :: st) σ Q := ab_r_iadd kc_X12_many dX12_many_8
theorem rX12_many_9 : ab_Run X 154 9 (0, 0, 0) L (ab_I i :: ab_R a :: st) σ Q ↔ ((ab_sh σ a).1 = 21 ∧ 0 ≤ i ∧ i < (ab_sh σ a).2) ∧ ab_Run X 154 10 (0, 0, 0) L (ab_I (ab_rd σ a i) :: st) σ Q := ab_r_iaload (by decide) kc_X12_many dX12_many_9
theorem rX12_many_10 : ab_Run X 154 10 (0, 0, 0) L [ab_I v] σ Q ↔ Q (some (ab_I v)) σ := ab_r_ireturnI rfl kc_X12_many dX12_many_10
theorem kc_X12_thickAt : ab_code 155 = cX12_thickAt := rfl
theorem ko_X12_thickAt : ab_ow 155 = 12 := rfl
theorem rX12_thickAt_0 : ab_Run X 155 0 (0, 0, 0) [ab_R z, l1, l2, l3] st σ Q ↔ z ≠ 0 ∧ ab_Run X 155 1 (0, 0, 0) [ab_R z, l1, l2, l3] (ab_R z :: st) σ Q := ab_r_aload_n rfl kc_X12_thickAt dX12_thickAt_0
theorem rX12_thickAt_1 : ab_Run X 155 1 (0, 0, 0) L (ab_R a :: st) σ Q ↔ (ab_sh σ a).1 = 13 ∧ ab_Run X 155 4 (0, 0, 0) L (ab_R (ab_rd σ a 15) :: st) σ Q := gF_12_21 ko_X12_thickAt kc_X12_thickAt dX12_thickAt_1
theorem rX12_thickAt_4 : ab_Run X 155 4 (0, 0, 0) L st σ Q ↔ ab_Run X 155 6 (0, 0, 0) L (ab_I 6 :: st) σ Q := ab_r_bipush (by decide) kc_X12_thickAt dX12_thickAt_4
theorem rX12_thickAt_6 : ab_Run X 155 6 (0, 0, 0) L st σ Q ↔ ab_Run X 155 7 (0, 0, 0) L (ab_I 2 :: st) σ Q := ab_r_iconst (by decide) kc_X12_thickAt dX12_thickAt_6
theorem rX12_thickAt_7 : ab_Run X 155 7 (0, 0, 0) [l0, ab_I z, l2, l3] st σ Q ↔ ab_Run X 155 8 (0, 0, 0) [l0, ab_I z, l2, l3] (ab_I z :: st) σ Q := ab_r_iload_n rfl kc_X12_thickAt dX12_thickAt_7
theorem rX12_thickAt_8 : ab_Run X 155 8 (0, 0, 0) L (ab_I b :: ab_I a :: st) σ Q ↔ ab_Run X 155 9 (0, 0, 0) L (ab_I (ab_w32 (a * b)) :: st) σ Q := ab_r_imul kc_X12_thickAt dX12_thickAt_8
theorem rX12_thickAt_9 : ab_Run X 155 9 (0, 0, 0) [l0, l1, ab_I z, l3] st σ Q ↔ ab_Run X 155 10 (0, 0, 0) [l0, l1, ab_I z, l3] (ab_I z :: st) σ Q := ab_r_iload_n rfl kc_X12_thickAt dX12_thickAt_9
theorem rX12_thickAt_10 : ab_Run X 155 10 (0, 0, 0) L (ab_I b :: ab_I a :: st) σ Q ↔ ab_Run X 155 11 (0, 0, 0) L (ab_I (ab_w32 (a + b)) :: st) σ Q := ab_r_iadd kc_X12_thickAt dX12_thickAt_10
theorem rX12_thickAt_11 : ab_Run X 155 11 (0, 0, 0) L (ab_I b :: ab_I a :: st) σ Q ↔ ab_Run X 155 12 (0, 0, 0) L (ab_I (ab_w32 (a * b)) :: st) σ Q := ab_r_imul kc_X12_thickAt dX12_thickAt_11
theorem rX12_thickAt_12 : ab_Run X 155 12 (0, 0, 0) [l0, l1, l2, ab_I z] st σ Q ↔ ab_Run X 155 13 (0, 0, 0) [l0, l1, l2, ab_I z] (ab_I z :: st) σ Q := ab_r_iload_n rfl kc_X12_thickAt dX12_thickAt_12
theorem rX12_thickAt_13 : ab_Run X 155 13 (0, 0, 0) L (ab_I b :: ab_I a :: st) σ Q ↔ ab_Run X 155 14 (0, 0, 0) L (ab_I (ab_w32 (a + b)) :: st) σ Q := ab_r_iadd kc_X12_thickAt dX12_thickAt_13
theorem rX12_thickAt_14 : ab_Run X 155 14 (0, 0, 0) L (ab_I i :: ab_R a :: st) σ Q ↔ ((ab_sh σ a).1 = 21 ∧ 0 ≤ i ∧ i < (ab_sh σ a).2) ∧ ab_Run X 155 15 (0, 0, 0) L (ab_I (ab_rd σ a i) :: st) σ Q := ab_r_iaload (by decide) kc_X12_thickAt dX12_thickAt_14
theorem rX12_thickAt_15 : ab_Run X 155 15 (0, 0, 0) L [ab_I v] σ Q ↔ Q (some (ab_I v)) σ := ab_r_ireturnI rfl kc_X12_thickAt dX12_thickAt_15
theorem kc_X12_holds : ab_code 156 = cX12_holds := rfl
theorem ko_X12_holds : ab_ow 156 = 12 := rfl
theorem rX12_holds_0 : ab_Run X 156 0 (1, 0, 0) [ab_R z, l1, l2, l3] st σ Q ↔ z ≠ 0 ∧ ab_Run X 156 1 (1, 0, 0) [ab_R z, l1, l2, l3] (ab_R z :: st) σ Q := ab_r_aload_n rfl kc_X12_holds dX12_holds_0
theorem rX12_holds_1 : ab_Run X 156 1 (1, 0, 0) L (ab_R a :: st) σ Q ↔ (ab_sh σ a).1 = 13 ∧ ab_Run X 156 4 (1, 0, 0) L (ab_R (ab_rd σ a 18) :: st) σ Q := gF_12_30 ko_X12_holds kc_X12_holds dX12_holds_1
theorem rX12_holds_4 : ab_Run X 156 4 (1, 0, 0) [l0, ab_I z, l2, l3] st σ Q ↔ ab_Run X 156 5 (1, 0, 0) [l0, ab_I z, l2, l3] (ab_I z :: st) σ Q := ab_r_iload_n rfl kc_X12_holds dX12_holds_4
theorem rX12_holds_5 : ab_Run X 156 5 (1, 0, 0) L (ab_I i :: ab_R a :: st) σ Q ↔ ((ab_sh σ a).1 = 21 ∧ 0 ≤ i ∧ i < (ab_sh σ a).2) ∧ ab_Run X 156 6 (1, 0, 0) L (ab_I (ab_rd σ a i) :: st) σ Q := ab_r_iaload (by decide) kc_X12_holds dX12_holds_5
theorem rX12_holds_6 : ab_Run X 156 6 (1, 0, 0) [ab_R z, l1, l2, l3] st σ Q ↔ z ≠ 0 ∧ ab_Run X 156 7 (1, 0, 0) [ab_R z, l1, l2, l3] (ab_R z :: st) σ Q := ab_r_aload_n rfl kc_X12_holds dX12_holds_6
theorem rX12_holds_7 : ab_Run X 156 7 (1, 0, 0) [l0, l1, ab_I z, l3] st σ Q ↔ ab_Run X 156 8 (1, 0, 0) [l0, l1, ab_I z, l3] (ab_I z :: st) σ Q := ab_r_iload_n rfl kc_X12_holds dX12_holds_7
theorem rX12_holds_8 : ab_Run X 156 8 (1, 0, 0) [l0, l1, l2, ab_I z] st σ Q ↔ ab_Run X 156 9 (1, 0, 0) [l0, l1, l2, ab_I z] (ab_I z :: st) σ Q := ab_r_iload_n rfl kc_X12_holds dX12_holds_8
theorem rX12_holds_9 : ab_Run X 156 9 (1, 0, 0) L (ab_I x2 :: ab_I x1 :: ab_R a :: st) σ Q ↔ ((ab_sh σ a).1 = 13 ∧ ab_cats st ≤ 8) ∧ ab_Do X 154 [ab_R a, ab_I x1, ab_I x2] σ (fun r σ' => ab_Run X 156 12 (1, 0, 0) L (ab_psh r st) σ' Q) := ab_r_callV (w := [ab_I x2, ab_I x1]) (as := [ab_I x1, ab_I x2]) (b1 := (0, 0, 0)) 0 (Or.inl rfl) (by decide) ko_X12_holds qM_12_81 (by decide) rfl rfl rfl rfl rfl (by decide) (Nat.le_of_ble_eq_true rfl) kc_X12_holds dX12_holds_9
theorem rX12_holds_12 : ab_Run X 156 12 (1, 0, 0) L (ab_I b :: ab_I a :: st) σ Q ↔ (b ≤ a → ab_Run X 156 24 (1, 0, 0) L st σ Q) ∧ (¬ (b ≤ a) → ab_Run X 156 15 (1, 0, 0) L st σ Q) := ab_r_icmp_ge rfl kc_X12_holds dX12_holds_12
theorem rX12_holds_15 : ab_Run X 156 15 (1, 0, 0) [ab_R z, l1, l2, l3] st σ Q ↔ z ≠ 0 ∧ ab_Run X 156 16 (1, 0, 0) [ab_R z, l1, l2, l3] (ab_R z :: st) σ Q := ab_r_aload_n rfl kc_X12_holds dX12_holds_15
theorem rX12_holds_16 : ab_Run X 156 16 (1, 0, 0) L (ab_R a :: st) σ Q ↔ (ab_sh σ a).1 = 13 ∧ ab_Run X 156 19 (1, 0, 0) L (ab_R (ab_rd σ a 18) :: st) σ Q := gF_12_30 ko_X12_holds kc_X12_holds dX12_holds_16
theorem rX12_holds_19 : ab_Run X 156 19 (1, 0, 0) [l0, ab_I z, l2, l3] st σ Q ↔ ab_Run X 156 20 (1, 0, 0) [l0, ab_I z, l2, l3] (ab_I z :: st) σ Q := ab_r_iload_n rfl kc_X12_holds dX12_holds_19
theorem rX12_holds_20 : ab_Run X 156 20 (1, 0, 0) L (ab_I i :: ab_R a :: st) σ Q ↔ ((ab_sh σ a).1 = 21 ∧ 0 ≤ i ∧ i < (ab_sh σ a).2) ∧ ab_Run X 156 21 (1, 0, 0) L (ab_I (ab_rd σ a i) :: st) σ Q := ab_r_iaload (by decide) kc_X12_holds dX12_holds_20
theorem rX12_holds_21 : ab_Run X 156 21 (1, 0, 0) L st σ Q ↔ ab_Run X 156 30 (1, 0, 0) L st σ Q := ab_r_goto rfl kc_X12_holds dX12_holds_21
theorem rX12_holds_24 : ab_Run X 156 24 (1, 0, 0) [ab_R z, l1, l2, l3] st σ Q ↔ z ≠ 0 ∧ ab_Run X 156 25 (1, 0, 0) [ab_R z, l1, l2, l3] (ab_R z :: st) σ Q := ab_r_aload_n rfl kc_X12_holds dX12_holds_24
theorem rX12_holds_25 : ab_Run X 156 25 (1, 0, 0) [l0, l1, ab_I z, l3] st σ Q ↔ ab_Run X 156 26 (1, 0, 0) [l0, l1, ab_I z, l3] (ab_I z :: st) σ Q := ab_r_iload_n rfl kc_X12_holds dX12_holds_25
theorem rX12_holds_26 : ab_Run X 156 26 (1, 0, 0) [l0, l1, l2, ab_I z] st σ Q ↔ ab_Run X 156 27 (1, 0, 0) [l0, l1, l2, ab_I z] (ab_I z :: st) σ Q := ab_r_iload_n rfl kc_X12_holds dX12_holds_26
theorem rX12_holds_27 : ab_Run X 156 27 (1, 0, 0) L (ab_I x2 :: ab_I x1 :: ab_R a :: st) σ Q ↔ ((ab_sh σ a).1 = 13 ∧ ab_cats st ≤ 8) ∧ ab_Do X 154 [ab_R a, ab_I x1, ab_I x2] σ (fun r σ' => ab_Run X 156 30 (1, 0, 0) L (ab_psh r st) σ' Q) := ab_r_callV (w := [ab_I x2, ab_I x1]) (as := [ab_I x1, ab_I x2]) (b1 := (0, 0, 0)) 0 (Or.inl rfl) (by decide) ko_X12_holds qM_12_81 (by decide) rfl rfl rfl rfl rfl (by decide) (Nat.le_of_ble_eq_true rfl) kc_X12_holds dX12_holds_27
theorem rX12_holds_30 : ab_Run X 156 30 (1, 0, 0) L [ab_I v] σ Q ↔ Q (some (ab_I v)) σ := ab_r_ireturnI rfl kc_X12_holds dX12_holds_30
end
