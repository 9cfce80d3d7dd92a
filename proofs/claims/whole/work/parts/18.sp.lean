set_option maxRecDepth 100000 in
set_option maxHeartbeats 400000 in
theorem qX1_addG (d : Nat) (S : dv_S) (p q c : Nat) (hp : p < 2 ^ 31) (hq : q ≤ 24) (hc : S.1 9 4 = nI c) (h24 : p < q → c < 24) : dv_M yX1_add cX1_add 3 none (dv_rm (d + 2)) [.ref 9, .int (nI p), .int (nI q)] S (fun r S' => r = none ∧ S' = (dv_ca S p q c)) := by
  refine dv_M_of [some (.ref 9), some (.int (nI p)), some (.int (nI q))] (by decide) (fun _ _ => Nat.le_of_ble_eq_true rfl) (fun _ _ => rfl) ?_
  refine J_iload_n dX1_add_0 (pc' := 1) rfl rfl ?_
  refine J_if_lt dX1_add_1 (pt := 69) (by decide) (pc' := 4) rfl (fun c1 => ?_) (fun c1 => ?_)
  · exact absurd c1 (nI_pos (by omega))
  · refine J_iload_n dX1_add_4 (pc' := 5) rfl rfl ?_
    refine J_iload_n dX1_add_5 (pc' := 6) rfl rfl ?_
    refine J_icmp_ge dX1_add_6 (pt := 69) (by decide) (pc' := 9) rfl (fun c6 => ?_) (fun c6 => ?_)
    · rw [nI_leI (by omega) hp] at c6
      refine J_vret dX1_add_69 rfl (dv_r1 _) ?_
      exact ⟨rfl, by rw [dv_ca, if_neg (by omega)]⟩
    · rw [nI_leI (by omega) hp] at c6
      refine J_iload_n dX1_add_9 (pc' := 10) rfl rfl ?_
      refine J_bipush dX1_add_10 (pc' := 12) rfl (v := 24) bp_24 ?_
      refine J_icmp_gt dX1_add_12 (pt := 69) (by decide) (pc' := 15) rfl (fun c12 => ?_) (fun c12 => ?_)
      · rw [dv_n24, nI_ltI (by omega) (by omega)] at c12
        omega
      · refine J_aload_n dX1_add_15 (pc' := 16) rfl rfl ?_
        refine J_geti fX1_25 kd_9 rf_9_4 dX1_add_16 (pc' := 19) rfl ?_
        refine J_bipush dX1_add_19 (pc' := 21) rfl (v := 24) bp_24 ?_
        refine J_icmp_ge dX1_add_21 (pt := 69) (by decide) (pc' := 24) rfl (fun c21 => ?_) (fun c21 => ?_)
        · rw [hc, dv_n24] at c21
          exact absurd c21 (nI_ge (h24 (by omega)) (by decide))
        · refine J_aload_n dX1_add_24 (pc' := 25) rfl rfl ?_
          refine J_getr fX1_15 kd_9 rf_9_1 dX1_add_25 (pc' := 28) rfl ?_
          refine J_aload_n dX1_add_28 (pc' := 29) rfl rfl ?_
          refine J_geti fX1_25 kd_9 rf_9_4 dX1_add_29 (pc' := 32) rfl ?_
          refine J_iload_n dX1_add_32 (pc' := 33) rfl rfl ?_
          refine J_iast (j := c) kd_11 (hc) (by rw [ln_11]; exact h24 (by omega)) dX1_add_33 (pc' := 34) rfl ?_
          refine J_aload_n dX1_add_34 (pc' := 35) rfl rfl ?_
          refine J_getr fX1_18 kd_9 rf_9_2 dX1_add_35 (pc' := 38) rfl ?_
          refine J_aload_n dX1_add_38 (pc' := 39) rfl rfl ?_
          refine J_geti fX1_25 kd_9 rf_9_4 dX1_add_39 (pc' := 42) rfl ?_
          refine J_iload_n dX1_add_42 (pc' := 43) rfl rfl ?_
          refine J_iast (j := c) kd_12 (hc) (by rw [ln_12]; exact h24 (by omega)) dX1_add_43 (pc' := 44) rfl ?_
          refine J_aload_n dX1_add_44 (pc' := 45) rfl rfl ?_
          refine J_getr fX1_21 kd_9 rf_9_3 dX1_add_45 (pc' := 48) rfl ?_
          refine J_aload_n dX1_add_48 (pc' := 49) rfl rfl ?_
          refine J_geti fX1_25 kd_9 rf_9_4 dX1_add_49 (pc' := 52) rfl ?_
          refine J_aload_n dX1_add_52 (pc' := 53) rfl rfl ?_
          refine J_iload_n dX1_add_53 (pc' := 54) rfl rfl ?_
          refine J_iload_n dX1_add_54 (pc' := 55) rfl rfl ?_
          refine J_v1 (As := [.int (nI p), .int (nI q)]) (rest := [.int (((S.1, dv_u S.2.1 11 c ((nI p)), S.2.2).1, dv_u (S.1, dv_u S.2.1 11 c ((nI p)), S.2.2).2.1 12 c ((nI q)), (S.1, dv_u S.2.1 11 c ((nI p)), S.2.2).2.2).1 9 4), .ref 544]) (qX1_keyBetween _ _ p q (by omega) hq) vX1_keyBetween mX1_67 kd_9 dX1_add_55 (pc' := 58) rfl rfl (Nat.le_of_ble_eq_true rfl) (by decide) ?_
          refine J_top (w := .long (kz (fun k => S.2.1 10 (p + k)) (q - p))) (congrArg (fun g : Nat → Int32 => Value.long (kz (fun k => g (p + k)) (q - p))) (show dv_u (dv_u S.2.1 11 c (nI p)) 12 c (nI q) 10 = S.2.1 10 by rw [dv_u_row _ _ (by decide), dv_u_row _ _ (by decide)])) ?_
          refine J_kast (j := c) kd_544 (hc) (by rw [ln_544]; exact h24 (by omega)) dX1_add_58 (pc' := 59) rfl ?_
          refine J_aload_n dX1_add_59 (pc' := 60) rfl rfl ?_
          refine J_dup dX1_add_60 (pc' := 61) rfl rfl ?_
          refine J_geti fX1_25 kd_9 rf_9_4 dX1_add_61 (pc' := 64) rfl ?_
          refine J_iconst dX1_add_64 (pc' := 65) rfl (v := 1) ic_1 ?_
          refine J_iadd dX1_add_65 (pc' := 66) rfl ?_
          refine J_puti fX1_25 kd_9 rf_9_4 dX1_add_66 (pc' := 69) rfl ?_
          refine J_vret dX1_add_69 rfl (dv_r1 _) ?_
          exact ⟨rfl, by rw [dv_ca, if_pos (by omega)]; simp [hc, nI_1]⟩
theorem cu_I0 (S : dv_S) (f : Nat → Int32) (n : Nat) : cu_inv S f n 0 (dv_u S.1 9 4 0, S.2) 0 0 := ⟨by rw [nI_0], fun _ _ _ _ => rfl, rfl, fun j hj => absurd hj (Nat.not_lt_zero j), fun j hj => absurd hj (Nat.not_lt_zero j), fun j hj => absurd hj (Nat.not_lt_zero j), Or.inl ⟨rfl, rfl, Or.inl rfl⟩⟩
set_option maxRecDepth 100000 in
set_option maxHeartbeats 400000 in
theorem qX1_split (d : Nat) (S : dv_S) (a n : Nat) (ha : dv_kd a = 4) (ha1 : dv_kd (a + 1) = 10) (hn : S.1 a 1 = nI n) (hl : n ≤ dv_ln (a + 1)) (h24 : n ≤ 24) : dv_M yX1_split cX1_split 5 none (dv_rm (d + 3)) [.ref 9, .ref a] S (fun r S' => r = none ∧ dv_spl S (S.2.1 (a + 1)) n S') := by
  have h9 : a ≠ 9 := fun q => by rw [q, kd_9] at ha; exact absurd ha (by decide)
  have h10 : a + 1 ≠ 10 := by omega
  have h11 : a + 1 ≠ 11 := fun q => by rw [show a = 10 by omega, kd_10] at ha; exact absurd ha (by decide)
  have h12 : a + 1 ≠ 12 := fun q => by rw [show a = 11 by omega, kd_11] at ha; exact absurd ha (by decide)
  refine dv_M_of [some (.ref 9), some (.ref a), none, none, none] (by decide) (fun _ _ => Nat.le_of_ble_eq_true rfl) (fun _ _ => rfl) ?_
  refine J_aload_n dX1_split_0 (pc' := 1) rfl rfl ?_
  refine J_iconst dX1_split_1 (pc' := 2) rfl (v := 0) ic_0 ?_
  refine J_puti fX1_25 kd_9 rf_9_4 dX1_split_2 (pc' := 5) rfl ?_
  refine J_iconst dX1_split_5 (pc' := 6) rfl (v := 0) ic_0 ?_
  refine J_istore_n dX1_split_6 (pc' := 7) rfl rfl (by decide) rfl (l' := [some (.ref 9), some (.ref a), some (.int 0), none, none]) rfl ?_
  refine J_aload_n dX1_split_7 (pc' := 8) rfl rfl ?_
  refine J_v1 (As := []) (rest := []) (qX4_size _ _ a ha) vX4_size mX1_44 ha dX1_split_8 (pc' := 11) rfl rfl (Nat.le_of_ble_eq_true rfl) (by decide) ?_
  refine J_top (w := .int (nI n)) (by rw [← hn]; exact congrArg Value.int (dv_u_ne _ _ (by rintro ⟨q, -⟩; exact h9 q))) ?_
  refine J_bipush dX1_split_11 (pc' := 13) rfl (v := 24) bp_24 ?_
  refine J_min rfl (dv_r1 _) (dv_rmin _) (Nat.le_of_ble_eq_true rfl) dX1_split_13 (pc' := 16) rfl ?_
  refine J_top (w := .int (nI n)) (by rw [if_neg (by rw [dv_n24, nI_ltI (by omega) (by omega)]; omega)]) ?_
  refine J_istore_n dX1_split_16 (pc' := 17) rfl rfl (by decide) rfl (l' := [some (.ref 9), some (.ref a), some (.int 0), some (.int (nI n)), none]) rfl ?_
  refine J_iconst dX1_split_17 (pc' := 18) rfl (v := 0) ic_0 ?_
  refine J_istore dX1_split_18 (pc' := 20) rfl (by decide) rfl (l' := [some (.ref 9), some (.ref a), some (.int 0), some (.int (nI n)), some (.int 0)]) rfl ?_
  have hlp20 : ∀ i, i ≤ n → ∀ (S1 : dv_S) (c st : Nat), cu_inv S (S.2.1 (a + 1)) n i S1 c st → dv_J yX1_split cX1_split 5 none (dv_rm (d + 3)) 0 0 20 [some (.ref 9), some (.ref a), some (.int (nI st)), some (.int (nI n)), some (.int (nI i))] [] S1 (fun r S' => r = none ∧ dv_spl S (S.2.1 (a + 1)) n S') := by
    refine dv_up (P := fun i => ∀ (S1 : dv_S) (c st : Nat), cu_inv S (S.2.1 (a + 1)) n i S1 c st → dv_J yX1_split cX1_split 5 none (dv_rm (d + 3)) 0 0 20 [some (.ref 9), some (.ref a), some (.int (nI st)), some (.int (nI n)), some (.int (nI i))] [] S1 (fun r S' => r = none ∧ dv_spl S (S.2.1 (a + 1)) n S')) ?_
    intro i hi20 ih20 S1 c st hI
    have g1 : S1.1 a 1 = nI n := by rw [hI.1, dv_u_ne _ _ (by rintro ⟨q, -⟩; exact h9 q)]; exact hn
    have g2 : S1.2.1 (a + 1) = S.2.1 (a + 1) := hI.2.1 _ h10 h11 h12
    have g3 : S1.1 9 4 = nI c := by rw [hI.1, dv_u_eq]
    have gst := cu_st hI
    have gcc := cu_cl hI
    refine J_iload dX1_split_20 (pc' := 22) rfl rfl ?_
    refine J_iload_n dX1_split_22 (pc' := 23) rfl rfl ?_
    refine J_icmp_ge dX1_split_23 (pt := 99) (by decide) (pc' := 26) rfl (fun c23 => ?_) (fun c23 => ?_)
    · have hx := dv_ge hi20 (by omega) c23
      refine J_aload_n dX1_split_99 (pc' := 100) rfl rfl ?_
      refine J_iload_n dX1_split_100 (pc' := 101) rfl rfl ?_
      refine J_iload_n dX1_split_101 (pc' := 102) rfl rfl ?_
      refine J_v0 (As := [.int (nI st), .int (nI n)]) (rest := []) (qX1_addG _ _ st n c (by omega) (by omega) g3 (fun h => cu_c24 hI (by omega) (by omega))) vX1_add mX1_59 kd_9 dX1_split_102 (pc' := 105) rfl rfl (Nat.le_of_ble_eq_true rfl) (by decide) ?_
      refine J_vret dX1_split_105 rfl (dv_r1 _) ?_
      exact ⟨rfl, by rw [hx] at hI; exact cu_L4 hI (by omega)⟩
    · have hx := dv_nge hi20 (by omega) c23
      refine J_aload_n dX1_split_26 (pc' := 27) rfl rfl ?_
      refine J_getr fX1_9 kd_9 rf_9_0 dX1_split_27 (pc' := 30) rfl ?_
      refine J_iload dX1_split_30 (pc' := 32) rfl rfl ?_
      refine J_aload_n dX1_split_32 (pc' := 33) rfl rfl ?_
      refine J_iload dX1_split_33 (pc' := 35) rfl rfl ?_
      refine J_v1 (As := [.int (nI i)]) (rest := [.int (nI i), .ref 10]) (qX4_at _ _ a n _ ha ha1 g1 hl) vX4_at mX1_54 ha dX1_split_35 (pc' := 38) rfl rfl (Nat.le_of_ble_eq_true rfl) (by decide) ?_
      refine J_top (w := .int (S.2.1 (a + 1) i)) (by rw [g2, dv_gx_in hx (by omega)]) ?_
      refine J_n1 (As := [.int (S.2.1 (a + 1) i)]) (rest := [.int (nI i), .ref 10]) (qX7_smallOf _ _ _) vX7_smallOf nX1_56 dX1_split_38 (pc' := 41) rfl rfl (Nat.le_of_ble_eq_true rfl) (by decide) ?_
      refine J_iast (j := i) kd_10 (rfl) (by rw [ln_10]; omega) dX1_split_41 (pc' := 42) rfl ?_
      refine J_aload_n dX1_split_42 (pc' := 43) rfl rfl ?_
      refine J_iload dX1_split_43 (pc' := 45) rfl rfl ?_
      refine J_v1 (As := [.int (nI i)]) (rest := []) (qX4_at _ _ a n _ ha ha1 g1 hl) vX4_at mX1_54 ha dX1_split_45 (pc' := 48) rfl rfl (Nat.le_of_ble_eq_true rfl) (by decide) ?_
      refine J_top (w := .int (S.2.1 (a + 1) i)) ((congrArg (fun g => Value.int (dv_gx g n (nI i))) ((dv_u_row _ _ h10).trans g2)).trans (by rw [dv_gx_in hx (by omega)])) ?_
      refine J_bipush dX1_split_48 (pc' := 50) rfl (v := 95) bp_95 ?_
      refine J_icmp_ne dX1_split_50 (pt := 68) (by decide) (pc' := 53) rfl (fun c50 => ?_) (fun c50 => ?_)
      · refine J_iload dX1_split_68 (pc' := 70) rfl rfl ?_
        refine J_iload_n dX1_split_70 (pc' := 71) rfl rfl ?_
        refine J_icmp_le dX1_split_71 (pt := 93) (by decide) (pc' := 74) rfl (fun c71 => ?_) (fun c71 => ?_)
        · rw [nI_leI (by omega) (by omega)] at c71
          refine J_iinc dX1_split_93 (pc' := 96) rfl rfl (v := nI (i + 1)) (nI_1 i) (by decide) rfl (l' := [some (.ref 9), some (.ref a), some (.int (nI st)), some (.int (nI n)), some (.int (nI (i + 1)))]) rfl ?_
          refine J_goto dX1_split_96 (pc' := 20) (by decide) ?_
          exact ih20 (i + 1) (by omega) (by omega) _ _ _ (cu_L2 hI c50 (by first | exact Or.inl (by omega) | exact Or.inr ⟨by omega, c80⟩))
        · rw [nI_leI (by omega) (by omega)] at c71
          refine J_aload_n dX1_split_74 (pc' := 75) rfl rfl ?_
          refine J_iload dX1_split_75 (pc' := 77) rfl rfl ?_
          refine J_s1 (As := [.ref a, .int (nI i)]) (rest := []) (qX1_isCutAhead _ _ a n i ha ha1 g1 hl h24 (by omega) hx) vX1_isCutAhead mX1_63 dX1_split_77 (pc' := 80) rfl rfl (Nat.le_of_ble_eq_true rfl) (by decide) ?_
          refine J_top (w := .int (dv_b (cu_a (S.2.1 (a + 1) (i - 1)) (S.2.1 (a + 1) i) (dv_gx (S.2.1 (a + 1)) n (nI (i + 1)))))) (congrArg (fun g : Nat → Int32 => Value.int (dv_b (cu_a (g (i - 1)) (g i) (dv_gx g n (nI (i + 1)))))) ((dv_u_row _ _ h10).trans g2)) ?_
          refine J_beq dX1_split_80 (pt := 93) (by decide) (pc' := 83) rfl (fun c80 => ?_) (fun c80 => ?_)
          · refine J_iinc dX1_split_93 (pc' := 96) rfl rfl (v := nI (i + 1)) (nI_1 i) (by decide) rfl (l' := [some (.ref 9), some (.ref a), some (.int (nI st)), some (.int (nI n)), some (.int (nI (i + 1)))]) rfl ?_
            refine J_goto dX1_split_96 (pc' := 20) (by decide) ?_
            exact ih20 (i + 1) (by omega) (by omega) _ _ _ (cu_L2 hI c50 (by first | exact Or.inl (by omega) | exact Or.inr ⟨by omega, c80⟩))
          · refine J_aload_n dX1_split_83 (pc' := 84) rfl rfl ?_
            refine J_iload_n dX1_split_84 (pc' := 85) rfl rfl ?_
            refine J_iload dX1_split_85 (pc' := 87) rfl rfl ?_
            refine J_v0 (As := [.int (nI st), .int (nI i)]) (rest := []) (qX1_addG _ _ st i c (by omega) (by omega) g3 (fun h => cu_c24 hI (by omega) (by omega))) vX1_add mX1_59 kd_9 dX1_split_87 (pc' := 90) rfl rfl (Nat.le_of_ble_eq_true rfl) (by decide) ?_
            refine J_iload dX1_split_90 (pc' := 92) rfl rfl ?_
            refine J_istore_n dX1_split_92 (pc' := 93) rfl rfl (by decide) rfl (l' := [some (.ref 9), some (.ref a), some (.int (nI i)), some (.int (nI n)), some (.int (nI i))]) rfl ?_
            refine J_iinc dX1_split_93 (pc' := 96) rfl rfl (v := nI (i + 1)) (nI_1 i) (by decide) rfl (l' := [some (.ref 9), some (.ref a), some (.int (nI i)), some (.int (nI n)), some (.int (nI (i + 1)))]) rfl ?_
            refine J_goto dX1_split_96 (pc' := 20) (by decide) ?_
            exact ih20 (i + 1) (by omega) (by omega) _ _ _ (cu_L3 hI c50 (by omega) c80 (by omega))
      · refine J_aload_n dX1_split_53 (pc' := 54) rfl rfl ?_
        refine J_iload_n dX1_split_54 (pc' := 55) rfl rfl ?_
        refine J_iload dX1_split_55 (pc' := 57) rfl rfl ?_
        refine J_v0 (As := [.int (nI st), .int (nI i)]) (rest := []) (qX1_addG _ _ st i c (by omega) (by omega) g3 (fun h => cu_c24 hI (by omega) (by omega))) vX1_add mX1_59 kd_9 dX1_split_57 (pc' := 60) rfl rfl (Nat.le_of_ble_eq_true rfl) (by decide) ?_
        refine J_iload dX1_split_60 (pc' := 62) rfl rfl ?_
        refine J_iconst dX1_split_62 (pc' := 63) rfl (v := 1) ic_1 ?_
        refine J_iadd dX1_split_63 (pc' := 64) rfl ?_
        refine J_top (w := .int (nI (i + 1))) (by rw [nI_1]) ?_
        refine J_istore_n dX1_split_64 (pc' := 65) rfl rfl (by decide) rfl (l' := [some (.ref 9), some (.ref a), some (.int (nI (i + 1))), some (.int (nI n)), some (.int (nI i))]) rfl ?_
        refine J_goto dX1_split_65 (pc' := 93) (by decide) ?_
        refine J_iinc dX1_split_93 (pc' := 96) rfl rfl (v := nI (i + 1)) (nI_1 i) (by decide) rfl (l' := [some (.ref 9), some (.ref a), some (.int (nI (i + 1))), some (.int (nI n)), some (.int (nI (i + 1)))]) rfl ?_
        refine J_goto dX1_split_96 (pc' := 20) (by decide) ?_
        exact ih20 (i + 1) (by omega) (by omega) _ _ _ (cu_L1 hI c50 (by omega))
  refine J_loc (l' := [some (.ref 9), some (.ref a), some (.int (nI 0)), some (.int (nI n)), some (.int (nI 0))]) (by simp only [nI_0, dv_b_f, dv_b_t]) ?_
  refine J_sto (S' := (dv_u S.1 9 4 0, S.2)) (rfl) ?_
  exact hlp20 0 (Nat.zero_le _) _ 0 0 (cu_I0 _ _ _)
