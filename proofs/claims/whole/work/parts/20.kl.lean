set_option maxRecDepth 100000 in
set_option maxHeartbeats 400000 in
theorem qX0_lengthOf (d : Nat) (S : dv_S) (j n m : Nat) (g : Nat → Int32) (hn : S.1 13 5 = nI n) (hj : j < n) (hm : n ≤ 60) (hk : S.2.2 14 j = cu_k g m) (hg : ∀ k, k < m → ch_s (g k) = true) (h12 : m ≤ 12) : dv_M yX0_lengthOf cX0_lengthOf 6 (some .int) (dv_rm (d + 1)) [.ref 13, .int (nI j)] S (fun r S' => r = some (.int (nI m)) ∧ S' = S) := by
  have hv : ∀ k, k < m → cd (g k) < 32 := fun k hk => (cd_ok (hg k hk)).2
  refine dv_M_of [some (.ref 13), some (.int (nI j)), none, none, none, none] (by decide) (fun _ _ => Nat.le_of_ble_eq_true rfl) (fun _ _ => rfl) ?_
  refine J_aload_n dX0_lengthOf_0 (pc' := 1) rfl rfl ?_
  refine J_iload_n dX0_lengthOf_1 (pc' := 2) rfl rfl ?_
  refine J_v1 (As := [.int (nI j)]) (rest := []) (qX0_has _ _ _) vX0_has mX0_36 kd_13 dX0_lengthOf_2 (pc' := 5) rfl rfl (Nat.le_of_ble_eq_true rfl) (by decide) ?_
  refine J_beq dX0_lengthOf_5 (pt := 17) (by decide) (pc' := 8) rfl (fun c5 => ?_) (fun c5 => ?_)
  · exact absurd (dv_has hj hn (by omega)) (by rw [c5]; decide)
  · refine J_aload_n dX0_lengthOf_8 (pc' := 9) rfl rfl ?_
    refine J_getr fX0_9 kd_13 rf_13_0 dX0_lengthOf_9 (pc' := 12) rfl ?_
    refine J_iload_n dX0_lengthOf_12 (pc' := 13) rfl rfl ?_
    refine J_lald (j := j) kd_14 (rfl) (by rw [ln_14]; omega) dX0_lengthOf_13 (pc' := 14) rfl ?_
    refine J_goto dX0_lengthOf_14 (pc' := 18) (by decide) ?_
    refine J_top (w := .long (lN (ck (fun k => cd (g k)) (m - 0)))) (by rw [hk, cu_k_ck hg, Nat.sub_zero]) ?_
    refine J_lstore_n dX0_lengthOf_18 (pc' := 19) rfl rfl (by decide) rfl (l' := [some (.ref 13), some (.int (nI j)), some (.long (lN (ck (fun k => cd (g k)) (m - 0)))), none, none, none]) rfl ?_
    refine J_iconst dX0_lengthOf_19 (pc' := 20) rfl (v := 0) ic_0 ?_
    refine J_istore dX0_lengthOf_20 (pc' := 22) rfl (by decide) rfl (l' := [some (.ref 13), some (.int (nI j)), some (.long (lN (ck (fun k => cd (g k)) (m - 0)))), none, some (.int 0), none]) rfl ?_
    refine J_iconst dX0_lengthOf_22 (pc' := 23) rfl (v := 0) ic_0 ?_
    refine J_istore dX0_lengthOf_23 (pc' := 25) rfl (by decide) rfl (l' := [some (.ref 13), some (.int (nI j)), some (.long (lN (ck (fun k => cd (g k)) (m - 0)))), none, some (.int 0), some (.int 0)]) rfl ?_
    have hlp25 : ∀ i, i ≤ m → dv_J yX0_lengthOf cX0_lengthOf 6 (some .int) (dv_rm (d + 1)) 0 0 25 [some (.ref 13), some (.int (nI j)), some (.long (lN (ck (fun k => cd (g k)) (m - i)))), none, some (.int (nI i)), some (.int (nI i))] [] S (fun r S' => r = some (.int (nI m)) ∧ S' = S) := by
      refine dv_up (P := fun i => dv_J yX0_lengthOf cX0_lengthOf 6 (some .int) (dv_rm (d + 1)) 0 0 25 [some (.ref 13), some (.int (nI j)), some (.long (lN (ck (fun k => cd (g k)) (m - i)))), none, some (.int (nI i)), some (.int (nI i))] [] S (fun r S' => r = some (.int (nI m)) ∧ S' = S)) ?_
      intro i hi25 ih25 
      refine J_iload dX0_lengthOf_25 (pc' := 27) rfl rfl ?_
      refine J_bipush dX0_lengthOf_27 (pc' := 29) rfl (v := 12) bp_12 ?_
      refine J_top (w := .int (nI 12)) (by rw [dv_n12]) ?_
      refine J_icmp_ge dX0_lengthOf_29 (pt := 51) (by decide) (pc' := 32) rfl (fun c29 => ?_) (fun c29 => ?_)
      · rw [nI_leI (by omega) (by omega)] at c29
        refine J_iload dX0_lengthOf_51 (pc' := 53) rfl rfl ?_
        refine J_iret dX0_lengthOf_53 rfl (dv_r1 _) ?_
        exact ⟨by rw [show i = m by omega], rfl⟩
      · rw [nI_leI (by omega) (by omega)] at c29
        refine J_lload_n dX0_lengthOf_32 (pc' := 33) rfl rfl ?_
        refine J_lconst dX0_lengthOf_33 (pc' := 34) rfl (v := 0) (by decide) ?_
        refine J_lcmp dX0_lengthOf_34 (pc' := 35) rfl ?_
        refine J_if_eq dX0_lengthOf_35 (pt := 51) (by decide) (pc' := 38) rfl (fun c35 => ?_) (fun c35 => ?_)
        · have hz : m - i = 0 := by
            rcases Nat.eq_zero_or_pos (m - i) with q | q
            · exact q
            · have h1 := ck_pos (v := fun k => cd (g k)) q (fun k hk => (cd_ok (hg k (by omega))).1)
              rw [dv_cmp0, show (0 : Int64) = lN 0 by decide, pk_lEQ (by have := ck_62 (v := fun k => cd (g k)) (n := m - i) (by omega) (fun k hk => hv k (by omega)); omega) (by decide)] at c35
              omega
          refine J_iload dX0_lengthOf_51 (pc' := 53) rfl rfl ?_
          refine J_iret dX0_lengthOf_53 rfl (dv_r1 _) ?_
          exact ⟨by rw [show i = m by omega], rfl⟩
        · have hz : ¬ m - i = 0 := fun q => c35 (by rw [dv_cmp0, q]; rfl)
          refine J_lload_n dX0_lengthOf_38 (pc' := 39) rfl rfl ?_
          refine J_iconst dX0_lengthOf_39 (pc' := 40) rfl (v := 5) ic_5 ?_
          refine J_lshr dX0_lengthOf_40 (pc' := 41) rfl ?_
          refine J_top (w := .long (lN (ck (fun k => cd (g k)) (m - (i + 1))))) (by rw [ck_sh (ck_62 (by omega) (fun k hk => hv k (by omega))), show m - i = (m - (i + 1)) + 1 by omega, ck_div (v := fun k => cd (g k)) (hv _ (by omega))]) ?_
          refine J_lstore_n dX0_lengthOf_41 (pc' := 42) rfl rfl (by decide) rfl (l' := [some (.ref 13), some (.int (nI j)), some (.long (lN (ck (fun k => cd (g k)) (m - (i + 1))))), none, some (.int (nI i)), some (.int (nI i))]) rfl ?_
          refine J_iinc dX0_lengthOf_42 (pc' := 45) rfl rfl (v := nI (i + 1)) (nI_1 i) (by decide) rfl (l' := [some (.ref 13), some (.int (nI j)), some (.long (lN (ck (fun k => cd (g k)) (m - (i + 1))))), none, some (.int (nI (i + 1))), some (.int (nI i))]) rfl ?_
          refine J_iinc dX0_lengthOf_45 (pc' := 48) rfl rfl (v := nI (i + 1)) (nI_1 i) (by decide) rfl (l' := [some (.ref 13), some (.int (nI j)), some (.long (lN (ck (fun k => cd (g k)) (m - (i + 1))))), none, some (.int (nI (i + 1))), some (.int (nI (i + 1)))]) rfl ?_
          refine J_goto dX0_lengthOf_48 (pc' := 25) (by decide) ?_
          exact ih25 (i + 1) (by omega) (by omega)
    refine J_loc (l' := [some (.ref 13), some (.int (nI j)), some (.long (lN (ck (fun k => cd (g k)) (m - 0)))), none, some (.int (nI 0)), some (.int (nI 0))]) (by simp only [nI_0, dv_b_f, dv_b_t]) ?_
    exact hlp25 0 (Nat.zero_le _) 
set_option maxRecDepth 100000 in
set_option maxHeartbeats 400000 in
theorem qX0_letterOf (d : Nat) (S : dv_S) (j n m : Nat) (g : Nat → Int32) (i : Nat) (hn : S.1 13 5 = nI n) (hj : j < n) (hm : n ≤ 60) (hk : S.2.2 14 j = cu_k g m) (hg : ∀ k, k < m → ch_s (g k) = true) (h12 : m ≤ 12) (hi : i < m) : dv_M yX0_letterOf cX0_letterOf 4 (some .int) (dv_rm (d + 2)) [.ref 13, .int (nI j), .int (nI i)] S (fun r S' => r = some (.int (g i)) ∧ S' = S) := by
  have hv : ∀ k, k < m → cd (g k) < 32 := fun k hk => (cd_ok (hg k hk)).2
  refine dv_M_of [some (.ref 13), some (.int (nI j)), some (.int (nI i)), none] (by decide) (fun _ _ => Nat.le_of_ble_eq_true rfl) (fun _ _ => rfl) ?_
  refine J_aload_n dX0_letterOf_0 (pc' := 1) rfl rfl ?_
  refine J_iload_n dX0_letterOf_1 (pc' := 2) rfl rfl ?_
  refine J_v1 (As := [.int (nI j)]) (rest := []) (qX0_lengthOf _ _ j n m g hn hj hm hk hg h12) vX0_lengthOf mX0_40 kd_13 dX0_letterOf_2 (pc' := 5) rfl rfl (Nat.le_of_ble_eq_true rfl) (by decide) ?_
  refine J_iconst dX0_letterOf_5 (pc' := 6) rfl (v := 1) ic_1 ?_
  refine J_isub dX0_letterOf_6 (pc' := 7) rfl ?_
  refine J_iload_n dX0_letterOf_7 (pc' := 8) rfl rfl ?_
  refine J_isub dX0_letterOf_8 (pc' := 9) rfl ?_
  refine J_top (w := .int (nI (m - 1 - i))) (by rw [dv_n1, pk_sub (by omega), pk_sub (by omega)]) ?_
  refine J_istore_n dX0_letterOf_9 (pc' := 10) rfl rfl (by decide) rfl (l' := [some (.ref 13), some (.int (nI j)), some (.int (nI i)), some (.int (nI (m - 1 - i)))]) rfl ?_
  refine J_aload_n dX0_letterOf_10 (pc' := 11) rfl rfl ?_
  refine J_iload_n dX0_letterOf_11 (pc' := 12) rfl rfl ?_
  refine J_v1 (As := [.int (nI j)]) (rest := []) (qX0_has _ _ _) vX0_has mX0_36 kd_13 dX0_letterOf_12 (pc' := 15) rfl rfl (Nat.le_of_ble_eq_true rfl) (by decide) ?_
  refine J_beq dX0_letterOf_15 (pt := 26) (by decide) (pc' := 18) rfl (fun c15 => ?_) (fun c15 => ?_)
  · exact absurd (dv_has hj hn (by omega)) (by rw [c15]; decide)
  · refine J_iload_n dX0_letterOf_18 (pc' := 19) rfl rfl ?_
    refine J_if_lt dX0_letterOf_19 (pt := 26) (by decide) (pc' := 22) rfl (fun c19 => ?_) (fun c19 => ?_)
    · exact absurd c19 (nI_pos (by omega))
    · refine J_iload_n dX0_letterOf_22 (pc' := 23) rfl rfl ?_
      refine J_if_ge dX0_letterOf_23 (pt := 28) (by decide) (pc' := 26) rfl (fun c23 => ?_) (fun c23 => ?_)
      · refine J_bipush dX0_letterOf_28 (pc' := 30) rfl (v := 96) bp_96 ?_
        refine J_aload_n dX0_letterOf_30 (pc' := 31) rfl rfl ?_
        refine J_getr fX0_9 kd_13 rf_13_0 dX0_letterOf_31 (pc' := 34) rfl ?_
        refine J_iload_n dX0_letterOf_34 (pc' := 35) rfl rfl ?_
        refine J_lald (j := j) kd_14 (rfl) (by rw [ln_14]; omega) dX0_letterOf_35 (pc' := 36) rfl ?_
        refine J_iconst dX0_letterOf_36 (pc' := 37) rfl (v := 5) ic_5 ?_
        refine J_iload_n dX0_letterOf_37 (pc' := 38) rfl rfl ?_
        refine J_imul dX0_letterOf_38 (pc' := 39) rfl ?_
        refine J_top (w := .int (nI (5 * (m - 1 - i)))) (by rw [show (5 : Int32) = nI 5 by decide, pk_mul]) ?_
        refine J_lshr dX0_letterOf_39 (pc' := 40) rfl ?_
        refine J_ldc2 eX0_44 dX0_letterOf_40 (pc' := 43) rfl ?_
        refine J_land dX0_letterOf_43 (pc' := 44) rfl ?_
        refine J_l2i dX0_letterOf_44 (pc' := 45) rfl ?_
        refine J_iadd dX0_letterOf_45 (pc' := 46) rfl ?_
        refine J_iret dX0_letterOf_46 rfl (dv_r1 _) ?_
        refine ⟨?_, rfl⟩
        rw [hk, cu_k_ck hg, ck_shb (ck_62 h12 hv) (by omega), ck_drop hv (by omega), show (31 : Int64) = lN (2 ^ 5 - 1) by decide, fb_maskL, show m - (m - 1 - i) = i + 1 by omega, show (2 : Nat) ^ 5 = 32 by decide, ck_mod (v := fun k => cd (g k)) (hv i hi), lN_i, cd_back (hg i hi)]
      · exact absurd (nI_pos' (by omega)) c23
