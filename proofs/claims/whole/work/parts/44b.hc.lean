set_option maxRecDepth 100000 in
set_option maxHeartbeats 400000 in
theorem qX7_keep (d : Nat) (S : dv_S) (n sn un : Nat) (hT : cw_T S n) (hS : cw_S S n sn) (hU : cw_U S n sn un) (hp : ∀ t, t < 80 → ¬ S.2.1 189 t = 0 → t < n)  : dv_M yX7_keep cX7_keep 2 (some .int) (dv_rm (d + 6)) [.ref 0] S (fun r S' => r = some (.int (nI (dv_ct (kpf S n un 80) 80))) ∧ S' = (kpS S (kpf S n un 80))) := by
  have h80 := hT.2.1
  refine dv_M_of [some (.ref 0), none] (by decide) (fun _ _ => Nat.le_of_ble_eq_true rfl) (fun _ _ => rfl) ?_
  refine J_iconst dX7_keep_0 (pc' := 1) rfl (v := 0) ic_0 ?_
  refine J_istore_n dX7_keep_1 (pc' := 2) rfl rfl (by decide) rfl (l' := [some (.ref 0), some (.int 0)]) rfl ?_
  have hlp2 : ∀ i, i ≤ 80 → dv_J yX7_keep cX7_keep 2 (some .int) (dv_rm (d + 6)) 0 0 2 [some (.ref 0), some (.int (nI i))] [] (S.1, dv_rw S.2.1 514 (fun t => dv_b (decide (¬ S.2.1 189 t = 0))) i, S.2.2) (fun r S' => r = some (.int (nI (dv_ct (kpf S n un 80) 80))) ∧ S' = (kpS S (kpf S n un 80))) := by
    refine dv_up (P := fun i => dv_J yX7_keep cX7_keep 2 (some .int) (dv_rm (d + 6)) 0 0 2 [some (.ref 0), some (.int (nI i))] [] (S.1, dv_rw S.2.1 514 (fun t => dv_b (decide (¬ S.2.1 189 t = 0))) i, S.2.2) (fun r S' => r = some (.int (nI (dv_ct (kpf S n un 80) 80))) ∧ S' = (kpS S (kpf S n un 80)))) ?_
    intro i hi2 ih2 
    refine J_iload_n dX7_keep_2 (pc' := 3) rfl rfl ?_
    refine J_bipush dX7_keep_3 (pc' := 5) rfl (v := 80) bp_80 ?_
    refine J_top (w := .int (nI 80)) (by rw [dv_n80]) ?_
    refine J_icmp_ge dX7_keep_5 (pt := 28) (by decide) (pc' := 8) rfl (fun c5 => ?_) (fun c5 => ?_)
    · have hx := dv_ge hi2 (by decide) c5
      refine J_aload_n dX7_keep_28 (pc' := 29) rfl rfl ?_
      refine J_getr fX7_65 kd_0 rf_0_9 dX7_keep_29 (pc' := 32) rfl ?_
      refine J_v0 (As := []) (rest := []) (qX2_clear188 _ _) vX2_clear mX7_293 kd_188 dX7_keep_32 (pc' := 35) rfl rfl (Nat.le_of_ble_eq_true rfl) (by decide) ?_
      refine J_iconst dX7_keep_35 (pc' := 36) rfl (v := 0) ic_0 ?_
      refine J_istore_n dX7_keep_36 (pc' := 37) rfl rfl (by decide) rfl (l' := [some (.ref 0), some (.int 0)]) rfl ?_
      have hlp37 : ∀ i, i ≤ 80 → dv_J yX7_keep cX7_keep 2 (some .int) (dv_rm (d + 6)) 0 0 37 [some (.ref 0), some (.int (nI i))] [] (kpS S (kpf S n un i)) (fun r S' => r = some (.int (nI (dv_ct (kpf S n un 80) 80))) ∧ S' = (kpS S (kpf S n un 80))) := by
        refine dv_up (P := fun i => dv_J yX7_keep cX7_keep 2 (some .int) (dv_rm (d + 6)) 0 0 37 [some (.ref 0), some (.int (nI i))] [] (kpS S (kpf S n un i)) (fun r S' => r = some (.int (nI (dv_ct (kpf S n un 80) 80))) ∧ S' = (kpS S (kpf S n un 80)))) ?_
        intro i hi37 ih37 
        refine J_iload_n dX7_keep_37 (pc' := 38) rfl rfl ?_
        refine J_bipush dX7_keep_38 (pc' := 40) rfl (v := 80) bp_80 ?_
        refine J_top (w := .int (nI 80)) (by rw [dv_n80]) ?_
        refine J_icmp_ge dX7_keep_40 (pt := 82) (by decide) (pc' := 43) rfl (fun c40 => ?_) (fun c40 => ?_)
        · have hx := dv_ge hi37 (by decide) c40
          refine J_aload_n dX7_keep_82 (pc' := 83) rfl rfl ?_
          refine J_getr fX7_65 kd_0 rf_0_9 dX7_keep_83 (pc' := 86) rfl ?_
          refine J_v1 (As := []) (rest := []) (qX2_size188 _ _) vX2_size mX7_292 kd_188 dX7_keep_86 (pc' := 89) rfl rfl (Nat.le_of_ble_eq_true rfl) (by decide) ?_
          refine J_iret dX7_keep_89 rfl (dv_r1 _) ?_
          exact ⟨by rw [hx, kpS_188], by rw [hx]⟩
        · have hx := dv_nge hi37 (by decide) c40
          refine J_aload_n dX7_keep_43 (pc' := 44) rfl rfl ?_
          refine J_getr fX7_72 kd_0 rf_0_11 dX7_keep_44 (pc' := 47) rfl ?_
          refine J_iload_n dX7_keep_47 (pc' := 48) rfl rfl ?_
          refine J_zald (j := i) kd_514 (rfl) (by rw [ln_514]; omega) dX7_keep_48 (pc' := 49) rfl ?_
          refine J_top (w := .int (dv_b (decide (¬ S.2.1 189 i = 0)))) (by rw [kpS_514 S _ (by omega)]) ?_
          refine J_beq dX7_keep_49 (pt := 76) (by decide) (pc' := 52) rfl (fun c49 => ?_) (fun c49 => ?_)
          · refine J_iinc dX7_keep_76 (pc' := 79) rfl rfl (v := nI (i + 1)) (nI_1 i) (by decide) rfl (l' := [some (.ref 0), some (.int (nI (i + 1)))]) rfl ?_
            refine J_goto dX7_keep_79 (pc' := 37) (by decide) ?_
            refine J_sto ?_ (ih37 (i + 1) (by omega) (by omega))
            first | (rw [kpf_n (Or.inl c49)]; done) | (rw [kpf_n (Or.inr c65)]; exact kpS_dr S (by omega) (kpf_lt S n un i i (Nat.le_refl _)))
          · have hn := hp i hx (of_decide_eq_true c49)
            refine J_aload_n dX7_keep_52 (pc' := 53) rfl rfl ?_
            refine J_getr fX7_65 kd_0 rf_0_9 dX7_keep_53 (pc' := 56) rfl ?_
            refine J_iload_n dX7_keep_56 (pc' := 57) rfl rfl ?_
            refine J_v0 (As := [.int (nI i)]) (rest := []) (qX2_putAgain188 _ _ i (by omega)) vX2_putAgain mX7_300 kd_188 dX7_keep_57 (pc' := 60) rfl rfl (Nat.le_of_ble_eq_true rfl) (by decide) ?_
            refine J_sto (S' := (kpS S (kpa (kpf S n un i) i))) (kpS_pa S (by omega) (kpf_lt S n un i i (Nat.le_refl _))) ?_
            refine J_aload_n dX7_keep_60 (pc' := 61) rfl rfl ?_
            refine J_iload_n dX7_keep_61 (pc' := 62) rfl rfl ?_
            refine J_v1 (As := [.int (nI i)]) (rest := []) (qX7_staysSafe _ (kpS S (kpa (kpf S n un i) i)) n sn un i (kpS_T hT (kpa_wt (kpf_wt S n un i) c49)) (kpS_S _ hS) (kpS_U _ hU) hn) vX7_staysSafe mX7_303 kd_0 dX7_keep_62 (pc' := 65) rfl rfl (Nat.le_of_ble_eq_true rfl) (by decide) ?_
            refine J_bne dX7_keep_65 (pt := 76) (by decide) (pc' := 68) rfl (fun c65 => ?_) (fun c65 => ?_)
            · refine J_iinc dX7_keep_76 (pc' := 79) rfl rfl (v := nI (i + 1)) (nI_1 i) (by decide) rfl (l' := [some (.ref 0), some (.int (nI (i + 1)))]) rfl ?_
              refine J_goto dX7_keep_79 (pc' := 37) (by decide) ?_
              refine J_sto ?_ (ih37 (i + 1) (by omega) (by omega))
              rw [kpf_y c49 c65]
            · refine J_aload_n dX7_keep_68 (pc' := 69) rfl rfl ?_
              refine J_getr fX7_65 kd_0 rf_0_9 dX7_keep_69 (pc' := 72) rfl ?_
              refine J_iload_n dX7_keep_72 (pc' := 73) rfl rfl ?_
              refine J_v0 (As := [.int (nI i)]) (rest := []) (qX2_drop188 _ (kpS S (kpa (kpf S n un i) i)) i (by omega) (by rw [kpS_189 S _ (by omega)]; simp [kpa, dv_b])) vX2_drop mX7_306 kd_188 dX7_keep_73 (pc' := 76) rfl rfl (Nat.le_of_ble_eq_true rfl) (by decide) ?_
              refine J_iinc dX7_keep_76 (pc' := 79) rfl rfl (v := nI (i + 1)) (nI_1 i) (by decide) rfl (l' := [some (.ref 0), some (.int (nI (i + 1)))]) rfl ?_
              refine J_goto dX7_keep_79 (pc' := 37) (by decide) ?_
              refine J_sto ?_ (ih37 (i + 1) (by omega) (by omega))
              rw [kpf_n (Or.inr c65)]
              exact kpS_dr S (by omega) (kpf_lt S n un i i (Nat.le_refl _))
      refine J_loc (l' := [some (.ref 0), some (.int (nI 0))]) (by simp only [nI_0, dv_b_f, dv_b_t]) ?_
      refine J_sto (S' := (kpS S (kpf S n un 0))) (by rw [hx]; exact kpS_0 S) ?_
      exact hlp37 0 (Nat.zero_le _) 
    · have hx := dv_nge hi2 (by decide) c5
      refine J_aload_n dX7_keep_8 (pc' := 9) rfl rfl ?_
      refine J_getr fX7_72 kd_0 rf_0_11 dX7_keep_9 (pc' := 12) rfl ?_
      refine J_iload_n dX7_keep_12 (pc' := 13) rfl rfl ?_
      refine J_aload_n dX7_keep_13 (pc' := 14) rfl rfl ?_
      refine J_getr fX7_65 kd_0 rf_0_9 dX7_keep_14 (pc' := 17) rfl ?_
      refine J_iload_n dX7_keep_17 (pc' := 18) rfl rfl ?_
      refine J_v1 (As := [.int (nI i)]) (rest := [.int (nI i), .ref 514]) (qX2_has188 _ _ i (by omega)) vX2_has mX7_212 kd_188 dX7_keep_18 (pc' := 21) rfl rfl (Nat.le_of_ble_eq_true rfl) (by decide) ?_
      refine J_top (w := .int (dv_b (decide (¬ S.2.1 189 i = 0)))) (by rw [show (S.1, dv_rw S.2.1 514 (fun t => dv_b (decide (¬ S.2.1 189 t = 0))) i, S.2.2).2.1 189 = S.2.1 189 from dv_rw_row (f := S.2.1) (a := 514) (x := 189) (g := (fun t => dv_b (decide (¬ S.2.1 189 t = 0)))) (n := i) (by decide)]) ?_
      refine J_zast (j := i) kd_514 (rfl) (by rw [ln_514]; omega) (dv_b_01 _) dX7_keep_21 (pc' := 22) rfl ?_
      refine J_iinc dX7_keep_22 (pc' := 25) rfl rfl (v := nI (i + 1)) (nI_1 i) (by decide) rfl (l' := [some (.ref 0), some (.int (nI (i + 1)))]) rfl ?_
      refine J_goto dX7_keep_25 (pc' := 2) (by decide) ?_
      exact J_sto (S' := (S.1, dv_rw S.2.1 514 (fun t => dv_b (decide (¬ S.2.1 189 t = 0))) (i + 1), S.2.2)) (by rw [← dv_rw_s]) (ih2 (i + 1) (by omega) (by omega))
  refine J_loc (l' := [some (.ref 0), some (.int (nI 0))]) (by simp only [nI_0, dv_b_f, dv_b_t]) ?_
  refine J_sto (S' := (S.1, dv_rw S.2.1 514 (fun t => dv_b (decide (¬ S.2.1 189 t = 0))) 0, S.2.2)) (by rw [dv_rw_0]) ?_
  exact hlp2 0 (Nat.zero_le _) 
set_option maxRecDepth 100000 in
set_option maxHeartbeats 400000 in
theorem qX7_renames (d : Nat) (S : dv_S) (n w : Nat) (wl : Nat → Nat → Int32) (wm : Nat → Nat) (hT : cw_T S n) (hB : cw_B S w wl wm)  : dv_M yX7_renames cX7_renames 2 (some .int) (dv_rm (d + 7)) [.ref 0] S (fun r S' => r = some (.int (nI (dv_ct (ogS (nnS S) w wl wm n) n))) ∧ rnI (nnS S) w wl wm n n S') := by
  have h80 := hT.2.1
  have hZ := nnS_T hT
  have hBZ : cw_B (nnS S) w wl wm := (nnS_fr S).B (by decide) hB
  refine dv_M_of [some (.ref 0), none] (by decide) (fun _ _ => Nat.le_of_ble_eq_true rfl) (fun _ _ => rfl) ?_
  refine J_aload_n dX7_renames_0 (pc' := 1) rfl rfl ?_
  refine J_getr fX7_65 kd_0 rf_0_9 dX7_renames_1 (pc' := 4) rfl ?_
  refine J_v0 (As := []) (rest := []) (qX2_clear188 _ _) vX2_clear mX7_293 kd_188 dX7_renames_4 (pc' := 7) rfl rfl (Nat.le_of_ble_eq_true rfl) (by decide) ?_
  refine J_aload_n dX7_renames_7 (pc' := 8) rfl rfl ?_
  refine J_vq (As := []) (rest := []) (qX7_countUsed _ (nnS S) n w hZ hBZ.1 hBZ.2.1) vX7_countUsed mX7_243 kd_0 dX7_renames_8 (pc' := 11) rfl rfl (Nat.le_of_ble_eq_true rfl) (by decide) ?_
  rintro r S1 ⟨rfl, hC⟩
  show dv_J yX7_renames cX7_renames 2 (some .int) (dv_rm (d + 7)) 0 0 11 [some (.ref 0), none] [] S1 (fun r S' => r = some (.int (nI (dv_ct (ogS (nnS S) w wl wm n) n))) ∧ rnI (nnS S) w wl wm n n S')
  refine J_iconst dX7_renames_11 (pc' := 12) rfl (v := 0) ic_0 ?_
  refine J_istore_n dX7_renames_12 (pc' := 13) rfl rfl (by decide) rfl (l' := [some (.ref 0), some (.int 0)]) rfl ?_
  have hlp13 : ∀ i, i ≤ n → ∀ (S2 : dv_S), rnI (nnS S) w wl wm n i S2 → dv_J yX7_renames cX7_renames 2 (some .int) (dv_rm (d + 7)) 0 0 13 [some (.ref 0), some (.int (nI i))] [] S2 (fun r S' => r = some (.int (nI (dv_ct (ogS (nnS S) w wl wm n) n))) ∧ rnI (nnS S) w wl wm n n S') := by
    refine dv_up (P := fun i => ∀ (S2 : dv_S), rnI (nnS S) w wl wm n i S2 → dv_J yX7_renames cX7_renames 2 (some .int) (dv_rm (d + 7)) 0 0 13 [some (.ref 0), some (.int (nI i))] [] S2 (fun r S' => r = some (.int (nI (dv_ct (ogS (nnS S) w wl wm n) n))) ∧ rnI (nnS S) w wl wm n n S')) ?_
    intro i hi13 ih13 S2 hI
    refine J_iload_n dX7_renames_13 (pc' := 14) rfl rfl ?_
    refine J_aload_n dX7_renames_14 (pc' := 15) rfl rfl ?_
    refine J_getr fX7_51 kd_0 rf_0_7 dX7_renames_15 (pc' := 18) rfl ?_
    refine J_v1 (As := []) (rest := [.int (nI i)]) (qX5_size _ _) vX5_size mX7_198 kd_21 dX7_renames_18 (pc' := 21) rfl rfl (Nat.le_of_ble_eq_true rfl) (by decide) ?_
    refine J_top (w := .int (nI n)) (by rw [(rnI_T hI (by omega) hZ).1]) ?_
    refine J_icmp_ge dX7_renames_21 (pt := 50) (by decide) (pc' := 24) rfl (fun c21 => ?_) (fun c21 => ?_)
    · have hx := dv_ge hi13 (by omega) c21
      rw [hx] at hI
      refine J_aload_n dX7_renames_50 (pc' := 51) rfl rfl ?_
      refine J_getr fX7_65 kd_0 rf_0_9 dX7_renames_51 (pc' := 54) rfl ?_
      refine J_v1 (As := []) (rest := []) (qX2_size188 _ _) vX2_size mX7_292 kd_188 dX7_renames_54 (pc' := 57) rfl rfl (Nat.le_of_ble_eq_true rfl) (by decide) ?_
      refine J_iret dX7_renames_57 rfl (dv_r1 _) ?_
      exact ⟨by rw [hI.2.2.2.2.2.2], hI⟩
    · have hx := dv_nge hi13 (by omega) c21
      refine J_aload_n dX7_renames_24 (pc' := 25) rfl rfl ?_
      refine J_iload_n dX7_renames_25 (pc' := 26) rfl rfl ?_
      refine J_vq (As := [.int (nI i)]) (rest := []) (qX7_draftsOffer _ S2 n w i wl wm (rnI_T hI (by omega) hZ) hx (rnI_B hI hBZ)) vX7_draftsOffer mX7_280 kd_0 dX7_renames_26 (pc' := 29) rfl rfl (Nat.le_of_ble_eq_true rfl) (by decide) ?_
      rintro r S3 ⟨rfl, hD⟩
      have hD2 : dfI S2 i (olS (nnS S) w wl wm n i) S3 := by rw [← (rnI_ol hI (show i < 80 by omega)).1]; exact hD
      show dv_J yX7_renames cX7_renames 2 (some .int) (dv_rm (d + 7)) 0 0 29 [some (.ref 0), some (.int (nI i))] [.int (dv_b (nm_ok (ofS S2 w wl wm (S2.2.1 18) i (pnS S2 i)) && !decide (ofS S2 w wl wm (S2.2.1 18) i (pnS S2 i) = tx S2 (25 + 2 * i))))] S3 (fun r S' => r = some (.int (nI (dv_ct (ogS (nnS S) w wl wm n) n))) ∧ rnI (nnS S) w wl wm n n S')
      refine J_top (w := .int (dv_b (ogS (nnS S) w wl wm n i))) (congrArg (fun z => Value.int (dv_b z)) (rnI_ol hI (show i < 80 by omega)).2) ?_
      refine J_beq dX7_renames_29 (pt := 44) (by decide) (pc' := 32) rfl (fun c29 => ?_) (fun c29 => ?_)
      · refine J_iinc dX7_renames_44 (pc' := 47) rfl rfl (v := nI (i + 1)) (nI_1 i) (by decide) rfl (l' := [some (.ref 0), some (.int (nI (i + 1)))]) rfl ?_
        refine J_goto dX7_renames_47 (pc' := 13) (by decide) ?_
        exact ih13 (i + 1) (by omega) (by omega) _ (rnI_n hI (by omega) hD2.1 c29)
      · refine J_aload_n dX7_renames_32 (pc' := 33) rfl rfl ?_
        refine J_getr fX7_65 kd_0 rf_0_9 dX7_renames_33 (pc' := 36) rfl ?_
        refine J_iload_n dX7_renames_36 (pc' := 37) rfl rfl ?_
        refine J_aload_n dX7_renames_37 (pc' := 38) rfl rfl ?_
        refine J_getr fX7_21 kd_0 rf_0_2 dX7_renames_38 (pc' := 41) rfl ?_
        refine J_v0 (As := [.int (nI i), .ref 5]) (rest := []) (qX2_put188 _ S3 i 5 (min (olS (nnS S) w wl wm n i).length 24) (by omega) kd_5 kd_6 hD2.2.2.1 (dt_len hD2.2.2) (by omega) (by omega)) vX2_put mX7_288 kd_188 dX7_renames_41 (pc' := 44) rfl rfl (Nat.le_of_ble_eq_true rfl) (by decide) ?_
        refine J_iinc dX7_renames_44 (pc' := 47) rfl rfl (v := nI (i + 1)) (nI_1 i) (by decide) rfl (l' := [some (.ref 0), some (.int (nI (i + 1)))]) rfl ?_
        refine J_goto dX7_renames_47 (pc' := 13) (by decide) ?_
        exact ih13 (i + 1) (by omega) (by omega) _ (rnI_y hI (by omega) hD2.1 hD2.2.2 c29)
  refine J_loc (l' := [some (.ref 0), some (.int (nI 0))]) (by simp only [nI_0, dv_b_f, dv_b_t]) ?_
  refine J_sto (S' := S1) (rfl) ?_
  exact hlp13 0 (Nat.zero_le _) _ (rnI0 hC (fun j hj => nnS_189 S hj) (dv_u_eq S.1 188 2 0))
