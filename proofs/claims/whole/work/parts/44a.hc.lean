set_option maxRecDepth 100000 in
set_option maxHeartbeats 400000 in
theorem qX7_offerN (d : Nat) (S : dv_S) (x : Int32) (hx : decide (0 ≤ x ∧ x < S.1 21 3) = false)  : dv_M yX7_offer cX7_offer 2 (some .int) (dv_rm (d + 7)) [.ref 0, .int x] S (fun r S' => r = some (.int (-1)) ∧ S' = (rfS S 1)) := by
  refine dv_M_of [some (.ref 0), some (.int x)] (by decide) (fun _ _ => Nat.le_of_ble_eq_true rfl) (fun _ _ => rfl) ?_
  refine J_aload_n dX7_offer_0 (pc' := 1) rfl rfl ?_
  refine J_getr fX7_51 kd_0 rf_0_7 dX7_offer_1 (pc' := 4) rfl ?_
  refine J_iload_n dX7_offer_4 (pc' := 5) rfl rfl ?_
  refine J_v1 (As := [.int x]) (rest := []) (qX5_has _ _ _) vX5_has mX7_160 kd_21 dX7_offer_5 (pc' := 8) rfl rfl (Nat.le_of_ble_eq_true rfl) (by decide) ?_
  refine J_bne dX7_offer_8 (pt := 17) (by decide) (pc' := 11) rfl (fun c8 => ?_) (fun c8 => ?_)
  · exact absurd c8 (by rw [hx]; decide)
  · refine J_aload_n dX7_offer_11 (pc' := 12) rfl rfl ?_
    refine J_iconst dX7_offer_12 (pc' := 13) rfl (v := 1) ic_1 ?_
    refine J_v1 (As := [.int 1]) (rest := []) (qX7_refused _ _ _) vX7_refused mX7_122 kd_0 dX7_offer_13 (pc' := 16) rfl rfl (Nat.le_of_ble_eq_true rfl) (by decide) ?_
    refine J_iret dX7_offer_16 rfl (dv_r1 _) ?_
    exact ⟨rfl, rfl⟩
set_option maxRecDepth 100000 in
set_option maxHeartbeats 400000 in
theorem qX7_offer0 (d : Nat) (S : dv_S) (n w t : Nat) (wl : Nat → Nat → Int32) (wm : Nat → Nat) (hT : cw_T S n) (ht : t < n) (hB : cw_B S w wl wm) (hg : ogS S w wl wm n t = false)  : dv_M yX7_offer cX7_offer 2 (some .int) (dv_rm (d + 7)) [.ref 0, .int (nI t)] S (fun r S' => r = some (.int (-2)) ∧ ∃ S2, fr sgF sgG S S2 ∧ S' = (rfS S2 0)) := by
  have h80 := hT.2.1
  have htl := (hT.2.2 t ht).1
  have hw := hB.1
  have hw60 := hB.2.1
  refine dv_M_of [some (.ref 0), some (.int (nI t))] (by decide) (fun _ _ => Nat.le_of_ble_eq_true rfl) (fun _ _ => rfl) ?_
  refine J_aload_n dX7_offer_0 (pc' := 1) rfl rfl ?_
  refine J_getr fX7_51 kd_0 rf_0_7 dX7_offer_1 (pc' := 4) rfl ?_
  refine J_iload_n dX7_offer_4 (pc' := 5) rfl rfl ?_
  refine J_v1 (As := [.int (nI t)]) (rest := []) (qX5_has _ _ _) vX5_has mX7_160 kd_21 dX7_offer_5 (pc' := 8) rfl rfl (Nat.le_of_ble_eq_true rfl) (by decide) ?_
  refine J_bne dX7_offer_8 (pt := 17) (by decide) (pc' := 11) rfl (fun c8 => ?_) (fun c8 => ?_)
  · refine J_aload_n dX7_offer_17 (pc' := 18) rfl rfl ?_
    refine J_vq (As := []) (rest := []) (qX7_countUsed _ _ n w hT hw hw60) vX7_countUsed mX7_243 kd_0 dX7_offer_18 (pc' := 21) rfl rfl (Nat.le_of_ble_eq_true rfl) (by decide) ?_
    rintro r S1 ⟨rfl, hI⟩
    show dv_J yX7_offer cX7_offer 2 (some .int) (dv_rm (d + 7)) 0 0 21 [some (.ref 0), some (.int (nI t))] [] S1 (fun r S' => r = some (.int (-2)) ∧ ∃ S2, fr sgF sgG S S2 ∧ S' = (rfS S2 0))
    refine J_aload_n dX7_offer_21 (pc' := 22) rfl rfl ?_
    refine J_iload_n dX7_offer_22 (pc' := 23) rfl rfl ?_
    refine J_vq (As := [.int (nI t)]) (rest := []) (qX7_draftsOffer _ S1 n w t wl wm (hI.1.T hT) ht (hI.1.fr.B (by decide) hB)) vX7_draftsOffer mX7_280 kd_0 dX7_offer_23 (pc' := 26) rfl rfl (Nat.le_of_ble_eq_true rfl) (by decide) ?_
    rintro r S2 ⟨rfl, hD⟩
    have hD2 : dfI S1 t (olS S w wl wm n t) S2 := by rw [← (cuI_og (wl := wl) (wm := wm) hI (show t < 80 by omega)).1]; exact hD
    have hfr : fr sgF sgG S S2 := (hI.1.fr.mono (by decide) (by decide)).tr (hD2.1.mono (by decide) (by decide))
    show dv_J yX7_offer cX7_offer 2 (some .int) (dv_rm (d + 7)) 0 0 26 [some (.ref 0), some (.int (nI t))] [.int (dv_b (nm_ok (ofS S1 w wl wm (S1.2.1 18) t (pnS S1 t)) && !decide (ofS S1 w wl wm (S1.2.1 18) t (pnS S1 t) = tx S1 (25 + 2 * t))))] S2 (fun r S' => r = some (.int (-2)) ∧ ∃ S2, fr sgF sgG S S2 ∧ S' = (rfS S2 0))
    refine J_top (w := .int (dv_b (ogS S w wl wm n t))) (congrArg (fun z => Value.int (dv_b z)) (cuI_og hI (show t < 80 by omega)).2) ?_
    refine J_bne dX7_offer_26 (pt := 36) (by decide) (pc' := 29) rfl (fun c26 => ?_) (fun c26 => ?_)
    · exact absurd c26 (by rw [hg]; decide)
    · refine J_aload_n dX7_offer_29 (pc' := 30) rfl rfl ?_
      refine J_bipush dX7_offer_30 (pc' := 32) rfl (v := (-2)) bp_m2 ?_
      refine J_v1 (As := [.int ((-2))]) (rest := []) (qX7_accepted _ _ _) vX7_accepted mX7_131 kd_0 dX7_offer_32 (pc' := 35) rfl rfl (Nat.le_of_ble_eq_true rfl) (by decide) ?_
      refine J_iret dX7_offer_35 rfl (dv_r1 _) ?_
      exact ⟨rfl, S2, hfr, rfl⟩
  · exact absurd (dv_has ht hT.1 (by omega)) (by rw [c8]; decide)
set_option maxRecDepth 100000 in
set_option maxHeartbeats 400000 in
theorem qX7_offerY (d : Nat) (S : dv_S) (n w t : Nat) (wl : Nat → Nat → Int32) (wm : Nat → Nat) (hT : cw_T S n) (ht : t < n) (hB : cw_B S w wl wm) (hg : ogS S w wl wm n t = true)  : dv_M yX7_offer cX7_offer 2 (some .int) (dv_rm (d + 7)) [.ref 0, .int (nI t)] S (fun r S' => r = some (.int (nI (olS S w wl wm n t).length)) ∧ ∃ S2, fr sgF sgG S S2 ∧ dt S2 (olS S w wl wm n t) ∧ S' = (rfS (dv_tx S2 7 (olS S w wl wm n t).length (S2.2.1 6)) 0)) := by
  have h80 := hT.2.1
  have htl := (hT.2.2 t ht).1
  have hw := hB.1
  have hw60 := hB.2.1
  have hL := ogS_len hg
  refine dv_M_of [some (.ref 0), some (.int (nI t))] (by decide) (fun _ _ => Nat.le_of_ble_eq_true rfl) (fun _ _ => rfl) ?_
  refine J_aload_n dX7_offer_0 (pc' := 1) rfl rfl ?_
  refine J_getr fX7_51 kd_0 rf_0_7 dX7_offer_1 (pc' := 4) rfl ?_
  refine J_iload_n dX7_offer_4 (pc' := 5) rfl rfl ?_
  refine J_v1 (As := [.int (nI t)]) (rest := []) (qX5_has _ _ _) vX5_has mX7_160 kd_21 dX7_offer_5 (pc' := 8) rfl rfl (Nat.le_of_ble_eq_true rfl) (by decide) ?_
  refine J_bne dX7_offer_8 (pt := 17) (by decide) (pc' := 11) rfl (fun c8 => ?_) (fun c8 => ?_)
  · refine J_aload_n dX7_offer_17 (pc' := 18) rfl rfl ?_
    refine J_vq (As := []) (rest := []) (qX7_countUsed _ _ n w hT hw hw60) vX7_countUsed mX7_243 kd_0 dX7_offer_18 (pc' := 21) rfl rfl (Nat.le_of_ble_eq_true rfl) (by decide) ?_
    rintro r S1 ⟨rfl, hI⟩
    show dv_J yX7_offer cX7_offer 2 (some .int) (dv_rm (d + 7)) 0 0 21 [some (.ref 0), some (.int (nI t))] [] S1 (fun r S' => r = some (.int (nI (olS S w wl wm n t).length)) ∧ ∃ S2, fr sgF sgG S S2 ∧ dt S2 (olS S w wl wm n t) ∧ S' = (rfS (dv_tx S2 7 (olS S w wl wm n t).length (S2.2.1 6)) 0))
    refine J_aload_n dX7_offer_21 (pc' := 22) rfl rfl ?_
    refine J_iload_n dX7_offer_22 (pc' := 23) rfl rfl ?_
    refine J_vq (As := [.int (nI t)]) (rest := []) (qX7_draftsOffer _ S1 n w t wl wm (hI.1.T hT) ht (hI.1.fr.B (by decide) hB)) vX7_draftsOffer mX7_280 kd_0 dX7_offer_23 (pc' := 26) rfl rfl (Nat.le_of_ble_eq_true rfl) (by decide) ?_
    rintro r S2 ⟨rfl, hD⟩
    have hD2 : dfI S1 t (olS S w wl wm n t) S2 := by rw [← (cuI_og (wl := wl) (wm := wm) hI (show t < 80 by omega)).1]; exact hD
    have hfr : fr sgF sgG S S2 := (hI.1.fr.mono (by decide) (by decide)).tr (hD2.1.mono (by decide) (by decide))
    show dv_J yX7_offer cX7_offer 2 (some .int) (dv_rm (d + 7)) 0 0 26 [some (.ref 0), some (.int (nI t))] [.int (dv_b (nm_ok (ofS S1 w wl wm (S1.2.1 18) t (pnS S1 t)) && !decide (ofS S1 w wl wm (S1.2.1 18) t (pnS S1 t) = tx S1 (25 + 2 * t))))] S2 (fun r S' => r = some (.int (nI (olS S w wl wm n t).length)) ∧ ∃ S2, fr sgF sgG S S2 ∧ dt S2 (olS S w wl wm n t) ∧ S' = (rfS (dv_tx S2 7 (olS S w wl wm n t).length (S2.2.1 6)) 0))
    refine J_top (w := .int (dv_b (ogS S w wl wm n t))) (congrArg (fun z => Value.int (dv_b z)) (cuI_og hI (show t < 80 by omega)).2) ?_
    refine J_bne dX7_offer_26 (pt := 36) (by decide) (pc' := 29) rfl (fun c26 => ?_) (fun c26 => ?_)
    · refine J_aload_n dX7_offer_36 (pc' := 37) rfl rfl ?_
      refine J_getr fX7_24 kd_0 rf_0_3 dX7_offer_37 (pc' := 40) rfl ?_
      refine J_aload_n dX7_offer_40 (pc' := 41) rfl rfl ?_
      refine J_getr fX7_21 kd_0 rf_0_2 dX7_offer_41 (pc' := 44) rfl ?_
      refine J_v0 (As := [.ref 5]) (rest := []) (qX4_set _ S2 7 5 (olS S w wl wm n t).length kd_7 kd_8 kd_5 kd_6 (by rw [hD2.2.2.1]; congr 1; omega) (by rw [show dv_ln (5 + 1) = 24 from ln_6]; exact hL) (by rw [show dv_ln (7 + 1) = 24 from ln_8]; exact hL) (by decide)) vX4_set mX7_283 kd_7 dX7_offer_44 (pc' := 47) rfl rfl (Nat.le_of_ble_eq_true rfl) (by decide) ?_
      refine J_aload_n dX7_offer_47 (pc' := 48) rfl rfl ?_
      refine J_aload_n dX7_offer_48 (pc' := 49) rfl rfl ?_
      refine J_getr fX7_24 kd_0 rf_0_3 dX7_offer_49 (pc' := 52) rfl ?_
      refine J_v1 (As := []) (rest := [.ref 0]) (qX4_size _ _ 7 kd_7) vX4_size mX7_88 kd_7 dX7_offer_52 (pc' := 55) rfl rfl (Nat.le_of_ble_eq_true rfl) (by decide) ?_
      refine J_v1 (As := [.int ((dv_tx S2 7 (olS S w wl wm n t).length (S2.2.1 (5 + 1))).1 7 1)]) (rest := []) (qX7_accepted _ _ _) vX7_accepted mX7_131 kd_0 dX7_offer_55 (pc' := 58) rfl rfl (Nat.le_of_ble_eq_true rfl) (by decide) ?_
      refine J_iret dX7_offer_58 rfl (dv_r1 _) ?_
      exact ⟨by rw [dv_tx_n], S2, hfr, hD2.2.2, rfl⟩
    · exact absurd c26 (by rw [hg]; decide)
  · exact absurd (dv_has ht hT.1 (by omega)) (by rw [c8]; decide)
set_option maxRecDepth 100000 in
set_option maxHeartbeats 400000 in
theorem qX7_renameN1 (d : Nat) (S : dv_S) (x z : Int32) (hx : decide (0 ≤ x ∧ x < S.1 21 3) = false)  : dv_M yX7_rename cX7_rename 3 (some .int) (dv_rm (d + 4)) [.ref 0, .int x, .int z] S (fun r S' => r = some (.int (-1)) ∧ S' = (rfS S 1)) := by
  refine dv_M_of [some (.ref 0), some (.int x), some (.int z)] (by decide) (fun _ _ => Nat.le_of_ble_eq_true rfl) (fun _ _ => rfl) ?_
  refine J_aload_n dX7_rename_0 (pc' := 1) rfl rfl ?_
  refine J_getr fX7_51 kd_0 rf_0_7 dX7_rename_1 (pc' := 4) rfl ?_
  refine J_iload_n dX7_rename_4 (pc' := 5) rfl rfl ?_
  refine J_v1 (As := [.int x]) (rest := []) (qX5_has _ _ _) vX5_has mX7_160 kd_21 dX7_rename_5 (pc' := 8) rfl rfl (Nat.le_of_ble_eq_true rfl) (by decide) ?_
  refine J_bne dX7_rename_8 (pt := 17) (by decide) (pc' := 11) rfl (fun c8 => ?_) (fun c8 => ?_)
  · exact absurd c8 (by rw [hx]; decide)
  · refine J_aload_n dX7_rename_11 (pc' := 12) rfl rfl ?_
    refine J_iconst dX7_rename_12 (pc' := 13) rfl (v := 1) ic_1 ?_
    refine J_v1 (As := [.int 1]) (rest := []) (qX7_refused _ _ _) vX7_refused mX7_122 kd_0 dX7_rename_13 (pc' := 16) rfl rfl (Nat.le_of_ble_eq_true rfl) (by decide) ?_
    refine J_iret dX7_rename_16 rfl (dv_r1 _) ?_
    exact ⟨rfl, rfl⟩
set_option maxRecDepth 100000 in
set_option maxHeartbeats 400000 in
theorem qX7_renameN2 (d : Nat) (S : dv_S) (z : Int32) (n t : Nat) (hT : cw_T S n) (ht : t < n) (hz : decide (0 ≤ z ∧ z ≤ S.1 1 1) = false)  : dv_M yX7_rename cX7_rename 3 (some .int) (dv_rm (d + 4)) [.ref 0, .int (nI t), .int z] S (fun r S' => r = some (.int (-1)) ∧ S' = (rfS S 2)) := by
  have h80 := hT.2.1
  have htl := (hT.2.2 t ht).1
  refine dv_M_of [some (.ref 0), some (.int (nI t)), some (.int z)] (by decide) (fun _ _ => Nat.le_of_ble_eq_true rfl) (fun _ _ => rfl) ?_
  refine J_aload_n dX7_rename_0 (pc' := 1) rfl rfl ?_
  refine J_getr fX7_51 kd_0 rf_0_7 dX7_rename_1 (pc' := 4) rfl ?_
  refine J_iload_n dX7_rename_4 (pc' := 5) rfl rfl ?_
  refine J_v1 (As := [.int (nI t)]) (rest := []) (qX5_has _ _ _) vX5_has mX7_160 kd_21 dX7_rename_5 (pc' := 8) rfl rfl (Nat.le_of_ble_eq_true rfl) (by decide) ?_
  refine J_bne dX7_rename_8 (pt := 17) (by decide) (pc' := 11) rfl (fun c8 => ?_) (fun c8 => ?_)
  · refine J_aload_n dX7_rename_17 (pc' := 18) rfl rfl ?_
    refine J_iload_n dX7_rename_18 (pc' := 19) rfl rfl ?_
    refine J_v1 (As := [.int z]) (rest := []) (qX7_takesNameN _ _ _ hz) vX7_takesName mX7_137 kd_0 dX7_rename_19 (pc' := 22) rfl rfl (Nat.le_of_ble_eq_true rfl) (by decide) ?_
    refine J_if_ne dX7_rename_22 (pt := 31) (by decide) (pc' := 25) rfl (fun c22 => ?_) (fun c22 => ?_)
    · exact absurd c22 (by decide)
    · refine J_aload_n dX7_rename_25 (pc' := 26) rfl rfl ?_
      refine J_iconst dX7_rename_26 (pc' := 27) rfl (v := 2) ic_2 ?_
      refine J_v1 (As := [.int 2]) (rest := []) (qX7_refused _ _ _) vX7_refused mX7_122 kd_0 dX7_rename_27 (pc' := 30) rfl rfl (Nat.le_of_ble_eq_true rfl) (by decide) ?_
      refine J_iret dX7_rename_30 rfl (dv_r1 _) ?_
      exact ⟨rfl, rfl⟩
  · exact absurd (dv_has ht hT.1 (by omega)) (by rw [c8]; decide)
set_option maxRecDepth 100000 in
set_option maxHeartbeats 400000 in
theorem qX7_renameN3 (d : Nat) (S : dv_S) (n t k tn : Nat) (hT : cw_T S n) (ht : t < n) (htn : S.1 1 1 = nI tn) (hk : k ≤ tn) (h200 : tn ≤ 200) (hc : nm_ok (dv_rd (S.2.1 2) k) = false)  : dv_M yX7_rename cX7_rename 3 (some .int) (dv_rm (d + 4)) [.ref 0, .int (nI t), .int (nI k)] S (fun r S' => r = some (.int (-1)) ∧ S' = (rfS (dv_tc S k) 2)) := by
  have h80 := hT.2.1
  have htl := (hT.2.2 t ht).1
  refine dv_M_of [some (.ref 0), some (.int (nI t)), some (.int (nI k))] (by decide) (fun _ _ => Nat.le_of_ble_eq_true rfl) (fun _ _ => rfl) ?_
  refine J_aload_n dX7_rename_0 (pc' := 1) rfl rfl ?_
  refine J_getr fX7_51 kd_0 rf_0_7 dX7_rename_1 (pc' := 4) rfl ?_
  refine J_iload_n dX7_rename_4 (pc' := 5) rfl rfl ?_
  refine J_v1 (As := [.int (nI t)]) (rest := []) (qX5_has _ _ _) vX5_has mX7_160 kd_21 dX7_rename_5 (pc' := 8) rfl rfl (Nat.le_of_ble_eq_true rfl) (by decide) ?_
  refine J_bne dX7_rename_8 (pt := 17) (by decide) (pc' := 11) rfl (fun c8 => ?_) (fun c8 => ?_)
  · refine J_aload_n dX7_rename_17 (pc' := 18) rfl rfl ?_
    refine J_iload_n dX7_rename_18 (pc' := 19) rfl rfl ?_
    refine J_v1 (As := [.int (nI k)]) (rest := []) (qX7_takesName _ _ k tn htn hk h200) vX7_takesName mX7_137 kd_0 dX7_rename_19 (pc' := 22) rfl rfl (Nat.le_of_ble_eq_true rfl) (by decide) ?_
    refine J_bne dX7_rename_22 (pt := 31) (by decide) (pc' := 25) rfl (fun c22 => ?_) (fun c22 => ?_)
    · exact absurd c22 (by rw [hc]; decide)
    · refine J_aload_n dX7_rename_25 (pc' := 26) rfl rfl ?_
      refine J_iconst dX7_rename_26 (pc' := 27) rfl (v := 2) ic_2 ?_
      refine J_v1 (As := [.int 2]) (rest := []) (qX7_refused _ _ _) vX7_refused mX7_122 kd_0 dX7_rename_27 (pc' := 30) rfl rfl (Nat.le_of_ble_eq_true rfl) (by decide) ?_
      refine J_iret dX7_rename_30 rfl (dv_r1 _) ?_
      exact ⟨rfl, rfl⟩
  · exact absurd (dv_has ht hT.1 (by omega)) (by rw [c8]; decide)
set_option maxRecDepth 100000 in
set_option maxHeartbeats 400000 in
theorem qX7_renameY (d : Nat) (S : dv_S) (n t k tn : Nat) (hT : cw_T S n) (ht : t < n) (htn : S.1 1 1 = nI tn) (hk : k ≤ tn) (h200 : tn ≤ 200) (hc : nm_ok (dv_rd (S.2.1 2) k) = true)  : dv_M yX7_rename cX7_rename 3 (some .int) (dv_rm (d + 4)) [.ref 0, .int (nI t), .int (nI k)] S (fun r S' => r = some (.int ((rnS S k t).1 188 2)) ∧ S' = (rfS (rnS S k t) 0)) := by
  have h80 := hT.2.1
  have htl := (hT.2.2 t ht).1
  refine dv_M_of [some (.ref 0), some (.int (nI t)), some (.int (nI k))] (by decide) (fun _ _ => Nat.le_of_ble_eq_true rfl) (fun _ _ => rfl) ?_
  refine J_aload_n dX7_rename_0 (pc' := 1) rfl rfl ?_
  refine J_getr fX7_51 kd_0 rf_0_7 dX7_rename_1 (pc' := 4) rfl ?_
  refine J_iload_n dX7_rename_4 (pc' := 5) rfl rfl ?_
  refine J_v1 (As := [.int (nI t)]) (rest := []) (qX5_has _ _ _) vX5_has mX7_160 kd_21 dX7_rename_5 (pc' := 8) rfl rfl (Nat.le_of_ble_eq_true rfl) (by decide) ?_
  refine J_bne dX7_rename_8 (pt := 17) (by decide) (pc' := 11) rfl (fun c8 => ?_) (fun c8 => ?_)
  · refine J_aload_n dX7_rename_17 (pc' := 18) rfl rfl ?_
    refine J_iload_n dX7_rename_18 (pc' := 19) rfl rfl ?_
    refine J_v1 (As := [.int (nI k)]) (rest := []) (qX7_takesName _ _ k tn htn hk h200) vX7_takesName mX7_137 kd_0 dX7_rename_19 (pc' := 22) rfl rfl (Nat.le_of_ble_eq_true rfl) (by decide) ?_
    refine J_bne dX7_rename_22 (pt := 31) (by decide) (pc' := 25) rfl (fun c22 => ?_) (fun c22 => ?_)
    · refine J_aload_n dX7_rename_31 (pc' := 32) rfl rfl ?_
      refine J_getr fX7_65 kd_0 rf_0_9 dX7_rename_32 (pc' := 35) rfl ?_
      refine J_iload_n dX7_rename_35 (pc' := 36) rfl rfl ?_
      refine J_aload_n dX7_rename_36 (pc' := 37) rfl rfl ?_
      refine J_getr fX7_18 kd_0 rf_0_1 dX7_rename_37 (pc' := 40) rfl ?_
      refine J_v0 (As := [.int (nI t), .ref 3]) (rest := []) (qX2_put188 _ (dv_tc S k) t 3 (min k 24) (by omega) kd_3 kd_4 (dv_tc_n _ _) (by rw [show dv_ln (3 + 1) = 24 from ln_4]; omega) (by omega) (by omega)) vX2_put mX7_288 kd_188 dX7_rename_40 (pc' := 43) rfl rfl (Nat.le_of_ble_eq_true rfl) (by decide) ?_
      refine J_aload_n dX7_rename_43 (pc' := 44) rfl rfl ?_
      refine J_aload_n dX7_rename_44 (pc' := 45) rfl rfl ?_
      refine J_getr fX7_65 kd_0 rf_0_9 dX7_rename_45 (pc' := 48) rfl ?_
      refine J_v1 (As := []) (rest := [.ref 0]) (qX2_size188 _ _) vX2_size mX7_292 kd_188 dX7_rename_48 (pc' := 51) rfl rfl (Nat.le_of_ble_eq_true rfl) (by decide) ?_
      refine J_v1 (As := [.int ((rnS S k t).1 188 2)]) (rest := []) (qX7_accepted _ _ _) vX7_accepted mX7_131 kd_0 dX7_rename_51 (pc' := 54) rfl rfl (Nat.le_of_ble_eq_true rfl) (by decide) ?_
      refine J_iret dX7_rename_54 rfl (dv_r1 _) ?_
      exact ⟨rfl, rfl⟩
    · exact absurd c22 (by rw [hc]; decide)
  · exact absurd (dv_has ht hT.1 (by omega)) (by rw [c8]; decide)
set_option maxRecDepth 100000 in
set_option maxHeartbeats 400000 in
theorem qX7_none (d : Nat) (S : dv_S)  : dv_M yX7_none cX7_none 2 (some .int) (dv_rm (d + 2)) [.ref 0] S (fun r S' => r = some (.int (S.1 188 2)) ∧ S' = (nnS S)) := by
  refine dv_M_of [some (.ref 0), none] (by decide) (fun _ _ => Nat.le_of_ble_eq_true rfl) (fun _ _ => rfl) ?_
  refine J_aload_n dX7_none_0 (pc' := 1) rfl rfl ?_
  refine J_getr fX7_65 kd_0 rf_0_9 dX7_none_1 (pc' := 4) rfl ?_
  refine J_v1 (As := []) (rest := []) (qX2_size188 _ _) vX2_size mX7_292 kd_188 dX7_none_4 (pc' := 7) rfl rfl (Nat.le_of_ble_eq_true rfl) (by decide) ?_
  refine J_istore_n dX7_none_7 (pc' := 8) rfl rfl (by decide) rfl (l' := [some (.ref 0), some (.int (S.1 188 2))]) rfl ?_
  refine J_aload_n dX7_none_8 (pc' := 9) rfl rfl ?_
  refine J_getr fX7_65 kd_0 rf_0_9 dX7_none_9 (pc' := 12) rfl ?_
  refine J_v0 (As := []) (rest := []) (qX2_clear188 _ _) vX2_clear mX7_293 kd_188 dX7_none_12 (pc' := 15) rfl rfl (Nat.le_of_ble_eq_true rfl) (by decide) ?_
  refine J_iload_n dX7_none_15 (pc' := 16) rfl rfl ?_
  refine J_iret dX7_none_16 rfl (dv_r1 _) ?_
  exact ⟨rfl, rfl⟩
set_option maxRecDepth 100000 in
set_option maxHeartbeats 400000 in
theorem qX7_turnN (d : Nat) (S : dv_S) (n sn un : Nat) (hT : cw_T S n) (hS : cw_S S n sn) (hU : cw_U S n sn un) (hs : (decide (dv_fo (cl_db S) n = none) && decide (dv_fo (cl_st S n) un = none)) = false)  : dv_M yX7_turn cX7_turn 2 (some .int) (dv_rm (d + 7)) [.ref 0] S (fun r S' => r = some (.int (-1)) ∧ S' = (rfS S 5)) := by
  have h80 := hT.2.1
  have h20 := hS.2.1
  have h150 := hU.2.1
  refine dv_M_of [some (.ref 0), none] (by decide) (fun _ _ => Nat.le_of_ble_eq_true rfl) (fun _ _ => rfl) ?_
  refine J_aload_n dX7_turn_0 (pc' := 1) rfl rfl ?_
  refine J_v1 (As := []) (rest := []) (qX7_firstDoubled _ _ n hT) vX7_firstDoubled mX7_294 kd_0 dX7_turn_1 (pc' := 4) rfl rfl (Nat.le_of_ble_eq_true rfl) (by decide) ?_
  refine J_bipush dX7_turn_4 (pc' := 6) rfl (v := (-2)) bp_m2 ?_
  refine J_icmp_ne dX7_turn_6 (pt := 18) (by decide) (pc' := 9) rfl (fun c6 => ?_) (fun c6 => ?_)
  · rw [(dv_oi_m2 (fun j hj => by have := (dv_fo_spec hj).1; omega))] at c6
    refine J_aload_n dX7_turn_18 (pc' := 19) rfl rfl ?_
    refine J_iconst dX7_turn_19 (pc' := 20) rfl (v := 5) ic_5 ?_
    refine J_v1 (As := [.int 5]) (rest := []) (qX7_refused _ _ _) vX7_refused mX7_122 kd_0 dX7_turn_20 (pc' := 23) rfl rfl (Nat.le_of_ble_eq_true rfl) (by decide) ?_
    refine J_iret dX7_turn_23 rfl (dv_r1 _) ?_
    exact ⟨rfl, rfl⟩
  · rw [(dv_oi_m2 (fun j hj => by have := (dv_fo_spec hj).1; omega))] at c6
    refine J_aload_n dX7_turn_9 (pc' := 10) rfl rfl ?_
    refine J_v1 (As := []) (rest := []) (qX7_firstStrayed _ _ n sn un hT hS hU) vX7_firstStrayed mX7_297 kd_0 dX7_turn_10 (pc' := 13) rfl rfl (Nat.le_of_ble_eq_true rfl) (by decide) ?_
    refine J_bipush dX7_turn_13 (pc' := 15) rfl (v := (-2)) bp_m2 ?_
    refine J_icmp_eq dX7_turn_15 (pt := 24) (by decide) (pc' := 18) rfl (fun c15 => ?_) (fun c15 => ?_)
    · rw [(dv_oi_m2 (fun j hj => by have := (dv_fo_spec hj).1; omega))] at c15
      exact absurd hs (by simp [c6, c15])
    · rw [(dv_oi_m2 (fun j hj => by have := (dv_fo_spec hj).1; omega))] at c15
      refine J_aload_n dX7_turn_18 (pc' := 19) rfl rfl ?_
      refine J_iconst dX7_turn_19 (pc' := 20) rfl (v := 5) ic_5 ?_
      refine J_v1 (As := [.int 5]) (rest := []) (qX7_refused _ _ _) vX7_refused mX7_122 kd_0 dX7_turn_20 (pc' := 23) rfl rfl (Nat.le_of_ble_eq_true rfl) (by decide) ?_
      refine J_iret dX7_turn_23 rfl (dv_r1 _) ?_
      exact ⟨rfl, rfl⟩
set_option maxRecDepth 100000 in
set_option maxHeartbeats 400000 in
theorem qX7_turnY (d : Nat) (S : dv_S) (n sn un : Nat) (hT : cw_T S n) (hS : cw_S S n sn) (hU : cw_U S n sn un) (hs : (decide (dv_fo (cl_db S) n = none) && decide (dv_fo (cl_st S n) un = none)) = true)  : dv_M yX7_turn cX7_turn 2 (some .int) (dv_rm (d + 7)) [.ref 0] S (fun r S' => r = some (.int ((dv_u (nnS (trn S n)).1 0 13 1, (nnS (trn S n)).2).1 351 2)) ∧ S' = (rfS (dv_u (nnS (trn S n)).1 0 13 1, (nnS (trn S n)).2) 0)) := by
  have h80 := hT.2.1
  have h20 := hS.2.1
  have h150 := hU.2.1
  refine dv_M_of [some (.ref 0), none] (by decide) (fun _ _ => Nat.le_of_ble_eq_true rfl) (fun _ _ => rfl) ?_
  refine J_aload_n dX7_turn_0 (pc' := 1) rfl rfl ?_
  refine J_v1 (As := []) (rest := []) (qX7_firstDoubled _ _ n hT) vX7_firstDoubled mX7_294 kd_0 dX7_turn_1 (pc' := 4) rfl rfl (Nat.le_of_ble_eq_true rfl) (by decide) ?_
  refine J_bipush dX7_turn_4 (pc' := 6) rfl (v := (-2)) bp_m2 ?_
  refine J_icmp_ne dX7_turn_6 (pt := 18) (by decide) (pc' := 9) rfl (fun c6 => ?_) (fun c6 => ?_)
  · rw [(dv_oi_m2 (fun j hj => by have := (dv_fo_spec hj).1; omega))] at c6
    exact absurd hs (by simp [c6])
  · rw [(dv_oi_m2 (fun j hj => by have := (dv_fo_spec hj).1; omega))] at c6
    refine J_aload_n dX7_turn_9 (pc' := 10) rfl rfl ?_
    refine J_v1 (As := []) (rest := []) (qX7_firstStrayed _ _ n sn un hT hS hU) vX7_firstStrayed mX7_297 kd_0 dX7_turn_10 (pc' := 13) rfl rfl (Nat.le_of_ble_eq_true rfl) (by decide) ?_
    refine J_bipush dX7_turn_13 (pc' := 15) rfl (v := (-2)) bp_m2 ?_
    refine J_icmp_eq dX7_turn_15 (pt := 24) (by decide) (pc' := 18) rfl (fun c15 => ?_) (fun c15 => ?_)
    · rw [(dv_oi_m2 (fun j hj => by have := (dv_fo_spec hj).1; omega))] at c15
      refine J_aload_n dX7_turn_24 (pc' := 25) rfl rfl ?_
      refine J_getr fX7_69 kd_0 rf_0_10 dX7_turn_25 (pc' := 28) rfl ?_
      refine J_v0 (As := []) (rest := []) (qX2_clear351 _ _) vX2_clear mX7_293 kd_351 dX7_turn_28 (pc' := 31) rfl rfl (Nat.le_of_ble_eq_true rfl) (by decide) ?_
      refine J_iconst dX7_turn_31 (pc' := 32) rfl (v := 0) ic_0 ?_
      refine J_istore_n dX7_turn_32 (pc' := 33) rfl rfl (by decide) rfl (l' := [some (.ref 0), some (.int 0)]) rfl ?_
      have hlp33 : ∀ i, i ≤ n → dv_J yX7_turn cX7_turn 2 (some .int) (dv_rm (d + 7)) 0 0 33 [some (.ref 0), some (.int (nI i))] [] (trn S i) (fun r S' => r = some (.int ((dv_u (nnS (trn S n)).1 0 13 1, (nnS (trn S n)).2).1 351 2)) ∧ S' = (rfS (dv_u (nnS (trn S n)).1 0 13 1, (nnS (trn S n)).2) 0)) := by
        refine dv_up (P := fun i => dv_J yX7_turn cX7_turn 2 (some .int) (dv_rm (d + 7)) 0 0 33 [some (.ref 0), some (.int (nI i))] [] (trn S i) (fun r S' => r = some (.int ((dv_u (nnS (trn S n)).1 0 13 1, (nnS (trn S n)).2).1 351 2)) ∧ S' = (rfS (dv_u (nnS (trn S n)).1 0 13 1, (nnS (trn S n)).2) 0))) ?_
        intro i hi33 ih33 
        refine J_iload_n dX7_turn_33 (pc' := 34) rfl rfl ?_
        refine J_aload_n dX7_turn_34 (pc' := 35) rfl rfl ?_
        refine J_getr fX7_51 kd_0 rf_0_7 dX7_turn_35 (pc' := 38) rfl ?_
        refine J_v1 (As := []) (rest := [.int (nI i)]) (qX5_size _ _) vX5_size mX7_198 kd_21 dX7_turn_38 (pc' := 41) rfl rfl (Nat.le_of_ble_eq_true rfl) (by decide) ?_
        refine J_top (w := .int (nI n)) (by rw [(trn_F S i (by omega)).1 21 3 (by decide) (fun j hj => by omega), hT.1]) ?_
        refine J_icmp_ge dX7_turn_41 (pt := 96) (by decide) (pc' := 44) rfl (fun c41 => ?_) (fun c41 => ?_)
        · have hx := dv_ge hi33 (by omega) c41
          refine J_aload_n dX7_turn_96 (pc' := 97) rfl rfl ?_
          refine J_getr fX7_65 kd_0 rf_0_9 dX7_turn_97 (pc' := 100) rfl ?_
          refine J_v0 (As := []) (rest := []) (qX2_clear188 _ _) vX2_clear mX7_293 kd_188 dX7_turn_100 (pc' := 103) rfl rfl (Nat.le_of_ble_eq_true rfl) (by decide) ?_
          refine J_aload_n dX7_turn_103 (pc' := 104) rfl rfl ?_
          refine J_iconst dX7_turn_104 (pc' := 105) rfl (v := 1) ic_1 ?_
          refine J_putz fX7_80 kd_0 rf_0_13 (by decide) dX7_turn_105 (pc' := 108) rfl ?_
          refine J_aload_n dX7_turn_108 (pc' := 109) rfl rfl ?_
          refine J_aload_n dX7_turn_109 (pc' := 110) rfl rfl ?_
          refine J_getr fX7_69 kd_0 rf_0_10 dX7_turn_110 (pc' := 113) rfl ?_
          refine J_v1 (As := []) (rest := [.ref 0]) (qX2_size351 _ _) vX2_size mX7_292 kd_351 dX7_turn_113 (pc' := 116) rfl rfl (Nat.le_of_ble_eq_true rfl) (by decide) ?_
          refine J_v1 (As := [.int ((dv_u (nnS (trn S i)).1 0 13 1, (nnS (trn S i)).2).1 351 2)]) (rest := []) (qX7_accepted _ _ _) vX7_accepted mX7_131 kd_0 dX7_turn_116 (pc' := 119) rfl rfl (Nat.le_of_ble_eq_true rfl) (by decide) ?_
          refine J_iret dX7_turn_119 rfl (dv_r1 _) ?_
          subst hx
          exact ⟨rfl, rfl⟩
        · have hx := dv_nge hi33 (by omega) c41
          have htl := (hT.2.2 i hx).1
          refine J_aload_n dX7_turn_44 (pc' := 45) rfl rfl ?_
          refine J_getr fX7_65 kd_0 rf_0_9 dX7_turn_45 (pc' := 48) rfl ?_
          refine J_iload_n dX7_turn_48 (pc' := 49) rfl rfl ?_
          refine J_v1 (As := [.int (nI i)]) (rest := []) (qX2_has188 _ _ i (by omega)) vX2_has mX7_212 kd_188 dX7_turn_49 (pc' := 52) rfl rfl (Nat.le_of_ble_eq_true rfl) (by decide) ?_
          refine J_top (w := .int (dv_b (decide (¬ S.2.1 189 i = 0)))) (by rw [trn_189 S (by omega)]) ?_
          refine J_beq dX7_turn_52 (pt := 90) (by decide) (pc' := 55) rfl (fun c52 => ?_) (fun c52 => ?_)
          · refine J_iinc dX7_turn_90 (pc' := 93) rfl rfl (v := nI (i + 1)) (nI_1 i) (by decide) rfl (l' := [some (.ref 0), some (.int (nI (i + 1)))]) rfl ?_
            refine J_goto dX7_turn_93 (pc' := 33) (by decide) ?_
            exact J_sto (trn_n (Decidable.not_not.mp (of_decide_eq_false c52))).symm (ih33 (i + 1) (by omega) (by omega))
          · have htp := (hT.2.2 i hx).2 (of_decide_eq_true c52)
            refine J_aload_n dX7_turn_55 (pc' := 56) rfl rfl ?_
            refine J_getr fX7_69 kd_0 rf_0_10 dX7_turn_56 (pc' := 59) rfl ?_
            refine J_iload_n dX7_turn_59 (pc' := 60) rfl rfl ?_
            refine J_aload_n dX7_turn_60 (pc' := 61) rfl rfl ?_
            refine J_getr fX7_51 kd_0 rf_0_7 dX7_turn_61 (pc' := 64) rfl ?_
            refine J_iload_n dX7_turn_64 (pc' := 65) rfl rfl ?_
            refine J_v1 (As := [.int (nI i)]) (rest := [.int (nI i), .ref 351]) (qX5_nameOf _ (trn S i) i n (by rw [(trn_at S (by omega)).1]; exact hT.1) hx h80) vX5_nameOf mX7_167 kd_21 dX7_turn_65 (pc' := 68) rfl rfl (Nat.le_of_ble_eq_true rfl) (by decide) ?_
            refine J_v0 (As := [.int (nI i), .ref (25 + 2 * i)]) (rest := []) (qX2_put351 _ (trn S i) i (25 + 2 * i) (dn ((trn S i).1 (25 + 2 * i) 1)) (by omega) (kd_T (by omega)).1 (kd_T (by omega)).2.1 (by rw [(trn_at S (by omega)).2.1]; exact htl.1) (by rw [(kd_T (by omega)).2.2, (trn_at S (by omega)).2.1]; exact htl.2) (by rw [(trn_at S (by omega)).2.1]; exact htl.2) (by omega)) vX2_put mX7_288 kd_351 dX7_turn_68 (pc' := 71) rfl rfl (Nat.le_of_ble_eq_true rfl) (by decide) ?_
            refine J_aload_n dX7_turn_71 (pc' := 72) rfl rfl ?_
            refine J_getr fX7_51 kd_0 rf_0_7 dX7_turn_72 (pc' := 75) rfl ?_
            refine J_iload_n dX7_turn_75 (pc' := 76) rfl rfl ?_
            refine J_v1 (As := [.int (nI i)]) (rest := []) (qX5_nameOf _ (tr1 (trn S i) i) i n (by rw [(trn_at S (by omega)).2.2.1]; exact hT.1) hx h80) vX5_nameOf mX7_167 kd_21 dX7_turn_76 (pc' := 79) rfl rfl (Nat.le_of_ble_eq_true rfl) (by decide) ?_
            refine J_aload_n dX7_turn_79 (pc' := 80) rfl rfl ?_
            refine J_getr fX7_65 kd_0 rf_0_9 dX7_turn_80 (pc' := 83) rfl ?_
            refine J_iload_n dX7_turn_83 (pc' := 84) rfl rfl ?_
            refine J_v1 (As := [.int (nI i)]) (rest := [.ref (25 + 2 * i)]) (qX2_nameOf188 _ _ i (by omega)) vX2_nameOf mX7_213 kd_188 dX7_turn_84 (pc' := 87) rfl rfl (Nat.le_of_ble_eq_true rfl) (by decide) ?_
            refine J_v0 (As := [.ref (191 + 2 * i)]) (rest := []) (qX4_set _ (tr1 (trn S i) i) (25 + 2 * i) (191 + 2 * i) (dn (S.1 (191 + 2 * i) 1)) (kd_T (by omega)).1 (kd_T (by omega)).2.1 (kd_P (by omega)).1 (kd_P (by omega)).2.1 (by rw [(trn_at S (by omega)).2.2.2]; exact htp.1) (by rw [(kd_P (by omega)).2.2]; exact htp.2) (by rw [(kd_T (by omega)).2.2]; exact htp.2) (by omega)) vX4_set mX7_283 (kd_T (by omega)).1 dX7_turn_87 (pc' := 90) rfl rfl (Nat.le_of_ble_eq_true rfl) (by decide) ?_
            refine J_iinc dX7_turn_90 (pc' := 93) rfl rfl (v := nI (i + 1)) (nI_1 i) (by decide) rfl (l' := [some (.ref 0), some (.int (nI (i + 1)))]) rfl ?_
            refine J_goto dX7_turn_93 (pc' := 33) (by decide) ?_
            exact J_sto (trn_y (by omega) (of_decide_eq_true c52)) (ih33 (i + 1) (by omega) (by omega))
      refine J_loc (l' := [some (.ref 0), some (.int (nI 0))]) (by simp only [nI_0, dv_b_f, dv_b_t]) ?_
      refine J_sto (S' := (trn S 0)) (rfl) ?_
      exact hlp33 0 (Nat.zero_le _) 
    · rw [(dv_oi_m2 (fun j hj => by have := (dv_fo_spec hj).1; omega))] at c15
      exact absurd hs (by simp [c15])
set_option maxRecDepth 100000 in
set_option maxHeartbeats 400000 in
theorem qX7_backN (d : Nat) (S : dv_S) (hb : S.1 0 13 = 0)  : dv_M yX7_back cX7_back 2 (some .int) (dv_rm (d + 3)) [.ref 0] S (fun r S' => r = some (.int (-1)) ∧ S' = (rfS S 6)) := by
  refine dv_M_of [some (.ref 0), none] (by decide) (fun _ _ => Nat.le_of_ble_eq_true rfl) (fun _ _ => rfl) ?_
  refine J_aload_n dX7_back_0 (pc' := 1) rfl rfl ?_
  refine J_geti fX7_80 kd_0 rf_0_13 dX7_back_1 (pc' := 4) rfl ?_
  refine J_if_ne dX7_back_4 (pt := 14) (by decide) (pc' := 7) rfl (fun c4 => ?_) (fun c4 => ?_)
  · exact absurd hb c4
  · refine J_aload_n dX7_back_7 (pc' := 8) rfl rfl ?_
    refine J_bipush dX7_back_8 (pc' := 10) rfl (v := 6) bp_6 ?_
    refine J_v1 (As := [.int 6]) (rest := []) (qX7_refused _ _ _) vX7_refused mX7_122 kd_0 dX7_back_10 (pc' := 13) rfl rfl (Nat.le_of_ble_eq_true rfl) (by decide) ?_
    refine J_iret dX7_back_13 rfl (dv_r1 _) ?_
    exact ⟨rfl, rfl⟩
set_option maxRecDepth 100000 in
set_option maxHeartbeats 400000 in
theorem qX7_backY (d : Nat) (S : dv_S) (n : Nat) (hb : ¬ S.1 0 13 = 0) (hT : cw_T S n) (hF : ∀ t, t < n → ¬ S.2.1 352 t = 0 → tl S (354 + 2 * t))  : dv_M yX7_back cX7_back 2 (some .int) (dv_rm (d + 3)) [.ref 0] S (fun r S' => r = some (.int ((dv_u (bkn S n).1 0 13 0, (bkn S n).2).1 351 2)) ∧ S' = (rfS (dv_u (bkn S n).1 0 13 0, (bkn S n).2) 0)) := by
  have h80 := hT.2.1
  refine dv_M_of [some (.ref 0), none] (by decide) (fun _ _ => Nat.le_of_ble_eq_true rfl) (fun _ _ => rfl) ?_
  refine J_aload_n dX7_back_0 (pc' := 1) rfl rfl ?_
  refine J_geti fX7_80 kd_0 rf_0_13 dX7_back_1 (pc' := 4) rfl ?_
  refine J_if_ne dX7_back_4 (pt := 14) (by decide) (pc' := 7) rfl (fun c4 => ?_) (fun c4 => ?_)
  · refine J_iconst dX7_back_14 (pc' := 15) rfl (v := 0) ic_0 ?_
    refine J_istore_n dX7_back_15 (pc' := 16) rfl rfl (by decide) rfl (l' := [some (.ref 0), some (.int 0)]) rfl ?_
    have hlp16 : ∀ i, i ≤ n → dv_J yX7_back cX7_back 2 (some .int) (dv_rm (d + 3)) 0 0 16 [some (.ref 0), some (.int (nI i))] [] (bkn S i) (fun r S' => r = some (.int ((dv_u (bkn S n).1 0 13 0, (bkn S n).2).1 351 2)) ∧ S' = (rfS (dv_u (bkn S n).1 0 13 0, (bkn S n).2) 0)) := by
      refine dv_up (P := fun i => dv_J yX7_back cX7_back 2 (some .int) (dv_rm (d + 3)) 0 0 16 [some (.ref 0), some (.int (nI i))] [] (bkn S i) (fun r S' => r = some (.int ((dv_u (bkn S n).1 0 13 0, (bkn S n).2).1 351 2)) ∧ S' = (rfS (dv_u (bkn S n).1 0 13 0, (bkn S n).2) 0))) ?_
      intro i hi16 ih16 
      refine J_iload_n dX7_back_16 (pc' := 17) rfl rfl ?_
      refine J_aload_n dX7_back_17 (pc' := 18) rfl rfl ?_
      refine J_getr fX7_51 kd_0 rf_0_7 dX7_back_18 (pc' := 21) rfl ?_
      refine J_v1 (As := []) (rest := [.int (nI i)]) (qX5_size _ _) vX5_size mX7_198 kd_21 dX7_back_21 (pc' := 24) rfl rfl (Nat.le_of_ble_eq_true rfl) (by decide) ?_
      refine J_top (w := .int (nI n)) (by rw [(bkn_F S i (by omega)).1 21 3 (fun j hj => by omega), hT.1]) ?_
      refine J_icmp_ge dX7_back_24 (pt := 63) (by decide) (pc' := 27) rfl (fun c24 => ?_) (fun c24 => ?_)
      · have hx := dv_ge hi16 (by omega) c24
        refine J_aload_n dX7_back_63 (pc' := 64) rfl rfl ?_
        refine J_iconst dX7_back_64 (pc' := 65) rfl (v := 0) ic_0 ?_
        refine J_putz fX7_80 kd_0 rf_0_13 (by decide) dX7_back_65 (pc' := 68) rfl ?_
        refine J_aload_n dX7_back_68 (pc' := 69) rfl rfl ?_
        refine J_aload_n dX7_back_69 (pc' := 70) rfl rfl ?_
        refine J_getr fX7_69 kd_0 rf_0_10 dX7_back_70 (pc' := 73) rfl ?_
        refine J_v1 (As := []) (rest := [.ref 0]) (qX2_size351 _ _) vX2_size mX7_292 kd_351 dX7_back_73 (pc' := 76) rfl rfl (Nat.le_of_ble_eq_true rfl) (by decide) ?_
        refine J_v1 (As := [.int ((dv_u (bkn S i).1 0 13 0, (bkn S i).2).1 351 2)]) (rest := []) (qX7_accepted _ _ _) vX7_accepted mX7_131 kd_0 dX7_back_76 (pc' := 79) rfl rfl (Nat.le_of_ble_eq_true rfl) (by decide) ?_
        refine J_iret dX7_back_79 rfl (dv_r1 _) ?_
        subst hx
        exact ⟨rfl, rfl⟩
      · have hx := dv_nge hi16 (by omega) c24
        refine J_aload_n dX7_back_27 (pc' := 28) rfl rfl ?_
        refine J_getr fX7_69 kd_0 rf_0_10 dX7_back_28 (pc' := 31) rfl ?_
        refine J_iload_n dX7_back_31 (pc' := 32) rfl rfl ?_
        refine J_v1 (As := [.int (nI i)]) (rest := []) (qX2_has351 _ _ i (by omega)) vX2_has mX7_212 kd_351 dX7_back_32 (pc' := 35) rfl rfl (Nat.le_of_ble_eq_true rfl) (by decide) ?_
        refine J_top (w := .int (dv_b (decide (¬ S.2.1 352 i = 0)))) (by rw [(bkn_F S i (by omega)).2.1 352 (fun j hj => by omega)]) ?_
        refine J_beq dX7_back_35 (pt := 57) (by decide) (pc' := 38) rfl (fun c35 => ?_) (fun c35 => ?_)
        · refine J_iinc dX7_back_57 (pc' := 60) rfl rfl (v := nI (i + 1)) (nI_1 i) (by decide) rfl (l' := [some (.ref 0), some (.int (nI (i + 1)))]) rfl ?_
          refine J_goto dX7_back_60 (pc' := 16) (by decide) ?_
          exact J_sto (bkn_n (Decidable.not_not.mp (of_decide_eq_false c35))).symm (ih16 (i + 1) (by omega) (by omega))
        · have htp := hF i hx (of_decide_eq_true c35)
          refine J_aload_n dX7_back_38 (pc' := 39) rfl rfl ?_
          refine J_getr fX7_51 kd_0 rf_0_7 dX7_back_39 (pc' := 42) rfl ?_
          refine J_iload_n dX7_back_42 (pc' := 43) rfl rfl ?_
          refine J_v1 (As := [.int (nI i)]) (rest := []) (qX5_nameOf _ _ i n (by rw [(bkn_F S i (by omega)).1 21 3 (fun j hj => by omega)]; exact hT.1) hx h80) vX5_nameOf mX7_167 kd_21 dX7_back_43 (pc' := 46) rfl rfl (Nat.le_of_ble_eq_true rfl) (by decide) ?_
          refine J_aload_n dX7_back_46 (pc' := 47) rfl rfl ?_
          refine J_getr fX7_69 kd_0 rf_0_10 dX7_back_47 (pc' := 50) rfl ?_
          refine J_iload_n dX7_back_50 (pc' := 51) rfl rfl ?_
          refine J_v1 (As := [.int (nI i)]) (rest := [.ref (25 + 2 * i)]) (qX2_nameOf351 _ _ i (by omega)) vX2_nameOf mX7_213 kd_351 dX7_back_51 (pc' := 54) rfl rfl (Nat.le_of_ble_eq_true rfl) (by decide) ?_
          refine J_v0 (As := [.ref (354 + 2 * i)]) (rest := []) (qX4_set _ (bkn S i) (25 + 2 * i) (354 + 2 * i) (dn (S.1 (354 + 2 * i) 1)) (kd_T (by omega)).1 (kd_T (by omega)).2.1 (kd_Q (by omega)).1 (kd_Q (by omega)).2.1 (by rw [(bkn_F S i (by omega)).1 (354 + 2 * i) 1 (fun j hj => by omega)]; exact htp.1) (by rw [(kd_Q (by omega)).2.2]; exact htp.2) (by rw [(kd_T (by omega)).2.2]; exact htp.2) (by omega)) vX4_set mX7_283 (kd_T (by omega)).1 dX7_back_54 (pc' := 57) rfl rfl (Nat.le_of_ble_eq_true rfl) (by decide) ?_
          refine J_iinc dX7_back_57 (pc' := 60) rfl rfl (v := nI (i + 1)) (nI_1 i) (by decide) rfl (l' := [some (.ref 0), some (.int (nI (i + 1)))]) rfl ?_
          refine J_goto dX7_back_60 (pc' := 16) (by decide) ?_
          exact J_sto (bkn_y (by omega) (of_decide_eq_true c35)) (ih16 (i + 1) (by omega) (by omega))
    refine J_loc (l' := [some (.ref 0), some (.int (nI 0))]) (by simp only [nI_0, dv_b_f, dv_b_t]) ?_
    refine J_sto (S' := (bkn S 0)) (rfl) ?_
    exact hlp16 0 (Nat.zero_le _) 
  · exact absurd c4 hb
