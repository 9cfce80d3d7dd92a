set_option maxRecDepth 100000 in
set_option maxHeartbeats 400000 in
theorem qX7_wordN1 (d : Nat) (S : dv_S) (x z : Int32) (hr : ¬ (0 ≤ x ∧ x ≤ 15))  : dv_M yX7_word cX7_word 5 (some .int) (dv_rm (d + 5)) [.ref 0, .int x, .int z] S (fun r S' => r = some (.int (-1)) ∧ S' = (rfS S 2)) := by
  refine dv_M_of [some (.ref 0), some (.int x), some (.int z), none, none] (by decide) (fun _ _ => Nat.le_of_ble_eq_true rfl) (fun _ _ => rfl) ?_
  refine J_iload_n dX7_word_0 (pc' := 1) rfl rfl ?_
  refine J_if_lt dX7_word_1 (pt := 18) (by decide) (pc' := 4) rfl (fun c1 => ?_) (fun c1 => ?_)
  · refine J_aload_n dX7_word_18 (pc' := 19) rfl rfl ?_
    refine J_iconst dX7_word_19 (pc' := 20) rfl (v := 2) ic_2 ?_
    refine J_v1 (As := [.int 2]) (rest := []) (qX7_refused _ _ _) vX7_refused mX7_122 kd_0 dX7_word_20 (pc' := 23) rfl rfl (Nat.le_of_ble_eq_true rfl) (by decide) ?_
    refine J_iret dX7_word_23 rfl (dv_r1 _) ?_
    exact ⟨rfl, rfl⟩
  · refine J_iload_n dX7_word_4 (pc' := 5) rfl rfl ?_
    refine J_bipush dX7_word_5 (pc' := 7) rfl (v := 15) bp_15 ?_
    refine J_icmp_gt dX7_word_7 (pt := 18) (by decide) (pc' := 10) rfl (fun c7 => ?_) (fun c7 => ?_)
    · refine J_aload_n dX7_word_18 (pc' := 19) rfl rfl ?_
      refine J_iconst dX7_word_19 (pc' := 20) rfl (v := 2) ic_2 ?_
      refine J_v1 (As := [.int 2]) (rest := []) (qX7_refused _ _ _) vX7_refused mX7_122 kd_0 dX7_word_20 (pc' := 23) rfl rfl (Nat.le_of_ble_eq_true rfl) (by decide) ?_
      refine J_iret dX7_word_23 rfl (dv_r1 _) ?_
      exact ⟨rfl, rfl⟩
    · exact absurd ⟨Int32.not_lt.mp c1, Int32.not_lt.mp c7⟩ hr
set_option maxRecDepth 100000 in
set_option maxHeartbeats 400000 in
theorem qX7_wordN2 (d : Nat) (S : dv_S) (x z : Int32) (hz : decide (0 ≤ z ∧ z ≤ S.1 1 1) = false)  : dv_M yX7_word cX7_word 5 (some .int) (dv_rm (d + 5)) [.ref 0, .int x, .int z] S (fun r S' => r = some (.int (-1)) ∧ S' = (rfS S 2)) := by
  refine dv_M_of [some (.ref 0), some (.int x), some (.int z), none, none] (by decide) (fun _ _ => Nat.le_of_ble_eq_true rfl) (fun _ _ => rfl) ?_
  refine J_iload_n dX7_word_0 (pc' := 1) rfl rfl ?_
  refine J_if_lt dX7_word_1 (pt := 18) (by decide) (pc' := 4) rfl (fun c1 => ?_) (fun c1 => ?_)
  · refine J_aload_n dX7_word_18 (pc' := 19) rfl rfl ?_
    refine J_iconst dX7_word_19 (pc' := 20) rfl (v := 2) ic_2 ?_
    refine J_v1 (As := [.int 2]) (rest := []) (qX7_refused _ _ _) vX7_refused mX7_122 kd_0 dX7_word_20 (pc' := 23) rfl rfl (Nat.le_of_ble_eq_true rfl) (by decide) ?_
    refine J_iret dX7_word_23 rfl (dv_r1 _) ?_
    exact ⟨rfl, rfl⟩
  · refine J_iload_n dX7_word_4 (pc' := 5) rfl rfl ?_
    refine J_bipush dX7_word_5 (pc' := 7) rfl (v := 15) bp_15 ?_
    refine J_icmp_gt dX7_word_7 (pt := 18) (by decide) (pc' := 10) rfl (fun c7 => ?_) (fun c7 => ?_)
    · refine J_aload_n dX7_word_18 (pc' := 19) rfl rfl ?_
      refine J_iconst dX7_word_19 (pc' := 20) rfl (v := 2) ic_2 ?_
      refine J_v1 (As := [.int 2]) (rest := []) (qX7_refused _ _ _) vX7_refused mX7_122 kd_0 dX7_word_20 (pc' := 23) rfl rfl (Nat.le_of_ble_eq_true rfl) (by decide) ?_
      refine J_iret dX7_word_23 rfl (dv_r1 _) ?_
      exact ⟨rfl, rfl⟩
    · refine J_aload_n dX7_word_10 (pc' := 11) rfl rfl ?_
      refine J_iload_n dX7_word_11 (pc' := 12) rfl rfl ?_
      refine J_v1 (As := [.int z]) (rest := []) (qX7_takesWordN _ _ _ hz) vX7_takesWord mX7_214 kd_0 dX7_word_12 (pc' := 15) rfl rfl (Nat.le_of_ble_eq_true rfl) (by decide) ?_
      refine J_if_ne dX7_word_15 (pt := 24) (by decide) (pc' := 18) rfl (fun c15 => ?_) (fun c15 => ?_)
      · exact absurd c15 (by decide)
      · refine J_aload_n dX7_word_18 (pc' := 19) rfl rfl ?_
        refine J_iconst dX7_word_19 (pc' := 20) rfl (v := 2) ic_2 ?_
        refine J_v1 (As := [.int 2]) (rest := []) (qX7_refused _ _ _) vX7_refused mX7_122 kd_0 dX7_word_20 (pc' := 23) rfl rfl (Nat.le_of_ble_eq_true rfl) (by decide) ?_
        refine J_iret dX7_word_23 rfl (dv_r1 _) ?_
        exact ⟨rfl, rfl⟩
set_option maxRecDepth 100000 in
set_option maxHeartbeats 400000 in
theorem qX7_wordN3 (d : Nat) (S : dv_S) (x : Int32) (k tn : Nat) (hr : 0 ≤ x ∧ x ≤ 15) (htn : S.1 1 1 = nI tn) (hk : k ≤ tn) (h200 : tn ≤ 200) (hc : wd_ok (dv_rd (S.2.1 2) k) = false)  : dv_M yX7_word cX7_word 5 (some .int) (dv_rm (d + 5)) [.ref 0, .int x, .int (nI k)] S (fun r S' => r = some (.int (-1)) ∧ S' = (rfS (dv_tc S k) 2)) := by
  refine dv_M_of [some (.ref 0), some (.int x), some (.int (nI k)), none, none] (by decide) (fun _ _ => Nat.le_of_ble_eq_true rfl) (fun _ _ => rfl) ?_
  refine J_iload_n dX7_word_0 (pc' := 1) rfl rfl ?_
  refine J_if_lt dX7_word_1 (pt := 18) (by decide) (pc' := 4) rfl (fun c1 => ?_) (fun c1 => ?_)
  · exact absurd hr.1 (Int32.not_le.mpr c1)
  · refine J_iload_n dX7_word_4 (pc' := 5) rfl rfl ?_
    refine J_bipush dX7_word_5 (pc' := 7) rfl (v := 15) bp_15 ?_
    refine J_icmp_gt dX7_word_7 (pt := 18) (by decide) (pc' := 10) rfl (fun c7 => ?_) (fun c7 => ?_)
    · exact absurd hr.2 (Int32.not_le.mpr c7)
    · refine J_aload_n dX7_word_10 (pc' := 11) rfl rfl ?_
      refine J_iload_n dX7_word_11 (pc' := 12) rfl rfl ?_
      refine J_v1 (As := [.int (nI k)]) (rest := []) (qX7_takesWord _ _ k tn htn hk h200) vX7_takesWord mX7_214 kd_0 dX7_word_12 (pc' := 15) rfl rfl (Nat.le_of_ble_eq_true rfl) (by decide) ?_
      refine J_bne dX7_word_15 (pt := 24) (by decide) (pc' := 18) rfl (fun c15 => ?_) (fun c15 => ?_)
      · exact absurd c15 (by rw [hc]; decide)
      · refine J_aload_n dX7_word_18 (pc' := 19) rfl rfl ?_
        refine J_iconst dX7_word_19 (pc' := 20) rfl (v := 2) ic_2 ?_
        refine J_v1 (As := [.int 2]) (rest := []) (qX7_refused _ _ _) vX7_refused mX7_122 kd_0 dX7_word_20 (pc' := 23) rfl rfl (Nat.le_of_ble_eq_true rfl) (by decide) ?_
        refine J_iret dX7_word_23 rfl (dv_r1 _) ?_
        exact ⟨rfl, rfl⟩
set_option maxRecDepth 100000 in
set_option maxHeartbeats 400000 in
theorem qX7_wordN4 (d : Nat) (S : dv_S) (x : Int32) (k tn w : Nat) (wl : Nat → Nat → Int32) (wm : Nat → Nat) (u : Nat) (hr : 0 ≤ x ∧ x ≤ 15) (htn : S.1 1 1 = nI tn) (hk : k ≤ tn) (h200 : tn ≤ 200) (hB : cw_B S w wl wm) (hc : wd_ok (dv_rd (S.2.1 2) k) = true) (hno : dv_fo (fun j => decide (S.2.2 14 j = cu_k (S.2.1 2) k)) w = some u)  : dv_M yX7_word cX7_word 5 (some .int) (dv_rm (d + 5)) [.ref 0, .int x, .int (nI k)] S (fun r S' => r = some (.int (-1)) ∧ ∃ S2, dv_spl (dv_tc S k) ((dv_tc S k).2.1 4) k S2 ∧ S' = (rfS S2 4)) := by
  obtain ⟨hw1, hw12, hws⟩ := wd_rd hc
  have hf : ∀ j, j < k → (dv_tc S k).2.1 4 j = S.2.1 2 j := fun j hj => by show dv_rw S.2.1 4 (S.2.1 2) (min k 24) 4 j = _; exact if_pos ⟨rfl, by omega⟩
  have hws2 : ∀ j, j < k → ch_s (((dv_tc S k).2.1 4) j) = true := fun j hj => by rw [hf j hj]; exact hws j hj
  obtain ⟨hc1, hky⟩ := pk_word hws2 hw1 hw12
  have hky2 : pk_k ((dv_tc S k).2.1 4) k 0 = cu_k (S.2.1 2) k := by rw [hky]; exact cu_k_cong hf
  have tB := tc_B k hB
  refine dv_M_of [some (.ref 0), some (.int x), some (.int (nI k)), none, none] (by decide) (fun _ _ => Nat.le_of_ble_eq_true rfl) (fun _ _ => rfl) ?_
  refine J_iload_n dX7_word_0 (pc' := 1) rfl rfl ?_
  refine J_if_lt dX7_word_1 (pt := 18) (by decide) (pc' := 4) rfl (fun c1 => ?_) (fun c1 => ?_)
  · exact absurd hr.1 (Int32.not_le.mpr c1)
  · refine J_iload_n dX7_word_4 (pc' := 5) rfl rfl ?_
    refine J_bipush dX7_word_5 (pc' := 7) rfl (v := 15) bp_15 ?_
    refine J_icmp_gt dX7_word_7 (pt := 18) (by decide) (pc' := 10) rfl (fun c7 => ?_) (fun c7 => ?_)
    · exact absurd hr.2 (Int32.not_le.mpr c7)
    · refine J_aload_n dX7_word_10 (pc' := 11) rfl rfl ?_
      refine J_iload_n dX7_word_11 (pc' := 12) rfl rfl ?_
      refine J_v1 (As := [.int (nI k)]) (rest := []) (qX7_takesWord _ _ k tn htn hk h200) vX7_takesWord mX7_214 kd_0 dX7_word_12 (pc' := 15) rfl rfl (Nat.le_of_ble_eq_true rfl) (by decide) ?_
      refine J_bne dX7_word_15 (pt := 24) (by decide) (pc' := 18) rfl (fun c15 => ?_) (fun c15 => ?_)
      · refine J_aload_n dX7_word_24 (pc' := 25) rfl rfl ?_
        refine J_getr fX7_30 kd_0 rf_0_4 dX7_word_25 (pc' := 28) rfl ?_
        refine J_aload_n dX7_word_28 (pc' := 29) rfl rfl ?_
        refine J_getr fX7_18 kd_0 rf_0_1 dX7_word_29 (pc' := 32) rfl ?_
        refine J_vq (As := [.ref 3]) (rest := []) (qX1_split _ _ 3 k kd_3 kd_4 (by rw [dv_tc_n]; congr 1; omega) (by rw [show dv_ln (3 + 1) = 24 from ln_4]; omega) (by omega)) vX1_split mX7_171 kd_9 dX7_word_32 (pc' := 35) rfl rfl (Nat.le_of_ble_eq_true rfl) (by decide) ?_
        rintro r S2 ⟨rfl, hsp⟩
        have hsp : dv_spl (dv_tc S k) ((dv_tc S k).2.1 4) k S2 := hsp
        have sB := hsp.fr.B (by decide) tB
        show dv_J yX7_word cX7_word 5 (some .int) (dv_rm (d + 5)) 0 0 35 [some (.ref 0), some (.int x), some (.int (nI k)), none, none] [] S2 (fun r S' => r = some (.int (-1)) ∧ ∃ S2, dv_spl (dv_tc S k) ((dv_tc S k).2.1 4) k S2 ∧ S' = (rfS S2 4))
        refine J_aload_n dX7_word_35 (pc' := 36) rfl rfl ?_
        refine J_getr fX7_30 kd_0 rf_0_4 dX7_word_36 (pc' := 39) rfl ?_
        refine J_iconst dX7_word_39 (pc' := 40) rfl (v := 0) ic_0 ?_
        refine J_top (w := .int (nI 0)) (by rw [nI_0]) ?_
        refine J_v1 (As := [.int (nI 0)]) (rest := []) (qX1_key _ (dv_tc S k) S2 ((dv_tc S k).2.1 4) k 0 hsp (by omega) (by rw [hc1]; decide)) vX1_keyOf mX7_217 kd_9 dX7_word_40 (pc' := 43) rfl rfl (Nat.le_of_ble_eq_true rfl) (by decide) ?_
        refine J_top (w := .long (cu_k (S.2.1 2) k)) (by rw [hky2]) ?_
        refine J_lstore_n dX7_word_43 (pc' := 44) rfl rfl (by decide) rfl (l' := [some (.ref 0), some (.int x), some (.int (nI k)), some (.long (cu_k (S.2.1 2) k)), none]) rfl ?_
        refine J_aload_n dX7_word_44 (pc' := 45) rfl rfl ?_
        refine J_getr fX7_37 kd_0 rf_0_5 dX7_word_45 (pc' := 48) rfl ?_
        refine J_lload_n dX7_word_48 (pc' := 49) rfl rfl ?_
        refine J_v1 (As := [.long (cu_k (S.2.1 2) k)]) (rest := []) (qX0_numberOf _ _ _ w sB.1 sB.2.1) vX0_numberOf mX7_221 kd_13 dX7_word_49 (pc' := 52) rfl rfl (Nat.le_of_ble_eq_true rfl) (by decide) ?_
        refine J_top (w := .int (nI u)) (by rw [show S2.2.2 = S.2.2 from hsp.2.2.1]; rw [hno]; rfl) ?_
        refine J_bipush dX7_word_52 (pc' := 54) rfl (v := (-2)) bp_m2 ?_
        refine J_icmp_eq dX7_word_54 (pt := 63) (by decide) (pc' := 57) rfl (fun c54 => ?_) (fun c54 => ?_)
        · exact absurd c54 (nI_m2 (by have := (dv_fo_spec hno).1; have := hB.2.1; omega))
        · refine J_aload_n dX7_word_57 (pc' := 58) rfl rfl ?_
          refine J_iconst dX7_word_58 (pc' := 59) rfl (v := 4) ic_4 ?_
          refine J_v1 (As := [.int 4]) (rest := []) (qX7_refused _ _ _) vX7_refused mX7_122 kd_0 dX7_word_59 (pc' := 62) rfl rfl (Nat.le_of_ble_eq_true rfl) (by decide) ?_
          refine J_iret dX7_word_62 rfl (dv_r1 _) ?_
          exact ⟨rfl, S2, hsp, rfl⟩
      · exact absurd c15 (by rw [hc]; decide)
set_option maxRecDepth 100000 in
set_option maxHeartbeats 400000 in
theorem qX7_wordN5 (d : Nat) (S : dv_S) (x : Int32) (k tn w : Nat) (wl : Nat → Nat → Int32) (wm : Nat → Nat) (hr : 0 ≤ x ∧ x ≤ 15) (htn : S.1 1 1 = nI tn) (hk : k ≤ tn) (h200 : tn ≤ 200) (hB : cw_B S w wl wm) (hc : wd_ok (dv_rd (S.2.1 2) k) = true) (hno : dv_fo (fun j => decide (S.2.2 14 j = cu_k (S.2.1 2) k)) w = none) (hw : w = 60)  : dv_M yX7_word cX7_word 5 (some .int) (dv_rm (d + 5)) [.ref 0, .int x, .int (nI k)] S (fun r S' => r = some (.int (-1)) ∧ ∃ S2, dv_spl (dv_tc S k) ((dv_tc S k).2.1 4) k S2 ∧ S' = (rfS S2 3)) := by
  obtain ⟨hw1, hw12, hws⟩ := wd_rd hc
  have hf : ∀ j, j < k → (dv_tc S k).2.1 4 j = S.2.1 2 j := fun j hj => by show dv_rw S.2.1 4 (S.2.1 2) (min k 24) 4 j = _; exact if_pos ⟨rfl, by omega⟩
  have hws2 : ∀ j, j < k → ch_s (((dv_tc S k).2.1 4) j) = true := fun j hj => by rw [hf j hj]; exact hws j hj
  obtain ⟨hc1, hky⟩ := pk_word hws2 hw1 hw12
  have hky2 : pk_k ((dv_tc S k).2.1 4) k 0 = cu_k (S.2.1 2) k := by rw [hky]; exact cu_k_cong hf
  have tB := tc_B k hB
  refine dv_M_of [some (.ref 0), some (.int x), some (.int (nI k)), none, none] (by decide) (fun _ _ => Nat.le_of_ble_eq_true rfl) (fun _ _ => rfl) ?_
  refine J_iload_n dX7_word_0 (pc' := 1) rfl rfl ?_
  refine J_if_lt dX7_word_1 (pt := 18) (by decide) (pc' := 4) rfl (fun c1 => ?_) (fun c1 => ?_)
  · exact absurd hr.1 (Int32.not_le.mpr c1)
  · refine J_iload_n dX7_word_4 (pc' := 5) rfl rfl ?_
    refine J_bipush dX7_word_5 (pc' := 7) rfl (v := 15) bp_15 ?_
    refine J_icmp_gt dX7_word_7 (pt := 18) (by decide) (pc' := 10) rfl (fun c7 => ?_) (fun c7 => ?_)
    · exact absurd hr.2 (Int32.not_le.mpr c7)
    · refine J_aload_n dX7_word_10 (pc' := 11) rfl rfl ?_
      refine J_iload_n dX7_word_11 (pc' := 12) rfl rfl ?_
      refine J_v1 (As := [.int (nI k)]) (rest := []) (qX7_takesWord _ _ k tn htn hk h200) vX7_takesWord mX7_214 kd_0 dX7_word_12 (pc' := 15) rfl rfl (Nat.le_of_ble_eq_true rfl) (by decide) ?_
      refine J_bne dX7_word_15 (pt := 24) (by decide) (pc' := 18) rfl (fun c15 => ?_) (fun c15 => ?_)
      · refine J_aload_n dX7_word_24 (pc' := 25) rfl rfl ?_
        refine J_getr fX7_30 kd_0 rf_0_4 dX7_word_25 (pc' := 28) rfl ?_
        refine J_aload_n dX7_word_28 (pc' := 29) rfl rfl ?_
        refine J_getr fX7_18 kd_0 rf_0_1 dX7_word_29 (pc' := 32) rfl ?_
        refine J_vq (As := [.ref 3]) (rest := []) (qX1_split _ _ 3 k kd_3 kd_4 (by rw [dv_tc_n]; congr 1; omega) (by rw [show dv_ln (3 + 1) = 24 from ln_4]; omega) (by omega)) vX1_split mX7_171 kd_9 dX7_word_32 (pc' := 35) rfl rfl (Nat.le_of_ble_eq_true rfl) (by decide) ?_
        rintro r S2 ⟨rfl, hsp⟩
        have hsp : dv_spl (dv_tc S k) ((dv_tc S k).2.1 4) k S2 := hsp
        have sB := hsp.fr.B (by decide) tB
        show dv_J yX7_word cX7_word 5 (some .int) (dv_rm (d + 5)) 0 0 35 [some (.ref 0), some (.int x), some (.int (nI k)), none, none] [] S2 (fun r S' => r = some (.int (-1)) ∧ ∃ S2, dv_spl (dv_tc S k) ((dv_tc S k).2.1 4) k S2 ∧ S' = (rfS S2 3))
        refine J_aload_n dX7_word_35 (pc' := 36) rfl rfl ?_
        refine J_getr fX7_30 kd_0 rf_0_4 dX7_word_36 (pc' := 39) rfl ?_
        refine J_iconst dX7_word_39 (pc' := 40) rfl (v := 0) ic_0 ?_
        refine J_top (w := .int (nI 0)) (by rw [nI_0]) ?_
        refine J_v1 (As := [.int (nI 0)]) (rest := []) (qX1_key _ (dv_tc S k) S2 ((dv_tc S k).2.1 4) k 0 hsp (by omega) (by rw [hc1]; decide)) vX1_keyOf mX7_217 kd_9 dX7_word_40 (pc' := 43) rfl rfl (Nat.le_of_ble_eq_true rfl) (by decide) ?_
        refine J_top (w := .long (cu_k (S.2.1 2) k)) (by rw [hky2]) ?_
        refine J_lstore_n dX7_word_43 (pc' := 44) rfl rfl (by decide) rfl (l' := [some (.ref 0), some (.int x), some (.int (nI k)), some (.long (cu_k (S.2.1 2) k)), none]) rfl ?_
        refine J_aload_n dX7_word_44 (pc' := 45) rfl rfl ?_
        refine J_getr fX7_37 kd_0 rf_0_5 dX7_word_45 (pc' := 48) rfl ?_
        refine J_lload_n dX7_word_48 (pc' := 49) rfl rfl ?_
        refine J_v1 (As := [.long (cu_k (S.2.1 2) k)]) (rest := []) (qX0_numberOf _ _ _ w sB.1 sB.2.1) vX0_numberOf mX7_221 kd_13 dX7_word_49 (pc' := 52) rfl rfl (Nat.le_of_ble_eq_true rfl) (by decide) ?_
        refine J_top (w := .int ((-2))) (by rw [show S2.2.2 = S.2.2 from hsp.2.2.1]; rw [hno]; rfl) ?_
        refine J_bipush dX7_word_52 (pc' := 54) rfl (v := (-2)) bp_m2 ?_
        refine J_icmp_eq dX7_word_54 (pt := 63) (by decide) (pc' := 57) rfl (fun c54 => ?_) (fun c54 => ?_)
        · refine J_aload_n dX7_word_63 (pc' := 64) rfl rfl ?_
          refine J_getr fX7_37 kd_0 rf_0_5 dX7_word_64 (pc' := 67) rfl ?_
          refine J_v1 (As := []) (rest := []) (qX0_isFull _ _) vX0_isFull mX7_225 kd_13 dX7_word_67 (pc' := 70) rfl rfl (Nat.le_of_ble_eq_true rfl) (by decide) ?_
          refine J_beq dX7_word_70 (pt := 79) (by decide) (pc' := 73) rfl (fun c70 => ?_) (fun c70 => ?_)
          · rw [sB.1, hw] at c70
            exact absurd c70 (by decide)
          · refine J_aload_n dX7_word_73 (pc' := 74) rfl rfl ?_
            refine J_iconst dX7_word_74 (pc' := 75) rfl (v := 3) ic_3 ?_
            refine J_v1 (As := [.int 3]) (rest := []) (qX7_refused _ _ _) vX7_refused mX7_122 kd_0 dX7_word_75 (pc' := 78) rfl rfl (Nat.le_of_ble_eq_true rfl) (by decide) ?_
            refine J_iret dX7_word_78 rfl (dv_r1 _) ?_
            exact ⟨rfl, S2, hsp, rfl⟩
        · exact absurd rfl c54
      · exact absurd c15 (by rw [hc]; decide)
set_option maxRecDepth 100000 in
set_option maxHeartbeats 400000 in
theorem qX7_wordY (d : Nat) (S : dv_S) (x : Int32) (k tn w : Nat) (wl : Nat → Nat → Int32) (wm : Nat → Nat) (hr : 0 ≤ x ∧ x ≤ 15) (htn : S.1 1 1 = nI tn) (hk : k ≤ tn) (h200 : tn ≤ 200) (hB : cw_B S w wl wm) (hc : wd_ok (dv_rd (S.2.1 2) k) = true) (hno : dv_fo (fun j => decide (S.2.2 14 j = cu_k (S.2.1 2) k)) w = none) (hw : w < 60)  : dv_M yX7_word cX7_word 5 (some .int) (dv_rm (d + 5)) [.ref 0, .int x, .int (nI k)] S (fun r S' => r = some (.int (nI w)) ∧ ∃ S2, dv_spl (dv_tc S k) ((dv_tc S k).2.1 4) k S2 ∧ S' = (rfS (dv_u S2.1 13 5 (nI (w + 1)), dv_u (dv_u (dv_u S2.2.1 15 w x) 16 w (-1)) 17 w (nI w), dv_u S2.2.2 14 w (cu_k (S.2.1 2) k)) 0)) := by
  obtain ⟨hw1, hw12, hws⟩ := wd_rd hc
  have hf : ∀ j, j < k → (dv_tc S k).2.1 4 j = S.2.1 2 j := fun j hj => by show dv_rw S.2.1 4 (S.2.1 2) (min k 24) 4 j = _; exact if_pos ⟨rfl, by omega⟩
  have hws2 : ∀ j, j < k → ch_s (((dv_tc S k).2.1 4) j) = true := fun j hj => by rw [hf j hj]; exact hws j hj
  obtain ⟨hc1, hky⟩ := pk_word hws2 hw1 hw12
  have hky2 : pk_k ((dv_tc S k).2.1 4) k 0 = cu_k (S.2.1 2) k := by rw [hky]; exact cu_k_cong hf
  have tB := tc_B k hB
  refine dv_M_of [some (.ref 0), some (.int x), some (.int (nI k)), none, none] (by decide) (fun _ _ => Nat.le_of_ble_eq_true rfl) (fun _ _ => rfl) ?_
  refine J_iload_n dX7_word_0 (pc' := 1) rfl rfl ?_
  refine J_if_lt dX7_word_1 (pt := 18) (by decide) (pc' := 4) rfl (fun c1 => ?_) (fun c1 => ?_)
  · exact absurd hr.1 (Int32.not_le.mpr c1)
  · refine J_iload_n dX7_word_4 (pc' := 5) rfl rfl ?_
    refine J_bipush dX7_word_5 (pc' := 7) rfl (v := 15) bp_15 ?_
    refine J_icmp_gt dX7_word_7 (pt := 18) (by decide) (pc' := 10) rfl (fun c7 => ?_) (fun c7 => ?_)
    · exact absurd hr.2 (Int32.not_le.mpr c7)
    · refine J_aload_n dX7_word_10 (pc' := 11) rfl rfl ?_
      refine J_iload_n dX7_word_11 (pc' := 12) rfl rfl ?_
      refine J_v1 (As := [.int (nI k)]) (rest := []) (qX7_takesWord _ _ k tn htn hk h200) vX7_takesWord mX7_214 kd_0 dX7_word_12 (pc' := 15) rfl rfl (Nat.le_of_ble_eq_true rfl) (by decide) ?_
      refine J_bne dX7_word_15 (pt := 24) (by decide) (pc' := 18) rfl (fun c15 => ?_) (fun c15 => ?_)
      · refine J_aload_n dX7_word_24 (pc' := 25) rfl rfl ?_
        refine J_getr fX7_30 kd_0 rf_0_4 dX7_word_25 (pc' := 28) rfl ?_
        refine J_aload_n dX7_word_28 (pc' := 29) rfl rfl ?_
        refine J_getr fX7_18 kd_0 rf_0_1 dX7_word_29 (pc' := 32) rfl ?_
        refine J_vq (As := [.ref 3]) (rest := []) (qX1_split _ _ 3 k kd_3 kd_4 (by rw [dv_tc_n]; congr 1; omega) (by rw [show dv_ln (3 + 1) = 24 from ln_4]; omega) (by omega)) vX1_split mX7_171 kd_9 dX7_word_32 (pc' := 35) rfl rfl (Nat.le_of_ble_eq_true rfl) (by decide) ?_
        rintro r S2 ⟨rfl, hsp⟩
        have hsp : dv_spl (dv_tc S k) ((dv_tc S k).2.1 4) k S2 := hsp
        have sB := hsp.fr.B (by decide) tB
        show dv_J yX7_word cX7_word 5 (some .int) (dv_rm (d + 5)) 0 0 35 [some (.ref 0), some (.int x), some (.int (nI k)), none, none] [] S2 (fun r S' => r = some (.int (nI w)) ∧ ∃ S2, dv_spl (dv_tc S k) ((dv_tc S k).2.1 4) k S2 ∧ S' = (rfS (dv_u S2.1 13 5 (nI (w + 1)), dv_u (dv_u (dv_u S2.2.1 15 w x) 16 w (-1)) 17 w (nI w), dv_u S2.2.2 14 w (cu_k (S.2.1 2) k)) 0))
        refine J_aload_n dX7_word_35 (pc' := 36) rfl rfl ?_
        refine J_getr fX7_30 kd_0 rf_0_4 dX7_word_36 (pc' := 39) rfl ?_
        refine J_iconst dX7_word_39 (pc' := 40) rfl (v := 0) ic_0 ?_
        refine J_top (w := .int (nI 0)) (by rw [nI_0]) ?_
        refine J_v1 (As := [.int (nI 0)]) (rest := []) (qX1_key _ (dv_tc S k) S2 ((dv_tc S k).2.1 4) k 0 hsp (by omega) (by rw [hc1]; decide)) vX1_keyOf mX7_217 kd_9 dX7_word_40 (pc' := 43) rfl rfl (Nat.le_of_ble_eq_true rfl) (by decide) ?_
        refine J_top (w := .long (cu_k (S.2.1 2) k)) (by rw [hky2]) ?_
        refine J_lstore_n dX7_word_43 (pc' := 44) rfl rfl (by decide) rfl (l' := [some (.ref 0), some (.int x), some (.int (nI k)), some (.long (cu_k (S.2.1 2) k)), none]) rfl ?_
        refine J_aload_n dX7_word_44 (pc' := 45) rfl rfl ?_
        refine J_getr fX7_37 kd_0 rf_0_5 dX7_word_45 (pc' := 48) rfl ?_
        refine J_lload_n dX7_word_48 (pc' := 49) rfl rfl ?_
        refine J_v1 (As := [.long (cu_k (S.2.1 2) k)]) (rest := []) (qX0_numberOf _ _ _ w sB.1 sB.2.1) vX0_numberOf mX7_221 kd_13 dX7_word_49 (pc' := 52) rfl rfl (Nat.le_of_ble_eq_true rfl) (by decide) ?_
        refine J_top (w := .int ((-2))) (by rw [show S2.2.2 = S.2.2 from hsp.2.2.1]; rw [hno]; rfl) ?_
        refine J_bipush dX7_word_52 (pc' := 54) rfl (v := (-2)) bp_m2 ?_
        refine J_icmp_eq dX7_word_54 (pt := 63) (by decide) (pc' := 57) rfl (fun c54 => ?_) (fun c54 => ?_)
        · refine J_aload_n dX7_word_63 (pc' := 64) rfl rfl ?_
          refine J_getr fX7_37 kd_0 rf_0_5 dX7_word_64 (pc' := 67) rfl ?_
          refine J_v1 (As := []) (rest := []) (qX0_isFull _ _) vX0_isFull mX7_225 kd_13 dX7_word_67 (pc' := 70) rfl rfl (Nat.le_of_ble_eq_true rfl) (by decide) ?_
          refine J_beq dX7_word_70 (pt := 79) (by decide) (pc' := 73) rfl (fun c70 => ?_) (fun c70 => ?_)
          · refine J_aload_n dX7_word_79 (pc' := 80) rfl rfl ?_
            refine J_aload_n dX7_word_80 (pc' := 81) rfl rfl ?_
            refine J_getr fX7_37 kd_0 rf_0_5 dX7_word_81 (pc' := 84) rfl ?_
            refine J_lload_n dX7_word_84 (pc' := 85) rfl rfl ?_
            refine J_iload_n dX7_word_85 (pc' := 86) rfl rfl ?_
            refine J_v1 (As := [.long (cu_k (S.2.1 2) k), .int x]) (rest := [.ref 0]) (qX0_add _ S2 _ x w sB.1 hw) vX0_add mX7_226 kd_13 dX7_word_86 (pc' := 89) rfl rfl (Nat.le_of_ble_eq_true rfl) (by decide) ?_
            refine J_v1 (As := [.int (nI w)]) (rest := []) (qX7_accepted _ _ _) vX7_accepted mX7_131 kd_0 dX7_word_89 (pc' := 92) rfl rfl (Nat.le_of_ble_eq_true rfl) (by decide) ?_
            refine J_iret dX7_word_92 rfl (dv_r1 _) ?_
            exact ⟨rfl, S2, hsp, rfl⟩
          · rw [sB.1, show (60 : Int32) = nI 60 by decide] at c70
            exact absurd (of_decide_eq_true c70) (nI_ge hw (by decide))
        · exact absurd rfl c54
      · exact absurd c15 (by rw [hc]; decide)
