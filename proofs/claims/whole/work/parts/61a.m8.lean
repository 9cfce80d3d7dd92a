set_option maxRecDepth 100000 in
set_option maxHeartbeats 400000 in
theorem qX8_hindersAll (d : Nat) (S : dv_S) (n sn un : Nat) (hm : Nat → Nat) (an : Nat → Nat → Bool) (us ut : Nat → Nat) (RN NN : Nat → List Int32) (hT : rw_T S n) (hS : rw_S S n sn hm an) (hU : rw_U S n sn un us ut) (hN : rwN S n RN NN)  : dv_M yX8_hindersAll cX8_hindersAll 2 (some .int) (dv_rm (d + 3)) [.ref 516] S (fun r S' => r = some (.int (ghi hm an us ut (thA S RN NN) n un)) ∧ haI S RN NN n S') := by
  have h80 := hT.2
  have h20 := hS.2.1
  have h150 := hU.2.1
  have hfr := ha_fr S n
  refine dv_M_of [some (.ref 516), none] (by decide) (fun _ _ => Nat.le_of_ble_eq_true rfl) (fun _ _ => rfl) ?_
  refine J_iconst dX8_hindersAll_0 (pc' := 1) rfl (v := 0) ic_0 ?_
  refine J_istore_n dX8_hindersAll_1 (pc' := 2) rfl rfl (by decide) rfl (l' := [some (.ref 516), some (.int 0)]) rfl ?_
  have hlp2 : ∀ i, i ≤ n → dv_J yX8_hindersAll cX8_hindersAll 2 (some .int) (dv_rm (d + 3)) 0 0 2 [some (.ref 516), some (.int (nI i))] [] (S.1, dv_rw S.2.1 536 (fun _ => 1) i, S.2.2) (fun r S' => r = some (.int (ghi hm an us ut (thA S RN NN) n un)) ∧ haI S RN NN n S') := by
    refine dv_up (P := fun i => dv_J yX8_hindersAll cX8_hindersAll 2 (some .int) (dv_rm (d + 3)) 0 0 2 [some (.ref 516), some (.int (nI i))] [] (S.1, dv_rw S.2.1 536 (fun _ => 1) i, S.2.2) (fun r S' => r = some (.int (ghi hm an us ut (thA S RN NN) n un)) ∧ haI S RN NN n S')) ?_
    intro i hi2 ih2 
    refine J_iload_n dX8_hindersAll_2 (pc' := 3) rfl rfl ?_
    refine J_aload_n dX8_hindersAll_3 (pc' := 4) rfl rfl ?_
    refine J_geti fX8_120 kd_516 rf_516_5 dX8_hindersAll_4 (pc' := 7) rfl ?_
    refine J_top (w := .int (nI n)) (by show Value.int (S.1 516 5) = _; rw [hT.1]) ?_
    refine J_icmp_ge dX8_hindersAll_7 (pt := 23) (by decide) (pc' := 10) rfl (fun c7 => ?_) (fun c7 => ?_)
    · have hx := dv_ge hi2 (by omega) c7
      refine J_sto (S' := (S.1, dv_rw S.2.1 536 (fun _ => 1) n, S.2.2)) (by rw [hx]) ?_
      refine J_aload_n dX8_hindersAll_23 (pc' := 24) rfl rfl ?_
      refine J_vq (As := []) (rest := []) (qX8_hindersTaken _ (S.1, dv_rw S.2.1 536 (fun _ => 1) n, S.2.2) n sn un hm an us ut RN NN (rw_T_fr hfr (by decide) hT) (rw_S_fr hfr (by decide) (by decide) hS) (rw_U_fr hfr (by decide) (by decide) hU) (rwN_fr hfr (by decide) hN)) vX8_hindersTaken mX8_227 kd_516 dX8_hindersAll_24 (pc' := 27) rfl rfl (Nat.le_of_ble_eq_true rfl) (by decide) ?_
      rintro r S2 ⟨rfl, hI⟩
      show dv_J yX8_hindersAll cX8_hindersAll 2 (some .int) (dv_rm (d + 3)) 0 0 27 [some (.ref 516), some (.int (nI i))] [.int (ghi hm an us ut (thn (S.1, dv_rw S.2.1 536 (fun _ => 1) n, S.2.2) RN NN) n un)] S2 (fun r S' => r = some (.int (ghi hm an us ut (thA S RN NN) n un)) ∧ haI S RN NN n S')
      refine J_iret dX8_hindersAll_27 rfl (dv_r1 _) ?_
      exact ⟨by rw [ghi_cong (thA_eq (n := n) RN NN) (fun u hu => (hU.2.2 u hu).2.2.2)], ha_of hI⟩
    · have hx := dv_nge hi2 (by omega) c7
      refine J_aload_n dX8_hindersAll_10 (pc' := 11) rfl rfl ?_
      refine J_getr fX8_99 kd_516 rf_516_29 dX8_hindersAll_11 (pc' := 14) rfl ?_
      refine J_iload_n dX8_hindersAll_14 (pc' := 15) rfl rfl ?_
      refine J_iconst dX8_hindersAll_15 (pc' := 16) rfl (v := 1) ic_1 ?_
      refine J_zast (j := i) kd_536 (rfl) (by rw [ln_536]; omega) (by decide) dX8_hindersAll_16 (pc' := 17) rfl ?_
      refine J_iinc dX8_hindersAll_17 (pc' := 20) rfl rfl (v := nI (i + 1)) (nI_1 i) (by decide) rfl (l' := [some (.ref 516), some (.int (nI (i + 1)))]) rfl ?_
      refine J_goto dX8_hindersAll_20 (pc' := 2) (by decide) ?_
      exact J_sto (S' := (S.1, dv_rw S.2.1 536 (fun _ => 1) (i + 1), S.2.2)) (by rw [← dv_rw_s]) (ih2 (i + 1) (by omega) (by omega))
  refine J_loc (l' := [some (.ref 516), some (.int (nI 0))]) (by simp only [nI_0, dv_b_f, dv_b_t]) ?_
  refine J_sto (S' := (S.1, dv_rw S.2.1 536 (fun _ => 1) 0, S.2.2)) (by rw [dv_rw_0]) ?_
  exact hlp2 0 (Nat.zero_le _) 
set_option maxRecDepth 100000 in
set_option maxHeartbeats 400000 in
theorem qX8_hinders (d : Nat) (S : dv_S) (S1 : dv_S) (n sn un : Nat) (hm : Nat → Nat) (an : Nat → Nat → Bool) (us ut : Nat → Nat) (RN NN : Nat → List Int32) (h0 : rS S = S1) (hT : rw_T S1 n) (hS : rw_S S1 n sn hm an) (hU : rw_U S1 n sn un us ut) (hN : rwN S1 n RN NN)  : dv_M yX8_hinders cX8_hinders 1 (some .int) (dv_rm (d + 4)) [.ref 516] S (fun r S' => r = some (.int (ghi hm an us ut (thA S1 RN NN) n un)) ∧ fr [] [536, 538, 541] S1 S') := by
  refine dv_M_of [some (.ref 516)] (by decide) (fun _ _ => Nat.le_of_ble_eq_true rfl) (fun _ _ => rfl) ?_
  refine J_aload_n dX8_hinders_0 (pc' := 1) rfl rfl ?_
  refine J_iconst dX8_hinders_1 (pc' := 2) rfl (v := 0) ic_0 ?_
  refine J_puti fX8_1 kd_516 rf_516_0 dX8_hinders_2 (pc' := 5) rfl ?_
  refine J_sto (S' := S1) (h0) ?_
  refine J_aload_n dX8_hinders_5 (pc' := 6) rfl rfl ?_
  refine J_vq (As := []) (rest := []) (qX8_hindersAll _ S1 n sn un hm an us ut RN NN hT hS hU hN) vX8_hindersAll mX8_230 kd_516 dX8_hinders_6 (pc' := 9) rfl rfl (Nat.le_of_ble_eq_true rfl) (by decide) ?_
  rintro r S2 ⟨rfl, hI⟩
  have hB0 : fr [(516, 37)] [] S2 (dv_u S2.1 516 37 (nI (dv_ct (fun z => decide (¬ S1.2.1 535 z = 0)) n)), S2.2) := ⟨fun a k q => dv_u_ne S2.1 _ (by simpa using q), fun _ _ => rfl, rfl⟩
  show dv_J yX8_hinders cX8_hinders 1 (some .int) (dv_rm (d + 4)) 0 0 9 [some (.ref 516)] [.int (ghi hm an us ut (thA S1 RN NN) n un)] S2 (fun r S' => r = some (.int (ghi hm an us ut (thA S1 RN NN) n un)) ∧ fr [] [536, 538, 541] S1 S')
  refine J_iret dX8_hinders_9 rfl (dv_r1 _) ?_
  exact ⟨rfl, hI.1⟩
set_option maxRecDepth 100000 in
set_option maxHeartbeats 400000 in
theorem qX8_turnN (d : Nat) (S : dv_S) (S1 : dv_S) (n sn un : Nat) (hm : Nat → Nat) (an : Nat → Nat → Bool) (us ut : Nat → Nat) (RN NN : Nat → List Int32) (h0 : rS S = S1) (hT : rw_T S1 n) (hS : rw_S S1 n sn hm an) (hU : rw_U S1 n sn un us ut) (hN : rwN S1 n RN NN) (hg : ¬ ghi hm an us ut (thA S1 RN NN) n un = -2)  : dv_M yX8_turn cX8_turn 3 (some .int) (dv_rm (d + 4)) [.ref 516] S (fun r S' => r = some (.int (-1)) ∧ ∃ S2, fr [] [536, 538, 541] S1 S2 ∧ S' = (rT S2 5)) := by
  refine dv_M_of [some (.ref 516), none, none] (by decide) (fun _ _ => Nat.le_of_ble_eq_true rfl) (fun _ _ => rfl) ?_
  refine J_aload_n dX8_turn_0 (pc' := 1) rfl rfl ?_
  refine J_iconst dX8_turn_1 (pc' := 2) rfl (v := 0) ic_0 ?_
  refine J_puti fX8_1 kd_516 rf_516_0 dX8_turn_2 (pc' := 5) rfl ?_
  refine J_sto (S' := S1) (h0) ?_
  refine J_aload_n dX8_turn_5 (pc' := 6) rfl rfl ?_
  refine J_vq (As := []) (rest := []) (qX8_hindersAll _ S1 n sn un hm an us ut RN NN hT hS hU hN) vX8_hindersAll mX8_230 kd_516 dX8_turn_6 (pc' := 9) rfl rfl (Nat.le_of_ble_eq_true rfl) (by decide) ?_
  rintro r S2 ⟨rfl, hI⟩
  have hB0 : fr [(516, 37)] [] S2 (dv_u S2.1 516 37 (nI (dv_ct (fun z => decide (¬ S1.2.1 535 z = 0)) n)), S2.2) := ⟨fun a k q => dv_u_ne S2.1 _ (by simpa using q), fun _ _ => rfl, rfl⟩
  show dv_J yX8_turn cX8_turn 3 (some .int) (dv_rm (d + 4)) 0 0 9 [some (.ref 516), none, none] [.int (ghi hm an us ut (thA S1 RN NN) n un)] S2 (fun r S' => r = some (.int (-1)) ∧ ∃ S2, fr [] [536, 538, 541] S1 S2 ∧ S' = (rT S2 5))
  refine J_bipush dX8_turn_9 (pc' := 11) rfl (v := (-2)) bp_m2 ?_
  refine J_icmp_eq dX8_turn_11 (pt := 20) (by decide) (pc' := 14) rfl (fun c11 => ?_) (fun c11 => ?_)
  · exact absurd c11 hg
  · refine J_aload_n dX8_turn_14 (pc' := 15) rfl rfl ?_
    refine J_iconst dX8_turn_15 (pc' := 16) rfl (v := 5) ic_5 ?_
    refine J_v1 (As := [.int 5]) (rest := []) (qX8_refused _ _ _) vX8_refused mX8_126 kd_516 dX8_turn_16 (pc' := 19) rfl rfl (Nat.le_of_ble_eq_true rfl) (by decide) ?_
    refine J_iret dX8_turn_19 rfl (dv_r1 _) ?_
    exact ⟨rfl, S2, hI.1, rfl⟩
set_option maxRecDepth 100000 in
set_option maxHeartbeats 400000 in
theorem qX8_turnY (d : Nat) (S : dv_S) (S1 : dv_S) (n sn un : Nat) (hm : Nat → Nat) (an : Nat → Nat → Bool) (us ut : Nat → Nat) (RN NN : Nat → List Int32) (h0 : rS S = S1) (hT : rw_T S1 n) (hS : rw_S S1 n sn hm an) (hU : rw_U S1 n sn un us ut) (hN : rwN S1 n RN NN) (hg : ghi hm an us ut (thA S1 RN NN) n un = -2)  : dv_M yX8_turn cX8_turn 3 (some .int) (dv_rm (d + 4)) [.ref 516] S (fun r S' => r = some (.int (nI (dv_ct (fun z => decide (¬ S1.2.1 535 z = 0)) n))) ∧ ∃ S2 S3, haI S1 RN NN n S2 ∧ tnI (dv_u S2.1 516 37 (nI (dv_ct (fun z => decide (¬ S1.2.1 535 z = 0)) n)), S2.2) (thA S1 RN NN) NN n n S3 ∧ S' = (rT (dv_u S3.1 516 36 1, S3.2) 0)) := by
  have h80 := hT.2
  have h20 := hS.2.1
  have h150 := hU.2.1
  refine dv_M_of [some (.ref 516), none, none] (by decide) (fun _ _ => Nat.le_of_ble_eq_true rfl) (fun _ _ => rfl) ?_
  refine J_aload_n dX8_turn_0 (pc' := 1) rfl rfl ?_
  refine J_iconst dX8_turn_1 (pc' := 2) rfl (v := 0) ic_0 ?_
  refine J_puti fX8_1 kd_516 rf_516_0 dX8_turn_2 (pc' := 5) rfl ?_
  refine J_sto (S' := S1) (h0) ?_
  refine J_aload_n dX8_turn_5 (pc' := 6) rfl rfl ?_
  refine J_vq (As := []) (rest := []) (qX8_hindersAll _ S1 n sn un hm an us ut RN NN hT hS hU hN) vX8_hindersAll mX8_230 kd_516 dX8_turn_6 (pc' := 9) rfl rfl (Nat.le_of_ble_eq_true rfl) (by decide) ?_
  rintro r S2 ⟨rfl, hI⟩
  have hB0 : fr [(516, 37)] [] S2 (dv_u S2.1 516 37 (nI (dv_ct (fun z => decide (¬ S1.2.1 535 z = 0)) n)), S2.2) := ⟨fun a k q => dv_u_ne S2.1 _ (by simpa using q), fun _ _ => rfl, rfl⟩
  show dv_J yX8_turn cX8_turn 3 (some .int) (dv_rm (d + 4)) 0 0 9 [some (.ref 516), none, none] [.int (ghi hm an us ut (thA S1 RN NN) n un)] S2 (fun r S' => r = some (.int (nI (dv_ct (fun z => decide (¬ S1.2.1 535 z = 0)) n))) ∧ ∃ S2 S3, haI S1 RN NN n S2 ∧ tnI (dv_u S2.1 516 37 (nI (dv_ct (fun z => decide (¬ S1.2.1 535 z = 0)) n)), S2.2) (thA S1 RN NN) NN n n S3 ∧ S' = (rT (dv_u S3.1 516 36 1, S3.2) 0))
  refine J_bipush dX8_turn_9 (pc' := 11) rfl (v := (-2)) bp_m2 ?_
  refine J_icmp_eq dX8_turn_11 (pt := 20) (by decide) (pc' := 14) rfl (fun c11 => ?_) (fun c11 => ?_)
  · refine J_aload_n dX8_turn_20 (pc' := 21) rfl rfl ?_
    refine J_aload_n dX8_turn_21 (pc' := 22) rfl rfl ?_
    refine J_v1 (As := []) (rest := [.ref 516]) (qX8_renameMany _ S2 n (rw_T_fr hI.1 (by decide) hT)) vX8_renameMany mX8_223 kd_516 dX8_turn_22 (pc' := 25) rfl rfl (Nat.le_of_ble_eq_true rfl) (by decide) ?_
    refine J_top (w := .int (nI (dv_ct (fun z => decide (¬ S1.2.1 535 z = 0)) n))) (by rw [hI.1.2.1 535 (by decide)]) ?_
    refine J_puti fX8_233 kd_516 rf_516_37 dX8_turn_25 (pc' := 28) rfl ?_
    refine J_iconst dX8_turn_28 (pc' := 29) rfl (v := 0) ic_0 ?_
    refine J_istore_n dX8_turn_29 (pc' := 30) rfl rfl (by decide) rfl (l' := [some (.ref 516), some (.int 0), none]) rfl ?_
    have hlp30 : ∀ i, i ≤ n → ∀ (S3 : dv_S), tnI (dv_u S2.1 516 37 (nI (dv_ct (fun z => decide (¬ S1.2.1 535 z = 0)) n)), S2.2) (thA S1 RN NN) NN n i S3 → dv_J yX8_turn cX8_turn 3 (some .int) (dv_rm (d + 4)) 0 0 30 [some (.ref 516), some (.int (nI i)), none] [] S3 (fun r S' => r = some (.int (nI (dv_ct (fun z => decide (¬ S1.2.1 535 z = 0)) n))) ∧ ∃ S2 S3, haI S1 RN NN n S2 ∧ tnI (dv_u S2.1 516 37 (nI (dv_ct (fun z => decide (¬ S1.2.1 535 z = 0)) n)), S2.2) (thA S1 RN NN) NN n n S3 ∧ S' = (rT (dv_u S3.1 516 36 1, S3.2) 0)) := by
      refine dv_up (P := fun i => ∀ (S3 : dv_S), tnI (dv_u S2.1 516 37 (nI (dv_ct (fun z => decide (¬ S1.2.1 535 z = 0)) n)), S2.2) (thA S1 RN NN) NN n i S3 → dv_J yX8_turn cX8_turn 3 (some .int) (dv_rm (d + 4)) 0 0 30 [some (.ref 516), some (.int (nI i)), none] [] S3 (fun r S' => r = some (.int (nI (dv_ct (fun z => decide (¬ S1.2.1 535 z = 0)) n))) ∧ ∃ S2 S3, haI S1 RN NN n S2 ∧ tnI (dv_u S2.1 516 37 (nI (dv_ct (fun z => decide (¬ S1.2.1 535 z = 0)) n)), S2.2) (thA S1 RN NN) NN n n S3 ∧ S' = (rT (dv_u S3.1 516 36 1, S3.2) 0))) ?_
      intro i hi30 ih30 S3 hK
      refine J_iload_n dX8_turn_30 (pc' := 31) rfl rfl ?_
      refine J_aload_n dX8_turn_31 (pc' := 32) rfl rfl ?_
      refine J_geti fX8_120 kd_516 rf_516_5 dX8_turn_32 (pc' := 35) rfl ?_
      refine J_top (w := .int (nI n)) (by rw [hK.1.1 516 5 (by simp), hB0.1 516 5 (by decide), hI.1.1 516 5 (by simp), hT.1]) ?_
      refine J_icmp_ge dX8_turn_35 (pt := 155) (by decide) (pc' := 38) rfl (fun c35 => ?_) (fun c35 => ?_)
      · have hx := dv_ge hi30 (by omega) c35
        rw [hx] at hK
        refine J_aload_n dX8_turn_155 (pc' := 156) rfl rfl ?_
        refine J_iconst dX8_turn_156 (pc' := 157) rfl (v := 1) ic_1 ?_
        refine J_putz fX8_151 kd_516 rf_516_36 (by decide) dX8_turn_157 (pc' := 160) rfl ?_
        refine J_aload_n dX8_turn_160 (pc' := 161) rfl rfl ?_
        refine J_aload_n dX8_turn_161 (pc' := 162) rfl rfl ?_
        refine J_geti fX8_233 kd_516 rf_516_37 dX8_turn_162 (pc' := 165) rfl ?_
        refine J_top (w := .int (nI (dv_ct (fun z => decide (¬ S1.2.1 535 z = 0)) n))) (by show Value.int (dv_u S3.1 516 36 1 516 37) = _; rw [dv_u_ne _ _ (by decide), hK.1.1 516 37 (by simp)]; show Value.int (dv_u S2.1 516 37 (nI (dv_ct (fun z => decide (¬ S1.2.1 535 z = 0)) n)) 516 37) = _; rw [dv_u_eq]) ?_
        refine J_v1 (As := [.int (nI (dv_ct (fun z => decide (¬ S1.2.1 535 z = 0)) n))]) (rest := []) (qX8_done _ _ _) vX8_done mX8_130 kd_516 dX8_turn_165 (pc' := 168) rfl rfl (Nat.le_of_ble_eq_true rfl) (by decide) ?_
        refine J_iret dX8_turn_168 rfl (dv_r1 _) ?_
        exact ⟨rfl, S2, S3, hI, hK, rfl⟩
      · have hx := dv_nge hi30 (by omega) c35
        have hn24 := (hN i hx).1.2.1
        have ht24 := thA_ok hN hx
        refine J_aload_n dX8_turn_38 (pc' := 39) rfl rfl ?_
        refine J_getr fX8_117 kd_516 rf_516_35 dX8_turn_39 (pc' := 42) rfl ?_
        refine J_iload_n dX8_turn_42 (pc' := 43) rfl rfl ?_
        refine J_aload_n dX8_turn_43 (pc' := 44) rfl rfl ?_
        refine J_getr fX8_53 kd_516 rf_516_10 dX8_turn_44 (pc' := 47) rfl ?_
        refine J_iload_n dX8_turn_47 (pc' := 48) rfl rfl ?_
        refine J_iald (j := i) kd_521 (rfl) (by rw [ln_521]; omega) dX8_turn_48 (pc' := 49) rfl ?_
        refine J_top (w := .int (nI ((NN i).length))) (by rw [(hK.2.2 i (Nat.le_refl _) hx).1]) ?_
        refine J_iast (j := i) kd_542 (rfl) (by rw [ln_542]; omega) dX8_turn_49 (pc' := 50) rfl ?_
        refine J_iconst dX8_turn_50 (pc' := 51) rfl (v := 0) ic_0 ?_
        refine J_istore_n dX8_turn_51 (pc' := 52) rfl rfl (by decide) rfl (l' := [some (.ref 516), some (.int (nI i)), some (.int 0)]) rfl ?_
        have hlp52 : ∀ j, j ≤ (NN i).length → dv_J yX8_turn cX8_turn 3 (some .int) (dv_rm (d + 4)) 0 0 52 [some (.ref 516), some (.int (nI i)), some (.int (nI j))] [] (cpy S3 539 542 i (NN i).length (fun z => (NN i).getD z 0) j) (fun r S' => r = some (.int (nI (dv_ct (fun z => decide (¬ S1.2.1 535 z = 0)) n))) ∧ ∃ S2 S3, haI S1 RN NN n S2 ∧ tnI (dv_u S2.1 516 37 (nI (dv_ct (fun z => decide (¬ S1.2.1 535 z = 0)) n)), S2.2) (thA S1 RN NN) NN n n S3 ∧ S' = (rT (dv_u S3.1 516 36 1, S3.2) 0)) := by
          refine dv_up (P := fun j => dv_J yX8_turn cX8_turn 3 (some .int) (dv_rm (d + 4)) 0 0 52 [some (.ref 516), some (.int (nI i)), some (.int (nI j))] [] (cpy S3 539 542 i (NN i).length (fun z => (NN i).getD z 0) j) (fun r S' => r = some (.int (nI (dv_ct (fun z => decide (¬ S1.2.1 535 z = 0)) n))) ∧ ∃ S2 S3, haI S1 RN NN n S2 ∧ tnI (dv_u S2.1 516 37 (nI (dv_ct (fun z => decide (¬ S1.2.1 535 z = 0)) n)), S2.2) (thA S1 RN NN) NN n n S3 ∧ S' = (rT (dv_u S3.1 516 36 1, S3.2) 0))) ?_
          intro j hi52 ih52 
          refine J_iload_n dX8_turn_52 (pc' := 53) rfl rfl ?_
          refine J_aload_n dX8_turn_53 (pc' := 54) rfl rfl ?_
          refine J_getr fX8_53 kd_516 rf_516_10 dX8_turn_54 (pc' := 57) rfl ?_
          refine J_iload_n dX8_turn_57 (pc' := 58) rfl rfl ?_
          refine J_iald (j := i) kd_521 (rfl) (by rw [ln_521]; omega) dX8_turn_58 (pc' := 59) rfl ?_
          refine J_top (w := .int (nI ((NN i).length))) (by rw [cpy_row _ _ _ _ _ _ _ (by decide) (by decide), (hK.2.2 i (Nat.le_refl _) hx).1]) ?_
          refine J_icmp_ge dX8_turn_59 (pt := 90) (by decide) (pc' := 62) rfl (fun c59 => ?_) (fun c59 => ?_)
          · have hj := dv_ge hi52 (by omega) c59
            refine J_sto (S' := (cpy S3 539 542 i (NN i).length (fun z => (NN i).getD z 0) (NN i).length)) (by rw [hj]) ?_
            refine J_aload_n dX8_turn_90 (pc' := 91) rfl rfl ?_
            refine J_getr fX8_53 kd_516 rf_516_10 dX8_turn_91 (pc' := 94) rfl ?_
            refine J_iload_n dX8_turn_94 (pc' := 95) rfl rfl ?_
            refine J_aload_n dX8_turn_95 (pc' := 96) rfl rfl ?_
            refine J_getr fX8_114 kd_516 rf_516_34 dX8_turn_96 (pc' := 99) rfl ?_
            refine J_iload_n dX8_turn_99 (pc' := 100) rfl rfl ?_
            refine J_iald (j := i) kd_541 (rfl) (by rw [ln_541]; omega) dX8_turn_100 (pc' := 101) rfl ?_
            refine J_top (w := .int (nI ((thA S1 RN NN i).length))) (by rw [cpy_row _ _ _ _ _ _ _ (by decide) (by decide), (rN1_fr hK.1 (by decide) (rN1_fr hB0 (by decide) (hI.2 i hx))).1]) ?_
            refine J_iast (j := i) kd_521 (rfl) (by rw [ln_521]; omega) dX8_turn_101 (pc' := 102) rfl ?_
            refine J_iconst dX8_turn_102 (pc' := 103) rfl (v := 0) ic_0 ?_
            refine J_istore_n dX8_turn_103 (pc' := 104) rfl rfl (by decide) rfl (l' := [some (.ref 516), some (.int (nI i)), some (.int 0)]) rfl ?_
            have hlp104 : ∀ j, j ≤ (thA S1 RN NN i).length → dv_J yX8_turn cX8_turn 3 (some .int) (dv_rm (d + 4)) 0 0 104 [some (.ref 516), some (.int (nI i)), some (.int (nI j))] [] (cpy (cpy S3 539 542 i (NN i).length (fun z => (NN i).getD z 0) (NN i).length) 524 521 i (thA S1 RN NN i).length (fun z => (thA S1 RN NN i).getD z 0) j) (fun r S' => r = some (.int (nI (dv_ct (fun z => decide (¬ S1.2.1 535 z = 0)) n))) ∧ ∃ S2 S3, haI S1 RN NN n S2 ∧ tnI (dv_u S2.1 516 37 (nI (dv_ct (fun z => decide (¬ S1.2.1 535 z = 0)) n)), S2.2) (thA S1 RN NN) NN n n S3 ∧ S' = (rT (dv_u S3.1 516 36 1, S3.2) 0)) := by
              refine dv_up (P := fun j => dv_J yX8_turn cX8_turn 3 (some .int) (dv_rm (d + 4)) 0 0 104 [some (.ref 516), some (.int (nI i)), some (.int (nI j))] [] (cpy (cpy S3 539 542 i (NN i).length (fun z => (NN i).getD z 0) (NN i).length) 524 521 i (thA S1 RN NN i).length (fun z => (thA S1 RN NN i).getD z 0) j) (fun r S' => r = some (.int (nI (dv_ct (fun z => decide (¬ S1.2.1 535 z = 0)) n))) ∧ ∃ S2 S3, haI S1 RN NN n S2 ∧ tnI (dv_u S2.1 516 37 (nI (dv_ct (fun z => decide (¬ S1.2.1 535 z = 0)) n)), S2.2) (thA S1 RN NN) NN n n S3 ∧ S' = (rT (dv_u S3.1 516 36 1, S3.2) 0))) ?_
              intro j hi104 ih104 
              refine J_iload_n dX8_turn_104 (pc' := 105) rfl rfl ?_
              refine J_aload_n dX8_turn_105 (pc' := 106) rfl rfl ?_
              refine J_getr fX8_53 kd_516 rf_516_10 dX8_turn_106 (pc' := 109) rfl ?_
              refine J_iload_n dX8_turn_109 (pc' := 110) rfl rfl ?_
              refine J_iald (j := i) kd_521 (rfl) (by rw [ln_521]; omega) dX8_turn_110 (pc' := 111) rfl ?_
              refine J_top (w := .int (nI ((thA S1 RN NN i).length))) (by rw [cpy_sz _ _ _ _ _ (by decide)]) ?_
              refine J_icmp_ge dX8_turn_111 (pt := 142) (by decide) (pc' := 114) rfl (fun c111 => ?_) (fun c111 => ?_)
              · have hj := dv_ge hi104 (by omega) c111
                refine J_aload_n dX8_turn_142 (pc' := 143) rfl rfl ?_
                refine J_getr fX8_95 kd_516 rf_516_28 dX8_turn_143 (pc' := 146) rfl ?_
                refine J_iload_n dX8_turn_146 (pc' := 147) rfl rfl ?_
                refine J_iconst dX8_turn_147 (pc' := 148) rfl (v := 0) ic_0 ?_
                refine J_zast (j := i) kd_535 (rfl) (by rw [ln_535]; omega) (by decide) dX8_turn_148 (pc' := 149) rfl ?_
                refine J_iinc dX8_turn_149 (pc' := 152) rfl rfl (v := nI (i + 1)) (nI_1 i) (by decide) rfl (l' := [some (.ref 516), some (.int (nI (i + 1))), some (.int (nI j))]) rfl ?_
                refine J_goto dX8_turn_152 (pc' := 30) (by decide) ?_
                refine J_drop 2 (l' := [some (.ref 516), some (.int (nI (i + 1))), none]) rfl ?_
                rw [hj]
                exact ih30 (i + 1) (by omega) (by omega) _ (tnI_s hK hx ⟨hn24, ht24.1⟩ (hN i hx).2.1 ht24.2)
              · have hj := dv_nge hi104 (by omega) c111
                refine J_aload_n dX8_turn_114 (pc' := 115) rfl rfl ?_
                refine J_getr fX8_62 kd_516 rf_516_13 dX8_turn_115 (pc' := 118) rfl ?_
                refine J_bipush dX8_turn_118 (pc' := 120) rfl (v := 24) bp_24 ?_
                refine J_iload_n dX8_turn_120 (pc' := 121) rfl rfl ?_
                refine J_imul dX8_turn_121 (pc' := 122) rfl ?_
                refine J_top (w := .int (nI (24 * i))) (by rw [dv_n24, pk_mul]) ?_
                refine J_iload_n dX8_turn_122 (pc' := 123) rfl rfl ?_
                refine J_iadd dX8_turn_123 (pc' := 124) rfl ?_
                refine J_top (w := .int (nI (24 * i + j))) (by rw [nI_add]) ?_
                refine J_aload_n dX8_turn_124 (pc' := 125) rfl rfl ?_
                refine J_getr fX8_105 kd_516 rf_516_31 dX8_turn_125 (pc' := 128) rfl ?_
                refine J_bipush dX8_turn_128 (pc' := 130) rfl (v := 24) bp_24 ?_
                refine J_iload_n dX8_turn_130 (pc' := 131) rfl rfl ?_
                refine J_imul dX8_turn_131 (pc' := 132) rfl ?_
                refine J_top (w := .int (nI (24 * i))) (by rw [dv_n24, pk_mul]) ?_
                refine J_iload_n dX8_turn_132 (pc' := 133) rfl rfl ?_
                refine J_iadd dX8_turn_133 (pc' := 134) rfl ?_
                refine J_bald (j := 24 * i + j) kd_538 (nI_add _ _) (by rw [ln_538]; omega) dX8_turn_134 (pc' := 135) rfl ?_
                refine J_top (w := .int ((thA S1 RN NN i).getD j 0)) (by rw [cpy_row _ _ _ _ _ _ _ (by decide) (by decide), cpy_row _ _ _ _ _ _ _ (by decide) (by decide), rN1_at (rN1_fr hK.1 (by decide) (rN1_fr hB0 (by decide) (hI.2 i hx))) hj]) ?_
                refine J_bast (j := 24 * i + j) kd_524 (rfl) (by rw [ln_524]; omega) dX8_turn_135 (pc' := 136) rfl ?_
                refine J_iinc dX8_turn_136 (pc' := 139) rfl rfl (v := nI (j + 1)) (nI_1 j) (by decide) rfl (l' := [some (.ref 516), some (.int (nI i)), some (.int (nI (j + 1)))]) rfl ?_
                refine J_goto dX8_turn_139 (pc' := 104) (by decide) ?_
                exact J_sto (cpy_s _ _ _ _ _ _ _) (ih104 (j + 1) (by omega) (by omega))
            refine J_loc (l' := [some (.ref 516), some (.int (nI i)), some (.int (nI 0))]) (by simp only [nI_0, dv_b_f, dv_b_t]) ?_
            refine J_sto (S' := (cpy (cpy S3 539 542 i (NN i).length (fun z => (NN i).getD z 0) (NN i).length) 524 521 i (thA S1 RN NN i).length (fun z => (thA S1 RN NN i).getD z 0) 0)) (cpy_0 _ _ _ _ _ _) ?_
            exact hlp104 0 (Nat.zero_le _) 
          · have hj := dv_nge hi52 (by omega) c59
            refine J_aload_n dX8_turn_62 (pc' := 63) rfl rfl ?_
            refine J_getr fX8_108 kd_516 rf_516_32 dX8_turn_63 (pc' := 66) rfl ?_
            refine J_bipush dX8_turn_66 (pc' := 68) rfl (v := 24) bp_24 ?_
            refine J_iload_n dX8_turn_68 (pc' := 69) rfl rfl ?_
            refine J_imul dX8_turn_69 (pc' := 70) rfl ?_
            refine J_top (w := .int (nI (24 * i))) (by rw [dv_n24, pk_mul]) ?_
            refine J_iload_n dX8_turn_70 (pc' := 71) rfl rfl ?_
            refine J_iadd dX8_turn_71 (pc' := 72) rfl ?_
            refine J_top (w := .int (nI (24 * i + j))) (by rw [nI_add]) ?_
            refine J_aload_n dX8_turn_72 (pc' := 73) rfl rfl ?_
            refine J_getr fX8_62 kd_516 rf_516_13 dX8_turn_73 (pc' := 76) rfl ?_
            refine J_bipush dX8_turn_76 (pc' := 78) rfl (v := 24) bp_24 ?_
            refine J_iload_n dX8_turn_78 (pc' := 79) rfl rfl ?_
            refine J_imul dX8_turn_79 (pc' := 80) rfl ?_
            refine J_top (w := .int (nI (24 * i))) (by rw [dv_n24, pk_mul]) ?_
            refine J_iload_n dX8_turn_80 (pc' := 81) rfl rfl ?_
            refine J_iadd dX8_turn_81 (pc' := 82) rfl ?_
            refine J_bald (j := 24 * i + j) kd_524 (nI_add _ _) (by rw [ln_524]; omega) dX8_turn_82 (pc' := 83) rfl ?_
            refine J_top (w := .int ((NN i).getD j 0)) (by rw [cpy_row _ _ _ _ _ _ _ (by decide) (by decide), rN1_at (hK.2.2 i (Nat.le_refl _) hx) hj]) ?_
            refine J_bast (j := 24 * i + j) kd_539 (rfl) (by rw [ln_539]; omega) dX8_turn_83 (pc' := 84) rfl ?_
            refine J_iinc dX8_turn_84 (pc' := 87) rfl rfl (v := nI (j + 1)) (nI_1 j) (by decide) rfl (l' := [some (.ref 516), some (.int (nI i)), some (.int (nI (j + 1)))]) rfl ?_
            refine J_goto dX8_turn_87 (pc' := 52) (by decide) ?_
            exact J_sto (cpy_s _ _ _ _ _ _ _) (ih52 (j + 1) (by omega) (by omega))
        refine J_loc (l' := [some (.ref 516), some (.int (nI i)), some (.int (nI 0))]) (by simp only [nI_0, dv_b_f, dv_b_t]) ?_
        refine J_sto (S' := (cpy S3 539 542 i (NN i).length (fun z => (NN i).getD z 0) 0)) (cpy_0 _ _ _ _ _ _) ?_
        exact hlp52 0 (Nat.zero_le _) 
    refine J_loc (l' := [some (.ref 516), some (.int (nI 0)), none]) (by simp only [nI_0, dv_b_f, dv_b_t]) ?_
    refine J_sto (S' := (dv_u S2.1 516 37 (nI (dv_ct (fun z => decide (¬ S1.2.1 535 z = 0)) n)), S2.2)) (rfl) ?_
    exact hlp30 0 (Nat.zero_le _) _ (tnI0 (fun j hj => rN1_fr hB0 (by decide) (rN1_fr hI.1 (by decide) (hN j hj).1)))
  · exact absurd hg c11
set_option maxRecDepth 100000 in
set_option maxHeartbeats 400000 in
theorem qX8_backN (d : Nat) (S : dv_S) (S1 : dv_S) (h0 : rS S = S1) (hb : S1.1 516 36 = 0)  : dv_M yX8_back cX8_back 3 (some .int) (dv_rm (d + 1)) [.ref 516] S (fun r S' => r = some (.int (-1)) ∧ S' = (rT S1 6)) := by
  refine dv_M_of [some (.ref 516), none, none] (by decide) (fun _ _ => Nat.le_of_ble_eq_true rfl) (fun _ _ => rfl) ?_
  refine J_aload_n dX8_back_0 (pc' := 1) rfl rfl ?_
  refine J_iconst dX8_back_1 (pc' := 2) rfl (v := 0) ic_0 ?_
  refine J_puti fX8_1 kd_516 rf_516_0 dX8_back_2 (pc' := 5) rfl ?_
  refine J_sto (S' := S1) (h0) ?_
  refine J_aload_n dX8_back_5 (pc' := 6) rfl rfl ?_
  refine J_geti fX8_151 kd_516 rf_516_36 dX8_back_6 (pc' := 9) rfl ?_
  refine J_if_ne dX8_back_9 (pt := 19) (by decide) (pc' := 12) rfl (fun c9 => ?_) (fun c9 => ?_)
  · exact absurd hb c9
  · refine J_aload_n dX8_back_12 (pc' := 13) rfl rfl ?_
    refine J_bipush dX8_back_13 (pc' := 15) rfl (v := 6) bp_6 ?_
    refine J_v1 (As := [.int 6]) (rest := []) (qX8_refused _ _ _) vX8_refused mX8_126 kd_516 dX8_back_15 (pc' := 18) rfl rfl (Nat.le_of_ble_eq_true rfl) (by decide) ?_
    refine J_iret dX8_back_18 rfl (dv_r1 _) ?_
    exact ⟨rfl, rfl⟩
set_option maxRecDepth 100000 in
set_option maxHeartbeats 400000 in
theorem qX8_backY (d : Nat) (S : dv_S) (S1 : dv_S) (n : Nat) (PN : Nat → List Int32) (h0 : rS S = S1) (hb : ¬ S1.1 516 36 = 0) (hT : rw_T S1 n) (hP : ∀ t, t < n → rN1 S1 539 542 t (PN t) ∧ ∀ x ∈ PN t, ch_n x = true)  : dv_M yX8_back cX8_back 3 (some .int) (dv_rm (d + 1)) [.ref 516] S (fun r S' => r = some (.int (S1.1 516 37)) ∧ ∃ S3, bcI (dv_u S1.1 516 36 0, S1.2) PN n S3 ∧ S' = (rT S3 0)) := by
  have h80 := hT.2
  have hB0 : fr [(516, 36)] [] S1 (dv_u S1.1 516 36 0, S1.2) := ⟨fun a k q => dv_u_ne S1.1 _ (by simpa using q), fun _ _ => rfl, rfl⟩
  refine dv_M_of [some (.ref 516), none, none] (by decide) (fun _ _ => Nat.le_of_ble_eq_true rfl) (fun _ _ => rfl) ?_
  refine J_aload_n dX8_back_0 (pc' := 1) rfl rfl ?_
  refine J_iconst dX8_back_1 (pc' := 2) rfl (v := 0) ic_0 ?_
  refine J_puti fX8_1 kd_516 rf_516_0 dX8_back_2 (pc' := 5) rfl ?_
  refine J_sto (S' := S1) (h0) ?_
  refine J_aload_n dX8_back_5 (pc' := 6) rfl rfl ?_
  refine J_geti fX8_151 kd_516 rf_516_36 dX8_back_6 (pc' := 9) rfl ?_
  refine J_if_ne dX8_back_9 (pt := 19) (by decide) (pc' := 12) rfl (fun c9 => ?_) (fun c9 => ?_)
  · refine J_aload_n dX8_back_19 (pc' := 20) rfl rfl ?_
    refine J_iconst dX8_back_20 (pc' := 21) rfl (v := 0) ic_0 ?_
    refine J_putz fX8_151 kd_516 rf_516_36 (by decide) dX8_back_21 (pc' := 24) rfl ?_
    refine J_iconst dX8_back_24 (pc' := 25) rfl (v := 0) ic_0 ?_
    refine J_istore_n dX8_back_25 (pc' := 26) rfl rfl (by decide) rfl (l' := [some (.ref 516), some (.int 0), none]) rfl ?_
    have hlp26 : ∀ i, i ≤ n → ∀ (S3 : dv_S), bcI (dv_u S1.1 516 36 0, S1.2) PN i S3 → dv_J yX8_back cX8_back 3 (some .int) (dv_rm (d + 1)) 0 0 26 [some (.ref 516), some (.int (nI i)), none] [] S3 (fun r S' => r = some (.int (S1.1 516 37)) ∧ ∃ S3, bcI (dv_u S1.1 516 36 0, S1.2) PN n S3 ∧ S' = (rT S3 0)) := by
      refine dv_up (P := fun i => ∀ (S3 : dv_S), bcI (dv_u S1.1 516 36 0, S1.2) PN i S3 → dv_J yX8_back cX8_back 3 (some .int) (dv_rm (d + 1)) 0 0 26 [some (.ref 516), some (.int (nI i)), none] [] S3 (fun r S' => r = some (.int (S1.1 516 37)) ∧ ∃ S3, bcI (dv_u S1.1 516 36 0, S1.2) PN n S3 ∧ S' = (rT S3 0))) ?_
      intro i hi26 ih26 S3 hK
      refine J_iload_n dX8_back_26 (pc' := 27) rfl rfl ?_
      refine J_aload_n dX8_back_27 (pc' := 28) rfl rfl ?_
      refine J_geti fX8_120 kd_516 rf_516_5 dX8_back_28 (pc' := 31) rfl ?_
      refine J_top (w := .int (nI n)) (by rw [hK.1.1 516 5 (by simp), hB0.1 516 5 (by decide), hT.1]) ?_
      refine J_icmp_ge dX8_back_31 (pt := 92) (by decide) (pc' := 34) rfl (fun c31 => ?_) (fun c31 => ?_)
      · have hx := dv_ge hi26 (by omega) c31
        rw [hx] at hK
        refine J_aload_n dX8_back_92 (pc' := 93) rfl rfl ?_
        refine J_aload_n dX8_back_93 (pc' := 94) rfl rfl ?_
        refine J_geti fX8_233 kd_516 rf_516_37 dX8_back_94 (pc' := 97) rfl ?_
        refine J_top (w := .int (S1.1 516 37)) (by rw [hK.1.1 516 37 (by simp), hB0.1 516 37 (by decide)]) ?_
        refine J_v1 (As := [.int (S1.1 516 37)]) (rest := []) (qX8_done _ _ _) vX8_done mX8_130 kd_516 dX8_back_97 (pc' := 100) rfl rfl (Nat.le_of_ble_eq_true rfl) (by decide) ?_
        refine J_iret dX8_back_100 rfl (dv_r1 _) ?_
        exact ⟨rfl, S3, hK, rfl⟩
      · have hx := dv_nge hi26 (by omega) c31
        have hn24 := (hP i hx).1.2.1
        refine J_aload_n dX8_back_34 (pc' := 35) rfl rfl ?_
        refine J_getr fX8_53 kd_516 rf_516_10 dX8_back_35 (pc' := 38) rfl ?_
        refine J_iload_n dX8_back_38 (pc' := 39) rfl rfl ?_
        refine J_aload_n dX8_back_39 (pc' := 40) rfl rfl ?_
        refine J_getr fX8_117 kd_516 rf_516_35 dX8_back_40 (pc' := 43) rfl ?_
        refine J_iload_n dX8_back_43 (pc' := 44) rfl rfl ?_
        refine J_iald (j := i) kd_542 (rfl) (by rw [ln_542]; omega) dX8_back_44 (pc' := 45) rfl ?_
        refine J_top (w := .int (nI ((PN i).length))) (by rw [(rN1_fr hK.1 (by decide) (rN1_fr hB0 (by decide) (hP i hx).1)).1]) ?_
        refine J_iast (j := i) kd_521 (rfl) (by rw [ln_521]; omega) dX8_back_45 (pc' := 46) rfl ?_
        refine J_iconst dX8_back_46 (pc' := 47) rfl (v := 0) ic_0 ?_
        refine J_istore_n dX8_back_47 (pc' := 48) rfl rfl (by decide) rfl (l' := [some (.ref 516), some (.int (nI i)), some (.int 0)]) rfl ?_
        have hlp48 : ∀ j, j ≤ (PN i).length → dv_J yX8_back cX8_back 3 (some .int) (dv_rm (d + 1)) 0 0 48 [some (.ref 516), some (.int (nI i)), some (.int (nI j))] [] (cpy S3 524 521 i (PN i).length (fun z => (PN i).getD z 0) j) (fun r S' => r = some (.int (S1.1 516 37)) ∧ ∃ S3, bcI (dv_u S1.1 516 36 0, S1.2) PN n S3 ∧ S' = (rT S3 0)) := by
          refine dv_up (P := fun j => dv_J yX8_back cX8_back 3 (some .int) (dv_rm (d + 1)) 0 0 48 [some (.ref 516), some (.int (nI i)), some (.int (nI j))] [] (cpy S3 524 521 i (PN i).length (fun z => (PN i).getD z 0) j) (fun r S' => r = some (.int (S1.1 516 37)) ∧ ∃ S3, bcI (dv_u S1.1 516 36 0, S1.2) PN n S3 ∧ S' = (rT S3 0))) ?_
          intro j hi48 ih48 
          refine J_iload_n dX8_back_48 (pc' := 49) rfl rfl ?_
          refine J_aload_n dX8_back_49 (pc' := 50) rfl rfl ?_
          refine J_getr fX8_53 kd_516 rf_516_10 dX8_back_50 (pc' := 53) rfl ?_
          refine J_iload_n dX8_back_53 (pc' := 54) rfl rfl ?_
          refine J_iald (j := i) kd_521 (rfl) (by rw [ln_521]; omega) dX8_back_54 (pc' := 55) rfl ?_
          refine J_top (w := .int (nI ((PN i).length))) (by rw [cpy_sz _ _ _ _ _ (by decide)]) ?_
          refine J_icmp_ge dX8_back_55 (pt := 86) (by decide) (pc' := 58) rfl (fun c55 => ?_) (fun c55 => ?_)
          · have hj := dv_ge hi48 (by omega) c55
            refine J_iinc dX8_back_86 (pc' := 89) rfl rfl (v := nI (i + 1)) (nI_1 i) (by decide) rfl (l' := [some (.ref 516), some (.int (nI (i + 1))), some (.int (nI j))]) rfl ?_
            refine J_goto dX8_back_89 (pc' := 26) (by decide) ?_
            refine J_drop 2 (l' := [some (.ref 516), some (.int (nI (i + 1))), none]) rfl ?_
            rw [hj]
            exact ih26 (i + 1) (by omega) (by omega) _ (bcI_s hK hn24 (hP i hx).2)
          · have hj := dv_nge hi48 (by omega) c55
            refine J_aload_n dX8_back_58 (pc' := 59) rfl rfl ?_
            refine J_getr fX8_62 kd_516 rf_516_13 dX8_back_59 (pc' := 62) rfl ?_
            refine J_bipush dX8_back_62 (pc' := 64) rfl (v := 24) bp_24 ?_
            refine J_iload_n dX8_back_64 (pc' := 65) rfl rfl ?_
            refine J_imul dX8_back_65 (pc' := 66) rfl ?_
            refine J_top (w := .int (nI (24 * i))) (by rw [dv_n24, pk_mul]) ?_
            refine J_iload_n dX8_back_66 (pc' := 67) rfl rfl ?_
            refine J_iadd dX8_back_67 (pc' := 68) rfl ?_
            refine J_top (w := .int (nI (24 * i + j))) (by rw [nI_add]) ?_
            refine J_aload_n dX8_back_68 (pc' := 69) rfl rfl ?_
            refine J_getr fX8_108 kd_516 rf_516_32 dX8_back_69 (pc' := 72) rfl ?_
            refine J_bipush dX8_back_72 (pc' := 74) rfl (v := 24) bp_24 ?_
            refine J_iload_n dX8_back_74 (pc' := 75) rfl rfl ?_
            refine J_imul dX8_back_75 (pc' := 76) rfl ?_
            refine J_top (w := .int (nI (24 * i))) (by rw [dv_n24, pk_mul]) ?_
            refine J_iload_n dX8_back_76 (pc' := 77) rfl rfl ?_
            refine J_iadd dX8_back_77 (pc' := 78) rfl ?_
            refine J_bald (j := 24 * i + j) kd_539 (nI_add _ _) (by rw [ln_539]; omega) dX8_back_78 (pc' := 79) rfl ?_
            refine J_top (w := .int ((PN i).getD j 0)) (by rw [cpy_row _ _ _ _ _ _ _ (by decide) (by decide), rN1_at (rN1_fr hK.1 (by decide) (rN1_fr hB0 (by decide) (hP i hx).1)) hj]) ?_
            refine J_bast (j := 24 * i + j) kd_524 (rfl) (by rw [ln_524]; omega) dX8_back_79 (pc' := 80) rfl ?_
            refine J_iinc dX8_back_80 (pc' := 83) rfl rfl (v := nI (j + 1)) (nI_1 j) (by decide) rfl (l' := [some (.ref 516), some (.int (nI i)), some (.int (nI (j + 1)))]) rfl ?_
            refine J_goto dX8_back_83 (pc' := 48) (by decide) ?_
            exact J_sto (cpy_s _ _ _ _ _ _ _) (ih48 (j + 1) (by omega) (by omega))
        refine J_loc (l' := [some (.ref 516), some (.int (nI i)), some (.int (nI 0))]) (by simp only [nI_0, dv_b_f, dv_b_t]) ?_
        refine J_sto (S' := (cpy S3 524 521 i (PN i).length (fun z => (PN i).getD z 0) 0)) (cpy_0 _ _ _ _ _ _) ?_
        exact hlp48 0 (Nat.zero_le _) 
    refine J_loc (l' := [some (.ref 516), some (.int (nI 0)), none]) (by simp only [nI_0, dv_b_f, dv_b_t]) ?_
    refine J_sto (S' := (dv_u S1.1 516 36 0, S1.2)) (rfl) ?_
    exact hlp26 0 (Nat.zero_le _) _ ⟨fr.rf _ _ _, fun j hj => absurd hj (Nat.not_lt_zero j)⟩
  · exact absurd c9 hb
