set_option maxRecDepth 100000 in
set_option maxHeartbeats 400000 in
theorem qX8_offerN (d : Nat) (S : dv_S) (S1 : dv_S) (x : Int32) (h0 : rS S = S1) (hx : decide (0 ≤ x ∧ x < S1.1 516 5) = false)  : dv_M yX8_offer cX8_offer 3 (some .int) (dv_rm (d + 5)) [.ref 516, .int x] S (fun r S' => r = some (.int (-1)) ∧ S' = (rT S1 1)) := by
  refine dv_M_of [some (.ref 516), some (.int x), none] (by decide) (fun _ _ => Nat.le_of_ble_eq_true rfl) (fun _ _ => rfl) ?_
  refine J_aload_n dX8_offer_0 (pc' := 1) rfl rfl ?_
  refine J_iconst dX8_offer_1 (pc' := 2) rfl (v := 0) ic_0 ?_
  refine J_puti fX8_1 kd_516 rf_516_0 dX8_offer_2 (pc' := 5) rfl ?_
  refine J_sto (S' := S1) (h0) ?_
  refine J_aload_n dX8_offer_5 (pc' := 6) rfl rfl ?_
  refine J_iload_n dX8_offer_6 (pc' := 7) rfl rfl ?_
  refine J_v1 (As := [.int x]) (rest := []) (qX8_isThing _ _ _) vX8_isThing mX8_159 kd_516 dX8_offer_7 (pc' := 10) rfl rfl (Nat.le_of_ble_eq_true rfl) (by decide) ?_
  refine J_bne dX8_offer_10 (pt := 19) (by decide) (pc' := 13) rfl (fun c10 => ?_) (fun c10 => ?_)
  · exact absurd c10 (by rw [hx]; decide)
  · refine J_aload_n dX8_offer_13 (pc' := 14) rfl rfl ?_
    refine J_iconst dX8_offer_14 (pc' := 15) rfl (v := 1) ic_1 ?_
    refine J_v1 (As := [.int 1]) (rest := []) (qX8_refused _ _ _) vX8_refused mX8_126 kd_516 dX8_offer_15 (pc' := 18) rfl rfl (Nat.le_of_ble_eq_true rfl) (by decide) ?_
    refine J_iret dX8_offer_18 rfl (dv_r1 _) ?_
    exact ⟨rfl, rfl⟩
set_option maxRecDepth 100000 in
set_option maxHeartbeats 400000 in
theorem qX8_offer0 (d : Nat) (S : dv_S) (S1 : dv_S) (C : dv_S) (n w : Nat) (wl : Nat → Nat → Int32) (wm : Nat → Nat) (t : Nat) (h0 : rS S = S1) (hX : RX S1 C n w wl wm) (ht : t < n) (hg : ogS C w wl wm n t = false)  : dv_M yX8_offer cX8_offer 3 (some .int) (dv_rm (d + 5)) [.ref 516, .int (nI t)] S (fun r S' => r = some (.int (-2)) ∧ ∃ S2, ofF S1 S2 ∧ S' = (rT S2 0)) := by
  have h80 := hX.1.2
  refine dv_M_of [some (.ref 516), some (.int (nI t)), none] (by decide) (fun _ _ => Nat.le_of_ble_eq_true rfl) (fun _ _ => rfl) ?_
  refine J_aload_n dX8_offer_0 (pc' := 1) rfl rfl ?_
  refine J_iconst dX8_offer_1 (pc' := 2) rfl (v := 0) ic_0 ?_
  refine J_puti fX8_1 kd_516 rf_516_0 dX8_offer_2 (pc' := 5) rfl ?_
  refine J_sto (S' := S1) (h0) ?_
  refine J_aload_n dX8_offer_5 (pc' := 6) rfl rfl ?_
  refine J_iload_n dX8_offer_6 (pc' := 7) rfl rfl ?_
  refine J_v1 (As := [.int (nI t)]) (rest := []) (qX8_isThing _ _ _) vX8_isThing mX8_159 kd_516 dX8_offer_7 (pc' := 10) rfl rfl (Nat.le_of_ble_eq_true rfl) (by decide) ?_
  refine J_bne dX8_offer_10 (pt := 19) (by decide) (pc' := 13) rfl (fun c10 => ?_) (fun c10 => ?_)
  · refine J_aload_n dX8_offer_19 (pc' := 20) rfl rfl ?_
    refine J_iload_n dX8_offer_20 (pc' := 21) rfl rfl ?_
    refine J_vq (As := [.int (nI t)]) (rest := []) (qX8_offers _ S1 C n w wl wm t hX ht) vX8_offers mX8_217 kd_516 dX8_offer_21 (pc' := 24) rfl rfl (Nat.le_of_ble_eq_true rfl) (by decide) ?_
    rintro r S2 ⟨rfl, hO⟩
    show dv_J yX8_offer cX8_offer 3 (some .int) (dv_rm (d + 5)) 0 0 24 [some (.ref 516), some (.int (nI t)), none] [.int (dv_b (ogS C w wl wm n t))] S2 (fun r S' => r = some (.int (-2)) ∧ ∃ S2, ofF S1 S2 ∧ S' = (rT S2 0))
    refine J_bne dX8_offer_24 (pt := 34) (by decide) (pc' := 27) rfl (fun c24 => ?_) (fun c24 => ?_)
    · exact absurd c24 (by rw [hg]; decide)
    · refine J_aload_n dX8_offer_27 (pc' := 28) rfl rfl ?_
      refine J_bipush dX8_offer_28 (pc' := 30) rfl (v := (-2)) bp_m2 ?_
      refine J_v1 (As := [.int ((-2))]) (rest := []) (qX8_done _ _ _) vX8_done mX8_130 kd_516 dX8_offer_30 (pc' := 33) rfl rfl (Nat.le_of_ble_eq_true rfl) (by decide) ?_
      refine J_iret dX8_offer_33 rfl (dv_r1 _) ?_
      exact ⟨rfl, S2, hO.1, rfl⟩
  · exact absurd (dv_has ht hX.1.1 (by omega)) (by rw [c10]; decide)
set_option maxRecDepth 100000 in
set_option maxHeartbeats 400000 in
theorem qX8_offerY (d : Nat) (S : dv_S) (S1 : dv_S) (C : dv_S) (n w : Nat) (wl : Nat → Nat → Int32) (wm : Nat → Nat) (t : Nat) (h0 : rS S = S1) (hX : RX S1 C n w wl wm) (ht : t < n) (hg : ogS C w wl wm n t = true)  : dv_M yX8_offer cX8_offer 3 (some .int) (dv_rm (d + 5)) [.ref 516, .int (nI t)] S (fun r S' => r = some (.int (nI (olS C w wl wm n t).length)) ∧ ∃ S2, ofF S1 S2 ∧ mdt S2 (olS C w wl wm n t) ∧ S' = (rT (rOt S2 (olS C w wl wm n t).length (olS C w wl wm n t).length) 0)) := by
  have h80 := hX.1.2
  have hL := ogS_len hg
  refine dv_M_of [some (.ref 516), some (.int (nI t)), none] (by decide) (fun _ _ => Nat.le_of_ble_eq_true rfl) (fun _ _ => rfl) ?_
  refine J_aload_n dX8_offer_0 (pc' := 1) rfl rfl ?_
  refine J_iconst dX8_offer_1 (pc' := 2) rfl (v := 0) ic_0 ?_
  refine J_puti fX8_1 kd_516 rf_516_0 dX8_offer_2 (pc' := 5) rfl ?_
  refine J_sto (S' := S1) (h0) ?_
  refine J_aload_n dX8_offer_5 (pc' := 6) rfl rfl ?_
  refine J_iload_n dX8_offer_6 (pc' := 7) rfl rfl ?_
  refine J_v1 (As := [.int (nI t)]) (rest := []) (qX8_isThing _ _ _) vX8_isThing mX8_159 kd_516 dX8_offer_7 (pc' := 10) rfl rfl (Nat.le_of_ble_eq_true rfl) (by decide) ?_
  refine J_bne dX8_offer_10 (pt := 19) (by decide) (pc' := 13) rfl (fun c10 => ?_) (fun c10 => ?_)
  · refine J_aload_n dX8_offer_19 (pc' := 20) rfl rfl ?_
    refine J_iload_n dX8_offer_20 (pc' := 21) rfl rfl ?_
    refine J_vq (As := [.int (nI t)]) (rest := []) (qX8_offers _ S1 C n w wl wm t hX ht) vX8_offers mX8_217 kd_516 dX8_offer_21 (pc' := 24) rfl rfl (Nat.le_of_ble_eq_true rfl) (by decide) ?_
    rintro r S2 ⟨rfl, hO⟩
    show dv_J yX8_offer cX8_offer 3 (some .int) (dv_rm (d + 5)) 0 0 24 [some (.ref 516), some (.int (nI t)), none] [.int (dv_b (ogS C w wl wm n t))] S2 (fun r S' => r = some (.int (nI (olS C w wl wm n t).length)) ∧ ∃ S2, ofF S1 S2 ∧ mdt S2 (olS C w wl wm n t) ∧ S' = (rT (rOt S2 (olS C w wl wm n t).length (olS C w wl wm n t).length) 0))
    refine J_bne dX8_offer_24 (pt := 34) (by decide) (pc' := 27) rfl (fun c24 => ?_) (fun c24 => ?_)
    · refine J_aload_n dX8_offer_34 (pc' := 35) rfl rfl ?_
      refine J_aload_n dX8_offer_35 (pc' := 36) rfl rfl ?_
      refine J_geti fX8_210 kd_516 rf_516_27 dX8_offer_36 (pc' := 39) rfl ?_
      refine J_top (w := .int (nI ((olS C w wl wm n t).length))) (by rw [hO.2.2.2.1]) ?_
      refine J_puti fX8_220 kd_516 rf_516_26 dX8_offer_39 (pc' := 42) rfl ?_
      refine J_iconst dX8_offer_42 (pc' := 43) rfl (v := 0) ic_0 ?_
      refine J_istore_n dX8_offer_43 (pc' := 44) rfl rfl (by decide) rfl (l' := [some (.ref 516), some (.int (nI t)), some (.int 0)]) rfl ?_
      have hlp44 : ∀ i, i ≤ (olS C w wl wm n t).length → dv_J yX8_offer cX8_offer 3 (some .int) (dv_rm (d + 5)) 0 0 44 [some (.ref 516), some (.int (nI t)), some (.int (nI i))] [] (rOt S2 (olS C w wl wm n t).length i) (fun r S' => r = some (.int (nI (olS C w wl wm n t).length)) ∧ ∃ S2, ofF S1 S2 ∧ mdt S2 (olS C w wl wm n t) ∧ S' = (rT (rOt S2 (olS C w wl wm n t).length (olS C w wl wm n t).length) 0)) := by
        refine dv_up (P := fun i => dv_J yX8_offer cX8_offer 3 (some .int) (dv_rm (d + 5)) 0 0 44 [some (.ref 516), some (.int (nI t)), some (.int (nI i))] [] (rOt S2 (olS C w wl wm n t).length i) (fun r S' => r = some (.int (nI (olS C w wl wm n t).length)) ∧ ∃ S2, ofF S1 S2 ∧ mdt S2 (olS C w wl wm n t) ∧ S' = (rT (rOt S2 (olS C w wl wm n t).length (olS C w wl wm n t).length) 0))) ?_
        intro i hi44 ih44 
        refine J_iload_n dX8_offer_44 (pc' := 45) rfl rfl ?_
        refine J_aload_n dX8_offer_45 (pc' := 46) rfl rfl ?_
        refine J_geti fX8_220 kd_516 rf_516_26 dX8_offer_46 (pc' := 49) rfl ?_
        refine J_top (w := .int (nI ((olS C w wl wm n t).length))) (by rw [rOt_26]) ?_
        refine J_icmp_ge dX8_offer_49 (pt := 70) (by decide) (pc' := 52) rfl (fun c49 => ?_) (fun c49 => ?_)
        · have hx := dv_ge hi44 (by omega) c49
          refine J_aload_n dX8_offer_70 (pc' := 71) rfl rfl ?_
          refine J_aload_n dX8_offer_71 (pc' := 72) rfl rfl ?_
          refine J_geti fX8_220 kd_516 rf_516_26 dX8_offer_72 (pc' := 75) rfl ?_
          refine J_top (w := .int (nI ((olS C w wl wm n t).length))) (by rw [rOt_26]) ?_
          refine J_v1 (As := [.int (nI ((olS C w wl wm n t).length))]) (rest := []) (qX8_done _ _ _) vX8_done mX8_130 kd_516 dX8_offer_75 (pc' := 78) rfl rfl (Nat.le_of_ble_eq_true rfl) (by decide) ?_
          refine J_iret dX8_offer_78 rfl (dv_r1 _) ?_
          exact ⟨rfl, S2, hO.1, hO.2.2.2, by rw [hx]⟩
        · have hx := dv_nge hi44 (by omega) c49
          refine J_aload_n dX8_offer_52 (pc' := 53) rfl rfl ?_
          refine J_getr fX8_89 kd_516 rf_516_24 dX8_offer_53 (pc' := 56) rfl ?_
          refine J_iload_n dX8_offer_56 (pc' := 57) rfl rfl ?_
          refine J_aload_n dX8_offer_57 (pc' := 58) rfl rfl ?_
          refine J_getr fX8_92 kd_516 rf_516_25 dX8_offer_58 (pc' := 61) rfl ?_
          refine J_iload_n dX8_offer_61 (pc' := 62) rfl rfl ?_
          refine J_bald (j := i) kd_534 (rfl) (by rw [ln_534]; omega) dX8_offer_62 (pc' := 63) rfl ?_
          refine J_top (w := .int (S2.2.1 534 i)) (by rw [rOt_534]) ?_
          refine J_bast (j := i) kd_533 (rfl) (by rw [ln_533]; omega) dX8_offer_63 (pc' := 64) rfl ?_
          refine J_iinc dX8_offer_64 (pc' := 67) rfl rfl (v := nI (i + 1)) (nI_1 i) (by decide) rfl (l' := [some (.ref 516), some (.int (nI t)), some (.int (nI (i + 1)))]) rfl ?_
          refine J_goto dX8_offer_67 (pc' := 44) (by decide) ?_
          exact J_sto (rOt_s S2 (olS C w wl wm n t).length i) (ih44 (i + 1) (by omega) (by omega))
      refine J_loc (l' := [some (.ref 516), some (.int (nI t)), some (.int (nI 0))]) (by simp only [nI_0, dv_b_f, dv_b_t]) ?_
      refine J_sto (S' := (rOt S2 (olS C w wl wm n t).length 0)) (rOt_0 _ _) ?_
      exact hlp44 0 (Nat.zero_le _) 
    · exact absurd c24 (by rw [hg]; decide)
  · exact absurd (dv_has ht hX.1.1 (by omega)) (by rw [c10]; decide)
set_option maxRecDepth 100000 in
set_option maxHeartbeats 400000 in
theorem qX8_outT (d : Nat) (S : dv_S) (x : Int32) (hx : ¬ (0 ≤ x ∧ x < S.1 516 26))  : dv_M yX8_out cX8_out 2 (some .int) (dv_rm (d + 1)) [.ref 516, .int x] S (fun r S' => r = some (.int 0) ∧ S' = (dv_u S.1 516 0 1, S.2)) := by
  refine dv_M_of [some (.ref 516), some (.int x)] (by decide) (fun _ _ => Nat.le_of_ble_eq_true rfl) (fun _ _ => rfl) ?_
  refine J_aload_n dX8_out_0 (pc' := 1) rfl rfl ?_
  refine J_iload_n dX8_out_1 (pc' := 2) rfl rfl ?_
  refine J_if_lt dX8_out_2 (pt := 13) (by decide) (pc' := 5) rfl (fun c2 => ?_) (fun c2 => ?_)
  · refine J_iconst dX8_out_13 (pc' := 14) rfl (v := 1) ic_1 ?_
    refine J_goto dX8_out_14 (pc' := 18) (by decide) ?_
    refine J_puti fX8_1 kd_516 rf_516_0 dX8_out_18 (pc' := 21) rfl ?_
    refine J_aload_n dX8_out_21 (pc' := 22) rfl rfl ?_
    refine J_geti fX8_1 kd_516 rf_516_0 dX8_out_22 (pc' := 25) rfl ?_
    refine J_top (w := .int 1) (by show Value.int (dv_u S.1 516 0 1 516 0) = _; rw [dv_u_eq]) ?_
    refine J_if_le dX8_out_25 (pt := 32) (by decide) (pc' := 28) rfl (fun c25 => ?_) (fun c25 => ?_)
    · exact absurd c25 (by decide)
    · refine J_iconst dX8_out_28 (pc' := 29) rfl (v := 0) ic_0 ?_
      refine J_goto dX8_out_29 (pc' := 38) (by decide) ?_
      refine J_iret dX8_out_38 rfl (dv_r1 _) ?_
      exact ⟨rfl, rfl⟩
  · refine J_iload_n dX8_out_5 (pc' := 6) rfl rfl ?_
    refine J_aload_n dX8_out_6 (pc' := 7) rfl rfl ?_
    refine J_geti fX8_220 kd_516 rf_516_26 dX8_out_7 (pc' := 10) rfl ?_
    refine J_icmp_lt dX8_out_10 (pt := 17) (by decide) (pc' := 13) rfl (fun c10 => ?_) (fun c10 => ?_)
    · exact absurd ⟨Int32.not_lt.mp c2, c10⟩ hx
    · refine J_iconst dX8_out_13 (pc' := 14) rfl (v := 1) ic_1 ?_
      refine J_goto dX8_out_14 (pc' := 18) (by decide) ?_
      refine J_puti fX8_1 kd_516 rf_516_0 dX8_out_18 (pc' := 21) rfl ?_
      refine J_aload_n dX8_out_21 (pc' := 22) rfl rfl ?_
      refine J_geti fX8_1 kd_516 rf_516_0 dX8_out_22 (pc' := 25) rfl ?_
      refine J_top (w := .int 1) (by show Value.int (dv_u S.1 516 0 1 516 0) = _; rw [dv_u_eq]) ?_
      refine J_if_le dX8_out_25 (pt := 32) (by decide) (pc' := 28) rfl (fun c25 => ?_) (fun c25 => ?_)
      · exact absurd c25 (by decide)
      · refine J_iconst dX8_out_28 (pc' := 29) rfl (v := 0) ic_0 ?_
        refine J_goto dX8_out_29 (pc' := 38) (by decide) ?_
        refine J_iret dX8_out_38 rfl (dv_r1 _) ?_
        exact ⟨rfl, rfl⟩
set_option maxRecDepth 100000 in
set_option maxHeartbeats 400000 in
theorem qX8_outY (d : Nat) (S : dv_S) (i m : Nat) (hm : S.1 516 26 = nI m) (hi : i < m) (h24 : m ≤ 24)  : dv_M yX8_out cX8_out 2 (some .int) (dv_rm (d + 1)) [.ref 516, .int (nI i)] S (fun r S' => r = some (.int (S.2.1 533 i)) ∧ S' = (dv_u S.1 516 0 0, S.2)) := by
  refine dv_M_of [some (.ref 516), some (.int (nI i))] (by decide) (fun _ _ => Nat.le_of_ble_eq_true rfl) (fun _ _ => rfl) ?_
  refine J_aload_n dX8_out_0 (pc' := 1) rfl rfl ?_
  refine J_iload_n dX8_out_1 (pc' := 2) rfl rfl ?_
  refine J_if_lt dX8_out_2 (pt := 13) (by decide) (pc' := 5) rfl (fun c2 => ?_) (fun c2 => ?_)
  · exact absurd c2 (nI_pos (by omega))
  · refine J_iload_n dX8_out_5 (pc' := 6) rfl rfl ?_
    refine J_aload_n dX8_out_6 (pc' := 7) rfl rfl ?_
    refine J_geti fX8_220 kd_516 rf_516_26 dX8_out_7 (pc' := 10) rfl ?_
    refine J_icmp_lt dX8_out_10 (pt := 17) (by decide) (pc' := 13) rfl (fun c10 => ?_) (fun c10 => ?_)
    · refine J_iconst dX8_out_17 (pc' := 18) rfl (v := 0) ic_0 ?_
      refine J_puti fX8_1 kd_516 rf_516_0 dX8_out_18 (pc' := 21) rfl ?_
      refine J_aload_n dX8_out_21 (pc' := 22) rfl rfl ?_
      refine J_geti fX8_1 kd_516 rf_516_0 dX8_out_22 (pc' := 25) rfl ?_
      refine J_top (w := .int 0) (by show Value.int (dv_u S.1 516 0 0 516 0) = _; rw [dv_u_eq]) ?_
      refine J_if_le dX8_out_25 (pt := 32) (by decide) (pc' := 28) rfl (fun c25 => ?_) (fun c25 => ?_)
      · refine J_aload_n dX8_out_32 (pc' := 33) rfl rfl ?_
        refine J_getr fX8_89 kd_516 rf_516_24 dX8_out_33 (pc' := 36) rfl ?_
        refine J_iload_n dX8_out_36 (pc' := 37) rfl rfl ?_
        refine J_bald (j := i) kd_533 (rfl) (by rw [ln_533]; omega) dX8_out_37 (pc' := 38) rfl ?_
        refine J_iret dX8_out_38 rfl (dv_r1 _) ?_
        exact ⟨rfl, rfl⟩
      · exact absurd c25 (by decide)
    · rw [hm] at c10
      exact absurd (nI_lt hi (by omega)) c10
set_option maxRecDepth 100000 in
set_option maxHeartbeats 400000 in
theorem qX8_renameMany (d : Nat) (S : dv_S) (n : Nat) (hT : rw_T S n)  : dv_M yX8_renameMany cX8_renameMany 3 (some .int) (dv_rm (d + 0)) [.ref 516] S (fun r S' => r = some (.int (nI (dv_ct (fun z => decide (¬ S.2.1 535 z = 0)) n))) ∧ S' = S) := by
  have h80 := hT.2
  refine dv_M_of [some (.ref 516), none, none] (by decide) (fun _ _ => Nat.le_of_ble_eq_true rfl) (fun _ _ => rfl) ?_
  refine J_iconst dX8_renameMany_0 (pc' := 1) rfl (v := 0) ic_0 ?_
  refine J_istore_n dX8_renameMany_1 (pc' := 2) rfl rfl (by decide) rfl (l' := [some (.ref 516), some (.int 0), none]) rfl ?_
  refine J_iconst dX8_renameMany_2 (pc' := 3) rfl (v := 0) ic_0 ?_
  refine J_istore_n dX8_renameMany_3 (pc' := 4) rfl rfl (by decide) rfl (l' := [some (.ref 516), some (.int 0), some (.int 0)]) rfl ?_
  have hlp4 : ∀ i, i ≤ n → dv_J yX8_renameMany cX8_renameMany 3 (some .int) (dv_rm (d + 0)) 0 0 4 [some (.ref 516), some (.int (nI (dv_ct (fun z => decide (¬ S.2.1 535 z = 0)) i))), some (.int (nI i))] [] S (fun r S' => r = some (.int (nI (dv_ct (fun z => decide (¬ S.2.1 535 z = 0)) n))) ∧ S' = S) := by
    refine dv_up (P := fun i => dv_J yX8_renameMany cX8_renameMany 3 (some .int) (dv_rm (d + 0)) 0 0 4 [some (.ref 516), some (.int (nI (dv_ct (fun z => decide (¬ S.2.1 535 z = 0)) i))), some (.int (nI i))] [] S (fun r S' => r = some (.int (nI (dv_ct (fun z => decide (¬ S.2.1 535 z = 0)) n))) ∧ S' = S)) ?_
    intro i hi4 ih4 
    refine J_iload_n dX8_renameMany_4 (pc' := 5) rfl rfl ?_
    refine J_aload_n dX8_renameMany_5 (pc' := 6) rfl rfl ?_
    refine J_geti fX8_120 kd_516 rf_516_5 dX8_renameMany_6 (pc' := 9) rfl ?_
    refine J_top (w := .int (nI n)) (by rw [hT.1]) ?_
    refine J_icmp_ge dX8_renameMany_9 (pt := 35) (by decide) (pc' := 12) rfl (fun c9 => ?_) (fun c9 => ?_)
    · have hx := dv_ge hi4 (by omega) c9
      refine J_iload_n dX8_renameMany_35 (pc' := 36) rfl rfl ?_
      refine J_iret dX8_renameMany_36 rfl (dv_r1 _) ?_
      exact ⟨by rw [hx], rfl⟩
    · have hx := dv_nge hi4 (by omega) c9
      refine J_iload_n dX8_renameMany_12 (pc' := 13) rfl rfl ?_
      have hj27 : ∀ jv : Int32, (dv_b (decide (¬ S.2.1 535 i = 0))) = jv → dv_J yX8_renameMany cX8_renameMany 3 (some .int) (dv_rm (d + 0)) 0 0 27 [some (.ref 516), some (.int (nI (dv_ct (fun z => decide (¬ S.2.1 535 z = 0)) i))), some (.int (nI i))] [.int jv, .int (nI (dv_ct (fun z => decide (¬ S.2.1 535 z = 0)) i))] S (fun r S' => r = some (.int (nI (dv_ct (fun z => decide (¬ S.2.1 535 z = 0)) n))) ∧ S' = S) := by
        intro jv hjv
        subst hjv
        refine J_iadd dX8_renameMany_27 (pc' := 28) rfl ?_
        refine J_top (w := .int (nI (dv_ct (fun z => decide (¬ S.2.1 535 z = 0)) (i + 1)))) (by rw [← ct_b]) ?_
        refine J_istore_n dX8_renameMany_28 (pc' := 29) rfl rfl (by decide) rfl (l' := [some (.ref 516), some (.int (nI (dv_ct (fun z => decide (¬ S.2.1 535 z = 0)) (i + 1)))), some (.int (nI i))]) rfl ?_
        refine J_iinc dX8_renameMany_29 (pc' := 32) rfl rfl (v := nI (i + 1)) (nI_1 i) (by decide) rfl (l' := [some (.ref 516), some (.int (nI (dv_ct (fun z => decide (¬ S.2.1 535 z = 0)) (i + 1)))), some (.int (nI (i + 1)))]) rfl ?_
        refine J_goto dX8_renameMany_32 (pc' := 4) (by decide) ?_
        exact ih4 (i + 1) (by omega) (by omega)
      refine J_aload_n dX8_renameMany_13 (pc' := 14) rfl rfl ?_
      refine J_getr fX8_95 kd_516 rf_516_28 dX8_renameMany_14 (pc' := 17) rfl ?_
      refine J_iload_n dX8_renameMany_17 (pc' := 18) rfl rfl ?_
      refine J_zald (j := i) kd_535 (rfl) (by rw [ln_535]; omega) dX8_renameMany_18 (pc' := 19) rfl ?_
      refine J_if_eq dX8_renameMany_19 (pt := 26) (by decide) (pc' := 22) rfl (fun c19 => ?_) (fun c19 => ?_)
      · refine J_iconst dX8_renameMany_26 (pc' := 27) rfl (v := 0) ic_0 ?_
        exact hj27 _ (by simp [dv_b, c19])
      · refine J_iconst dX8_renameMany_22 (pc' := 23) rfl (v := 1) ic_1 ?_
        refine J_goto dX8_renameMany_23 (pc' := 27) (by decide) ?_
        exact hj27 _ (by simp [dv_b, c19])
  refine J_loc (l' := [some (.ref 516), some (.int (nI (dv_ct (fun z => decide (¬ S.2.1 535 z = 0)) 0))), some (.int (nI 0))]) (by simp only [nI_0, dv_ct]) ?_
  exact hlp4 0 (Nat.zero_le _) 
set_option maxRecDepth 100000 in
set_option maxHeartbeats 400000 in
theorem qX8_renameN1 (d : Nat) (S : dv_S) (S1 : dv_S) (x z : Int32) (h0 : rS S = S1) (hx : decide (0 ≤ x ∧ x < S1.1 516 5) = false)  : dv_M yX8_rename cX8_rename 4 (some .int) (dv_rm (d + 3)) [.ref 516, .int x, .int z] S (fun r S' => r = some (.int (-1)) ∧ S' = (rT S1 1)) := by
  refine dv_M_of [some (.ref 516), some (.int x), some (.int z), none] (by decide) (fun _ _ => Nat.le_of_ble_eq_true rfl) (fun _ _ => rfl) ?_
  refine J_aload_n dX8_rename_0 (pc' := 1) rfl rfl ?_
  refine J_iconst dX8_rename_1 (pc' := 2) rfl (v := 0) ic_0 ?_
  refine J_puti fX8_1 kd_516 rf_516_0 dX8_rename_2 (pc' := 5) rfl ?_
  refine J_sto (S' := S1) (h0) ?_
  refine J_aload_n dX8_rename_5 (pc' := 6) rfl rfl ?_
  refine J_iload_n dX8_rename_6 (pc' := 7) rfl rfl ?_
  refine J_v1 (As := [.int x]) (rest := []) (qX8_isThing _ _ _) vX8_isThing mX8_159 kd_516 dX8_rename_7 (pc' := 10) rfl rfl (Nat.le_of_ble_eq_true rfl) (by decide) ?_
  refine J_bne dX8_rename_10 (pt := 19) (by decide) (pc' := 13) rfl (fun c10 => ?_) (fun c10 => ?_)
  · exact absurd c10 (by rw [hx]; decide)
  · refine J_aload_n dX8_rename_13 (pc' := 14) rfl rfl ?_
    refine J_iconst dX8_rename_14 (pc' := 15) rfl (v := 1) ic_1 ?_
    refine J_v1 (As := [.int 1]) (rest := []) (qX8_refused _ _ _) vX8_refused mX8_126 kd_516 dX8_rename_15 (pc' := 18) rfl rfl (Nat.le_of_ble_eq_true rfl) (by decide) ?_
    refine J_iret dX8_rename_18 rfl (dv_r1 _) ?_
    exact ⟨rfl, rfl⟩
set_option maxRecDepth 100000 in
set_option maxHeartbeats 400000 in
theorem qX8_renameN2 (d : Nat) (S : dv_S) (S1 : dv_S) (z : Int32) (n t : Nat) (h0 : rS S = S1) (hT : rw_T S1 n) (ht : t < n) (hz : decide (0 ≤ z ∧ z ≤ S1.1 516 3) = false)  : dv_M yX8_rename cX8_rename 4 (some .int) (dv_rm (d + 3)) [.ref 516, .int (nI t), .int z] S (fun r S' => r = some (.int (-1)) ∧ S' = (rT S1 2)) := by
  have h80 := hT.2
  refine dv_M_of [some (.ref 516), some (.int (nI t)), some (.int z), none] (by decide) (fun _ _ => Nat.le_of_ble_eq_true rfl) (fun _ _ => rfl) ?_
  refine J_aload_n dX8_rename_0 (pc' := 1) rfl rfl ?_
  refine J_iconst dX8_rename_1 (pc' := 2) rfl (v := 0) ic_0 ?_
  refine J_puti fX8_1 kd_516 rf_516_0 dX8_rename_2 (pc' := 5) rfl ?_
  refine J_sto (S' := S1) (h0) ?_
  refine J_aload_n dX8_rename_5 (pc' := 6) rfl rfl ?_
  refine J_iload_n dX8_rename_6 (pc' := 7) rfl rfl ?_
  refine J_v1 (As := [.int (nI t)]) (rest := []) (qX8_isThing _ _ _) vX8_isThing mX8_159 kd_516 dX8_rename_7 (pc' := 10) rfl rfl (Nat.le_of_ble_eq_true rfl) (by decide) ?_
  refine J_bne dX8_rename_10 (pt := 19) (by decide) (pc' := 13) rfl (fun c10 => ?_) (fun c10 => ?_)
  · refine J_aload_n dX8_rename_19 (pc' := 20) rfl rfl ?_
    refine J_iload_n dX8_rename_20 (pc' := 21) rfl rfl ?_
    refine J_v1 (As := [.int z]) (rest := []) (qX8_isTaped _ _ _) vX8_isTaped mX8_140 kd_516 dX8_rename_21 (pc' := 24) rfl rfl (Nat.le_of_ble_eq_true rfl) (by decide) ?_
    refine J_bne dX8_rename_24 (pt := 33) (by decide) (pc' := 27) rfl (fun c24 => ?_) (fun c24 => ?_)
    · exact absurd c24 (by rw [hz]; decide)
    · refine J_aload_n dX8_rename_27 (pc' := 28) rfl rfl ?_
      refine J_iconst dX8_rename_28 (pc' := 29) rfl (v := 2) ic_2 ?_
      refine J_v1 (As := [.int 2]) (rest := []) (qX8_refused _ _ _) vX8_refused mX8_126 kd_516 dX8_rename_29 (pc' := 32) rfl rfl (Nat.le_of_ble_eq_true rfl) (by decide) ?_
      refine J_iret dX8_rename_32 rfl (dv_r1 _) ?_
      exact ⟨rfl, rfl⟩
  · exact absurd (dv_has ht hT.1 (by omega)) (by rw [c10]; decide)
set_option maxRecDepth 100000 in
set_option maxHeartbeats 400000 in
theorem qX8_renameN3 (d : Nat) (S : dv_S) (S1 : dv_S) (n t tn : Nat) (L : List Int32) (h0 : rS S = S1) (hT : rw_T S1 n) (ht : t < n) (htn : S1.1 516 3 = nI tn) (hk : L.length ≤ tn) (h200 : tn ≤ 200) (hL : dv_rd (fun z => S1.2.1 517 (0 + z)) L.length = L) (hc : nm_ok L = false)  : dv_M yX8_rename cX8_rename 4 (some .int) (dv_rm (d + 3)) [.ref 516, .int (nI t), .int (nI (L.length))] S (fun r S' => r = some (.int (-1)) ∧ S' = (rT (rK S1) 2)) := by
  have h80 := hT.2
  refine dv_M_of [some (.ref 516), some (.int (nI t)), some (.int (nI (L.length))), none] (by decide) (fun _ _ => Nat.le_of_ble_eq_true rfl) (fun _ _ => rfl) ?_
  refine J_aload_n dX8_rename_0 (pc' := 1) rfl rfl ?_
  refine J_iconst dX8_rename_1 (pc' := 2) rfl (v := 0) ic_0 ?_
  refine J_puti fX8_1 kd_516 rf_516_0 dX8_rename_2 (pc' := 5) rfl ?_
  refine J_sto (S' := S1) (h0) ?_
  refine J_aload_n dX8_rename_5 (pc' := 6) rfl rfl ?_
  refine J_iload_n dX8_rename_6 (pc' := 7) rfl rfl ?_
  refine J_v1 (As := [.int (nI t)]) (rest := []) (qX8_isThing _ _ _) vX8_isThing mX8_159 kd_516 dX8_rename_7 (pc' := 10) rfl rfl (Nat.le_of_ble_eq_true rfl) (by decide) ?_
  refine J_bne dX8_rename_10 (pt := 19) (by decide) (pc' := 13) rfl (fun c10 => ?_) (fun c10 => ?_)
  · refine J_aload_n dX8_rename_19 (pc' := 20) rfl rfl ?_
    refine J_iload_n dX8_rename_20 (pc' := 21) rfl rfl ?_
    refine J_v1 (As := [.int (nI (L.length))]) (rest := []) (qX8_isTaped _ _ _) vX8_isTaped mX8_140 kd_516 dX8_rename_21 (pc' := 24) rfl rfl (Nat.le_of_ble_eq_true rfl) (by decide) ?_
    refine J_bne dX8_rename_24 (pt := 33) (by decide) (pc' := 27) rfl (fun c24 => ?_) (fun c24 => ?_)
    · refine J_aload_n dX8_rename_33 (pc' := 34) rfl rfl ?_
      refine J_iconst dX8_rename_34 (pc' := 35) rfl (v := 0) ic_0 ?_
      refine J_puti fX8_10 kd_516 rf_516_3 dX8_rename_35 (pc' := 38) rfl ?_
      refine J_aload_n dX8_rename_38 (pc' := 39) rfl rfl ?_
      refine J_getr fX8_13 kd_516 rf_516_2 dX8_rename_39 (pc' := 42) rfl ?_
      refine J_iconst dX8_rename_42 (pc' := 43) rfl (v := 0) ic_0 ?_
      refine J_top (w := .int (nI 0)) (by rw [nI_0]) ?_
      refine J_iload_n dX8_rename_43 (pc' := 44) rfl rfl ?_
      refine J_s1 (As := [.ref 517, .int (nI 0), .int (nI (L.length))]) (rest := []) (qX8_isName _ (rK S1) 517 0 L.length kd_517 (by rw [ln_517]; omega)) vX8_isName mX8_143 dX8_rename_44 (pc' := 47) rfl rfl (Nat.le_of_ble_eq_true rfl) (by decide) ?_
      refine J_top (w := .int (dv_b (nm_ok L))) (by rw [hL]) ?_
      refine J_bne dX8_rename_47 (pt := 56) (by decide) (pc' := 50) rfl (fun c47 => ?_) (fun c47 => ?_)
      · exact absurd c47 (by rw [hc]; decide)
      · refine J_aload_n dX8_rename_50 (pc' := 51) rfl rfl ?_
        refine J_iconst dX8_rename_51 (pc' := 52) rfl (v := 2) ic_2 ?_
        refine J_v1 (As := [.int 2]) (rest := []) (qX8_refused _ _ _) vX8_refused mX8_126 kd_516 dX8_rename_52 (pc' := 55) rfl rfl (Nat.le_of_ble_eq_true rfl) (by decide) ?_
        refine J_iret dX8_rename_55 rfl (dv_r1 _) ?_
        exact ⟨rfl, rfl⟩
    · rw [htn] at c24
      exact absurd (show 0 ≤ nI L.length ∧ nI L.length ≤ nI tn from ⟨nI_pos' (by omega), nI_le hk (by omega)⟩) (of_decide_eq_false c24)
  · exact absurd (dv_has ht hT.1 (by omega)) (by rw [c10]; decide)
set_option maxRecDepth 100000 in
set_option maxHeartbeats 400000 in
theorem qX8_renameY (d : Nat) (S : dv_S) (S1 : dv_S) (n t tn : Nat) (L : List Int32) (h0 : rS S = S1) (hT : rw_T S1 n) (ht : t < n) (htn : S1.1 516 3 = nI tn) (hk : L.length ≤ tn) (h200 : tn ≤ 200) (hL : dv_rd (fun z => S1.2.1 517 (0 + z)) L.length = L) (hc : nm_ok L = true)  : dv_M yX8_rename cX8_rename 4 (some .int) (dv_rm (d + 3)) [.ref 516, .int (nI t), .int (nI (L.length))] S (fun r S' => r = some (.int (nI (dv_ct (fun z => decide (¬ (cpy ((rK S1).1, dv_u (rK S1).2.1 535 t 1, (rK S1).2.2) 537 540 t L.length (S1.2.1 517) L.length).2.1 535 z = 0)) n))) ∧ S' = (rT (cpy ((rK S1).1, dv_u (rK S1).2.1 535 t 1, (rK S1).2.2) 537 540 t L.length (S1.2.1 517) L.length) 0)) := by
  have h80 := hT.2
  have hlen := nm_len hc
  refine dv_M_of [some (.ref 516), some (.int (nI t)), some (.int (nI (L.length))), none] (by decide) (fun _ _ => Nat.le_of_ble_eq_true rfl) (fun _ _ => rfl) ?_
  refine J_aload_n dX8_rename_0 (pc' := 1) rfl rfl ?_
  refine J_iconst dX8_rename_1 (pc' := 2) rfl (v := 0) ic_0 ?_
  refine J_puti fX8_1 kd_516 rf_516_0 dX8_rename_2 (pc' := 5) rfl ?_
  refine J_sto (S' := S1) (h0) ?_
  refine J_aload_n dX8_rename_5 (pc' := 6) rfl rfl ?_
  refine J_iload_n dX8_rename_6 (pc' := 7) rfl rfl ?_
  refine J_v1 (As := [.int (nI t)]) (rest := []) (qX8_isThing _ _ _) vX8_isThing mX8_159 kd_516 dX8_rename_7 (pc' := 10) rfl rfl (Nat.le_of_ble_eq_true rfl) (by decide) ?_
  refine J_bne dX8_rename_10 (pt := 19) (by decide) (pc' := 13) rfl (fun c10 => ?_) (fun c10 => ?_)
  · refine J_aload_n dX8_rename_19 (pc' := 20) rfl rfl ?_
    refine J_iload_n dX8_rename_20 (pc' := 21) rfl rfl ?_
    refine J_v1 (As := [.int (nI (L.length))]) (rest := []) (qX8_isTaped _ _ _) vX8_isTaped mX8_140 kd_516 dX8_rename_21 (pc' := 24) rfl rfl (Nat.le_of_ble_eq_true rfl) (by decide) ?_
    refine J_bne dX8_rename_24 (pt := 33) (by decide) (pc' := 27) rfl (fun c24 => ?_) (fun c24 => ?_)
    · refine J_aload_n dX8_rename_33 (pc' := 34) rfl rfl ?_
      refine J_iconst dX8_rename_34 (pc' := 35) rfl (v := 0) ic_0 ?_
      refine J_puti fX8_10 kd_516 rf_516_3 dX8_rename_35 (pc' := 38) rfl ?_
      refine J_aload_n dX8_rename_38 (pc' := 39) rfl rfl ?_
      refine J_getr fX8_13 kd_516 rf_516_2 dX8_rename_39 (pc' := 42) rfl ?_
      refine J_iconst dX8_rename_42 (pc' := 43) rfl (v := 0) ic_0 ?_
      refine J_top (w := .int (nI 0)) (by rw [nI_0]) ?_
      refine J_iload_n dX8_rename_43 (pc' := 44) rfl rfl ?_
      refine J_s1 (As := [.ref 517, .int (nI 0), .int (nI (L.length))]) (rest := []) (qX8_isName _ (rK S1) 517 0 L.length kd_517 (by rw [ln_517]; omega)) vX8_isName mX8_143 dX8_rename_44 (pc' := 47) rfl rfl (Nat.le_of_ble_eq_true rfl) (by decide) ?_
      refine J_top (w := .int (dv_b (nm_ok L))) (by rw [hL]) ?_
      refine J_bne dX8_rename_47 (pt := 56) (by decide) (pc' := 50) rfl (fun c47 => ?_) (fun c47 => ?_)
      · refine J_aload_n dX8_rename_56 (pc' := 57) rfl rfl ?_
        refine J_getr fX8_95 kd_516 rf_516_28 dX8_rename_57 (pc' := 60) rfl ?_
        refine J_iload_n dX8_rename_60 (pc' := 61) rfl rfl ?_
        refine J_iconst dX8_rename_61 (pc' := 62) rfl (v := 1) ic_1 ?_
        refine J_zast (j := t) kd_535 (rfl) (by rw [ln_535]; omega) (by decide) dX8_rename_62 (pc' := 63) rfl ?_
        refine J_aload_n dX8_rename_63 (pc' := 64) rfl rfl ?_
        refine J_getr fX8_111 kd_516 rf_516_33 dX8_rename_64 (pc' := 67) rfl ?_
        refine J_iload_n dX8_rename_67 (pc' := 68) rfl rfl ?_
        refine J_iload_n dX8_rename_68 (pc' := 69) rfl rfl ?_
        refine J_iast (j := t) kd_540 (rfl) (by rw [ln_540]; omega) dX8_rename_69 (pc' := 70) rfl ?_
        refine J_iconst dX8_rename_70 (pc' := 71) rfl (v := 0) ic_0 ?_
        refine J_istore_n dX8_rename_71 (pc' := 72) rfl rfl (by decide) rfl (l' := [some (.ref 516), some (.int (nI t)), some (.int (nI (L.length))), some (.int 0)]) rfl ?_
        have hlp72 : ∀ j, j ≤ L.length → dv_J yX8_rename cX8_rename 4 (some .int) (dv_rm (d + 3)) 0 0 72 [some (.ref 516), some (.int (nI t)), some (.int (nI (L.length))), some (.int (nI j))] [] (cpy ((rK S1).1, dv_u (rK S1).2.1 535 t 1, (rK S1).2.2) 537 540 t L.length (S1.2.1 517) j) (fun r S' => r = some (.int (nI (dv_ct (fun z => decide (¬ (cpy ((rK S1).1, dv_u (rK S1).2.1 535 t 1, (rK S1).2.2) 537 540 t L.length (S1.2.1 517) L.length).2.1 535 z = 0)) n))) ∧ S' = (rT (cpy ((rK S1).1, dv_u (rK S1).2.1 535 t 1, (rK S1).2.2) 537 540 t L.length (S1.2.1 517) L.length) 0)) := by
          refine dv_up (P := fun j => dv_J yX8_rename cX8_rename 4 (some .int) (dv_rm (d + 3)) 0 0 72 [some (.ref 516), some (.int (nI t)), some (.int (nI (L.length))), some (.int (nI j))] [] (cpy ((rK S1).1, dv_u (rK S1).2.1 535 t 1, (rK S1).2.2) 537 540 t L.length (S1.2.1 517) j) (fun r S' => r = some (.int (nI (dv_ct (fun z => decide (¬ (cpy ((rK S1).1, dv_u (rK S1).2.1 535 t 1, (rK S1).2.2) 537 540 t L.length (S1.2.1 517) L.length).2.1 535 z = 0)) n))) ∧ S' = (rT (cpy ((rK S1).1, dv_u (rK S1).2.1 535 t 1, (rK S1).2.2) 537 540 t L.length (S1.2.1 517) L.length) 0))) ?_
          intro j hi72 ih72 
          refine J_iload_n dX8_rename_72 (pc' := 73) rfl rfl ?_
          refine J_iload_n dX8_rename_73 (pc' := 74) rfl rfl ?_
          refine J_icmp_ge dX8_rename_74 (pt := 100) (by decide) (pc' := 77) rfl (fun c74 => ?_) (fun c74 => ?_)
          · have hj := dv_ge hi72 (by omega) c74
            refine J_aload_n dX8_rename_100 (pc' := 101) rfl rfl ?_
            refine J_aload_n dX8_rename_101 (pc' := 102) rfl rfl ?_
            refine J_v1 (As := []) (rest := [.ref 516]) (qX8_renameMany _ (cpy ((rK S1).1, dv_u (rK S1).2.1 535 t 1, (rK S1).2.2) 537 540 t L.length (S1.2.1 517) j) n ⟨hT.1, hT.2⟩) vX8_renameMany mX8_223 kd_516 dX8_rename_102 (pc' := 105) rfl rfl (Nat.le_of_ble_eq_true rfl) (by decide) ?_
            refine J_v1 (As := [.int (nI (dv_ct (fun z => decide (¬ (cpy ((rK S1).1, dv_u (rK S1).2.1 535 t 1, (rK S1).2.2) 537 540 t L.length (S1.2.1 517) j).2.1 535 z = 0)) n))]) (rest := []) (qX8_done _ _ _) vX8_done mX8_130 kd_516 dX8_rename_105 (pc' := 108) rfl rfl (Nat.le_of_ble_eq_true rfl) (by decide) ?_
            refine J_iret dX8_rename_108 rfl (dv_r1 _) ?_
            exact ⟨by rw [hj], by rw [hj]⟩
          · have hj := dv_nge hi72 (by omega) c74
            refine J_aload_n dX8_rename_77 (pc' := 78) rfl rfl ?_
            refine J_getr fX8_102 kd_516 rf_516_30 dX8_rename_78 (pc' := 81) rfl ?_
            refine J_bipush dX8_rename_81 (pc' := 83) rfl (v := 24) bp_24 ?_
            refine J_iload_n dX8_rename_83 (pc' := 84) rfl rfl ?_
            refine J_imul dX8_rename_84 (pc' := 85) rfl ?_
            refine J_top (w := .int (nI (24 * t))) (by rw [dv_n24, pk_mul]) ?_
            refine J_iload_n dX8_rename_85 (pc' := 86) rfl rfl ?_
            refine J_iadd dX8_rename_86 (pc' := 87) rfl ?_
            refine J_top (w := .int (nI (24 * t + j))) (by rw [nI_add]) ?_
            refine J_aload_n dX8_rename_87 (pc' := 88) rfl rfl ?_
            refine J_getr fX8_13 kd_516 rf_516_2 dX8_rename_88 (pc' := 91) rfl ?_
            refine J_iload_n dX8_rename_91 (pc' := 92) rfl rfl ?_
            refine J_bald (j := j) kd_517 (rfl) (by rw [ln_517]; omega) dX8_rename_92 (pc' := 93) rfl ?_
            refine J_top (w := .int (S1.2.1 517 j)) (by rw [cpy_row _ _ _ _ _ _ _ (by decide) (by decide)]; show Value.int (dv_u S1.2.1 535 t 1 517 j) = _; rw [dv_u_row _ _ (by decide)]) ?_
            refine J_bast (j := 24 * t + j) kd_537 (rfl) (by rw [ln_537]; omega) dX8_rename_93 (pc' := 94) rfl ?_
            refine J_iinc dX8_rename_94 (pc' := 97) rfl rfl (v := nI (j + 1)) (nI_1 j) (by decide) rfl (l' := [some (.ref 516), some (.int (nI t)), some (.int (nI (L.length))), some (.int (nI (j + 1)))]) rfl ?_
            refine J_goto dX8_rename_97 (pc' := 72) (by decide) ?_
            exact J_sto (cpy_s _ _ _ _ _ _ _) (ih72 (j + 1) (by omega) (by omega))
        refine J_loc (l' := [some (.ref 516), some (.int (nI t)), some (.int (nI (L.length))), some (.int (nI 0))]) (by simp only [nI_0, dv_b_f, dv_b_t]) ?_
        refine J_sto (S' := (cpy ((rK S1).1, dv_u (rK S1).2.1 535 t 1, (rK S1).2.2) 537 540 t L.length (S1.2.1 517) 0)) (cpy_0 _ _ _ _ _ _) ?_
        exact hlp72 0 (Nat.zero_le _) 
      · exact absurd c47 (by rw [hc]; decide)
    · rw [htn] at c24
      exact absurd (show 0 ≤ nI L.length ∧ nI L.length ≤ nI tn from ⟨nI_pos' (by omega), nI_le hk (by omega)⟩) (of_decide_eq_false c24)
  · exact absurd (dv_has ht hT.1 (by omega)) (by rw [c10]; decide)
set_option maxRecDepth 100000 in
set_option maxHeartbeats 400000 in
theorem qX8_none (d : Nat) (S : dv_S) (S1 : dv_S) (n : Nat) (h0 : rS S = S1) (hT : rw_T S1 n)  : dv_M yX8_none cX8_none 3 (some .int) (dv_rm (d + 1)) [.ref 516] S (fun r S' => r = some (.int (nI (dv_ct (fun z => decide (¬ S1.2.1 535 z = 0)) n))) ∧ S' = (S1.1, dv_rw S1.2.1 535 (fun _ => 0) n, S1.2.2)) := by
  have h80 := hT.2
  refine dv_M_of [some (.ref 516), none, none] (by decide) (fun _ _ => Nat.le_of_ble_eq_true rfl) (fun _ _ => rfl) ?_
  refine J_aload_n dX8_none_0 (pc' := 1) rfl rfl ?_
  refine J_iconst dX8_none_1 (pc' := 2) rfl (v := 0) ic_0 ?_
  refine J_puti fX8_1 kd_516 rf_516_0 dX8_none_2 (pc' := 5) rfl ?_
  refine J_sto (S' := S1) (h0) ?_
  refine J_aload_n dX8_none_5 (pc' := 6) rfl rfl ?_
  refine J_v1 (As := []) (rest := []) (qX8_renameMany _ S1 n hT) vX8_renameMany mX8_223 kd_516 dX8_none_6 (pc' := 9) rfl rfl (Nat.le_of_ble_eq_true rfl) (by decide) ?_
  refine J_istore_n dX8_none_9 (pc' := 10) rfl rfl (by decide) rfl (l' := [some (.ref 516), some (.int (nI (dv_ct (fun z => decide (¬ S1.2.1 535 z = 0)) n))), none]) rfl ?_
  refine J_iconst dX8_none_10 (pc' := 11) rfl (v := 0) ic_0 ?_
  refine J_istore_n dX8_none_11 (pc' := 12) rfl rfl (by decide) rfl (l' := [some (.ref 516), some (.int (nI (dv_ct (fun z => decide (¬ S1.2.1 535 z = 0)) n))), some (.int 0)]) rfl ?_
  have hlp12 : ∀ i, i ≤ n → dv_J yX8_none cX8_none 3 (some .int) (dv_rm (d + 1)) 0 0 12 [some (.ref 516), some (.int (nI (dv_ct (fun z => decide (¬ S1.2.1 535 z = 0)) n))), some (.int (nI i))] [] (S1.1, dv_rw S1.2.1 535 (fun _ => 0) i, S1.2.2) (fun r S' => r = some (.int (nI (dv_ct (fun z => decide (¬ S1.2.1 535 z = 0)) n))) ∧ S' = (S1.1, dv_rw S1.2.1 535 (fun _ => 0) n, S1.2.2)) := by
    refine dv_up (P := fun i => dv_J yX8_none cX8_none 3 (some .int) (dv_rm (d + 1)) 0 0 12 [some (.ref 516), some (.int (nI (dv_ct (fun z => decide (¬ S1.2.1 535 z = 0)) n))), some (.int (nI i))] [] (S1.1, dv_rw S1.2.1 535 (fun _ => 0) i, S1.2.2) (fun r S' => r = some (.int (nI (dv_ct (fun z => decide (¬ S1.2.1 535 z = 0)) n))) ∧ S' = (S1.1, dv_rw S1.2.1 535 (fun _ => 0) n, S1.2.2))) ?_
    intro i hi12 ih12 
    refine J_iload_n dX8_none_12 (pc' := 13) rfl rfl ?_
    refine J_aload_n dX8_none_13 (pc' := 14) rfl rfl ?_
    refine J_geti fX8_120 kd_516 rf_516_5 dX8_none_14 (pc' := 17) rfl ?_
    refine J_top (w := .int (nI n)) (by show Value.int (S1.1 516 5) = _; rw [hT.1]) ?_
    refine J_icmp_ge dX8_none_17 (pt := 33) (by decide) (pc' := 20) rfl (fun c17 => ?_) (fun c17 => ?_)
    · have hx := dv_ge hi12 (by omega) c17
      refine J_iload_n dX8_none_33 (pc' := 34) rfl rfl ?_
      refine J_iret dX8_none_34 rfl (dv_r1 _) ?_
      exact ⟨rfl, by rw [hx]⟩
    · have hx := dv_nge hi12 (by omega) c17
      refine J_aload_n dX8_none_20 (pc' := 21) rfl rfl ?_
      refine J_getr fX8_95 kd_516 rf_516_28 dX8_none_21 (pc' := 24) rfl ?_
      refine J_iload_n dX8_none_24 (pc' := 25) rfl rfl ?_
      refine J_iconst dX8_none_25 (pc' := 26) rfl (v := 0) ic_0 ?_
      refine J_zast (j := i) kd_535 (rfl) (by rw [ln_535]; omega) (by decide) dX8_none_26 (pc' := 27) rfl ?_
      refine J_iinc dX8_none_27 (pc' := 30) rfl rfl (v := nI (i + 1)) (nI_1 i) (by decide) rfl (l' := [some (.ref 516), some (.int (nI (dv_ct (fun z => decide (¬ S1.2.1 535 z = 0)) n))), some (.int (nI (i + 1)))]) rfl ?_
      refine J_goto dX8_none_30 (pc' := 12) (by decide) ?_
      exact J_sto (S' := (S1.1, dv_rw S1.2.1 535 (fun _ => 0) (i + 1), S1.2.2)) (by rw [← dv_rw_s]) (ih12 (i + 1) (by omega) (by omega))
  refine J_loc (l' := [some (.ref 516), some (.int (nI (dv_ct (fun z => decide (¬ S1.2.1 535 z = 0)) n))), some (.int (nI 0))]) (by simp only [nI_0, dv_b_f, dv_b_t]) ?_
  refine J_sto (S' := (S1.1, dv_rw S1.2.1 535 (fun _ => 0) 0, S1.2.2)) (by rw [dv_rw_0]) ?_
  exact hlp12 0 (Nat.zero_le _) 
set_option maxRecDepth 100000 in
set_option maxHeartbeats 400000 in
theorem qX8_renames (d : Nat) (S : dv_S) (S1 : dv_S) (C : dv_S) (n w : Nat) (wl : Nat → Nat → Int32) (wm : Nat → Nat) (h0 : rS S = S1) (hX : RX S1 C n w wl wm)  : dv_M yX8_renames cX8_renames 3 (some .int) (dv_rm (d + 5)) [.ref 516] S (fun r S' => r = some (.int (nI (dv_ct (fun z => decide (¬ S'.2.1 535 z = 0)) n))) ∧ rrI S1 C w wl wm n n S') := by
  have h80 := hX.1.2
  refine dv_M_of [some (.ref 516), none, none] (by decide) (fun _ _ => Nat.le_of_ble_eq_true rfl) (fun _ _ => rfl) ?_
  refine J_aload_n dX8_renames_0 (pc' := 1) rfl rfl ?_
  refine J_iconst dX8_renames_1 (pc' := 2) rfl (v := 0) ic_0 ?_
  refine J_puti fX8_1 kd_516 rf_516_0 dX8_renames_2 (pc' := 5) rfl ?_
  refine J_sto (S' := S1) (h0) ?_
  refine J_iconst dX8_renames_5 (pc' := 6) rfl (v := 0) ic_0 ?_
  refine J_istore_n dX8_renames_6 (pc' := 7) rfl rfl (by decide) rfl (l' := [some (.ref 516), some (.int 0), none]) rfl ?_
  have hlp7 : ∀ i, i ≤ n → ∀ (S2 : dv_S), rrI S1 C w wl wm n i S2 → dv_J yX8_renames cX8_renames 3 (some .int) (dv_rm (d + 5)) 0 0 7 [some (.ref 516), some (.int (nI i)), none] [] S2 (fun r S' => r = some (.int (nI (dv_ct (fun z => decide (¬ S'.2.1 535 z = 0)) n))) ∧ rrI S1 C w wl wm n n S') := by
    refine dv_up (P := fun i => ∀ (S2 : dv_S), rrI S1 C w wl wm n i S2 → dv_J yX8_renames cX8_renames 3 (some .int) (dv_rm (d + 5)) 0 0 7 [some (.ref 516), some (.int (nI i)), none] [] S2 (fun r S' => r = some (.int (nI (dv_ct (fun z => decide (¬ S'.2.1 535 z = 0)) n))) ∧ rrI S1 C w wl wm n n S')) ?_
    intro i hi7 ih7 S2 hI
    refine J_iload_n dX8_renames_7 (pc' := 8) rfl rfl ?_
    refine J_aload_n dX8_renames_8 (pc' := 9) rfl rfl ?_
    refine J_geti fX8_120 kd_516 rf_516_5 dX8_renames_9 (pc' := 12) rfl ?_
    refine J_top (w := .int (nI n)) (by rw [hI.1.1 516 5 (by decide), hX.1.1]) ?_
    refine J_icmp_ge dX8_renames_12 (pt := 87) (by decide) (pc' := 15) rfl (fun c12 => ?_) (fun c12 => ?_)
    · have hx := dv_ge hi7 (by omega) c12
      refine J_aload_n dX8_renames_87 (pc' := 88) rfl rfl ?_
      refine J_v1 (As := []) (rest := []) (qX8_renameMany _ S2 n (rw_T_fr hI.1 (by decide) hX.1)) vX8_renameMany mX8_223 kd_516 dX8_renames_88 (pc' := 91) rfl rfl (Nat.le_of_ble_eq_true rfl) (by decide) ?_
      refine J_iret dX8_renames_91 rfl (dv_r1 _) ?_
      exact ⟨rfl, by rw [hx] at hI; exact hI⟩
    · have hx := dv_nge hi7 (by omega) c12
      refine J_aload_n dX8_renames_15 (pc' := 16) rfl rfl ?_
      refine J_getr fX8_95 kd_516 rf_516_28 dX8_renames_16 (pc' := 19) rfl ?_
      refine J_iload_n dX8_renames_19 (pc' := 20) rfl rfl ?_
      refine J_aload_n dX8_renames_20 (pc' := 21) rfl rfl ?_
      refine J_iload_n dX8_renames_21 (pc' := 22) rfl rfl ?_
      refine J_vq (As := [.int (nI i)]) (rest := [.int (nI i), .ref 535]) (qX8_offers _ S2 C n w wl wm i (RX_fr hI.1 hX (by decide) (by decide)) hx) vX8_offers mX8_217 kd_516 dX8_renames_22 (pc' := 25) rfl rfl (Nat.le_of_ble_eq_true rfl) (by decide) ?_
      rintro r S3 ⟨rfl, hO⟩
      show dv_J yX8_renames cX8_renames 3 (some .int) (dv_rm (d + 5)) 0 0 25 [some (.ref 516), some (.int (nI i)), none] [.int (dv_b (ogS C w wl wm n i)), .int (nI i), .ref 535] S3 (fun r S' => r = some (.int (nI (dv_ct (fun z => decide (¬ S'.2.1 535 z = 0)) n))) ∧ rrI S1 C w wl wm n n S')
      refine J_zast (j := i) kd_535 (rfl) (by rw [ln_535]; omega) (dv_b_01 _) dX8_renames_25 (pc' := 26) rfl ?_
      refine J_aload_n dX8_renames_26 (pc' := 27) rfl rfl ?_
      refine J_getr fX8_95 kd_516 rf_516_28 dX8_renames_27 (pc' := 30) rfl ?_
      refine J_iload_n dX8_renames_30 (pc' := 31) rfl rfl ?_
      refine J_zald (j := i) kd_535 (rfl) (by rw [ln_535]; omega) dX8_renames_31 (pc' := 32) rfl ?_
      refine J_top (w := .int (dv_b (ogS C w wl wm n i))) (by show Value.int (dv_u S3.2.1 535 i (dv_b (ogS C w wl wm n i)) 535 i) = _; rw [dv_u_eq]) ?_
      refine J_bne dX8_renames_32 (pt := 38) (by decide) (pc' := 35) rfl (fun c32 => ?_) (fun c32 => ?_)
      · have hL := ogS_len c32
        refine J_aload_n dX8_renames_38 (pc' := 39) rfl rfl ?_
        refine J_getr fX8_111 kd_516 rf_516_33 dX8_renames_39 (pc' := 42) rfl ?_
        refine J_iload_n dX8_renames_42 (pc' := 43) rfl rfl ?_
        refine J_aload_n dX8_renames_43 (pc' := 44) rfl rfl ?_
        refine J_geti fX8_210 kd_516 rf_516_27 dX8_renames_44 (pc' := 47) rfl ?_
        refine J_top (w := .int (nI ((olS C w wl wm n i).length))) (by show Value.int (S3.1 516 27) = _; rw [hO.2.2.2.1]) ?_
        refine J_iast (j := i) kd_540 (rfl) (by rw [ln_540]; omega) dX8_renames_47 (pc' := 48) rfl ?_
        refine J_iconst dX8_renames_48 (pc' := 49) rfl (v := 0) ic_0 ?_
        refine J_istore_n dX8_renames_49 (pc' := 50) rfl rfl (by decide) rfl (l' := [some (.ref 516), some (.int (nI i)), some (.int 0)]) rfl ?_
        have hlp50 : ∀ j, j ≤ (olS C w wl wm n i).length → dv_J yX8_renames cX8_renames 3 (some .int) (dv_rm (d + 5)) 0 0 50 [some (.ref 516), some (.int (nI i)), some (.int (nI j))] [] (cpy (S3.1, dv_u S3.2.1 535 i (dv_b (ogS C w wl wm n i)), S3.2.2) 537 540 i (olS C w wl wm n i).length (S3.2.1 534) j) (fun r S' => r = some (.int (nI (dv_ct (fun z => decide (¬ S'.2.1 535 z = 0)) n))) ∧ rrI S1 C w wl wm n n S') := by
          refine dv_up (P := fun j => dv_J yX8_renames cX8_renames 3 (some .int) (dv_rm (d + 5)) 0 0 50 [some (.ref 516), some (.int (nI i)), some (.int (nI j))] [] (cpy (S3.1, dv_u S3.2.1 535 i (dv_b (ogS C w wl wm n i)), S3.2.2) 537 540 i (olS C w wl wm n i).length (S3.2.1 534) j) (fun r S' => r = some (.int (nI (dv_ct (fun z => decide (¬ S'.2.1 535 z = 0)) n))) ∧ rrI S1 C w wl wm n n S')) ?_
          intro j hi50 ih50 
          refine J_iload_n dX8_renames_50 (pc' := 51) rfl rfl ?_
          refine J_aload_n dX8_renames_51 (pc' := 52) rfl rfl ?_
          refine J_geti fX8_210 kd_516 rf_516_27 dX8_renames_52 (pc' := 55) rfl ?_
          refine J_top (w := .int (nI ((olS C w wl wm n i).length))) (by show Value.int (S3.1 516 27) = _; rw [hO.2.2.2.1]) ?_
          refine J_icmp_ge dX8_renames_55 (pt := 81) (by decide) (pc' := 58) rfl (fun c55 => ?_) (fun c55 => ?_)
          · have hj := dv_ge hi50 (by omega) c55
            refine J_iinc dX8_renames_81 (pc' := 84) rfl rfl (v := nI (i + 1)) (nI_1 i) (by decide) rfl (l' := [some (.ref 516), some (.int (nI (i + 1))), some (.int (nI j))]) rfl ?_
            refine J_goto dX8_renames_84 (pc' := 7) (by decide) ?_
            refine J_drop 2 (l' := [some (.ref 516), some (.int (nI (i + 1))), none]) rfl ?_
            rw [hj]
            exact ih7 (i + 1) (by omega) (by omega) _ (rrI_y hI hO.1 hO.2.2.2 c32)
          · have hj := dv_nge hi50 (by omega) c55
            refine J_aload_n dX8_renames_58 (pc' := 59) rfl rfl ?_
            refine J_getr fX8_102 kd_516 rf_516_30 dX8_renames_59 (pc' := 62) rfl ?_
            refine J_bipush dX8_renames_62 (pc' := 64) rfl (v := 24) bp_24 ?_
            refine J_iload_n dX8_renames_64 (pc' := 65) rfl rfl ?_
            refine J_imul dX8_renames_65 (pc' := 66) rfl ?_
            refine J_top (w := .int (nI (24 * i))) (by rw [dv_n24, pk_mul]) ?_
            refine J_iload_n dX8_renames_66 (pc' := 67) rfl rfl ?_
            refine J_iadd dX8_renames_67 (pc' := 68) rfl ?_
            refine J_top (w := .int (nI (24 * i + j))) (by rw [nI_add]) ?_
            refine J_aload_n dX8_renames_68 (pc' := 69) rfl rfl ?_
            refine J_getr fX8_92 kd_516 rf_516_25 dX8_renames_69 (pc' := 72) rfl ?_
            refine J_iload_n dX8_renames_72 (pc' := 73) rfl rfl ?_
            refine J_bald (j := j) kd_534 (rfl) (by rw [ln_534]; omega) dX8_renames_73 (pc' := 74) rfl ?_
            refine J_top (w := .int (S3.2.1 534 j)) (by rw [cpy_row _ _ _ _ _ _ _ (by decide) (by decide)]; show Value.int (dv_u S3.2.1 535 i (dv_b (ogS C w wl wm n i)) 534 j) = _; rw [dv_u_row _ _ (by decide)]) ?_
            refine J_bast (j := 24 * i + j) kd_537 (rfl) (by rw [ln_537]; omega) dX8_renames_74 (pc' := 75) rfl ?_
            refine J_iinc dX8_renames_75 (pc' := 78) rfl rfl (v := nI (j + 1)) (nI_1 j) (by decide) rfl (l' := [some (.ref 516), some (.int (nI i)), some (.int (nI (j + 1)))]) rfl ?_
            refine J_goto dX8_renames_78 (pc' := 50) (by decide) ?_
            exact J_sto (cpy_s _ _ _ _ _ _ _) (ih50 (j + 1) (by omega) (by omega))
        refine J_loc (l' := [some (.ref 516), some (.int (nI i)), some (.int (nI 0))]) (by simp only [nI_0, dv_b_f, dv_b_t]) ?_
        refine J_sto (S' := (cpy (S3.1, dv_u S3.2.1 535 i (dv_b (ogS C w wl wm n i)), S3.2.2) 537 540 i (olS C w wl wm n i).length (S3.2.1 534) 0)) (cpy_0 _ _ _ _ _ _) ?_
        exact hlp50 0 (Nat.zero_le _) 
      · refine J_goto dX8_renames_35 (pc' := 81) (by decide) ?_
        refine J_iinc dX8_renames_81 (pc' := 84) rfl rfl (v := nI (i + 1)) (nI_1 i) (by decide) rfl (l' := [some (.ref 516), some (.int (nI (i + 1))), none]) rfl ?_
        refine J_goto dX8_renames_84 (pc' := 7) (by decide) ?_
        exact ih7 (i + 1) (by omega) (by omega) _ (rrI_n hI hO.1 c32)
  refine J_loc (l' := [some (.ref 516), some (.int (nI 0)), none]) (by simp only [nI_0, dv_b_f, dv_b_t]) ?_
  refine J_sto (S' := S1) (rfl) ?_
  exact hlp7 0 (Nat.zero_le _) _ ⟨fr.rf _ _ _, fun j hj => absurd hj (Nat.not_lt_zero j)⟩
