set_option maxRecDepth 100000 in
set_option maxHeartbeats 400000 in
theorem qX7_takesName (d : Nat) (S : dv_S) (k n : Nat) (hn : S.1 1 1 = nI n) (hk : k ≤ n) (h200 : n ≤ 200) : dv_M yX7_takesName cX7_takesName 2 (some .boolean) (dv_rm (d + 3)) [.ref 0, .int (nI k)] S (fun r S' => r = some (.int (dv_b (nm_ok (dv_rd (S.2.1 2) k)))) ∧ S' = (dv_tc S k)) := by
  refine dv_M_of [some (.ref 0), some (.int (nI k))] (by decide) (fun _ _ => Nat.le_of_ble_eq_true rfl) (fun _ _ => rfl) ?_
  refine J_aload_n dX7_takesName_0 (pc' := 1) rfl rfl ?_
  refine J_iload_n dX7_takesName_1 (pc' := 2) rfl rfl ?_
  refine J_v1 (As := [.int (nI k)]) (rest := []) (qX7_isOnTape _ _ _) vX7_isOnTape mX7_105 kd_0 dX7_takesName_2 (pc' := 5) rfl rfl (Nat.le_of_ble_eq_true rfl) (by decide) ?_
  refine J_bne dX7_takesName_5 (pt := 10) (by decide) (pc' := 8) rfl (fun c5 => ?_) (fun c5 => ?_)
  · refine J_aload_n dX7_takesName_10 (pc' := 11) rfl rfl ?_
    refine J_iload_n dX7_takesName_11 (pc' := 12) rfl rfl ?_
    refine J_v0 (As := [.int (nI k)]) (rest := []) (qX7_take _ _ k n hn hk h200) vX7_take mX7_109 kd_0 dX7_takesName_12 (pc' := 15) rfl rfl (Nat.le_of_ble_eq_true rfl) (by decide) ?_
    refine J_aload_n dX7_takesName_15 (pc' := 16) rfl rfl ?_
    refine J_getr fX7_18 kd_0 rf_0_1 dX7_takesName_16 (pc' := 19) rfl ?_
    refine J_v1 (As := []) (rest := []) (qX4_isName _ _ 3 (min k 24) kd_3 kd_4 (dv_tc_n _ _) (by rw [show dv_ln (3 + 1) = 24 from ln_4]; omega)) vX4_isName mX7_112 kd_3 dX7_takesName_19 (pc' := 22) rfl rfl (Nat.le_of_ble_eq_true rfl) (by decide) ?_
    refine J_zret dX7_takesName_22 rfl (dv_b_01 _) (dv_r1 _) ?_
    exact ⟨by rw [dv_tc_nm], rfl⟩
  · rw [hn] at c5
    exact absurd (show 0 ≤ nI k ∧ nI k ≤ nI n from ⟨nI_pos' (by omega), nI_le hk (by omega)⟩) (of_decide_eq_false c5)
set_option maxRecDepth 100000 in
set_option maxHeartbeats 400000 in
theorem qX7_takesNameN (d : Nat) (S : dv_S) (x : Int32) (hx : decide (0 ≤ x ∧ x ≤ S.1 1 1) = false) : dv_M yX7_takesName cX7_takesName 2 (some .boolean) (dv_rm (d + 3)) [.ref 0, .int x] S (fun r S' => r = some (.int 0) ∧ S' = S) := by
  refine dv_M_of [some (.ref 0), some (.int x)] (by decide) (fun _ _ => Nat.le_of_ble_eq_true rfl) (fun _ _ => rfl) ?_
  refine J_aload_n dX7_takesName_0 (pc' := 1) rfl rfl ?_
  refine J_iload_n dX7_takesName_1 (pc' := 2) rfl rfl ?_
  refine J_v1 (As := [.int x]) (rest := []) (qX7_isOnTape _ _ _) vX7_isOnTape mX7_105 kd_0 dX7_takesName_2 (pc' := 5) rfl rfl (Nat.le_of_ble_eq_true rfl) (by decide) ?_
  refine J_bne dX7_takesName_5 (pt := 10) (by decide) (pc' := 8) rfl (fun c5 => ?_) (fun c5 => ?_)
  · exact absurd c5 (by rw [hx]; decide)
  · refine J_iconst dX7_takesName_8 (pc' := 9) rfl (v := 0) ic_0 ?_
    refine J_zret dX7_takesName_9 rfl (by decide) (dv_r1 _) ?_
    exact ⟨rfl, rfl⟩
set_option maxRecDepth 100000 in
set_option maxHeartbeats 400000 in
theorem qX7_takesWord (d : Nat) (S : dv_S) (k n : Nat) (hn : S.1 1 1 = nI n) (hk : k ≤ n) (h200 : n ≤ 200) : dv_M yX7_takesWord cX7_takesWord 2 (some .boolean) (dv_rm (d + 3)) [.ref 0, .int (nI k)] S (fun r S' => r = some (.int (dv_b (wd_ok (dv_rd (S.2.1 2) k)))) ∧ S' = (dv_tc S k)) := by
  refine dv_M_of [some (.ref 0), some (.int (nI k))] (by decide) (fun _ _ => Nat.le_of_ble_eq_true rfl) (fun _ _ => rfl) ?_
  refine J_aload_n dX7_takesWord_0 (pc' := 1) rfl rfl ?_
  refine J_iload_n dX7_takesWord_1 (pc' := 2) rfl rfl ?_
  refine J_v1 (As := [.int (nI k)]) (rest := []) (qX7_isOnTape _ _ _) vX7_isOnTape mX7_105 kd_0 dX7_takesWord_2 (pc' := 5) rfl rfl (Nat.le_of_ble_eq_true rfl) (by decide) ?_
  refine J_bne dX7_takesWord_5 (pt := 10) (by decide) (pc' := 8) rfl (fun c5 => ?_) (fun c5 => ?_)
  · refine J_aload_n dX7_takesWord_10 (pc' := 11) rfl rfl ?_
    refine J_iload_n dX7_takesWord_11 (pc' := 12) rfl rfl ?_
    refine J_v0 (As := [.int (nI k)]) (rest := []) (qX7_take _ _ k n hn hk h200) vX7_take mX7_109 kd_0 dX7_takesWord_12 (pc' := 15) rfl rfl (Nat.le_of_ble_eq_true rfl) (by decide) ?_
    refine J_aload_n dX7_takesWord_15 (pc' := 16) rfl rfl ?_
    refine J_getr fX7_18 kd_0 rf_0_1 dX7_takesWord_16 (pc' := 19) rfl ?_
    refine J_v1 (As := []) (rest := []) (qX4_isWord _ _ 3 (min k 24) kd_3 kd_4 (dv_tc_n _ _) (by rw [show dv_ln (3 + 1) = 24 from ln_4]; omega)) vX4_isWord mX7_116 kd_3 dX7_takesWord_19 (pc' := 22) rfl rfl (Nat.le_of_ble_eq_true rfl) (by decide) ?_
    refine J_zret dX7_takesWord_22 rfl (dv_b_01 _) (dv_r1 _) ?_
    exact ⟨by rw [dv_tc_wd], rfl⟩
  · rw [hn] at c5
    exact absurd (show 0 ≤ nI k ∧ nI k ≤ nI n from ⟨nI_pos' (by omega), nI_le hk (by omega)⟩) (of_decide_eq_false c5)
set_option maxRecDepth 100000 in
set_option maxHeartbeats 400000 in
theorem qX7_takesWordN (d : Nat) (S : dv_S) (x : Int32) (hx : decide (0 ≤ x ∧ x ≤ S.1 1 1) = false) : dv_M yX7_takesWord cX7_takesWord 2 (some .boolean) (dv_rm (d + 3)) [.ref 0, .int x] S (fun r S' => r = some (.int 0) ∧ S' = S) := by
  refine dv_M_of [some (.ref 0), some (.int x)] (by decide) (fun _ _ => Nat.le_of_ble_eq_true rfl) (fun _ _ => rfl) ?_
  refine J_aload_n dX7_takesWord_0 (pc' := 1) rfl rfl ?_
  refine J_iload_n dX7_takesWord_1 (pc' := 2) rfl rfl ?_
  refine J_v1 (As := [.int x]) (rest := []) (qX7_isOnTape _ _ _) vX7_isOnTape mX7_105 kd_0 dX7_takesWord_2 (pc' := 5) rfl rfl (Nat.le_of_ble_eq_true rfl) (by decide) ?_
  refine J_bne dX7_takesWord_5 (pt := 10) (by decide) (pc' := 8) rfl (fun c5 => ?_) (fun c5 => ?_)
  · exact absurd c5 (by rw [hx]; decide)
  · refine J_iconst dX7_takesWord_8 (pc' := 9) rfl (v := 0) ic_0 ?_
    refine J_zret dX7_takesWord_9 rfl (by decide) (dv_r1 _) ?_
    exact ⟨rfl, rfl⟩
set_option maxRecDepth 100000 in
set_option maxHeartbeats 400000 in
theorem qX7_feed (d : Nat) (S : dv_S) (n : Nat) (xa xb xc xd xe : Int32) (hn : S.1 1 1 = nI n) (h200 : n ≤ 200) (h : n + 20 ≤ 200) : dv_M yX7_feed cX7_feed 6 (some .int) (dv_rm (d + 2)) [.ref 0, .int xa, .int xb, .int xc, .int xd, .int xe] S (fun r S' => r = some (.int (nI (n + 20))) ∧ S' = (dv_an (dv_an (dv_an (dv_an (dv_an S 1 (n + 0) xa) 1 (n + 4) xb) 1 (n + 8) xc) 1 (n + 12) xd) 1 (n + 16) xe)) := by
  refine dv_M_of [some (.ref 0), some (.int xa), some (.int xb), some (.int xc), some (.int xd), some (.int xe)] (by decide) (fun _ _ => Nat.le_of_ble_eq_true rfl) (fun _ _ => rfl) ?_
  refine J_aload_n dX7_feed_0 (pc' := 1) rfl rfl ?_
  refine J_getr fX7_14 kd_0 rf_0_0 dX7_feed_1 (pc' := 4) rfl ?_
  refine J_v1 (As := []) (rest := []) (qX4_size _ _ 1 kd_1) vX4_size mX7_88 kd_1 dX7_feed_4 (pc' := 7) rfl rfl (Nat.le_of_ble_eq_true rfl) (by decide) ?_
  refine J_bipush dX7_feed_7 (pc' := 9) rfl (v := 20) bp_20 ?_
  refine J_iadd dX7_feed_9 (pc' := 10) rfl ?_
  refine J_top (w := .int (nI (n + 20))) (by rw [hn, dv_n20, nI_add]) ?_
  refine J_sipush dX7_feed_10 (pc' := 13) rfl (v := 200) sp_200 ?_
  refine J_icmp_le dX7_feed_13 (pt := 18) (by decide) (pc' := 16) rfl (fun c13 => ?_) (fun c13 => ?_)
  · refine J_aload_n dX7_feed_18 (pc' := 19) rfl rfl ?_
    refine J_getr fX7_14 kd_0 rf_0_0 dX7_feed_19 (pc' := 22) rfl ?_
    refine J_iload_n dX7_feed_22 (pc' := 23) rfl rfl ?_
    refine J_v0 (As := [.int xa]) (rest := []) (qX4_addNumber _ _ 1 (n + 0) _ kd_1 kd_2 (hn) (by rw [show dv_ln (1 + 1) = 200 from ln_2]; omega)) vX4_addNumber mX7_92 kd_1 dX7_feed_23 (pc' := 26) rfl rfl (Nat.le_of_ble_eq_true rfl) (by decide) ?_
    refine J_aload_n dX7_feed_26 (pc' := 27) rfl rfl ?_
    refine J_getr fX7_14 kd_0 rf_0_0 dX7_feed_27 (pc' := 30) rfl ?_
    refine J_iload_n dX7_feed_30 (pc' := 31) rfl rfl ?_
    refine J_v0 (As := [.int xb]) (rest := []) (qX4_addNumber _ _ 1 (n + 4) _ kd_1 kd_2 (dv_an_n _ _ _ _) (by rw [show dv_ln (1 + 1) = 200 from ln_2]; omega)) vX4_addNumber mX7_92 kd_1 dX7_feed_31 (pc' := 34) rfl rfl (Nat.le_of_ble_eq_true rfl) (by decide) ?_
    refine J_aload_n dX7_feed_34 (pc' := 35) rfl rfl ?_
    refine J_getr fX7_14 kd_0 rf_0_0 dX7_feed_35 (pc' := 38) rfl ?_
    refine J_iload_n dX7_feed_38 (pc' := 39) rfl rfl ?_
    refine J_v0 (As := [.int xc]) (rest := []) (qX4_addNumber _ _ 1 (n + 8) _ kd_1 kd_2 (dv_an_n _ _ _ _) (by rw [show dv_ln (1 + 1) = 200 from ln_2]; omega)) vX4_addNumber mX7_92 kd_1 dX7_feed_39 (pc' := 42) rfl rfl (Nat.le_of_ble_eq_true rfl) (by decide) ?_
    refine J_aload_n dX7_feed_42 (pc' := 43) rfl rfl ?_
    refine J_getr fX7_14 kd_0 rf_0_0 dX7_feed_43 (pc' := 46) rfl ?_
    refine J_iload dX7_feed_46 (pc' := 48) rfl rfl ?_
    refine J_v0 (As := [.int xd]) (rest := []) (qX4_addNumber _ _ 1 (n + 12) _ kd_1 kd_2 (dv_an_n _ _ _ _) (by rw [show dv_ln (1 + 1) = 200 from ln_2]; omega)) vX4_addNumber mX7_92 kd_1 dX7_feed_48 (pc' := 51) rfl rfl (Nat.le_of_ble_eq_true rfl) (by decide) ?_
    refine J_aload_n dX7_feed_51 (pc' := 52) rfl rfl ?_
    refine J_getr fX7_14 kd_0 rf_0_0 dX7_feed_52 (pc' := 55) rfl ?_
    refine J_iload dX7_feed_55 (pc' := 57) rfl rfl ?_
    refine J_v0 (As := [.int xe]) (rest := []) (qX4_addNumber _ _ 1 (n + 16) _ kd_1 kd_2 (dv_an_n _ _ _ _) (by rw [show dv_ln (1 + 1) = 200 from ln_2]; omega)) vX4_addNumber mX7_92 kd_1 dX7_feed_57 (pc' := 60) rfl rfl (Nat.le_of_ble_eq_true rfl) (by decide) ?_
    refine J_aload_n dX7_feed_60 (pc' := 61) rfl rfl ?_
    refine J_getr fX7_14 kd_0 rf_0_0 dX7_feed_61 (pc' := 64) rfl ?_
    refine J_v1 (As := []) (rest := []) (qX4_size _ _ 1 kd_1) vX4_size mX7_88 kd_1 dX7_feed_64 (pc' := 67) rfl rfl (Nat.le_of_ble_eq_true rfl) (by decide) ?_
    refine J_iret dX7_feed_67 rfl (dv_r1 _) ?_
    exact ⟨congrArg (fun z => some (Value.int z)) (dv_ap_n _ _ _ _), rfl⟩
  · rw [dv_n200, nI_leI (by omega) (by decide)] at c13
    exact absurd h c13
set_option maxRecDepth 100000 in
set_option maxHeartbeats 400000 in
theorem qX7_feedN (d : Nat) (S : dv_S) (n : Nat) (xa xb xc xd xe : Int32) (hn : S.1 1 1 = nI n) (h200 : n ≤ 200) (h : ¬ n + 20 ≤ 200) : dv_M yX7_feed cX7_feed 6 (some .int) (dv_rm (d + 2)) [.ref 0, .int xa, .int xb, .int xc, .int xd, .int xe] S (fun r S' => r = some (.int (-1)) ∧ S' = S) := by
  refine dv_M_of [some (.ref 0), some (.int xa), some (.int xb), some (.int xc), some (.int xd), some (.int xe)] (by decide) (fun _ _ => Nat.le_of_ble_eq_true rfl) (fun _ _ => rfl) ?_
  refine J_aload_n dX7_feed_0 (pc' := 1) rfl rfl ?_
  refine J_getr fX7_14 kd_0 rf_0_0 dX7_feed_1 (pc' := 4) rfl ?_
  refine J_v1 (As := []) (rest := []) (qX4_size _ _ 1 kd_1) vX4_size mX7_88 kd_1 dX7_feed_4 (pc' := 7) rfl rfl (Nat.le_of_ble_eq_true rfl) (by decide) ?_
  refine J_bipush dX7_feed_7 (pc' := 9) rfl (v := 20) bp_20 ?_
  refine J_iadd dX7_feed_9 (pc' := 10) rfl ?_
  refine J_top (w := .int (nI (n + 20))) (by rw [hn, dv_n20, nI_add]) ?_
  refine J_sipush dX7_feed_10 (pc' := 13) rfl (v := 200) sp_200 ?_
  refine J_icmp_le dX7_feed_13 (pt := 18) (by decide) (pc' := 16) rfl (fun c13 => ?_) (fun c13 => ?_)
  · rw [dv_n200, nI_leI (by omega) (by decide)] at c13
    exact absurd c13 h
  · refine J_iconst dX7_feed_16 (pc' := 17) rfl (v := (-1)) ic_m1 ?_
    refine J_iret dX7_feed_17 rfl (dv_r1 _) ?_
    exact ⟨rfl, rfl⟩
