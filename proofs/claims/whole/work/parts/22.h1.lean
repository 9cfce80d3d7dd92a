set_option maxRecDepth 100000 in
set_option maxHeartbeats 400000 in
theorem qX7_refused (d : Nat) (S : dv_S) (x : Int32)  : dv_M yX7_refused cX7_refused 2 (some .int) (dv_rm (d + 0)) [.ref 0, .int x] S (fun r S' => r = some (.int (-1)) ∧ S' = (dv_u S.1 0 14 x, S.2)) := by
  refine dv_M_of [some (.ref 0), some (.int x)] (by decide) (fun _ _ => Nat.le_of_ble_eq_true rfl) (fun _ _ => rfl) ?_
  refine J_aload_n dX7_refused_0 (pc' := 1) rfl rfl ?_
  refine J_iload_n dX7_refused_1 (pc' := 2) rfl rfl ?_
  refine J_puti fX7_84 kd_0 rf_0_14 dX7_refused_2 (pc' := 5) rfl ?_
  refine J_iconst dX7_refused_5 (pc' := 6) rfl (v := (-1)) ic_m1 ?_
  refine J_iret dX7_refused_6 rfl (dv_r1 _) ?_
  exact ⟨rfl, rfl⟩
set_option maxRecDepth 100000 in
set_option maxHeartbeats 400000 in
theorem qX7_accepted (d : Nat) (S : dv_S) (x : Int32)  : dv_M yX7_accepted cX7_accepted 2 (some .int) (dv_rm (d + 0)) [.ref 0, .int x] S (fun r S' => r = some (.int x) ∧ S' = (dv_u S.1 0 14 0, S.2)) := by
  refine dv_M_of [some (.ref 0), some (.int x)] (by decide) (fun _ _ => Nat.le_of_ble_eq_true rfl) (fun _ _ => rfl) ?_
  refine J_aload_n dX7_accepted_0 (pc' := 1) rfl rfl ?_
  refine J_iconst dX7_accepted_1 (pc' := 2) rfl (v := 0) ic_0 ?_
  refine J_puti fX7_84 kd_0 rf_0_14 dX7_accepted_2 (pc' := 5) rfl ?_
  refine J_iload_n dX7_accepted_5 (pc' := 6) rfl rfl ?_
  refine J_iret dX7_accepted_6 rfl (dv_r1 _) ?_
  exact ⟨rfl, rfl⟩
set_option maxRecDepth 100000 in
set_option maxHeartbeats 400000 in
theorem qX7_trouble (d : Nat) (S : dv_S)  : dv_M yX7_trouble cX7_trouble 1 (some .int) (dv_rm (d + 0)) [.ref 0] S (fun r S' => r = some (.int (S.1 0 14)) ∧ S' = S) := by
  refine dv_M_of [some (.ref 0)] (by decide) (fun _ _ => Nat.le_of_ble_eq_true rfl) (fun _ _ => rfl) ?_
  refine J_aload_n dX7_trouble_0 (pc' := 1) rfl rfl ?_
  refine J_geti fX7_84 kd_0 rf_0_14 dX7_trouble_1 (pc' := 4) rfl ?_
  refine J_iret dX7_trouble_4 rfl (dv_r1 _) ?_
  exact ⟨rfl, rfl⟩
set_option maxRecDepth 100000 in
set_option maxHeartbeats 400000 in
theorem qX7_isKind (d : Nat) (S : dv_S) (x : Int32)  : dv_M yX7_isKind cX7_isKind 1 (some .boolean) (dv_rm (d + 0)) [.int x] S (fun r S' => r = some (.int (dv_b (decide (0 ≤ x ∧ x < 3)))) ∧ S' = S) := by
  refine dv_M_of [some (.int x)] (by decide) (fun _ _ => Nat.le_of_ble_eq_true rfl) (fun _ _ => rfl) ?_
  refine J_iload_n dX7_isKind_0 (pc' := 1) rfl rfl ?_
  refine J_if_lt dX7_isKind_1 (pt := 13) (by decide) (pc' := 4) rfl (fun c1 => ?_) (fun c1 => ?_)
  · refine J_iconst dX7_isKind_13 (pc' := 14) rfl (v := 0) ic_0 ?_
    refine J_zret dX7_isKind_14 rfl (by decide) (dv_r1 _) ?_
    exact ⟨by (try simp only [← Int32.not_le] at *); simp [dv_b, *], rfl⟩
  · refine J_iload_n dX7_isKind_4 (pc' := 5) rfl rfl ?_
    refine J_iconst dX7_isKind_5 (pc' := 6) rfl (v := 3) ic_3 ?_
    refine J_icmp_ge dX7_isKind_6 (pt := 13) (by decide) (pc' := 9) rfl (fun c6 => ?_) (fun c6 => ?_)
    · refine J_iconst dX7_isKind_13 (pc' := 14) rfl (v := 0) ic_0 ?_
      refine J_zret dX7_isKind_14 rfl (by decide) (dv_r1 _) ?_
      exact ⟨by (try simp only [← Int32.not_le] at *); simp [dv_b, *], rfl⟩
    · refine J_iconst dX7_isKind_9 (pc' := 10) rfl (v := 1) ic_1 ?_
      refine J_goto dX7_isKind_10 (pc' := 14) (by decide) ?_
      refine J_zret dX7_isKind_14 rfl (by decide) (dv_r1 _) ?_
      exact ⟨by (try simp only [← Int32.not_le] at *); simp [dv_b, *], rfl⟩
set_option maxRecDepth 100000 in
set_option maxHeartbeats 400000 in
theorem qX7_isOnTape (d : Nat) (S : dv_S) (x : Int32)  : dv_M yX7_isOnTape cX7_isOnTape 2 (some .boolean) (dv_rm (d + 1)) [.ref 0, .int x] S (fun r S' => r = some (.int (dv_b (decide (0 ≤ x ∧ x ≤ S.1 1 1)))) ∧ S' = S) := by
  refine dv_M_of [some (.ref 0), some (.int x)] (by decide) (fun _ _ => Nat.le_of_ble_eq_true rfl) (fun _ _ => rfl) ?_
  refine J_iload_n dX7_isOnTape_0 (pc' := 1) rfl rfl ?_
  refine J_if_lt dX7_isOnTape_1 (pt := 19) (by decide) (pc' := 4) rfl (fun c1 => ?_) (fun c1 => ?_)
  · refine J_iconst dX7_isOnTape_19 (pc' := 20) rfl (v := 0) ic_0 ?_
    refine J_zret dX7_isOnTape_20 rfl (by decide) (dv_r1 _) ?_
    exact ⟨by (try simp only [← Int32.not_le] at *); simp [dv_b, *], rfl⟩
  · refine J_iload_n dX7_isOnTape_4 (pc' := 5) rfl rfl ?_
    refine J_aload_n dX7_isOnTape_5 (pc' := 6) rfl rfl ?_
    refine J_getr fX7_14 kd_0 rf_0_0 dX7_isOnTape_6 (pc' := 9) rfl ?_
    refine J_v1 (As := []) (rest := [.int x]) (qX4_size _ _ 1 kd_1) vX4_size mX7_88 kd_1 dX7_isOnTape_9 (pc' := 12) rfl rfl (Nat.le_of_ble_eq_true rfl) (by decide) ?_
    refine J_icmp_gt dX7_isOnTape_12 (pt := 19) (by decide) (pc' := 15) rfl (fun c12 => ?_) (fun c12 => ?_)
    · refine J_iconst dX7_isOnTape_19 (pc' := 20) rfl (v := 0) ic_0 ?_
      refine J_zret dX7_isOnTape_20 rfl (by decide) (dv_r1 _) ?_
      exact ⟨by (try simp only [← Int32.not_le] at *); simp [dv_b, *], rfl⟩
    · refine J_iconst dX7_isOnTape_15 (pc' := 16) rfl (v := 1) ic_1 ?_
      refine J_goto dX7_isOnTape_16 (pc' := 20) (by decide) ?_
      refine J_zret dX7_isOnTape_20 rfl (by decide) (dv_r1 _) ?_
      exact ⟨by (try simp only [← Int32.not_le] at *); simp [dv_b, *], rfl⟩
set_option maxRecDepth 100000 in
set_option maxHeartbeats 400000 in
theorem qX7_take (d : Nat) (S : dv_S) (k n : Nat) (hn : S.1 1 1 = nI n) (hk : k ≤ n) (h200 : n ≤ 200) : dv_M yX7_take cX7_take 3 none (dv_rm (d + 2)) [.ref 0, .int (nI k)] S (fun r S' => r = none ∧ S' = (dv_tc S k)) := by
  refine dv_M_of [some (.ref 0), some (.int (nI k)), none] (by decide) (fun _ _ => Nat.le_of_ble_eq_true rfl) (fun _ _ => rfl) ?_
  refine J_aload_n dX7_take_0 (pc' := 1) rfl rfl ?_
  refine J_getr fX7_18 kd_0 rf_0_1 dX7_take_1 (pc' := 4) rfl ?_
  refine J_v0 (As := []) (rest := []) (qX4_clear _ _ 3 kd_3) vX4_clear mX7_95 kd_3 dX7_take_4 (pc' := 7) rfl rfl (Nat.le_of_ble_eq_true rfl) (by decide) ?_
  refine J_iconst dX7_take_7 (pc' := 8) rfl (v := 0) ic_0 ?_
  refine J_istore_n dX7_take_8 (pc' := 9) rfl rfl (by decide) rfl (l' := [some (.ref 0), some (.int (nI k)), some (.int 0)]) rfl ?_
  have hlp9 : ∀ i, i ≤ k → dv_J yX7_take cX7_take 3 none (dv_rm (d + 2)) 0 0 9 [some (.ref 0), some (.int (nI k)), some (.int (nI i))] [] (dv_tk S i) (fun r S' => r = none ∧ S' = (dv_tc S k)) := by
    refine dv_up (P := fun i => dv_J yX7_take cX7_take 3 none (dv_rm (d + 2)) 0 0 9 [some (.ref 0), some (.int (nI k)), some (.int (nI i))] [] (dv_tk S i) (fun r S' => r = none ∧ S' = (dv_tc S k))) ?_
    intro i hi9 ih9 
    refine J_iload_n dX7_take_9 (pc' := 10) rfl rfl ?_
    refine J_iload_n dX7_take_10 (pc' := 11) rfl rfl ?_
    refine J_icmp_ge dX7_take_11 (pt := 35) (by decide) (pc' := 14) rfl (fun c11 => ?_) (fun c11 => ?_)
    · have hx := dv_ge hi9 (by omega) c11
      refine J_aload_n dX7_take_35 (pc' := 36) rfl rfl ?_
      refine J_getr fX7_14 kd_0 rf_0_0 dX7_take_36 (pc' := 39) rfl ?_
      refine J_v0 (As := []) (rest := []) (qX4_clear _ _ 1 kd_1) vX4_clear mX7_95 kd_1 dX7_take_39 (pc' := 42) rfl rfl (Nat.le_of_ble_eq_true rfl) (by decide) ?_
      refine J_vret dX7_take_42 rfl (dv_r1 _) ?_
      exact ⟨rfl, by rw [hx]; rfl⟩
    · have hx := dv_nge hi9 (by omega) c11
      refine J_aload_n dX7_take_14 (pc' := 15) rfl rfl ?_
      refine J_getr fX7_18 kd_0 rf_0_1 dX7_take_15 (pc' := 18) rfl ?_
      refine J_aload_n dX7_take_18 (pc' := 19) rfl rfl ?_
      refine J_getr fX7_14 kd_0 rf_0_0 dX7_take_19 (pc' := 22) rfl ?_
      refine J_iload_n dX7_take_22 (pc' := 23) rfl rfl ?_
      refine J_v1 (As := [.int (nI i)]) (rest := [.ref 3]) (qX4_at _ _ 1 n _ kd_1 kd_2 (by rw [dv_tk_F _ _ (by decide)]; exact hn) (by rw [show dv_ln (1 + 1) = 200 from ln_2]; exact h200)) vX4_at mX7_98 kd_1 dX7_take_23 (pc' := 26) rfl rfl (Nat.le_of_ble_eq_true rfl) (by decide) ?_
      refine J_top (w := .int (S.2.1 2 i)) (by rw [dv_tk_G _ _ (by decide), dv_gx_in (by omega) (by omega)]) ?_
      refine J_v0 (As := [.int (S.2.1 2 i)]) (rest := []) (qX4_addG _ _ 3 (min i 24) _ kd_3 kd_4 (dv_tk_n _ _) (by rw [show dv_ln (3 + 1) = 24 from ln_4]; omega)) vX4_add mX7_102 kd_3 dX7_take_26 (pc' := 29) rfl rfl (Nat.le_of_ble_eq_true rfl) (by decide) ?_
      refine J_iinc dX7_take_29 (pc' := 32) rfl rfl (v := nI (i + 1)) (nI_1 i) (by decide) rfl (l' := [some (.ref 0), some (.int (nI k)), some (.int (nI (i + 1)))]) rfl ?_
      refine J_goto dX7_take_32 (pc' := 9) (by decide) ?_
      exact J_sto (dv_tk_s S i) (ih9 (i + 1) (by omega) (by omega))
  refine J_loc (l' := [some (.ref 0), some (.int (nI k)), some (.int (nI 0))]) (by simp only [nI_0, dv_b_f, dv_b_t]) ?_
  refine J_sto (S' := (dv_tk S 0)) (dv_tk_0 _) ?_
  exact hlp9 0 (Nat.zero_le _) 
set_option maxRecDepth 100000 in
set_option maxHeartbeats 400000 in
theorem qX7_nameNow (d : Nat) (S : dv_S) (j n : Nat) (hn : S.1 21 3 = nI n) (hj : j < n) (hm : n ≤ 80) : dv_M yX7_nameNowOrThen cX7_nameNowOrThen 3 (some (.object "NameHouse$Text")) (dv_rm (d + 2)) [.ref 0, .int (nI j), .int 0] S (fun r S' => r = some (.ref (25 + 2 * j)) ∧ S' = S) := by
  refine dv_M_of [some (.ref 0), some (.int (nI j)), some (.int 0)] (by decide) (fun _ _ => Nat.le_of_ble_eq_true rfl) (fun _ _ => rfl) ?_
  refine J_iload_n dX7_nameNowOrThen_0 (pc' := 1) rfl rfl ?_
  refine J_if_eq dX7_nameNowOrThen_1 (pt := 26) (by decide) (pc' := 4) rfl (fun c1 => ?_) (fun c1 => ?_)
  · refine J_aload_n dX7_nameNowOrThen_26 (pc' := 27) rfl rfl ?_
    refine J_getr fX7_51 kd_0 rf_0_7 dX7_nameNowOrThen_27 (pc' := 30) rfl ?_
    refine J_iload_n dX7_nameNowOrThen_30 (pc' := 31) rfl rfl ?_
    refine J_v1 (As := [.int (nI j)]) (rest := []) (qX5_nameOf _ _ j n hn hj hm) vX5_nameOf mX7_167 kd_21 dX7_nameNowOrThen_31 (pc' := 34) rfl rfl (Nat.le_of_ble_eq_true rfl) (by decide) ?_
    refine J_aret dX7_nameNowOrThen_34 rfl (dv_r1 _) ?_
    exact ⟨rfl, rfl⟩
  · exact absurd c1 (by decide)
set_option maxRecDepth 100000 in
set_option maxHeartbeats 400000 in
theorem qX7_nameThen (d : Nat) (S : dv_S) (j n : Nat) (hn : S.1 21 3 = nI n) (hj : j < n) (hm : n ≤ 80) : dv_M yX7_nameNowOrThen cX7_nameNowOrThen 3 (some (.object "NameHouse$Text")) (dv_rm (d + 2)) [.ref 0, .int (nI j), .int 1] S (fun r S' => r = some (.ref (if S.2.1 189 j = 0 then 25 + 2 * j else 191 + 2 * j)) ∧ S' = S) := by
  refine dv_M_of [some (.ref 0), some (.int (nI j)), some (.int 1)] (by decide) (fun _ _ => Nat.le_of_ble_eq_true rfl) (fun _ _ => rfl) ?_
  refine J_iload_n dX7_nameNowOrThen_0 (pc' := 1) rfl rfl ?_
  refine J_if_eq dX7_nameNowOrThen_1 (pt := 26) (by decide) (pc' := 4) rfl (fun c1 => ?_) (fun c1 => ?_)
  · exact absurd c1 (by decide)
  · refine J_aload_n dX7_nameNowOrThen_4 (pc' := 5) rfl rfl ?_
    refine J_getr fX7_65 kd_0 rf_0_9 dX7_nameNowOrThen_5 (pc' := 8) rfl ?_
    refine J_iload_n dX7_nameNowOrThen_8 (pc' := 9) rfl rfl ?_
    refine J_v1 (As := [.int (nI j)]) (rest := []) (qX2_has188 _ _ j (by omega)) vX2_has mX7_212 kd_188 dX7_nameNowOrThen_9 (pc' := 12) rfl rfl (Nat.le_of_ble_eq_true rfl) (by decide) ?_
    refine J_beq dX7_nameNowOrThen_12 (pt := 26) (by decide) (pc' := 15) rfl (fun c12 => ?_) (fun c12 => ?_)
    · refine J_aload_n dX7_nameNowOrThen_26 (pc' := 27) rfl rfl ?_
      refine J_getr fX7_51 kd_0 rf_0_7 dX7_nameNowOrThen_27 (pc' := 30) rfl ?_
      refine J_iload_n dX7_nameNowOrThen_30 (pc' := 31) rfl rfl ?_
      refine J_v1 (As := [.int (nI j)]) (rest := []) (qX5_nameOf _ _ j n hn hj hm) vX5_nameOf mX7_167 kd_21 dX7_nameNowOrThen_31 (pc' := 34) rfl rfl (Nat.le_of_ble_eq_true rfl) (by decide) ?_
      refine J_aret dX7_nameNowOrThen_34 rfl (dv_r1 _) ?_
      exact ⟨by rw [if_pos (Decidable.not_not.mp (of_decide_eq_false c12))], rfl⟩
    · refine J_aload_n dX7_nameNowOrThen_15 (pc' := 16) rfl rfl ?_
      refine J_getr fX7_65 kd_0 rf_0_9 dX7_nameNowOrThen_16 (pc' := 19) rfl ?_
      refine J_iload_n dX7_nameNowOrThen_19 (pc' := 20) rfl rfl ?_
      refine J_v1 (As := [.int (nI j)]) (rest := []) (qX2_nameOf188 _ _ j (by omega)) vX2_nameOf mX7_213 kd_188 dX7_nameNowOrThen_20 (pc' := 23) rfl rfl (Nat.le_of_ble_eq_true rfl) (by decide) ?_
      refine J_goto dX7_nameNowOrThen_23 (pc' := 34) (by decide) ?_
      refine J_aret dX7_nameNowOrThen_34 rfl (dv_r1 _) ?_
      exact ⟨by rw [if_neg (of_decide_eq_true c12)], rfl⟩
