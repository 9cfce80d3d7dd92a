set_option maxRecDepth 100000 in
set_option maxHeartbeats 400000 in
theorem qX5_add (d : Nat) (S : dv_S) (x y : Int32) (n m : Nat) (hn : S.1 21 3 = nI n) (hm : n < 80) (hk : S.1 3 1 = nI m) (hk24 : m ≤ 24) : dv_M yX5_add cX5_add 5 (some .int) (dv_rm (d + 2)) [.ref 21, .int x, .int y, .ref 3] S (fun r S' => r = some (.int (nI n)) ∧ S' = (dv_u (dv_tx (S.1, dv_u (dv_u S.2.1 22 n x) 23 n y, S.2.2) (25 + 2 * n) m (S.2.1 4)).1 21 3 (nI (n + 1)), (dv_tx (S.1, dv_u (dv_u S.2.1 22 n x) 23 n y, S.2.2) (25 + 2 * n) m (S.2.1 4)).2)) := by
  refine dv_M_of [some (.ref 21), some (.int x), some (.int y), some (.ref 3), none] (by decide) (fun _ _ => Nat.le_of_ble_eq_true rfl) (fun _ _ => rfl) ?_
  refine J_aload_n dX5_add_0 (pc' := 1) rfl rfl ?_
  refine J_v1 (As := []) (rest := []) (qX5_isFull _ _) vX5_isFull mX5_31 kd_21 dX5_add_1 (pc' := 4) rfl rfl (Nat.le_of_ble_eq_true rfl) (by decide) ?_
  refine J_beq dX5_add_4 (pt := 9) (by decide) (pc' := 7) rfl (fun c4 => ?_) (fun c4 => ?_)
  · refine J_aload_n dX5_add_9 (pc' := 10) rfl rfl ?_
    refine J_geti fX5_24 kd_21 rf_21_3 dX5_add_10 (pc' := 13) rfl ?_
    refine J_istore dX5_add_13 (pc' := 15) rfl (by decide) rfl (l' := [some (.ref 21), some (.int x), some (.int y), some (.ref 3), some (.int (S.1 21 3))]) rfl ?_
    refine J_aload_n dX5_add_15 (pc' := 16) rfl rfl ?_
    refine J_getr fX5_9 kd_21 rf_21_0 dX5_add_16 (pc' := 19) rfl ?_
    refine J_iload dX5_add_19 (pc' := 21) rfl rfl ?_
    refine J_iload_n dX5_add_21 (pc' := 22) rfl rfl ?_
    refine J_iast (j := n) kd_22 (hn) (by rw [ln_22]; omega) dX5_add_22 (pc' := 23) rfl ?_
    refine J_aload_n dX5_add_23 (pc' := 24) rfl rfl ?_
    refine J_getr fX5_15 kd_21 rf_21_1 dX5_add_24 (pc' := 27) rfl ?_
    refine J_iload dX5_add_27 (pc' := 29) rfl rfl ?_
    refine J_iload_n dX5_add_29 (pc' := 30) rfl rfl ?_
    refine J_iast (j := n) kd_23 (hn) (by rw [ln_23]; omega) dX5_add_30 (pc' := 31) rfl ?_
    refine J_aload_n dX5_add_31 (pc' := 32) rfl rfl ?_
    refine J_getr fX5_20 kd_21 rf_21_2 dX5_add_32 (pc' := 35) rfl ?_
    refine J_iload dX5_add_35 (pc' := 37) rfl rfl ?_
    refine J_aald (j := n) kd_24 (hn) (by rw [ln_24]; omega) dX5_add_37 (pc' := 38) rfl ?_
    refine J_top (w := .ref (25 + 2 * n)) rfl ?_
    refine J_aload_n dX5_add_38 (pc' := 39) rfl rfl ?_
    refine J_v0 (As := [.ref 3]) (rest := []) (qX4_set _ (S.1, dv_u (dv_u S.2.1 22 n x) 23 n y, S.2.2) (25 + 2 * n) 3 m (kd_T hm).1 (kd_T hm).2.1 kd_3 kd_4 hk (by rw [ln_4]; omega) (by rw [(kd_T hm).2.2]; omega) (by omega)) vX4_set mX5_35 (kd_T hm).1 dX5_add_39 (pc' := 42) rfl rfl (Nat.le_of_ble_eq_true rfl) (by decide) ?_
    refine J_aload_n dX5_add_42 (pc' := 43) rfl rfl ?_
    refine J_dup dX5_add_43 (pc' := 44) rfl rfl ?_
    refine J_geti fX5_24 kd_21 rf_21_3 dX5_add_44 (pc' := 47) rfl ?_
    refine J_iconst dX5_add_47 (pc' := 48) rfl (v := 1) ic_1 ?_
    refine J_iadd dX5_add_48 (pc' := 49) rfl ?_
    refine J_puti fX5_24 kd_21 rf_21_3 dX5_add_49 (pc' := 52) rfl ?_
    refine J_iload dX5_add_52 (pc' := 54) rfl rfl ?_
    refine J_iret dX5_add_54 rfl (dv_r1 _) ?_
    refine ⟨by rw [hn], ?_⟩
    have hr : dv_u (dv_u S.2.1 22 n x) 23 n y (3 + 1) = S.2.1 4 := by rw [dv_u_row _ _ (by decide), dv_u_row _ _ (by decide)]
    have h0 : (dv_tx (S.1, dv_u (dv_u S.2.1 22 n x) 23 n y, S.2.2) (25 + 2 * n) m (S.2.1 4)).1 21 3 = nI n := by simp [dv_tx, dv_u, hn]
    simp only [hr, h0, nI_1]
  · rw [hn, dv_n80] at c4
    exact absurd (of_decide_eq_true c4) (nI_ge hm (by decide))
set_option maxRecDepth 100000 in
set_option maxHeartbeats 400000 in
theorem qX2_put188 (d : Nat) (S : dv_S) (j o m : Nat) (hj : j < 80) (ho : dv_kd o = 4) (ho1 : dv_kd (o + 1) = 10) (hm : S.1 o 1 = nI m) (hlo : m ≤ dv_ln (o + 1)) (hm24 : m ≤ 24) (hao : 191 + 2 * j ≠ o) : dv_M yX2_put cX2_put 3 none (dv_rm (d + 2)) [.ref 188, .int (nI j), .ref o] S (fun r S' => r = none ∧ S' = (dv_pa 188 189 (dv_tx S (191 + 2 * j) m (S.2.1 (o + 1))) j)) := by
  refine dv_M_of [some (.ref 188), some (.int (nI j)), some (.ref o)] (by decide) (fun _ _ => Nat.le_of_ble_eq_true rfl) (fun _ _ => rfl) ?_
  refine J_iload_n dX2_put_0 (pc' := 1) rfl rfl ?_
  refine J_if_lt dX2_put_1 (pt := 25) (by decide) (pc' := 4) rfl (fun c1 => ?_) (fun c1 => ?_)
  · exact absurd c1 (nI_pos (by omega))
  · refine J_iload_n dX2_put_4 (pc' := 5) rfl rfl ?_
    refine J_bipush dX2_put_5 (pc' := 7) rfl (v := 80) bp_80 ?_
    refine J_icmp_ge dX2_put_7 (pt := 25) (by decide) (pc' := 10) rfl (fun c7 => ?_) (fun c7 => ?_)
    · rw [dv_n80] at c7
      exact absurd c7 (nI_ge hj (by decide))
    · refine J_aload_n dX2_put_10 (pc' := 11) rfl rfl ?_
      refine J_getr fX2_17 kd_188 rf_188_1 dX2_put_11 (pc' := 14) rfl ?_
      refine J_iload_n dX2_put_14 (pc' := 15) rfl rfl ?_
      refine J_aald (j := j) kd_190 (rfl) (by rw [ln_190]; omega) dX2_put_15 (pc' := 16) rfl ?_
      refine J_top (w := .ref (191 + 2 * j)) rfl ?_
      refine J_aload_n dX2_put_16 (pc' := 17) rfl rfl ?_
      refine J_v0 (As := [.ref o]) (rest := []) (qX4_set _ _ (191 + 2 * j) o m (kd_P hj).1 (kd_P hj).2.1 ho ho1 hm hlo (by rw [(kd_P hj).2.2]; omega) hao) vX4_set mX2_28 (kd_P hj).1 dX2_put_17 (pc' := 20) rfl rfl (Nat.le_of_ble_eq_true rfl) (by decide) ?_
      refine J_aload_n dX2_put_20 (pc' := 21) rfl rfl ?_
      refine J_iload_n dX2_put_21 (pc' := 22) rfl rfl ?_
      refine J_v0 (As := [.int (nI j)]) (rest := []) (qX2_putAgain188 _ _ j hj) vX2_putAgain mX2_32 kd_188 dX2_put_22 (pc' := 25) rfl rfl (Nat.le_of_ble_eq_true rfl) (by decide) ?_
      refine J_vret dX2_put_25 rfl (dv_r1 _) ?_
      exact ⟨rfl, rfl⟩
set_option maxRecDepth 100000 in
set_option maxHeartbeats 400000 in
theorem qX2_put351 (d : Nat) (S : dv_S) (j o m : Nat) (hj : j < 80) (ho : dv_kd o = 4) (ho1 : dv_kd (o + 1) = 10) (hm : S.1 o 1 = nI m) (hlo : m ≤ dv_ln (o + 1)) (hm24 : m ≤ 24) (hao : 354 + 2 * j ≠ o) : dv_M yX2_put cX2_put 3 none (dv_rm (d + 2)) [.ref 351, .int (nI j), .ref o] S (fun r S' => r = none ∧ S' = (dv_pa 351 352 (dv_tx S (354 + 2 * j) m (S.2.1 (o + 1))) j)) := by
  refine dv_M_of [some (.ref 351), some (.int (nI j)), some (.ref o)] (by decide) (fun _ _ => Nat.le_of_ble_eq_true rfl) (fun _ _ => rfl) ?_
  refine J_iload_n dX2_put_0 (pc' := 1) rfl rfl ?_
  refine J_if_lt dX2_put_1 (pt := 25) (by decide) (pc' := 4) rfl (fun c1 => ?_) (fun c1 => ?_)
  · exact absurd c1 (nI_pos (by omega))
  · refine J_iload_n dX2_put_4 (pc' := 5) rfl rfl ?_
    refine J_bipush dX2_put_5 (pc' := 7) rfl (v := 80) bp_80 ?_
    refine J_icmp_ge dX2_put_7 (pt := 25) (by decide) (pc' := 10) rfl (fun c7 => ?_) (fun c7 => ?_)
    · rw [dv_n80] at c7
      exact absurd c7 (nI_ge hj (by decide))
    · refine J_aload_n dX2_put_10 (pc' := 11) rfl rfl ?_
      refine J_getr fX2_17 kd_351 rf_351_1 dX2_put_11 (pc' := 14) rfl ?_
      refine J_iload_n dX2_put_14 (pc' := 15) rfl rfl ?_
      refine J_aald (j := j) kd_353 (rfl) (by rw [ln_353]; omega) dX2_put_15 (pc' := 16) rfl ?_
      refine J_top (w := .ref (354 + 2 * j)) rfl ?_
      refine J_aload_n dX2_put_16 (pc' := 17) rfl rfl ?_
      refine J_v0 (As := [.ref o]) (rest := []) (qX4_set _ _ (354 + 2 * j) o m (kd_Q hj).1 (kd_Q hj).2.1 ho ho1 hm hlo (by rw [(kd_Q hj).2.2]; omega) hao) vX4_set mX2_28 (kd_Q hj).1 dX2_put_17 (pc' := 20) rfl rfl (Nat.le_of_ble_eq_true rfl) (by decide) ?_
      refine J_aload_n dX2_put_20 (pc' := 21) rfl rfl ?_
      refine J_iload_n dX2_put_21 (pc' := 22) rfl rfl ?_
      refine J_v0 (As := [.int (nI j)]) (rest := []) (qX2_putAgain351 _ _ j hj) vX2_putAgain mX2_32 kd_351 dX2_put_22 (pc' := 25) rfl rfl (Nat.le_of_ble_eq_true rfl) (by decide) ?_
      refine J_vret dX2_put_25 rfl (dv_r1 _) ?_
      exact ⟨rfl, rfl⟩
set_option maxRecDepth 100000 in
set_option maxHeartbeats 400000 in
theorem qX1_lengthOf (d : Nat) (S : dv_S) (c : Nat) (fr to : Nat → Nat) (i : Nat) (hc : dv_cut S c fr to) (hi : i < c) : dv_M yX1_lengthOf cX1_lengthOf 2 (some .int) (dv_rm (d + 1)) [.ref 9, .int (nI i)] S (fun r S' => r = some (.int (nI (to i - fr i))) ∧ S' = S) := by
  obtain ⟨h1, h2, h3⟩ := id hc
  obtain ⟨g1, g2, g3, g4⟩ := h3 i hi
  refine dv_M_of [some (.ref 9), some (.int (nI i))] (by decide) (fun _ _ => Nat.le_of_ble_eq_true rfl) (fun _ _ => rfl) ?_
  refine J_aload_n dX1_lengthOf_0 (pc' := 1) rfl rfl ?_
  refine J_iload_n dX1_lengthOf_1 (pc' := 2) rfl rfl ?_
  refine J_v1 (As := [.int (nI i)]) (rest := []) (qX1_has _ _ _) vX1_has mX1_29 kd_9 dX1_lengthOf_2 (pc' := 5) rfl rfl (Nat.le_of_ble_eq_true rfl) (by decide) ?_
  refine J_beq dX1_lengthOf_5 (pt := 24) (by decide) (pc' := 8) rfl (fun c5 => ?_) (fun c5 => ?_)
  · exact absurd (dv_has hi h1 (by omega)) (by rw [c5]; decide)
  · refine J_aload_n dX1_lengthOf_8 (pc' := 9) rfl rfl ?_
    refine J_getr fX1_18 kd_9 rf_9_2 dX1_lengthOf_9 (pc' := 12) rfl ?_
    refine J_iload_n dX1_lengthOf_12 (pc' := 13) rfl rfl ?_
    refine J_iald (j := i) kd_12 (rfl) (by rw [ln_12]; omega) dX1_lengthOf_13 (pc' := 14) rfl ?_
    refine J_aload_n dX1_lengthOf_14 (pc' := 15) rfl rfl ?_
    refine J_getr fX1_15 kd_9 rf_9_1 dX1_lengthOf_15 (pc' := 18) rfl ?_
    refine J_iload_n dX1_lengthOf_18 (pc' := 19) rfl rfl ?_
    refine J_iald (j := i) kd_11 (rfl) (by rw [ln_11]; omega) dX1_lengthOf_19 (pc' := 20) rfl ?_
    refine J_isub dX1_lengthOf_20 (pc' := 21) rfl ?_
    refine J_goto dX1_lengthOf_21 (pc' := 25) (by decide) ?_
    refine J_iret dX1_lengthOf_25 rfl (dv_r1 _) ?_
    exact ⟨by rw [g1, g2, pk_sub (by omega)], rfl⟩
set_option maxRecDepth 100000 in
set_option maxHeartbeats 400000 in
theorem qX1_at (d : Nat) (S : dv_S) (c : Nat) (fr to : Nat → Nat) (i : Nat) (j : Nat) (hc : dv_cut S c fr to) (hi : i < c) (hj : j < to i - fr i) : dv_M yX1_at cX1_at 3 (some .int) (dv_rm (d + 2)) [.ref 9, .int (nI i), .int (nI j)] S (fun r S' => r = some (.int (S.2.1 10 (fr i + j))) ∧ S' = S) := by
  obtain ⟨h1, h2, h3⟩ := id hc
  obtain ⟨g1, g2, g3, g4⟩ := h3 i hi
  refine dv_M_of [some (.ref 9), some (.int (nI i)), some (.int (nI j))] (by decide) (fun _ _ => Nat.le_of_ble_eq_true rfl) (fun _ _ => rfl) ?_
  refine J_iload_n dX1_at_0 (pc' := 1) rfl rfl ?_
  refine J_if_lt dX1_at_1 (pt := 29) (by decide) (pc' := 4) rfl (fun c1 => ?_) (fun c1 => ?_)
  · exact absurd c1 (nI_pos (by omega))
  · refine J_iload_n dX1_at_4 (pc' := 5) rfl rfl ?_
    refine J_aload_n dX1_at_5 (pc' := 6) rfl rfl ?_
    refine J_iload_n dX1_at_6 (pc' := 7) rfl rfl ?_
    refine J_v1 (As := [.int (nI i)]) (rest := [.int (nI j)]) (qX1_lengthOf _ _ c fr to i hc hi) vX1_lengthOf mX1_33 kd_9 dX1_at_7 (pc' := 10) rfl rfl (Nat.le_of_ble_eq_true rfl) (by decide) ?_
    refine J_icmp_ge dX1_at_10 (pt := 29) (by decide) (pc' := 13) rfl (fun c10 => ?_) (fun c10 => ?_)
    · exact absurd c10 (nI_ge hj (by omega))
    · refine J_aload_n dX1_at_13 (pc' := 14) rfl rfl ?_
      refine J_getr fX1_9 kd_9 rf_9_0 dX1_at_14 (pc' := 17) rfl ?_
      refine J_aload_n dX1_at_17 (pc' := 18) rfl rfl ?_
      refine J_getr fX1_15 kd_9 rf_9_1 dX1_at_18 (pc' := 21) rfl ?_
      refine J_iload_n dX1_at_21 (pc' := 22) rfl rfl ?_
      refine J_iald (j := i) kd_11 (rfl) (by rw [ln_11]; omega) dX1_at_22 (pc' := 23) rfl ?_
      refine J_iload_n dX1_at_23 (pc' := 24) rfl rfl ?_
      refine J_iadd dX1_at_24 (pc' := 25) rfl ?_
      refine J_iald (j := (fr i + j)) kd_10 (by rw [g1, nI_add]) (by rw [ln_10]; omega) dX1_at_25 (pc' := 26) rfl ?_
      refine J_goto dX1_at_26 (pc' := 30) (by decide) ?_
      refine J_iret dX1_at_30 rfl (dv_r1 _) ?_
      exact ⟨rfl, rfl⟩
set_option maxRecDepth 100000 in
set_option maxHeartbeats 400000 in
theorem qX1_isNumber (d : Nat) (S : dv_S) (c : Nat) (fr to : Nat → Nat) (i : Nat) (hc : dv_cut S c fr to) (hi : i < c) : dv_M yX1_isNumber cX1_isNumber 2 (some .boolean) (dv_rm (d + 3)) [.ref 9, .int (nI i)] S (fun r S' => r = some (.int (dv_b (ch_d (S.2.1 10 (fr i))))) ∧ S' = S) := by
  obtain ⟨h1, h2, h3⟩ := id hc
  obtain ⟨g1, g2, g3, g4⟩ := h3 i hi
  refine dv_M_of [some (.ref 9), some (.int (nI i))] (by decide) (fun _ _ => Nat.le_of_ble_eq_true rfl) (fun _ _ => rfl) ?_
  refine J_aload_n dX1_isNumber_0 (pc' := 1) rfl rfl ?_
  refine J_iload_n dX1_isNumber_1 (pc' := 2) rfl rfl ?_
  refine J_iconst dX1_isNumber_2 (pc' := 3) rfl (v := 0) ic_0 ?_
  refine J_top (w := .int (nI 0)) (by rw [nI_0]) ?_
  refine J_v1 (As := [.int (nI i), .int (nI 0)]) (rest := []) (qX1_at _ _ c fr to i 0 hc hi (by omega)) vX1_at mX1_37 kd_9 dX1_isNumber_3 (pc' := 6) rfl rfl (Nat.le_of_ble_eq_true rfl) (by decide) ?_
  refine J_n1 (As := [.int (S.2.1 10 (fr i + 0))]) (rest := []) (qX7_isDigit _ _ _) vX7_isDigit nX1_41 dX1_isNumber_6 (pc' := 9) rfl rfl (Nat.le_of_ble_eq_true rfl) (by decide) ?_
  refine J_zret dX1_isNumber_9 rfl (dv_b_01 _) (dv_r1 _) ?_
  exact ⟨rfl, rfl⟩
set_option maxRecDepth 100000 in
set_option maxHeartbeats 400000 in
theorem qX1_keyOf (d : Nat) (S : dv_S) (c : Nat) (fr to : Nat → Nat) (i : Nat) (hc : dv_cut S c fr to) (hi : i < c) : dv_M yX1_keyOf cX1_keyOf 2 (some .long) (dv_rm (d + 1)) [.ref 9, .int (nI i)] S (fun r S' => r = some (.long (dv_ky S.2.1 i)) ∧ S' = S) := by
  obtain ⟨h1, h2, h3⟩ := id hc
  obtain ⟨g1, g2, g3, g4⟩ := h3 i hi
  refine dv_M_of [some (.ref 9), some (.int (nI i))] (by decide) (fun _ _ => Nat.le_of_ble_eq_true rfl) (fun _ _ => rfl) ?_
  refine J_aload_n dX1_keyOf_0 (pc' := 1) rfl rfl ?_
  refine J_iload_n dX1_keyOf_1 (pc' := 2) rfl rfl ?_
  refine J_v1 (As := [.int (nI i)]) (rest := []) (qX1_has _ _ _) vX1_has mX1_29 kd_9 dX1_keyOf_2 (pc' := 5) rfl rfl (Nat.le_of_ble_eq_true rfl) (by decide) ?_
  refine J_beq dX1_keyOf_5 (pt := 17) (by decide) (pc' := 8) rfl (fun c5 => ?_) (fun c5 => ?_)
  · exact absurd (dv_has hi h1 (by omega)) (by rw [c5]; decide)
  · refine J_aload_n dX1_keyOf_8 (pc' := 9) rfl rfl ?_
    refine J_getr fX1_21 kd_9 rf_9_3 dX1_keyOf_9 (pc' := 12) rfl ?_
    refine J_iload_n dX1_keyOf_12 (pc' := 13) rfl rfl ?_
    refine J_kald (j := i) kd_544 (rfl) (by rw [ln_544]; omega) dX1_keyOf_13 (pc' := 14) rfl ?_
    refine J_goto dX1_keyOf_14 (pc' := 18) (by decide) ?_
    refine J_lret dX1_keyOf_18 rfl (dv_r1 _) ?_
    exact ⟨rfl, rfl⟩
set_option maxRecDepth 100000 in
set_option maxHeartbeats 400000 in
theorem qX1_keyBetween (d : Nat) (S : dv_S) (p q : Nat) (hpq : p ≤ q) (hq : q ≤ 24) : dv_M yX1_keyBetween cX1_keyBetween 6 (some .long) (dv_rm (d + 1)) [.ref 9, .int (nI p), .int (nI q)] S (fun r S' => r = some (.long (kz (fun k => S.2.1 10 (p + k)) (q - p))) ∧ S' = S) := by
  refine dv_M_of [some (.ref 9), some (.int (nI p)), some (.int (nI q)), none, none, none] (by decide) (fun _ _ => Nat.le_of_ble_eq_true rfl) (fun _ _ => rfl) ?_
  refine J_iload_n dX1_keyBetween_0 (pc' := 1) rfl rfl ?_
  refine J_iload_n dX1_keyBetween_1 (pc' := 2) rfl rfl ?_
  refine J_isub dX1_keyBetween_2 (pc' := 3) rfl ?_
  refine J_top (w := .int (nI (q - p))) (by rw [pk_sub (by omega)]) ?_
  refine J_bipush dX1_keyBetween_3 (pc' := 5) rfl (v := 12) bp_12 ?_
  refine J_icmp_le dX1_keyBetween_5 (pt := 10) (by decide) (pc' := 8) rfl (fun c5 => ?_) (fun c5 => ?_)
  · rw [dv_n12, nI_leI (by omega) (by omega)] at c5
    refine J_lconst dX1_keyBetween_10 (pc' := 11) rfl (v := 0) (by decide) ?_
    refine J_lstore_n dX1_keyBetween_11 (pc' := 12) rfl rfl (by decide) rfl (l' := [some (.ref 9), some (.int (nI p)), some (.int (nI q)), some (.long 0), none, none]) rfl ?_
    refine J_iload_n dX1_keyBetween_12 (pc' := 13) rfl rfl ?_
    refine J_istore dX1_keyBetween_13 (pc' := 15) rfl (by decide) rfl (l' := [some (.ref 9), some (.int (nI p)), some (.int (nI q)), some (.long 0), none, some (.int (nI p))]) rfl ?_
    have hlp15 : ∀ j, j ≤ (q - p) → (∀ k, k < j → ch_s (S.2.1 10 (p + k)) = true) → dv_J yX1_keyBetween cX1_keyBetween 6 (some .long) (dv_rm (d + 1)) 0 0 15 [some (.ref 9), some (.int (nI p)), some (.int (nI q)), some (.long (cu_k (fun k => S.2.1 10 (p + k)) j)), none, some (.int (nI (p + j)))] [] S (fun r S' => r = some (.long (kz (fun k => S.2.1 10 (p + k)) (q - p))) ∧ S' = S) := by
      refine dv_up (P := fun j => (∀ k, k < j → ch_s (S.2.1 10 (p + k)) = true) → dv_J yX1_keyBetween cX1_keyBetween 6 (some .long) (dv_rm (d + 1)) 0 0 15 [some (.ref 9), some (.int (nI p)), some (.int (nI q)), some (.long (cu_k (fun k => S.2.1 10 (p + k)) j)), none, some (.int (nI (p + j)))] [] S (fun r S' => r = some (.long (kz (fun k => S.2.1 10 (p + k)) (q - p))) ∧ S' = S)) ?_
      intro j hi15 ih15 hs
      refine J_iload dX1_keyBetween_15 (pc' := 17) rfl rfl ?_
      refine J_iload_n dX1_keyBetween_17 (pc' := 18) rfl rfl ?_
      refine J_icmp_ge dX1_keyBetween_18 (pt := 62) (by decide) (pc' := 21) rfl (fun c18 => ?_) (fun c18 => ?_)
      · rw [nI_leI (by omega) (by omega)] at c18
        refine J_lload_n dX1_keyBetween_62 (pc' := 63) rfl rfl ?_
        refine J_lret dX1_keyBetween_63 rfl (dv_r1 _) ?_
        exact ⟨by rw [kz_y c5 (fun k hk => hs k (by omega)), show q - p = j by omega], rfl⟩
      · rw [nI_leI (by omega) (by omega)] at c18
        refine J_aload_n dX1_keyBetween_21 (pc' := 22) rfl rfl ?_
        refine J_getr fX1_9 kd_9 rf_9_0 dX1_keyBetween_22 (pc' := 25) rfl ?_
        refine J_iload dX1_keyBetween_25 (pc' := 27) rfl rfl ?_
        refine J_iald (j := (p + j)) kd_10 (rfl) (by rw [ln_10]; omega) dX1_keyBetween_27 (pc' := 28) rfl ?_
        refine J_n1 (As := [.int (S.2.1 10 ((p + j)))]) (rest := []) (qX7_isSmall _ _ _) vX7_isSmall nX1_71 dX1_keyBetween_28 (pc' := 31) rfl rfl (Nat.le_of_ble_eq_true rfl) (by decide) ?_
        refine J_bne dX1_keyBetween_31 (pt := 36) (by decide) (pc' := 34) rfl (fun c31 => ?_) (fun c31 => ?_)
        · refine J_lload_n dX1_keyBetween_36 (pc' := 37) rfl rfl ?_
          refine J_ldc2 eX1_74 dX1_keyBetween_37 (pc' := 40) rfl ?_
          refine J_lmul dX1_keyBetween_40 (pc' := 41) rfl ?_
          refine J_aload_n dX1_keyBetween_41 (pc' := 42) rfl rfl ?_
          refine J_getr fX1_9 kd_9 rf_9_0 dX1_keyBetween_42 (pc' := 45) rfl ?_
          refine J_iload dX1_keyBetween_45 (pc' := 47) rfl rfl ?_
          refine J_iald (j := (p + j)) kd_10 (rfl) (by rw [ln_10]; omega) dX1_keyBetween_47 (pc' := 48) rfl ?_
          refine J_bipush dX1_keyBetween_48 (pc' := 50) rfl (v := 97) bp_97 ?_
          refine J_isub dX1_keyBetween_50 (pc' := 51) rfl ?_
          refine J_iconst dX1_keyBetween_51 (pc' := 52) rfl (v := 1) ic_1 ?_
          refine J_iadd dX1_keyBetween_52 (pc' := 53) rfl ?_
          refine J_i2l dX1_keyBetween_53 (pc' := 54) rfl ?_
          refine J_ladd dX1_keyBetween_54 (pc' := 55) rfl ?_
          refine J_lstore_n dX1_keyBetween_55 (pc' := 56) rfl rfl (by decide) rfl (l' := [some (.ref 9), some (.int (nI p)), some (.int (nI q)), some (.long (((cu_k (fun k => S.2.1 10 (p + k)) j) * 32) + ((((S.2.1 10 ((p + j))) - 97) + 1).toInt64))), none, some (.int (nI (p + j)))]) rfl ?_
          refine J_iinc dX1_keyBetween_56 (pc' := 59) rfl rfl (v := nI ((p + j) + 1)) (nI_1 (p + j)) (by decide) rfl (l' := [some (.ref 9), some (.int (nI p)), some (.int (nI q)), some (.long (((cu_k (fun k => S.2.1 10 (p + k)) j) * 32) + ((((S.2.1 10 ((p + j))) - 97) + 1).toInt64))), none, some (.int (nI ((p + j) + 1)))]) rfl ?_
          refine J_goto dX1_keyBetween_59 (pc' := 15) (by decide) ?_
          exact ih15 (j + 1) (by omega) (by omega) (lt_s hs c31)
        · refine J_lconst dX1_keyBetween_34 (pc' := 35) rfl (v := 0) (by decide) ?_
          refine J_lret dX1_keyBetween_35 rfl (dv_r1 _) ?_
          exact ⟨by rw [kz_n (k := j) (by omega) c31], rfl⟩
    refine J_loc (l' := [some (.ref 9), some (.int (nI p)), some (.int (nI q)), some (.long (cu_k (fun k => S.2.1 10 (p + k)) 0)), none, some (.int (nI (p + 0)))]) (by simp only [Nat.add_zero, cu_k]) ?_
    exact hlp15 0 (Nat.zero_le _) (fun k hk => absurd hk (Nat.not_lt_zero k))
  · rw [dv_n12, nI_leI (by omega) (by omega)] at c5
    refine J_lconst dX1_keyBetween_8 (pc' := 9) rfl (v := 0) (by decide) ?_
    refine J_lret dX1_keyBetween_9 rfl (dv_r1 _) ?_
    exact ⟨by rw [kz_l c5], rfl⟩
set_option maxRecDepth 100000 in
set_option maxHeartbeats 400000 in
theorem qX1_isCutAhead (d : Nat) (S : dv_S) (a n i : Nat) (ha : dv_kd a = 4) (ha1 : dv_kd (a + 1) = 10) (hn : S.1 a 1 = nI n) (hl : n ≤ dv_ln (a + 1)) (h24 : n ≤ 24) (hi0 : 0 < i) (hi : i < n) : dv_M yX1_isCutAhead cX1_isCutAhead 4 (some .boolean) (dv_rm (d + 2)) [.ref a, .int (nI i)] S (fun r S' => r = some (.int (dv_b (cu_a (S.2.1 (a + 1) (i - 1)) (S.2.1 (a + 1) i) (dv_gx (S.2.1 (a + 1)) n (nI (i + 1)))))) ∧ S' = S) := by
  refine dv_M_of [some (.ref a), some (.int (nI i)), none, none] (by decide) (fun _ _ => Nat.le_of_ble_eq_true rfl) (fun _ _ => rfl) ?_
  refine J_aload_n dX1_isCutAhead_0 (pc' := 1) rfl rfl ?_
  refine J_iload_n dX1_isCutAhead_1 (pc' := 2) rfl rfl ?_
  refine J_iconst dX1_isCutAhead_2 (pc' := 3) rfl (v := 1) ic_1 ?_
  refine J_isub dX1_isCutAhead_3 (pc' := 4) rfl ?_
  refine J_top (w := .int (nI (i - 1))) (by rw [dv_p1 hi0]) ?_
  refine J_v1 (As := [.int (nI (i - 1))]) (rest := []) (qX4_at _ _ a n _ ha ha1 hn hl) vX4_at mX1_54 ha dX1_isCutAhead_4 (pc' := 7) rfl rfl (Nat.le_of_ble_eq_true rfl) (by decide) ?_
  refine J_top (w := .int (S.2.1 (a + 1) (i - 1))) (by rw [dv_gx_in (by omega) (by omega)]) ?_
  refine J_istore_n dX1_isCutAhead_7 (pc' := 8) rfl rfl (by decide) rfl (l' := [some (.ref a), some (.int (nI i)), some (.int (S.2.1 (a + 1) (i - 1))), none]) rfl ?_
  refine J_aload_n dX1_isCutAhead_8 (pc' := 9) rfl rfl ?_
  refine J_iload_n dX1_isCutAhead_9 (pc' := 10) rfl rfl ?_
  refine J_v1 (As := [.int (nI i)]) (rest := []) (qX4_at _ _ a n _ ha ha1 hn hl) vX4_at mX1_54 ha dX1_isCutAhead_10 (pc' := 13) rfl rfl (Nat.le_of_ble_eq_true rfl) (by decide) ?_
  refine J_top (w := .int (S.2.1 (a + 1) i)) (by rw [dv_gx_in hi (by omega)]) ?_
  refine J_istore_n dX1_isCutAhead_13 (pc' := 14) rfl rfl (by decide) rfl (l' := [some (.ref a), some (.int (nI i)), some (.int (S.2.1 (a + 1) (i - 1))), some (.int (S.2.1 (a + 1) i))]) rfl ?_
  refine J_iload_n dX1_isCutAhead_14 (pc' := 15) rfl rfl ?_
  refine J_n1 (As := [.int (S.2.1 (a + 1) (i - 1))]) (rest := []) (qX7_isDigit _ _ _) vX7_isDigit nX1_41 dX1_isCutAhead_15 (pc' := 18) rfl rfl (Nat.le_of_ble_eq_true rfl) (by decide) ?_
  refine J_iload_n dX1_isCutAhead_18 (pc' := 19) rfl rfl ?_
  refine J_n1 (As := [.int (S.2.1 (a + 1) i)]) (rest := [.int (dv_b (ch_d (S.2.1 (a + 1) (i - 1))))]) (qX7_isDigit _ _ _) vX7_isDigit nX1_41 dX1_isCutAhead_19 (pc' := 22) rfl rfl (Nat.le_of_ble_eq_true rfl) (by decide) ?_
  refine J_icmp_eq dX1_isCutAhead_22 (pt := 27) (by decide) (pc' := 25) rfl (fun c22 => ?_) (fun c22 => ?_)
  · rw [dv_b_inj] at c22
    refine J_iload_n dX1_isCutAhead_27 (pc' := 28) rfl rfl ?_
    refine J_n1 (As := [.int (S.2.1 (a + 1) i)]) (rest := []) (qX7_isGreat _ _ _) vX7_isGreat nX1_76 dX1_isCutAhead_28 (pc' := 31) rfl rfl (Nat.le_of_ble_eq_true rfl) (by decide) ?_
    refine J_beq dX1_isCutAhead_31 (pt := 65) (by decide) (pc' := 34) rfl (fun c31 => ?_) (fun c31 => ?_)
    · refine J_iconst dX1_isCutAhead_65 (pc' := 66) rfl (v := 0) ic_0 ?_
      refine J_zret dX1_isCutAhead_66 rfl (by decide) (dv_r1 _) ?_
      refine ⟨?_, rfl⟩
      simp [cu_a, dv_b, *]
    · refine J_iload_n dX1_isCutAhead_34 (pc' := 35) rfl rfl ?_
      refine J_n1 (As := [.int (S.2.1 (a + 1) (i - 1))]) (rest := []) (qX7_isSmall _ _ _) vX7_isSmall nX1_71 dX1_isCutAhead_35 (pc' := 38) rfl rfl (Nat.le_of_ble_eq_true rfl) (by decide) ?_
      refine J_bne dX1_isCutAhead_38 (pt := 61) (by decide) (pc' := 41) rfl (fun c38 => ?_) (fun c38 => ?_)
      · refine J_iconst dX1_isCutAhead_61 (pc' := 62) rfl (v := 1) ic_1 ?_
        refine J_goto dX1_isCutAhead_62 (pc' := 66) (by decide) ?_
        refine J_zret dX1_isCutAhead_66 rfl (by decide) (dv_r1 _) ?_
        refine ⟨?_, rfl⟩
        simp [cu_a, dv_b, *]
      · refine J_iload_n dX1_isCutAhead_41 (pc' := 42) rfl rfl ?_
        refine J_n1 (As := [.int (S.2.1 (a + 1) (i - 1))]) (rest := []) (qX7_isGreat _ _ _) vX7_isGreat nX1_76 dX1_isCutAhead_42 (pc' := 45) rfl rfl (Nat.le_of_ble_eq_true rfl) (by decide) ?_
        refine J_beq dX1_isCutAhead_45 (pt := 65) (by decide) (pc' := 48) rfl (fun c45 => ?_) (fun c45 => ?_)
        · refine J_iconst dX1_isCutAhead_65 (pc' := 66) rfl (v := 0) ic_0 ?_
          refine J_zret dX1_isCutAhead_66 rfl (by decide) (dv_r1 _) ?_
          refine ⟨?_, rfl⟩
          simp [cu_a, dv_b, *]
        · refine J_aload_n dX1_isCutAhead_48 (pc' := 49) rfl rfl ?_
          refine J_iload_n dX1_isCutAhead_49 (pc' := 50) rfl rfl ?_
          refine J_iconst dX1_isCutAhead_50 (pc' := 51) rfl (v := 1) ic_1 ?_
          refine J_iadd dX1_isCutAhead_51 (pc' := 52) rfl ?_
          refine J_top (w := .int (nI (i + 1))) (by rw [nI_1]) ?_
          refine J_v1 (As := [.int (nI (i + 1))]) (rest := []) (qX4_at _ _ a n _ ha ha1 hn hl) vX4_at mX1_54 ha dX1_isCutAhead_52 (pc' := 55) rfl rfl (Nat.le_of_ble_eq_true rfl) (by decide) ?_
          refine J_n1 (As := [.int (dv_gx (S.2.1 (a + 1)) n (nI (i + 1)))]) (rest := []) (qX7_isSmall _ _ _) vX7_isSmall nX1_71 dX1_isCutAhead_55 (pc' := 58) rfl rfl (Nat.le_of_ble_eq_true rfl) (by decide) ?_
          refine J_beq dX1_isCutAhead_58 (pt := 65) (by decide) (pc' := 61) rfl (fun c58 => ?_) (fun c58 => ?_)
          · refine J_iconst dX1_isCutAhead_65 (pc' := 66) rfl (v := 0) ic_0 ?_
            refine J_zret dX1_isCutAhead_66 rfl (by decide) (dv_r1 _) ?_
            refine ⟨?_, rfl⟩
            simp [cu_a, dv_b, *]
          · refine J_iconst dX1_isCutAhead_61 (pc' := 62) rfl (v := 1) ic_1 ?_
            refine J_goto dX1_isCutAhead_62 (pc' := 66) (by decide) ?_
            refine J_zret dX1_isCutAhead_66 rfl (by decide) (dv_r1 _) ?_
            refine ⟨?_, rfl⟩
            simp [cu_a, dv_b, *]
  · rw [dv_b_inj] at c22
    refine J_iconst dX1_isCutAhead_25 (pc' := 26) rfl (v := 1) ic_1 ?_
    refine J_zret dX1_isCutAhead_26 rfl (by decide) (dv_r1 _) ?_
    refine ⟨?_, rfl⟩
    simp [cu_a, dv_b, *]
