set_option maxRecDepth 100000 in
set_option maxHeartbeats 400000 in
theorem qX5_scopeOf (d : Nat) (S : dv_S) (j n : Nat) (hn : S.1 21 3 = nI n) (hj : j < n) (hm : n ≤ 80) : dv_M yX5_scopeOf cX5_scopeOf 2 (some .int) (dv_rm (d + 1)) [.ref 21, .int (nI j)] S (fun r S' => r = some (.int (S.2.1 22 j)) ∧ S' = S) := by
  refine dv_M_of [some (.ref 21), some (.int (nI j))] (by decide) (fun _ _ => Nat.le_of_ble_eq_true rfl) (fun _ _ => rfl) ?_
  refine J_aload_n dX5_scopeOf_0 (pc' := 1) rfl rfl ?_
  refine J_iload_n dX5_scopeOf_1 (pc' := 2) rfl rfl ?_
  refine J_v1 (As := [.int (nI j)]) (rest := []) (qX5_has _ _ _) vX5_has mX5_39 kd_21 dX5_scopeOf_2 (pc' := 5) rfl rfl (Nat.le_of_ble_eq_true rfl) (by decide) ?_
  refine J_beq dX5_scopeOf_5 (pt := 17) (by decide) (pc' := 8) rfl (fun c5 => ?_) (fun c5 => ?_)
  · exact absurd (dv_has hj hn (by omega)) (by rw [c5]; decide)
  · refine J_aload_n dX5_scopeOf_8 (pc' := 9) rfl rfl ?_
    refine J_getr fX5_9 kd_21 rf_21_0 dX5_scopeOf_9 (pc' := 12) rfl ?_
    refine J_iload_n dX5_scopeOf_12 (pc' := 13) rfl rfl ?_
    refine J_iald (j := j) kd_22 (rfl) (by rw [ln_22]; omega) dX5_scopeOf_13 (pc' := 14) rfl ?_
    refine J_goto dX5_scopeOf_14 (pc' := 18) (by decide) ?_
    refine J_iret dX5_scopeOf_18 rfl (dv_r1 _) ?_
    exact ⟨rfl, rfl⟩
set_option maxRecDepth 100000 in
set_option maxHeartbeats 400000 in
theorem qX5_kindOf (d : Nat) (S : dv_S) (j n : Nat) (hn : S.1 21 3 = nI n) (hj : j < n) (hm : n ≤ 80) : dv_M yX5_kindOf cX5_kindOf 2 (some .int) (dv_rm (d + 1)) [.ref 21, .int (nI j)] S (fun r S' => r = some (.int (S.2.1 23 j)) ∧ S' = S) := by
  refine dv_M_of [some (.ref 21), some (.int (nI j))] (by decide) (fun _ _ => Nat.le_of_ble_eq_true rfl) (fun _ _ => rfl) ?_
  refine J_aload_n dX5_kindOf_0 (pc' := 1) rfl rfl ?_
  refine J_iload_n dX5_kindOf_1 (pc' := 2) rfl rfl ?_
  refine J_v1 (As := [.int (nI j)]) (rest := []) (qX5_has _ _ _) vX5_has mX5_39 kd_21 dX5_kindOf_2 (pc' := 5) rfl rfl (Nat.le_of_ble_eq_true rfl) (by decide) ?_
  refine J_beq dX5_kindOf_5 (pt := 17) (by decide) (pc' := 8) rfl (fun c5 => ?_) (fun c5 => ?_)
  · exact absurd (dv_has hj hn (by omega)) (by rw [c5]; decide)
  · refine J_aload_n dX5_kindOf_8 (pc' := 9) rfl rfl ?_
    refine J_getr fX5_15 kd_21 rf_21_1 dX5_kindOf_9 (pc' := 12) rfl ?_
    refine J_iload_n dX5_kindOf_12 (pc' := 13) rfl rfl ?_
    refine J_iald (j := j) kd_23 (rfl) (by rw [ln_23]; omega) dX5_kindOf_13 (pc' := 14) rfl ?_
    refine J_goto dX5_kindOf_14 (pc' := 18) (by decide) ?_
    refine J_iret dX5_kindOf_18 rfl (dv_r1 _) ?_
    exact ⟨rfl, rfl⟩
set_option maxRecDepth 100000 in
set_option maxHeartbeats 400000 in
theorem qX6_scopeOf (d : Nat) (S : dv_S) (j n : Nat) (hn : S.1 185 2 = nI n) (hj : j < n) (hm : n ≤ 150) : dv_M yX6_scopeOf cX6_scopeOf 2 (some .int) (dv_rm (d + 1)) [.ref 185, .int (nI j)] S (fun r S' => r = some (.int (S.2.1 186 j)) ∧ S' = S) := by
  refine dv_M_of [some (.ref 185), some (.int (nI j))] (by decide) (fun _ _ => Nat.le_of_ble_eq_true rfl) (fun _ _ => rfl) ?_
  refine J_aload_n dX6_scopeOf_0 (pc' := 1) rfl rfl ?_
  refine J_iload_n dX6_scopeOf_1 (pc' := 2) rfl rfl ?_
  refine J_v1 (As := [.int (nI j)]) (rest := []) (qX6_has _ _ _) vX6_has mX6_26 kd_185 dX6_scopeOf_2 (pc' := 5) rfl rfl (Nat.le_of_ble_eq_true rfl) (by decide) ?_
  refine J_beq dX6_scopeOf_5 (pt := 17) (by decide) (pc' := 8) rfl (fun c5 => ?_) (fun c5 => ?_)
  · exact absurd (dv_has hj hn (by omega)) (by rw [c5]; decide)
  · refine J_aload_n dX6_scopeOf_8 (pc' := 9) rfl rfl ?_
    refine J_getr fX6_9 kd_185 rf_185_0 dX6_scopeOf_9 (pc' := 12) rfl ?_
    refine J_iload_n dX6_scopeOf_12 (pc' := 13) rfl rfl ?_
    refine J_iald (j := j) kd_186 (rfl) (by rw [ln_186]; omega) dX6_scopeOf_13 (pc' := 14) rfl ?_
    refine J_goto dX6_scopeOf_14 (pc' := 18) (by decide) ?_
    refine J_iret dX6_scopeOf_18 rfl (dv_r1 _) ?_
    exact ⟨rfl, rfl⟩
set_option maxRecDepth 100000 in
set_option maxHeartbeats 400000 in
theorem qX6_thingOf (d : Nat) (S : dv_S) (j n : Nat) (hn : S.1 185 2 = nI n) (hj : j < n) (hm : n ≤ 150) : dv_M yX6_thingOf cX6_thingOf 2 (some .int) (dv_rm (d + 1)) [.ref 185, .int (nI j)] S (fun r S' => r = some (.int (S.2.1 187 j)) ∧ S' = S) := by
  refine dv_M_of [some (.ref 185), some (.int (nI j))] (by decide) (fun _ _ => Nat.le_of_ble_eq_true rfl) (fun _ _ => rfl) ?_
  refine J_aload_n dX6_thingOf_0 (pc' := 1) rfl rfl ?_
  refine J_iload_n dX6_thingOf_1 (pc' := 2) rfl rfl ?_
  refine J_v1 (As := [.int (nI j)]) (rest := []) (qX6_has _ _ _) vX6_has mX6_26 kd_185 dX6_thingOf_2 (pc' := 5) rfl rfl (Nat.le_of_ble_eq_true rfl) (by decide) ?_
  refine J_beq dX6_thingOf_5 (pt := 17) (by decide) (pc' := 8) rfl (fun c5 => ?_) (fun c5 => ?_)
  · exact absurd (dv_has hj hn (by omega)) (by rw [c5]; decide)
  · refine J_aload_n dX6_thingOf_8 (pc' := 9) rfl rfl ?_
    refine J_getr fX6_15 kd_185 rf_185_1 dX6_thingOf_9 (pc' := 12) rfl ?_
    refine J_iload_n dX6_thingOf_12 (pc' := 13) rfl rfl ?_
    refine J_iald (j := j) kd_187 (rfl) (by rw [ln_187]; omega) dX6_thingOf_13 (pc' := 14) rfl ?_
    refine J_goto dX6_thingOf_14 (pc' := 18) (by decide) ?_
    refine J_iret dX6_thingOf_18 rfl (dv_r1 _) ?_
    exact ⟨rfl, rfl⟩
set_option maxRecDepth 100000 in
set_option maxHeartbeats 400000 in
theorem qX0_rolesOf (d : Nat) (S : dv_S) (x : Int32) (n : Nat) (hn : S.1 13 5 = nI n) (hm : n ≤ 60) : dv_M yX0_rolesOf cX0_rolesOf 2 (some .int) (dv_rm (d + 1)) [.ref 13, .int x] S (fun r S' => r = some (.int (dv_gx (S.2.1 15) n x)) ∧ S' = S) := by
  refine dv_M_of [some (.ref 13), some (.int x)] (by decide) (fun _ _ => Nat.le_of_ble_eq_true rfl) (fun _ _ => rfl) ?_
  refine J_aload_n dX0_rolesOf_0 (pc' := 1) rfl rfl ?_
  refine J_iload_n dX0_rolesOf_1 (pc' := 2) rfl rfl ?_
  refine J_v1 (As := [.int x]) (rest := []) (qX0_has _ _ _) vX0_has mX0_36 kd_13 dX0_rolesOf_2 (pc' := 5) rfl rfl (Nat.le_of_ble_eq_true rfl) (by decide) ?_
  refine J_beq dX0_rolesOf_5 (pt := 17) (by decide) (pc' := 8) rfl (fun c5 => ?_) (fun c5 => ?_)
  · rw [hn] at c5
    refine J_iconst dX0_rolesOf_17 (pc' := 18) rfl (v := 0) ic_0 ?_
    refine J_iret dX0_rolesOf_18 rfl (dv_r1 _) ?_
    exact ⟨by rw [dv_gx_out c5], rfl⟩
  · obtain ⟨j, hj, hxj⟩ := dv_idx hn (by omega) c5
    refine J_aload_n dX0_rolesOf_8 (pc' := 9) rfl rfl ?_
    refine J_getr fX0_15 kd_13 rf_13_1 dX0_rolesOf_9 (pc' := 12) rfl ?_
    refine J_iload_n dX0_rolesOf_12 (pc' := 13) rfl rfl ?_
    refine J_iald (j := j) kd_15 (hxj) (by rw [ln_15]; omega) dX0_rolesOf_13 (pc' := 14) rfl ?_
    refine J_goto dX0_rolesOf_14 (pc' := 18) (by decide) ?_
    refine J_iret dX0_rolesOf_18 rfl (dv_r1 _) ?_
    exact ⟨by rw [hxj, dv_gx_in hj (by omega)], rfl⟩
set_option maxRecDepth 100000 in
set_option maxHeartbeats 400000 in
theorem qX0_shortFor (d : Nat) (S : dv_S) (x : Int32) (n : Nat) (hn : S.1 13 5 = nI n) (hm : n ≤ 60) : dv_M yX0_shortFor cX0_shortFor 2 (some .int) (dv_rm (d + 1)) [.ref 13, .int x] S (fun r S' => r = some (.int (dv_gm (S.2.1 16) n x)) ∧ S' = S) := by
  refine dv_M_of [some (.ref 13), some (.int x)] (by decide) (fun _ _ => Nat.le_of_ble_eq_true rfl) (fun _ _ => rfl) ?_
  refine J_aload_n dX0_shortFor_0 (pc' := 1) rfl rfl ?_
  refine J_iload_n dX0_shortFor_1 (pc' := 2) rfl rfl ?_
  refine J_v1 (As := [.int x]) (rest := []) (qX0_has _ _ _) vX0_has mX0_36 kd_13 dX0_shortFor_2 (pc' := 5) rfl rfl (Nat.le_of_ble_eq_true rfl) (by decide) ?_
  refine J_beq dX0_shortFor_5 (pt := 17) (by decide) (pc' := 8) rfl (fun c5 => ?_) (fun c5 => ?_)
  · rw [hn] at c5
    refine J_iconst dX0_shortFor_17 (pc' := 18) rfl (v := (-1)) ic_m1 ?_
    refine J_iret dX0_shortFor_18 rfl (dv_r1 _) ?_
    exact ⟨by rw [dv_gm_out c5], rfl⟩
  · obtain ⟨j, hj, hxj⟩ := dv_idx hn (by omega) c5
    refine J_aload_n dX0_shortFor_8 (pc' := 9) rfl rfl ?_
    refine J_getr fX0_19 kd_13 rf_13_2 dX0_shortFor_9 (pc' := 12) rfl ?_
    refine J_iload_n dX0_shortFor_12 (pc' := 13) rfl rfl ?_
    refine J_iald (j := j) kd_16 (hxj) (by rw [ln_16]; omega) dX0_shortFor_13 (pc' := 14) rfl ?_
    refine J_goto dX0_shortFor_14 (pc' := 18) (by decide) ?_
    refine J_iret dX0_shortFor_18 rfl (dv_r1 _) ?_
    exact ⟨by rw [hxj, dv_gm_in hj (by omega)], rfl⟩
set_option maxRecDepth 100000 in
set_option maxHeartbeats 400000 in
theorem qX0_usedOf (d : Nat) (S : dv_S) (x : Int32) (n : Nat) (hn : S.1 13 5 = nI n) (hm : n ≤ 60) : dv_M yX0_usedOf cX0_usedOf 2 (some .int) (dv_rm (d + 1)) [.ref 13, .int x] S (fun r S' => r = some (.int (dv_gx (S.2.1 18) n x)) ∧ S' = S) := by
  refine dv_M_of [some (.ref 13), some (.int x)] (by decide) (fun _ _ => Nat.le_of_ble_eq_true rfl) (fun _ _ => rfl) ?_
  refine J_aload_n dX0_usedOf_0 (pc' := 1) rfl rfl ?_
  refine J_iload_n dX0_usedOf_1 (pc' := 2) rfl rfl ?_
  refine J_v1 (As := [.int x]) (rest := []) (qX0_has _ _ _) vX0_has mX0_36 kd_13 dX0_usedOf_2 (pc' := 5) rfl rfl (Nat.le_of_ble_eq_true rfl) (by decide) ?_
  refine J_beq dX0_usedOf_5 (pt := 17) (by decide) (pc' := 8) rfl (fun c5 => ?_) (fun c5 => ?_)
  · rw [hn] at c5
    refine J_iconst dX0_usedOf_17 (pc' := 18) rfl (v := 0) ic_0 ?_
    refine J_iret dX0_usedOf_18 rfl (dv_r1 _) ?_
    exact ⟨by rw [dv_gx_out c5], rfl⟩
  · obtain ⟨j, hj, hxj⟩ := dv_idx hn (by omega) c5
    refine J_aload_n dX0_usedOf_8 (pc' := 9) rfl rfl ?_
    refine J_getr fX0_25 kd_13 rf_13_4 dX0_usedOf_9 (pc' := 12) rfl ?_
    refine J_iload_n dX0_usedOf_12 (pc' := 13) rfl rfl ?_
    refine J_iald (j := j) kd_18 (hxj) (by rw [ln_18]; omega) dX0_usedOf_13 (pc' := 14) rfl ?_
    refine J_goto dX0_usedOf_14 (pc' := 18) (by decide) ?_
    refine J_iret dX0_usedOf_18 rfl (dv_r1 _) ?_
    exact ⟨by rw [hxj, dv_gx_in hj (by omega)], rfl⟩
set_option maxRecDepth 100000 in
set_option maxHeartbeats 400000 in
theorem qX5_nameOf (d : Nat) (S : dv_S) (j n : Nat) (hn : S.1 21 3 = nI n) (hj : j < n) (hm : n ≤ 80) : dv_M yX5_nameOf cX5_nameOf 2 (some (.object "NameHouse$Text")) (dv_rm (d + 1)) [.ref 21, .int (nI j)] S (fun r S' => r = some (.ref (25 + 2 * j)) ∧ S' = S) := by
  refine dv_M_of [some (.ref 21), some (.int (nI j))] (by decide) (fun _ _ => Nat.le_of_ble_eq_true rfl) (fun _ _ => rfl) ?_
  refine J_aload_n dX5_nameOf_0 (pc' := 1) rfl rfl ?_
  refine J_getr fX5_20 kd_21 rf_21_2 dX5_nameOf_1 (pc' := 4) rfl ?_
  refine J_aload_n dX5_nameOf_4 (pc' := 5) rfl rfl ?_
  refine J_iload_n dX5_nameOf_5 (pc' := 6) rfl rfl ?_
  refine J_v1 (As := [.int (nI j)]) (rest := [.ref 24]) (qX5_has _ _ _) vX5_has mX5_39 kd_21 dX5_nameOf_6 (pc' := 9) rfl rfl (Nat.le_of_ble_eq_true rfl) (by decide) ?_
  refine J_beq dX5_nameOf_9 (pt := 16) (by decide) (pc' := 12) rfl (fun c9 => ?_) (fun c9 => ?_)
  · exact absurd (dv_has hj hn (by omega)) (by rw [c9]; decide)
  · refine J_iload_n dX5_nameOf_12 (pc' := 13) rfl rfl ?_
    refine J_goto dX5_nameOf_13 (pc' := 17) (by decide) ?_
    refine J_aald (j := j) kd_24 (rfl) (by rw [ln_24]; omega) dX5_nameOf_17 (pc' := 18) rfl ?_
    refine J_top (w := .ref (25 + 2 * j)) rfl ?_
    refine J_aret dX5_nameOf_18 rfl (dv_r1 _) ?_
    exact ⟨rfl, rfl⟩
set_option maxRecDepth 100000 in
set_option maxHeartbeats 400000 in
theorem qX2_has188 (d : Nat) (S : dv_S) (j : Nat) (hj : j < 80) : dv_M yX2_has cX2_has 2 (some .boolean) (dv_rm (d + 0)) [.ref 188, .int (nI j)] S (fun r S' => r = some (.int (dv_b (decide (¬ S.2.1 189 j = 0)))) ∧ S' = S) := by
  refine dv_M_of [some (.ref 188), some (.int (nI j))] (by decide) (fun _ _ => Nat.le_of_ble_eq_true rfl) (fun _ _ => rfl) ?_
  refine J_iload_n dX2_has_0 (pc' := 1) rfl rfl ?_
  refine J_if_lt dX2_has_1 (pt := 23) (by decide) (pc' := 4) rfl (fun c1 => ?_) (fun c1 => ?_)
  · exact absurd c1 (nI_pos (by omega))
  · refine J_iload_n dX2_has_4 (pc' := 5) rfl rfl ?_
    refine J_bipush dX2_has_5 (pc' := 7) rfl (v := 80) bp_80 ?_
    refine J_icmp_ge dX2_has_7 (pt := 23) (by decide) (pc' := 10) rfl (fun c7 => ?_) (fun c7 => ?_)
    · exact absurd c7 (by rw [dv_n80]; exact nI_ge hj (by decide))
    · refine J_aload_n dX2_has_10 (pc' := 11) rfl rfl ?_
      refine J_getr fX2_9 kd_188 rf_188_0 dX2_has_11 (pc' := 14) rfl ?_
      refine J_iload_n dX2_has_14 (pc' := 15) rfl rfl ?_
      refine J_zald (j := j) kd_189 (rfl) (by rw [ln_189]; omega) dX2_has_15 (pc' := 16) rfl ?_
      refine J_if_eq dX2_has_16 (pt := 23) (by decide) (pc' := 19) rfl (fun c16 => ?_) (fun c16 => ?_)
      · refine J_iconst dX2_has_23 (pc' := 24) rfl (v := 0) ic_0 ?_
        refine J_zret dX2_has_24 rfl (by decide) (dv_r1 _) ?_
        exact ⟨by simp [dv_b, *], rfl⟩
      · refine J_iconst dX2_has_19 (pc' := 20) rfl (v := 1) ic_1 ?_
        refine J_goto dX2_has_20 (pc' := 24) (by decide) ?_
        refine J_zret dX2_has_24 rfl (by decide) (dv_r1 _) ?_
        exact ⟨by simp [dv_b, *], rfl⟩
set_option maxRecDepth 100000 in
set_option maxHeartbeats 400000 in
theorem qX2_nameOf188 (d : Nat) (S : dv_S) (j : Nat) (hj : j < 80) : dv_M yX2_nameOf cX2_nameOf 2 (some (.object "NameHouse$Text")) (dv_rm (d + 0)) [.ref 188, .int (nI j)] S (fun r S' => r = some (.ref (191 + 2 * j)) ∧ S' = S) := by
  refine dv_M_of [some (.ref 188), some (.int (nI j))] (by decide) (fun _ _ => Nat.le_of_ble_eq_true rfl) (fun _ _ => rfl) ?_
  refine J_aload_n dX2_nameOf_0 (pc' := 1) rfl rfl ?_
  refine J_getr fX2_17 kd_188 rf_188_1 dX2_nameOf_1 (pc' := 4) rfl ?_
  refine J_iload_n dX2_nameOf_4 (pc' := 5) rfl rfl ?_
  refine J_if_lt dX2_nameOf_5 (pt := 18) (by decide) (pc' := 8) rfl (fun c5 => ?_) (fun c5 => ?_)
  · exact absurd c5 (nI_pos (by omega))
  · refine J_iload_n dX2_nameOf_8 (pc' := 9) rfl rfl ?_
    refine J_bipush dX2_nameOf_9 (pc' := 11) rfl (v := 80) bp_80 ?_
    refine J_icmp_ge dX2_nameOf_11 (pt := 18) (by decide) (pc' := 14) rfl (fun c11 => ?_) (fun c11 => ?_)
    · exact absurd c11 (by rw [dv_n80]; exact nI_ge hj (by decide))
    · refine J_iload_n dX2_nameOf_14 (pc' := 15) rfl rfl ?_
      refine J_goto dX2_nameOf_15 (pc' := 19) (by decide) ?_
      refine J_aald (j := j) kd_190 (rfl) (by rw [ln_190]; omega) dX2_nameOf_19 (pc' := 20) rfl ?_
      refine J_top (w := .ref (191 + 2 * j)) rfl ?_
      refine J_aret dX2_nameOf_20 rfl (dv_r1 _) ?_
      exact ⟨rfl, rfl⟩
set_option maxRecDepth 100000 in
set_option maxHeartbeats 400000 in
theorem qX2_size188 (d : Nat) (S : dv_S)  : dv_M yX2_size cX2_size 1 (some .int) (dv_rm (d + 0)) [.ref 188] S (fun r S' => r = some (.int (S.1 188 2)) ∧ S' = S) := by
  refine dv_M_of [some (.ref 188)] (by decide) (fun _ _ => Nat.le_of_ble_eq_true rfl) (fun _ _ => rfl) ?_
  refine J_aload_n dX2_size_0 (pc' := 1) rfl rfl ?_
  refine J_geti fX2_21 kd_188 rf_188_2 dX2_size_1 (pc' := 4) rfl ?_
  refine J_iret dX2_size_4 rfl (dv_r1 _) ?_
  exact ⟨rfl, rfl⟩
set_option maxRecDepth 100000 in
set_option maxHeartbeats 400000 in
theorem qX2_putAgain188 (d : Nat) (S : dv_S) (j : Nat) (hj : j < 80) : dv_M yX2_putAgain cX2_putAgain 2 none (dv_rm (d + 0)) [.ref 188, .int (nI j)] S (fun r S' => r = none ∧ S' = (dv_pa 188 189 S j)) := by
  refine dv_M_of [some (.ref 188), some (.int (nI j))] (by decide) (fun _ _ => Nat.le_of_ble_eq_true rfl) (fun _ _ => rfl) ?_
  refine J_iload_n dX2_putAgain_0 (pc' := 1) rfl rfl ?_
  refine J_if_lt dX2_putAgain_1 (pt := 36) (by decide) (pc' := 4) rfl (fun c1 => ?_) (fun c1 => ?_)
  · exact absurd c1 (nI_pos (by omega))
  · refine J_iload_n dX2_putAgain_4 (pc' := 5) rfl rfl ?_
    refine J_bipush dX2_putAgain_5 (pc' := 7) rfl (v := 80) bp_80 ?_
    refine J_icmp_ge dX2_putAgain_7 (pt := 36) (by decide) (pc' := 10) rfl (fun c7 => ?_) (fun c7 => ?_)
    · exact absurd c7 (by rw [dv_n80]; exact nI_ge hj (by decide))
    · refine J_aload_n dX2_putAgain_10 (pc' := 11) rfl rfl ?_
      refine J_getr fX2_9 kd_188 rf_188_0 dX2_putAgain_11 (pc' := 14) rfl ?_
      refine J_iload_n dX2_putAgain_14 (pc' := 15) rfl rfl ?_
      refine J_zald (j := j) kd_189 (rfl) (by rw [ln_189]; omega) dX2_putAgain_15 (pc' := 16) rfl ?_
      refine J_if_ne dX2_putAgain_16 (pt := 36) (by decide) (pc' := 19) rfl (fun c16 => ?_) (fun c16 => ?_)
      · refine J_vret dX2_putAgain_36 rfl (dv_r1 _) ?_
        exact ⟨rfl, by simp [dv_pa, *]⟩
      · refine J_aload_n dX2_putAgain_19 (pc' := 20) rfl rfl ?_
        refine J_getr fX2_9 kd_188 rf_188_0 dX2_putAgain_20 (pc' := 23) rfl ?_
        refine J_iload_n dX2_putAgain_23 (pc' := 24) rfl rfl ?_
        refine J_iconst dX2_putAgain_24 (pc' := 25) rfl (v := 1) ic_1 ?_
        refine J_zast (j := j) kd_189 (rfl) (by rw [ln_189]; omega) (by decide) dX2_putAgain_25 (pc' := 26) rfl ?_
        refine J_aload_n dX2_putAgain_26 (pc' := 27) rfl rfl ?_
        refine J_dup dX2_putAgain_27 (pc' := 28) rfl rfl ?_
        refine J_geti fX2_21 kd_188 rf_188_2 dX2_putAgain_28 (pc' := 31) rfl ?_
        refine J_iconst dX2_putAgain_31 (pc' := 32) rfl (v := 1) ic_1 ?_
        refine J_iadd dX2_putAgain_32 (pc' := 33) rfl ?_
        refine J_puti fX2_21 kd_188 rf_188_2 dX2_putAgain_33 (pc' := 36) rfl ?_
        refine J_vret dX2_putAgain_36 rfl (dv_r1 _) ?_
        exact ⟨rfl, by simp [dv_pa, *]⟩
set_option maxRecDepth 100000 in
set_option maxHeartbeats 400000 in
theorem qX2_drop188 (d : Nat) (S : dv_S) (j : Nat) (hj : j < 80) (ht : ¬ S.2.1 189 j = 0) : dv_M yX2_drop cX2_drop 2 none (dv_rm (d + 1)) [.ref 188, .int (nI j)] S (fun r S' => r = none ∧ S' = (dv_u S.1 188 2 (S.1 188 2 - 1), dv_u S.2.1 189 j 0, S.2.2)) := by
  refine dv_M_of [some (.ref 188), some (.int (nI j))] (by decide) (fun _ _ => Nat.le_of_ble_eq_true rfl) (fun _ _ => rfl) ?_
  refine J_aload_n dX2_drop_0 (pc' := 1) rfl rfl ?_
  refine J_iload_n dX2_drop_1 (pc' := 2) rfl rfl ?_
  refine J_v1 (As := [.int (nI j)]) (rest := []) (qX2_has188 _ _ j hj) vX2_has mX2_35 kd_188 dX2_drop_2 (pc' := 5) rfl rfl (Nat.le_of_ble_eq_true rfl) (by decide) ?_
  refine J_beq dX2_drop_5 (pt := 25) (by decide) (pc' := 8) rfl (fun c5 => ?_) (fun c5 => ?_)
  · exact absurd ht (of_decide_eq_false c5)
  · refine J_aload_n dX2_drop_8 (pc' := 9) rfl rfl ?_
    refine J_getr fX2_9 kd_188 rf_188_0 dX2_drop_9 (pc' := 12) rfl ?_
    refine J_iload_n dX2_drop_12 (pc' := 13) rfl rfl ?_
    refine J_iconst dX2_drop_13 (pc' := 14) rfl (v := 0) ic_0 ?_
    refine J_zast (j := j) kd_189 (rfl) (by rw [ln_189]; omega) (by decide) dX2_drop_14 (pc' := 15) rfl ?_
    refine J_aload_n dX2_drop_15 (pc' := 16) rfl rfl ?_
    refine J_dup dX2_drop_16 (pc' := 17) rfl rfl ?_
    refine J_geti fX2_21 kd_188 rf_188_2 dX2_drop_17 (pc' := 20) rfl ?_
    refine J_iconst dX2_drop_20 (pc' := 21) rfl (v := 1) ic_1 ?_
    refine J_isub dX2_drop_21 (pc' := 22) rfl ?_
    refine J_puti fX2_21 kd_188 rf_188_2 dX2_drop_22 (pc' := 25) rfl ?_
    refine J_vret dX2_drop_25 rfl (dv_r1 _) ?_
    exact ⟨rfl, rfl⟩
set_option maxRecDepth 100000 in
set_option maxHeartbeats 400000 in
theorem qX2_clear188 (d : Nat) (S : dv_S)  : dv_M yX2_clear cX2_clear 2 none (dv_rm (d + 0)) [.ref 188] S (fun r S' => r = none ∧ S' = (dv_u S.1 188 2 0, dv_rw S.2.1 189 (fun _ => 0) 80, S.2.2)) := by
  refine dv_M_of [some (.ref 188), none] (by decide) (fun _ _ => Nat.le_of_ble_eq_true rfl) (fun _ _ => rfl) ?_
  refine J_iconst dX2_clear_0 (pc' := 1) rfl (v := 0) ic_0 ?_
  refine J_istore_n dX2_clear_1 (pc' := 2) rfl rfl (by decide) rfl (l' := [some (.ref 188), some (.int 0)]) rfl ?_
  have hlp2 : ∀ i, i ≤ 80 → dv_J yX2_clear cX2_clear 2 none (dv_rm (d + 0)) 0 0 2 [some (.ref 188), some (.int (nI i))] [] (S.1, dv_rw S.2.1 189 (fun _ => 0) i, S.2.2) (fun r S' => r = none ∧ S' = (dv_u S.1 188 2 0, dv_rw S.2.1 189 (fun _ => 0) 80, S.2.2)) := by
    refine dv_up (P := fun i => dv_J yX2_clear cX2_clear 2 none (dv_rm (d + 0)) 0 0 2 [some (.ref 188), some (.int (nI i))] [] (S.1, dv_rw S.2.1 189 (fun _ => 0) i, S.2.2) (fun r S' => r = none ∧ S' = (dv_u S.1 188 2 0, dv_rw S.2.1 189 (fun _ => 0) 80, S.2.2))) ?_
    intro i hi2 ih2 
    refine J_iload_n dX2_clear_2 (pc' := 3) rfl rfl ?_
    refine J_bipush dX2_clear_3 (pc' := 5) rfl (v := 80) bp_80 ?_
    refine J_top (w := .int (nI 80)) (by rw [dv_n80]) ?_
    refine J_icmp_ge dX2_clear_5 (pt := 21) (by decide) (pc' := 8) rfl (fun c5 => ?_) (fun c5 => ?_)
    · have hx := dv_ge hi2 (by decide) c5
      refine J_aload_n dX2_clear_21 (pc' := 22) rfl rfl ?_
      refine J_iconst dX2_clear_22 (pc' := 23) rfl (v := 0) ic_0 ?_
      refine J_puti fX2_21 kd_188 rf_188_2 dX2_clear_23 (pc' := 26) rfl ?_
      refine J_vret dX2_clear_26 rfl (dv_r1 _) ?_
      exact ⟨rfl, by rw [hx]⟩
    · have hx := dv_nge hi2 (by decide) c5
      refine J_aload_n dX2_clear_8 (pc' := 9) rfl rfl ?_
      refine J_getr fX2_9 kd_188 rf_188_0 dX2_clear_9 (pc' := 12) rfl ?_
      refine J_iload_n dX2_clear_12 (pc' := 13) rfl rfl ?_
      refine J_iconst dX2_clear_13 (pc' := 14) rfl (v := 0) ic_0 ?_
      refine J_zast (j := i) kd_189 (rfl) (by rw [ln_189]; omega) (by decide) dX2_clear_14 (pc' := 15) rfl ?_
      refine J_iinc dX2_clear_15 (pc' := 18) rfl rfl (v := nI (i + 1)) (nI_1 i) (by decide) rfl (l' := [some (.ref 188), some (.int (nI (i + 1)))]) rfl ?_
      refine J_goto dX2_clear_18 (pc' := 2) (by decide) ?_
      exact J_sto (S' := (S.1, dv_rw S.2.1 189 (fun _ => 0) (i + 1), S.2.2)) (by rw [← dv_rw_s]) (ih2 (i + 1) (by omega) (by omega))
  refine J_loc (l' := [some (.ref 188), some (.int (nI 0))]) (by simp only [nI_0, dv_b_f, dv_b_t]) ?_
  refine J_sto (S' := (S.1, dv_rw S.2.1 189 (fun _ => 0) 0, S.2.2)) (by rw [dv_rw_0]) ?_
  exact hlp2 0 (Nat.zero_le _) 
set_option maxRecDepth 100000 in
set_option maxHeartbeats 400000 in
theorem qX2_has351 (d : Nat) (S : dv_S) (j : Nat) (hj : j < 80) : dv_M yX2_has cX2_has 2 (some .boolean) (dv_rm (d + 0)) [.ref 351, .int (nI j)] S (fun r S' => r = some (.int (dv_b (decide (¬ S.2.1 352 j = 0)))) ∧ S' = S) := by
  refine dv_M_of [some (.ref 351), some (.int (nI j))] (by decide) (fun _ _ => Nat.le_of_ble_eq_true rfl) (fun _ _ => rfl) ?_
  refine J_iload_n dX2_has_0 (pc' := 1) rfl rfl ?_
  refine J_if_lt dX2_has_1 (pt := 23) (by decide) (pc' := 4) rfl (fun c1 => ?_) (fun c1 => ?_)
  · exact absurd c1 (nI_pos (by omega))
  · refine J_iload_n dX2_has_4 (pc' := 5) rfl rfl ?_
    refine J_bipush dX2_has_5 (pc' := 7) rfl (v := 80) bp_80 ?_
    refine J_icmp_ge dX2_has_7 (pt := 23) (by decide) (pc' := 10) rfl (fun c7 => ?_) (fun c7 => ?_)
    · exact absurd c7 (by rw [dv_n80]; exact nI_ge hj (by decide))
    · refine J_aload_n dX2_has_10 (pc' := 11) rfl rfl ?_
      refine J_getr fX2_9 kd_351 rf_351_0 dX2_has_11 (pc' := 14) rfl ?_
      refine J_iload_n dX2_has_14 (pc' := 15) rfl rfl ?_
      refine J_zald (j := j) kd_352 (rfl) (by rw [ln_352]; omega) dX2_has_15 (pc' := 16) rfl ?_
      refine J_if_eq dX2_has_16 (pt := 23) (by decide) (pc' := 19) rfl (fun c16 => ?_) (fun c16 => ?_)
      · refine J_iconst dX2_has_23 (pc' := 24) rfl (v := 0) ic_0 ?_
        refine J_zret dX2_has_24 rfl (by decide) (dv_r1 _) ?_
        exact ⟨by simp [dv_b, *], rfl⟩
      · refine J_iconst dX2_has_19 (pc' := 20) rfl (v := 1) ic_1 ?_
        refine J_goto dX2_has_20 (pc' := 24) (by decide) ?_
        refine J_zret dX2_has_24 rfl (by decide) (dv_r1 _) ?_
        exact ⟨by simp [dv_b, *], rfl⟩
set_option maxRecDepth 100000 in
set_option maxHeartbeats 400000 in
theorem qX2_nameOf351 (d : Nat) (S : dv_S) (j : Nat) (hj : j < 80) : dv_M yX2_nameOf cX2_nameOf 2 (some (.object "NameHouse$Text")) (dv_rm (d + 0)) [.ref 351, .int (nI j)] S (fun r S' => r = some (.ref (354 + 2 * j)) ∧ S' = S) := by
  refine dv_M_of [some (.ref 351), some (.int (nI j))] (by decide) (fun _ _ => Nat.le_of_ble_eq_true rfl) (fun _ _ => rfl) ?_
  refine J_aload_n dX2_nameOf_0 (pc' := 1) rfl rfl ?_
  refine J_getr fX2_17 kd_351 rf_351_1 dX2_nameOf_1 (pc' := 4) rfl ?_
  refine J_iload_n dX2_nameOf_4 (pc' := 5) rfl rfl ?_
  refine J_if_lt dX2_nameOf_5 (pt := 18) (by decide) (pc' := 8) rfl (fun c5 => ?_) (fun c5 => ?_)
  · exact absurd c5 (nI_pos (by omega))
  · refine J_iload_n dX2_nameOf_8 (pc' := 9) rfl rfl ?_
    refine J_bipush dX2_nameOf_9 (pc' := 11) rfl (v := 80) bp_80 ?_
    refine J_icmp_ge dX2_nameOf_11 (pt := 18) (by decide) (pc' := 14) rfl (fun c11 => ?_) (fun c11 => ?_)
    · exact absurd c11 (by rw [dv_n80]; exact nI_ge hj (by decide))
    · refine J_iload_n dX2_nameOf_14 (pc' := 15) rfl rfl ?_
      refine J_goto dX2_nameOf_15 (pc' := 19) (by decide) ?_
      refine J_aald (j := j) kd_353 (rfl) (by rw [ln_353]; omega) dX2_nameOf_19 (pc' := 20) rfl ?_
      refine J_top (w := .ref (354 + 2 * j)) rfl ?_
      refine J_aret dX2_nameOf_20 rfl (dv_r1 _) ?_
      exact ⟨rfl, rfl⟩
set_option maxRecDepth 100000 in
set_option maxHeartbeats 400000 in
theorem qX2_size351 (d : Nat) (S : dv_S)  : dv_M yX2_size cX2_size 1 (some .int) (dv_rm (d + 0)) [.ref 351] S (fun r S' => r = some (.int (S.1 351 2)) ∧ S' = S) := by
  refine dv_M_of [some (.ref 351)] (by decide) (fun _ _ => Nat.le_of_ble_eq_true rfl) (fun _ _ => rfl) ?_
  refine J_aload_n dX2_size_0 (pc' := 1) rfl rfl ?_
  refine J_geti fX2_21 kd_351 rf_351_2 dX2_size_1 (pc' := 4) rfl ?_
  refine J_iret dX2_size_4 rfl (dv_r1 _) ?_
  exact ⟨rfl, rfl⟩
set_option maxRecDepth 100000 in
set_option maxHeartbeats 400000 in
theorem qX2_putAgain351 (d : Nat) (S : dv_S) (j : Nat) (hj : j < 80) : dv_M yX2_putAgain cX2_putAgain 2 none (dv_rm (d + 0)) [.ref 351, .int (nI j)] S (fun r S' => r = none ∧ S' = (dv_pa 351 352 S j)) := by
  refine dv_M_of [some (.ref 351), some (.int (nI j))] (by decide) (fun _ _ => Nat.le_of_ble_eq_true rfl) (fun _ _ => rfl) ?_
  refine J_iload_n dX2_putAgain_0 (pc' := 1) rfl rfl ?_
  refine J_if_lt dX2_putAgain_1 (pt := 36) (by decide) (pc' := 4) rfl (fun c1 => ?_) (fun c1 => ?_)
  · exact absurd c1 (nI_pos (by omega))
  · refine J_iload_n dX2_putAgain_4 (pc' := 5) rfl rfl ?_
    refine J_bipush dX2_putAgain_5 (pc' := 7) rfl (v := 80) bp_80 ?_
    refine J_icmp_ge dX2_putAgain_7 (pt := 36) (by decide) (pc' := 10) rfl (fun c7 => ?_) (fun c7 => ?_)
    · exact absurd c7 (by rw [dv_n80]; exact nI_ge hj (by decide))
    · refine J_aload_n dX2_putAgain_10 (pc' := 11) rfl rfl ?_
      refine J_getr fX2_9 kd_351 rf_351_0 dX2_putAgain_11 (pc' := 14) rfl ?_
      refine J_iload_n dX2_putAgain_14 (pc' := 15) rfl rfl ?_
      refine J_zald (j := j) kd_352 (rfl) (by rw [ln_352]; omega) dX2_putAgain_15 (pc' := 16) rfl ?_
      refine J_if_ne dX2_putAgain_16 (pt := 36) (by decide) (pc' := 19) rfl (fun c16 => ?_) (fun c16 => ?_)
      · refine J_vret dX2_putAgain_36 rfl (dv_r1 _) ?_
        exact ⟨rfl, by simp [dv_pa, *]⟩
      · refine J_aload_n dX2_putAgain_19 (pc' := 20) rfl rfl ?_
        refine J_getr fX2_9 kd_351 rf_351_0 dX2_putAgain_20 (pc' := 23) rfl ?_
        refine J_iload_n dX2_putAgain_23 (pc' := 24) rfl rfl ?_
        refine J_iconst dX2_putAgain_24 (pc' := 25) rfl (v := 1) ic_1 ?_
        refine J_zast (j := j) kd_352 (rfl) (by rw [ln_352]; omega) (by decide) dX2_putAgain_25 (pc' := 26) rfl ?_
        refine J_aload_n dX2_putAgain_26 (pc' := 27) rfl rfl ?_
        refine J_dup dX2_putAgain_27 (pc' := 28) rfl rfl ?_
        refine J_geti fX2_21 kd_351 rf_351_2 dX2_putAgain_28 (pc' := 31) rfl ?_
        refine J_iconst dX2_putAgain_31 (pc' := 32) rfl (v := 1) ic_1 ?_
        refine J_iadd dX2_putAgain_32 (pc' := 33) rfl ?_
        refine J_puti fX2_21 kd_351 rf_351_2 dX2_putAgain_33 (pc' := 36) rfl ?_
        refine J_vret dX2_putAgain_36 rfl (dv_r1 _) ?_
        exact ⟨rfl, by simp [dv_pa, *]⟩
set_option maxRecDepth 100000 in
set_option maxHeartbeats 400000 in
theorem qX2_drop351 (d : Nat) (S : dv_S) (j : Nat) (hj : j < 80) (ht : ¬ S.2.1 352 j = 0) : dv_M yX2_drop cX2_drop 2 none (dv_rm (d + 1)) [.ref 351, .int (nI j)] S (fun r S' => r = none ∧ S' = (dv_u S.1 351 2 (S.1 351 2 - 1), dv_u S.2.1 352 j 0, S.2.2)) := by
  refine dv_M_of [some (.ref 351), some (.int (nI j))] (by decide) (fun _ _ => Nat.le_of_ble_eq_true rfl) (fun _ _ => rfl) ?_
  refine J_aload_n dX2_drop_0 (pc' := 1) rfl rfl ?_
  refine J_iload_n dX2_drop_1 (pc' := 2) rfl rfl ?_
  refine J_v1 (As := [.int (nI j)]) (rest := []) (qX2_has351 _ _ j hj) vX2_has mX2_35 kd_351 dX2_drop_2 (pc' := 5) rfl rfl (Nat.le_of_ble_eq_true rfl) (by decide) ?_
  refine J_beq dX2_drop_5 (pt := 25) (by decide) (pc' := 8) rfl (fun c5 => ?_) (fun c5 => ?_)
  · exact absurd ht (of_decide_eq_false c5)
  · refine J_aload_n dX2_drop_8 (pc' := 9) rfl rfl ?_
    refine J_getr fX2_9 kd_351 rf_351_0 dX2_drop_9 (pc' := 12) rfl ?_
    refine J_iload_n dX2_drop_12 (pc' := 13) rfl rfl ?_
    refine J_iconst dX2_drop_13 (pc' := 14) rfl (v := 0) ic_0 ?_
    refine J_zast (j := j) kd_352 (rfl) (by rw [ln_352]; omega) (by decide) dX2_drop_14 (pc' := 15) rfl ?_
    refine J_aload_n dX2_drop_15 (pc' := 16) rfl rfl ?_
    refine J_dup dX2_drop_16 (pc' := 17) rfl rfl ?_
    refine J_geti fX2_21 kd_351 rf_351_2 dX2_drop_17 (pc' := 20) rfl ?_
    refine J_iconst dX2_drop_20 (pc' := 21) rfl (v := 1) ic_1 ?_
    refine J_isub dX2_drop_21 (pc' := 22) rfl ?_
    refine J_puti fX2_21 kd_351 rf_351_2 dX2_drop_22 (pc' := 25) rfl ?_
    refine J_vret dX2_drop_25 rfl (dv_r1 _) ?_
    exact ⟨rfl, rfl⟩
set_option maxRecDepth 100000 in
set_option maxHeartbeats 400000 in
theorem qX2_clear351 (d : Nat) (S : dv_S)  : dv_M yX2_clear cX2_clear 2 none (dv_rm (d + 0)) [.ref 351] S (fun r S' => r = none ∧ S' = (dv_u S.1 351 2 0, dv_rw S.2.1 352 (fun _ => 0) 80, S.2.2)) := by
  refine dv_M_of [some (.ref 351), none] (by decide) (fun _ _ => Nat.le_of_ble_eq_true rfl) (fun _ _ => rfl) ?_
  refine J_iconst dX2_clear_0 (pc' := 1) rfl (v := 0) ic_0 ?_
  refine J_istore_n dX2_clear_1 (pc' := 2) rfl rfl (by decide) rfl (l' := [some (.ref 351), some (.int 0)]) rfl ?_
  have hlp2 : ∀ i, i ≤ 80 → dv_J yX2_clear cX2_clear 2 none (dv_rm (d + 0)) 0 0 2 [some (.ref 351), some (.int (nI i))] [] (S.1, dv_rw S.2.1 352 (fun _ => 0) i, S.2.2) (fun r S' => r = none ∧ S' = (dv_u S.1 351 2 0, dv_rw S.2.1 352 (fun _ => 0) 80, S.2.2)) := by
    refine dv_up (P := fun i => dv_J yX2_clear cX2_clear 2 none (dv_rm (d + 0)) 0 0 2 [some (.ref 351), some (.int (nI i))] [] (S.1, dv_rw S.2.1 352 (fun _ => 0) i, S.2.2) (fun r S' => r = none ∧ S' = (dv_u S.1 351 2 0, dv_rw S.2.1 352 (fun _ => 0) 80, S.2.2))) ?_
    intro i hi2 ih2 
    refine J_iload_n dX2_clear_2 (pc' := 3) rfl rfl ?_
    refine J_bipush dX2_clear_3 (pc' := 5) rfl (v := 80) bp_80 ?_
    refine J_top (w := .int (nI 80)) (by rw [dv_n80]) ?_
    refine J_icmp_ge dX2_clear_5 (pt := 21) (by decide) (pc' := 8) rfl (fun c5 => ?_) (fun c5 => ?_)
    · have hx := dv_ge hi2 (by decide) c5
      refine J_aload_n dX2_clear_21 (pc' := 22) rfl rfl ?_
      refine J_iconst dX2_clear_22 (pc' := 23) rfl (v := 0) ic_0 ?_
      refine J_puti fX2_21 kd_351 rf_351_2 dX2_clear_23 (pc' := 26) rfl ?_
      refine J_vret dX2_clear_26 rfl (dv_r1 _) ?_
      exact ⟨rfl, by rw [hx]⟩
    · have hx := dv_nge hi2 (by decide) c5
      refine J_aload_n dX2_clear_8 (pc' := 9) rfl rfl ?_
      refine J_getr fX2_9 kd_351 rf_351_0 dX2_clear_9 (pc' := 12) rfl ?_
      refine J_iload_n dX2_clear_12 (pc' := 13) rfl rfl ?_
      refine J_iconst dX2_clear_13 (pc' := 14) rfl (v := 0) ic_0 ?_
      refine J_zast (j := i) kd_352 (rfl) (by rw [ln_352]; omega) (by decide) dX2_clear_14 (pc' := 15) rfl ?_
      refine J_iinc dX2_clear_15 (pc' := 18) rfl rfl (v := nI (i + 1)) (nI_1 i) (by decide) rfl (l' := [some (.ref 351), some (.int (nI (i + 1)))]) rfl ?_
      refine J_goto dX2_clear_18 (pc' := 2) (by decide) ?_
      exact J_sto (S' := (S.1, dv_rw S.2.1 352 (fun _ => 0) (i + 1), S.2.2)) (by rw [← dv_rw_s]) (ih2 (i + 1) (by omega) (by omega))
  refine J_loc (l' := [some (.ref 351), some (.int (nI 0))]) (by simp only [nI_0, dv_b_f, dv_b_t]) ?_
  refine J_sto (S' := (S.1, dv_rw S.2.1 352 (fun _ => 0) 0, S.2.2)) (by rw [dv_rw_0]) ?_
  exact hlp2 0 (Nat.zero_le _) 
set_option maxRecDepth 100000 in
set_option maxHeartbeats 400000 in
theorem qX6_howManyMean (d : Nat) (S : dv_S) (x : Int32) (n : Nat) (hn : S.1 185 2 = nI n) (hm : n ≤ 150) : dv_M yX6_howManyMean cX6_howManyMean 4 (some .int) (dv_rm (d + 0)) [.ref 185, .int x] S (fun r S' => r = some (.int (nI (dv_ct (fun j => decide (S.2.1 187 j = x)) n))) ∧ S' = S) := by
  refine dv_M_of [some (.ref 185), some (.int x), none, none] (by decide) (fun _ _ => Nat.le_of_ble_eq_true rfl) (fun _ _ => rfl) ?_
  refine J_iconst dX6_howManyMean_0 (pc' := 1) rfl (v := 0) ic_0 ?_
  refine J_istore_n dX6_howManyMean_1 (pc' := 2) rfl rfl (by decide) rfl (l' := [some (.ref 185), some (.int x), some (.int 0), none]) rfl ?_
  refine J_iconst dX6_howManyMean_2 (pc' := 3) rfl (v := 0) ic_0 ?_
  refine J_istore_n dX6_howManyMean_3 (pc' := 4) rfl rfl (by decide) rfl (l' := [some (.ref 185), some (.int x), some (.int 0), some (.int 0)]) rfl ?_
  have hlp4 : ∀ i, i ≤ n → dv_J yX6_howManyMean cX6_howManyMean 4 (some .int) (dv_rm (d + 0)) 0 0 4 [some (.ref 185), some (.int x), some (.int (nI (dv_ct (fun j => decide (S.2.1 187 j = x)) i))), some (.int (nI i))] [] S (fun r S' => r = some (.int (nI (dv_ct (fun j => decide (S.2.1 187 j = x)) n))) ∧ S' = S) := by
    refine dv_up (P := fun i => dv_J yX6_howManyMean cX6_howManyMean 4 (some .int) (dv_rm (d + 0)) 0 0 4 [some (.ref 185), some (.int x), some (.int (nI (dv_ct (fun j => decide (S.2.1 187 j = x)) i))), some (.int (nI i))] [] S (fun r S' => r = some (.int (nI (dv_ct (fun j => decide (S.2.1 187 j = x)) n))) ∧ S' = S)) ?_
    intro i hi4 ih4 
    refine J_iload_n dX6_howManyMean_4 (pc' := 5) rfl rfl ?_
    refine J_aload_n dX6_howManyMean_5 (pc' := 6) rfl rfl ?_
    refine J_geti fX6_18 kd_185 rf_185_2 dX6_howManyMean_6 (pc' := 9) rfl ?_
    refine J_top (w := .int (nI n)) (by rw [hn]) ?_
    refine J_icmp_ge dX6_howManyMean_9 (pt := 31) (by decide) (pc' := 12) rfl (fun c9 => ?_) (fun c9 => ?_)
    · have hx := dv_ge hi4 (by omega) c9
      refine J_iload_n dX6_howManyMean_31 (pc' := 32) rfl rfl ?_
      refine J_iret dX6_howManyMean_32 rfl (dv_r1 _) ?_
      exact ⟨by rw [hx], rfl⟩
    · have hx := dv_nge hi4 (by omega) c9
      refine J_aload_n dX6_howManyMean_12 (pc' := 13) rfl rfl ?_
      refine J_getr fX6_15 kd_185 rf_185_1 dX6_howManyMean_13 (pc' := 16) rfl ?_
      refine J_iload_n dX6_howManyMean_16 (pc' := 17) rfl rfl ?_
      refine J_iald (j := i) kd_187 (rfl) (by rw [ln_187]; omega) dX6_howManyMean_17 (pc' := 18) rfl ?_
      refine J_iload_n dX6_howManyMean_18 (pc' := 19) rfl rfl ?_
      refine J_icmp_ne dX6_howManyMean_19 (pt := 25) (by decide) (pc' := 22) rfl (fun c19 => ?_) (fun c19 => ?_)
      · refine J_iinc dX6_howManyMean_25 (pc' := 28) rfl rfl (v := nI (i + 1)) (nI_1 i) (by decide) rfl (l' := [some (.ref 185), some (.int x), some (.int (nI (dv_ct (fun j => decide (S.2.1 187 j = x)) i))), some (.int (nI (i + 1)))]) rfl ?_
        refine J_goto dX6_howManyMean_28 (pc' := 4) (by decide) ?_
        refine J_loc ?_ (ih4 (i + 1) (by omega) (by omega))
        clear ih4
        first | simp only [dv_ct_sf (p := (fun j => decide (S.2.1 187 j = x))) (n := i) (decide_eq_false c19)] | simp only [dv_ct_st (p := (fun j => decide (S.2.1 187 j = x))) (n := i) (decide_eq_true c19)]
      · refine J_iinc dX6_howManyMean_22 (pc' := 25) rfl rfl (v := nI ((dv_ct (fun j => decide (S.2.1 187 j = x)) i) + 1)) (nI_1 (dv_ct (fun j => decide (S.2.1 187 j = x)) i)) (by decide) rfl (l' := [some (.ref 185), some (.int x), some (.int (nI ((dv_ct (fun j => decide (S.2.1 187 j = x)) i) + 1))), some (.int (nI i))]) rfl ?_
        refine J_iinc dX6_howManyMean_25 (pc' := 28) rfl rfl (v := nI (i + 1)) (nI_1 i) (by decide) rfl (l' := [some (.ref 185), some (.int x), some (.int (nI ((dv_ct (fun j => decide (S.2.1 187 j = x)) i) + 1))), some (.int (nI (i + 1)))]) rfl ?_
        refine J_goto dX6_howManyMean_28 (pc' := 4) (by decide) ?_
        refine J_loc ?_ (ih4 (i + 1) (by omega) (by omega))
        clear ih4
        first | simp only [dv_ct_sf (p := (fun j => decide (S.2.1 187 j = x))) (n := i) (decide_eq_false c19)] | simp only [dv_ct_st (p := (fun j => decide (S.2.1 187 j = x))) (n := i) (decide_eq_true c19)]
  refine J_loc (l' := [some (.ref 185), some (.int x), some (.int (nI (dv_ct (fun j => decide (S.2.1 187 j = x)) 0))), some (.int (nI 0))]) (by simp only [nI_0, dv_ct]) ?_
  exact hlp4 0 (Nat.zero_le _) 
set_option maxRecDepth 100000 in
set_option maxHeartbeats 400000 in
theorem qX6_add (d : Nat) (S : dv_S) (x y : Int32) (n : Nat) (hn : S.1 185 2 = nI n) (hm : n < 150) : dv_M yX6_add cX6_add 4 (some .int) (dv_rm (d + 1)) [.ref 185, .int x, .int y] S (fun r S' => r = some (.int (nI n)) ∧ S' = (dv_u S.1 185 2 (nI (n + 1)), dv_u (dv_u S.2.1 186 n x) 187 n y, S.2.2)) := by
  refine dv_M_of [some (.ref 185), some (.int x), some (.int y), none] (by decide) (fun _ _ => Nat.le_of_ble_eq_true rfl) (fun _ _ => rfl) ?_
  refine J_aload_n dX6_add_0 (pc' := 1) rfl rfl ?_
  refine J_v1 (As := []) (rest := []) (qX6_isFull _ _) vX6_isFull mX6_22 kd_185 dX6_add_1 (pc' := 4) rfl rfl (Nat.le_of_ble_eq_true rfl) (by decide) ?_
  refine J_beq dX6_add_4 (pt := 9) (by decide) (pc' := 7) rfl (fun c4 => ?_) (fun c4 => ?_)
  · refine J_aload_n dX6_add_9 (pc' := 10) rfl rfl ?_
    refine J_geti fX6_18 kd_185 rf_185_2 dX6_add_10 (pc' := 13) rfl ?_
    refine J_istore_n dX6_add_13 (pc' := 14) rfl rfl (by decide) rfl (l' := [some (.ref 185), some (.int x), some (.int y), some (.int (S.1 185 2))]) rfl ?_
    refine J_aload_n dX6_add_14 (pc' := 15) rfl rfl ?_
    refine J_getr fX6_9 kd_185 rf_185_0 dX6_add_15 (pc' := 18) rfl ?_
    refine J_iload_n dX6_add_18 (pc' := 19) rfl rfl ?_
    refine J_iload_n dX6_add_19 (pc' := 20) rfl rfl ?_
    refine J_iast (j := n) kd_186 (hn) (by rw [ln_186]; omega) dX6_add_20 (pc' := 21) rfl ?_
    refine J_aload_n dX6_add_21 (pc' := 22) rfl rfl ?_
    refine J_getr fX6_15 kd_185 rf_185_1 dX6_add_22 (pc' := 25) rfl ?_
    refine J_iload_n dX6_add_25 (pc' := 26) rfl rfl ?_
    refine J_iload_n dX6_add_26 (pc' := 27) rfl rfl ?_
    refine J_iast (j := n) kd_187 (hn) (by rw [ln_187]; omega) dX6_add_27 (pc' := 28) rfl ?_
    refine J_aload_n dX6_add_28 (pc' := 29) rfl rfl ?_
    refine J_dup dX6_add_29 (pc' := 30) rfl rfl ?_
    refine J_geti fX6_18 kd_185 rf_185_2 dX6_add_30 (pc' := 33) rfl ?_
    refine J_iconst dX6_add_33 (pc' := 34) rfl (v := 1) ic_1 ?_
    refine J_iadd dX6_add_34 (pc' := 35) rfl ?_
    refine J_puti fX6_18 kd_185 rf_185_2 dX6_add_35 (pc' := 38) rfl ?_
    refine J_iload_n dX6_add_38 (pc' := 39) rfl rfl ?_
    refine J_iret dX6_add_39 rfl (dv_r1 _) ?_
    exact ⟨by rw [hn], by simp [hn, nI_1]⟩
  · rw [hn, dv_n150] at c4
    exact absurd (of_decide_eq_true c4) (nI_ge hm (by decide))
set_option maxRecDepth 100000 in
set_option maxHeartbeats 400000 in
theorem qX3_isWithin (d : Nat) (S : dv_S) (p q n : Nat) (hn : S.1 19 1 = nI n) (hp : p < n) (hq : q < n) (hm : n ≤ 20) : dv_M yX3_isWithin cX3_isWithin 3 (some .boolean) (dv_rm (d + 1)) [.ref 19, .int (nI p), .int (nI q)] S (fun r S' => r = some (.int (dv_b (decide ((S.2.1 20 p >>> (nI q &&& 31)) &&& 1 = 1)))) ∧ S' = S) := by
  refine dv_M_of [some (.ref 19), some (.int (nI p)), some (.int (nI q))] (by decide) (fun _ _ => Nat.le_of_ble_eq_true rfl) (fun _ _ => rfl) ?_
  refine J_aload_n dX3_isWithin_0 (pc' := 1) rfl rfl ?_
  refine J_iload_n dX3_isWithin_1 (pc' := 2) rfl rfl ?_
  refine J_v1 (As := [.int (nI p)]) (rest := []) (qX3_has _ _ _) vX3_has mX3_23 kd_19 dX3_isWithin_2 (pc' := 5) rfl rfl (Nat.le_of_ble_eq_true rfl) (by decide) ?_
  refine J_beq dX3_isWithin_5 (pt := 34) (by decide) (pc' := 8) rfl (fun c5 => ?_) (fun c5 => ?_)
  · exact absurd (dv_has hp hn (by omega)) (by rw [c5]; decide)
  · refine J_aload_n dX3_isWithin_8 (pc' := 9) rfl rfl ?_
    refine J_iload_n dX3_isWithin_9 (pc' := 10) rfl rfl ?_
    refine J_v1 (As := [.int (nI q)]) (rest := []) (qX3_has _ _ _) vX3_has mX3_23 kd_19 dX3_isWithin_10 (pc' := 13) rfl rfl (Nat.le_of_ble_eq_true rfl) (by decide) ?_
    refine J_beq dX3_isWithin_13 (pt := 34) (by decide) (pc' := 16) rfl (fun c13 => ?_) (fun c13 => ?_)
    · exact absurd (dv_has hq hn (by omega)) (by rw [c13]; decide)
    · refine J_aload_n dX3_isWithin_16 (pc' := 17) rfl rfl ?_
      refine J_getr fX3_9 kd_19 rf_19_0 dX3_isWithin_17 (pc' := 20) rfl ?_
      refine J_iload_n dX3_isWithin_20 (pc' := 21) rfl rfl ?_
      refine J_iald (j := p) kd_20 (rfl) (by rw [ln_20]; omega) dX3_isWithin_21 (pc' := 22) rfl ?_
      refine J_iload_n dX3_isWithin_22 (pc' := 23) rfl rfl ?_
      refine J_ishr dX3_isWithin_23 (pc' := 24) rfl ?_
      refine J_iconst dX3_isWithin_24 (pc' := 25) rfl (v := 1) ic_1 ?_
      refine J_iand dX3_isWithin_25 (pc' := 26) rfl ?_
      refine J_iconst dX3_isWithin_26 (pc' := 27) rfl (v := 1) ic_1 ?_
      refine J_icmp_ne dX3_isWithin_27 (pt := 34) (by decide) (pc' := 30) rfl (fun c27 => ?_) (fun c27 => ?_)
      · refine J_iconst dX3_isWithin_34 (pc' := 35) rfl (v := 0) ic_0 ?_
        refine J_zret dX3_isWithin_35 rfl (by decide) (dv_r1 _) ?_
        exact ⟨by simp [dv_b, *], rfl⟩
      · refine J_iconst dX3_isWithin_30 (pc' := 31) rfl (v := 1) ic_1 ?_
        refine J_goto dX3_isWithin_31 (pc' := 35) (by decide) ?_
        refine J_zret dX3_isWithin_35 rfl (by decide) (dv_r1 _) ?_
        exact ⟨by simp [dv_b, *], rfl⟩
set_option maxRecDepth 100000 in
set_option maxHeartbeats 400000 in
theorem qX3_addWithin (d : Nat) (S : dv_S) (p n : Nat) (hn : S.1 19 1 = nI n) (hp : p < n) (hm : n < 20) : dv_M yX3_addWithin cX3_addWithin 3 (some .int) (dv_rm (d + 1)) [.ref 19, .int (nI p)] S (fun r S' => r = some (.int (nI n)) ∧ S' = (dv_u S.1 19 1 (nI (n + 1)), dv_u S.2.1 20 n (S.2.1 20 p ||| (1 <<< (nI n &&& 31))), S.2.2)) := by
  refine dv_M_of [some (.ref 19), some (.int (nI p)), none] (by decide) (fun _ _ => Nat.le_of_ble_eq_true rfl) (fun _ _ => rfl) ?_
  refine J_aload_n dX3_addWithin_0 (pc' := 1) rfl rfl ?_
  refine J_v1 (As := []) (rest := []) (qX3_isFull _ _) vX3_isFull mX3_19 kd_19 dX3_addWithin_1 (pc' := 4) rfl rfl (Nat.le_of_ble_eq_true rfl) (by decide) ?_
  refine J_bne dX3_addWithin_4 (pt := 15) (by decide) (pc' := 7) rfl (fun c4 => ?_) (fun c4 => ?_)
  · rw [hn, dv_n20] at c4
    exact absurd (of_decide_eq_true c4) (nI_ge hm (by decide))
  · refine J_aload_n dX3_addWithin_7 (pc' := 8) rfl rfl ?_
    refine J_iload_n dX3_addWithin_8 (pc' := 9) rfl rfl ?_
    refine J_v1 (As := [.int (nI p)]) (rest := []) (qX3_has _ _ _) vX3_has mX3_23 kd_19 dX3_addWithin_9 (pc' := 12) rfl rfl (Nat.le_of_ble_eq_true rfl) (by decide) ?_
    refine J_bne dX3_addWithin_12 (pt := 17) (by decide) (pc' := 15) rfl (fun c12 => ?_) (fun c12 => ?_)
    · refine J_aload_n dX3_addWithin_17 (pc' := 18) rfl rfl ?_
      refine J_geti fX3_15 kd_19 rf_19_1 dX3_addWithin_18 (pc' := 21) rfl ?_
      refine J_istore_n dX3_addWithin_21 (pc' := 22) rfl rfl (by decide) rfl (l' := [some (.ref 19), some (.int (nI p)), some (.int (S.1 19 1))]) rfl ?_
      refine J_aload_n dX3_addWithin_22 (pc' := 23) rfl rfl ?_
      refine J_getr fX3_9 kd_19 rf_19_0 dX3_addWithin_23 (pc' := 26) rfl ?_
      refine J_iload_n dX3_addWithin_26 (pc' := 27) rfl rfl ?_
      refine J_aload_n dX3_addWithin_27 (pc' := 28) rfl rfl ?_
      refine J_getr fX3_9 kd_19 rf_19_0 dX3_addWithin_28 (pc' := 31) rfl ?_
      refine J_iload_n dX3_addWithin_31 (pc' := 32) rfl rfl ?_
      refine J_iald (j := p) kd_20 (rfl) (by rw [ln_20]; omega) dX3_addWithin_32 (pc' := 33) rfl ?_
      refine J_iconst dX3_addWithin_33 (pc' := 34) rfl (v := 1) ic_1 ?_
      refine J_iload_n dX3_addWithin_34 (pc' := 35) rfl rfl ?_
      refine J_ishl dX3_addWithin_35 (pc' := 36) rfl ?_
      refine J_ior dX3_addWithin_36 (pc' := 37) rfl ?_
      refine J_iast (j := n) kd_20 (hn) (by rw [ln_20]; omega) dX3_addWithin_37 (pc' := 38) rfl ?_
      refine J_aload_n dX3_addWithin_38 (pc' := 39) rfl rfl ?_
      refine J_dup dX3_addWithin_39 (pc' := 40) rfl rfl ?_
      refine J_geti fX3_15 kd_19 rf_19_1 dX3_addWithin_40 (pc' := 43) rfl ?_
      refine J_iconst dX3_addWithin_43 (pc' := 44) rfl (v := 1) ic_1 ?_
      refine J_iadd dX3_addWithin_44 (pc' := 45) rfl ?_
      refine J_puti fX3_15 kd_19 rf_19_1 dX3_addWithin_45 (pc' := 48) rfl ?_
      refine J_iload_n dX3_addWithin_48 (pc' := 49) rfl rfl ?_
      refine J_iret dX3_addWithin_49 rfl (dv_r1 _) ?_
      exact ⟨by rw [hn], by simp [hn, nI_1]⟩
    · exact absurd (dv_has hp hn (by omega)) (by rw [c12]; decide)
set_option maxRecDepth 100000 in
set_option maxHeartbeats 400000 in
theorem qX0_roleOf (d : Nat) (S : dv_S) (x : Int32) (n : Nat) (hn : S.1 13 5 = nI n) (hm : n ≤ 60) : dv_M yX0_roleOf cX0_roleOf 3 (some .int) (dv_rm (d + 2)) [.ref 13, .int x] S (fun r S' => r = some (.int (dv_gx (S.2.1 15) n x &&& -(dv_gx (S.2.1 15) n x))) ∧ S' = S) := by
  refine dv_M_of [some (.ref 13), some (.int x), none] (by decide) (fun _ _ => Nat.le_of_ble_eq_true rfl) (fun _ _ => rfl) ?_
  refine J_aload_n dX0_roleOf_0 (pc' := 1) rfl rfl ?_
  refine J_iload_n dX0_roleOf_1 (pc' := 2) rfl rfl ?_
  refine J_v1 (As := [.int x]) (rest := []) (qX0_rolesOf _ _ _ n hn hm) vX0_rolesOf mX0_46 kd_13 dX0_roleOf_2 (pc' := 5) rfl rfl (Nat.le_of_ble_eq_true rfl) (by decide) ?_
  refine J_istore_n dX0_roleOf_5 (pc' := 6) rfl rfl (by decide) rfl (l' := [some (.ref 13), some (.int x), some (.int (dv_gx (S.2.1 15) n x))]) rfl ?_
  refine J_iload_n dX0_roleOf_6 (pc' := 7) rfl rfl ?_
  refine J_iload_n dX0_roleOf_7 (pc' := 8) rfl rfl ?_
  refine J_ineg dX0_roleOf_8 (pc' := 9) rfl ?_
  refine J_iand dX0_roleOf_9 (pc' := 10) rfl ?_
  refine J_iret dX0_roleOf_10 rfl (dv_r1 _) ?_
  exact ⟨rfl, rfl⟩
set_option maxRecDepth 100000 in
set_option maxHeartbeats 400000 in
theorem qX0_numberOf (d : Nat) (S : dv_S) (key : Int64) (n : Nat) (hn : S.1 13 5 = nI n) (hm : n ≤ 60) : dv_M yX0_numberOf cX0_numberOf 4 (some .int) (dv_rm (d + 0)) [.ref 13, .long key] S (fun r S' => r = some (.int (dv_oi (dv_fo (fun j => decide (S.2.2 14 j = key)) n))) ∧ S' = S) := by
  refine dv_M_of [some (.ref 13), some (.long key), none, none] (by decide) (fun _ _ => Nat.le_of_ble_eq_true rfl) (fun _ _ => rfl) ?_
  refine J_iconst dX0_numberOf_0 (pc' := 1) rfl (v := 0) ic_0 ?_
  refine J_istore_n dX0_numberOf_1 (pc' := 2) rfl rfl (by decide) rfl (l' := [some (.ref 13), some (.long key), none, some (.int 0)]) rfl ?_
  have hlp2 : ∀ i, i ≤ n → (∀ j, j < i → decide (S.2.2 14 j = key) = false) → dv_J yX0_numberOf cX0_numberOf 4 (some .int) (dv_rm (d + 0)) 0 0 2 [some (.ref 13), some (.long key), none, some (.int (nI i))] [] S (fun r S' => r = some (.int (dv_oi (dv_fo (fun j => decide (S.2.2 14 j = key)) n))) ∧ S' = S) := by
    refine dv_up (P := fun i => (∀ j, j < i → decide (S.2.2 14 j = key) = false) → dv_J yX0_numberOf cX0_numberOf 4 (some .int) (dv_rm (d + 0)) 0 0 2 [some (.ref 13), some (.long key), none, some (.int (nI i))] [] S (fun r S' => r = some (.int (dv_oi (dv_fo (fun j => decide (S.2.2 14 j = key)) n))) ∧ S' = S)) ?_
    intro i hi2 ih2 hq
    refine J_iload_n dX0_numberOf_2 (pc' := 3) rfl rfl ?_
    refine J_aload_n dX0_numberOf_3 (pc' := 4) rfl rfl ?_
    refine J_geti fX0_28 kd_13 rf_13_5 dX0_numberOf_4 (pc' := 7) rfl ?_
    refine J_top (w := .int (nI n)) (by rw [hn]) ?_
    refine J_icmp_ge dX0_numberOf_7 (pt := 29) (by decide) (pc' := 10) rfl (fun c7 => ?_) (fun c7 => ?_)
    · have hx := dv_ge hi2 (by omega) c7
      refine J_bipush dX0_numberOf_29 (pc' := 31) rfl (v := (-2)) bp_m2 ?_
      refine J_iret dX0_numberOf_31 rfl (dv_r1 _) ?_
      first | exact ⟨by rw [dv_fo_some hx (by simpa using c18) hq]; rfl, rfl⟩ | exact ⟨by rw [dv_fo_none (fun j hj => hq j (by omega))]; rfl, rfl⟩
    · have hx := dv_nge hi2 (by omega) c7
      refine J_aload_n dX0_numberOf_10 (pc' := 11) rfl rfl ?_
      refine J_getr fX0_9 kd_13 rf_13_0 dX0_numberOf_11 (pc' := 14) rfl ?_
      refine J_iload_n dX0_numberOf_14 (pc' := 15) rfl rfl ?_
      refine J_lald (j := i) kd_14 (rfl) (by rw [ln_14]; omega) dX0_numberOf_15 (pc' := 16) rfl ?_
      refine J_lload_n dX0_numberOf_16 (pc' := 17) rfl rfl ?_
      refine J_lcmp dX0_numberOf_17 (pc' := 18) rfl ?_
      refine J_if_ne dX0_numberOf_18 (pt := 23) (by decide) (pc' := 21) rfl (fun c18 => ?_) (fun c18 => ?_)
      · rw [dv_cmp0] at c18
        refine J_iinc dX0_numberOf_23 (pc' := 26) rfl rfl (v := nI (i + 1)) (nI_1 i) (by decide) rfl (l' := [some (.ref 13), some (.long key), none, some (.int (nI (i + 1)))]) rfl ?_
        refine J_goto dX0_numberOf_26 (pc' := 2) (by decide) ?_
        exact ih2 (i + 1) (by omega) (by omega) (lt_s hq (by simpa using c18))
      · rw [dv_cmp0] at c18
        refine J_iload_n dX0_numberOf_21 (pc' := 22) rfl rfl ?_
        refine J_iret dX0_numberOf_22 rfl (dv_r1 _) ?_
        first | exact ⟨by rw [dv_fo_some hx (by simpa using c18) hq]; rfl, rfl⟩ | exact ⟨by rw [dv_fo_none (fun j hj => hq j (by omega))]; rfl, rfl⟩
  refine J_loc (l' := [some (.ref 13), some (.long key), none, some (.int (nI 0))]) (by simp only [nI_0, dv_b_f, dv_b_t]) ?_
  exact hlp2 0 (Nat.zero_le _) (fun j hj => absurd hj (Nat.not_lt_zero j))
set_option maxRecDepth 100000 in
set_option maxHeartbeats 400000 in
theorem qX0_add (d : Nat) (S : dv_S) (key : Int64) (x : Int32) (n : Nat) (hn : S.1 13 5 = nI n) (hm : n < 60) : dv_M yX0_add cX0_add 5 (some .int) (dv_rm (d + 1)) [.ref 13, .long key, .int x] S (fun r S' => r = some (.int (nI n)) ∧ S' = (dv_u S.1 13 5 (nI (n + 1)), dv_u (dv_u (dv_u S.2.1 15 n x) 16 n (-1)) 17 n (nI n), dv_u S.2.2 14 n key)) := by
  refine dv_M_of [some (.ref 13), some (.long key), none, some (.int x), none] (by decide) (fun _ _ => Nat.le_of_ble_eq_true rfl) (fun _ _ => rfl) ?_
  refine J_aload_n dX0_add_0 (pc' := 1) rfl rfl ?_
  refine J_v1 (As := []) (rest := []) (qX0_isFull _ _) vX0_isFull mX0_32 kd_13 dX0_add_1 (pc' := 4) rfl rfl (Nat.le_of_ble_eq_true rfl) (by decide) ?_
  refine J_beq dX0_add_4 (pt := 9) (by decide) (pc' := 7) rfl (fun c4 => ?_) (fun c4 => ?_)
  · refine J_aload_n dX0_add_9 (pc' := 10) rfl rfl ?_
    refine J_geti fX0_28 kd_13 rf_13_5 dX0_add_10 (pc' := 13) rfl ?_
    refine J_istore dX0_add_13 (pc' := 15) rfl (by decide) rfl (l' := [some (.ref 13), some (.long key), none, some (.int x), some (.int (S.1 13 5))]) rfl ?_
    refine J_aload_n dX0_add_15 (pc' := 16) rfl rfl ?_
    refine J_getr fX0_9 kd_13 rf_13_0 dX0_add_16 (pc' := 19) rfl ?_
    refine J_iload dX0_add_19 (pc' := 21) rfl rfl ?_
    refine J_lload_n dX0_add_21 (pc' := 22) rfl rfl ?_
    refine J_last (j := n) kd_14 (hn) (by rw [ln_14]; omega) dX0_add_22 (pc' := 23) rfl ?_
    refine J_aload_n dX0_add_23 (pc' := 24) rfl rfl ?_
    refine J_getr fX0_15 kd_13 rf_13_1 dX0_add_24 (pc' := 27) rfl ?_
    refine J_iload dX0_add_27 (pc' := 29) rfl rfl ?_
    refine J_iload_n dX0_add_29 (pc' := 30) rfl rfl ?_
    refine J_iast (j := n) kd_15 (hn) (by rw [ln_15]; omega) dX0_add_30 (pc' := 31) rfl ?_
    refine J_aload_n dX0_add_31 (pc' := 32) rfl rfl ?_
    refine J_getr fX0_19 kd_13 rf_13_2 dX0_add_32 (pc' := 35) rfl ?_
    refine J_iload dX0_add_35 (pc' := 37) rfl rfl ?_
    refine J_iconst dX0_add_37 (pc' := 38) rfl (v := (-1)) ic_m1 ?_
    refine J_iast (j := n) kd_16 (hn) (by rw [ln_16]; omega) dX0_add_38 (pc' := 39) rfl ?_
    refine J_aload_n dX0_add_39 (pc' := 40) rfl rfl ?_
    refine J_getr fX0_22 kd_13 rf_13_3 dX0_add_40 (pc' := 43) rfl ?_
    refine J_iload dX0_add_43 (pc' := 45) rfl rfl ?_
    refine J_iload dX0_add_45 (pc' := 47) rfl rfl ?_
    refine J_iast (j := n) kd_17 (hn) (by rw [ln_17]; omega) dX0_add_47 (pc' := 48) rfl ?_
    refine J_aload_n dX0_add_48 (pc' := 49) rfl rfl ?_
    refine J_dup dX0_add_49 (pc' := 50) rfl rfl ?_
    refine J_geti fX0_28 kd_13 rf_13_5 dX0_add_50 (pc' := 53) rfl ?_
    refine J_iconst dX0_add_53 (pc' := 54) rfl (v := 1) ic_1 ?_
    refine J_iadd dX0_add_54 (pc' := 55) rfl ?_
    refine J_puti fX0_28 kd_13 rf_13_5 dX0_add_55 (pc' := 58) rfl ?_
    refine J_iload dX0_add_58 (pc' := 60) rfl rfl ?_
    refine J_iret dX0_add_60 rfl (dv_r1 _) ?_
    exact ⟨by rw [hn], by simp [hn, nI_1]⟩
  · rw [hn, dv_n60] at c4
    exact absurd (of_decide_eq_true c4) (nI_ge hm (by decide))
set_option maxRecDepth 100000 in
set_option maxHeartbeats 400000 in
theorem qX0_setShort (d : Nat) (S : dv_S) (j n : Nat) (x : Int32) (hn : S.1 13 5 = nI n) (hj : j < n) (hm : n ≤ 60) : dv_M yX0_setShort cX0_setShort 3 none (dv_rm (d + 1)) [.ref 13, .int (nI j), .int x] S (fun r S' => r = none ∧ S' = (S.1, dv_u S.2.1 16 j x, S.2.2)) := by
  refine dv_M_of [some (.ref 13), some (.int (nI j)), some (.int x)] (by decide) (fun _ _ => Nat.le_of_ble_eq_true rfl) (fun _ _ => rfl) ?_
  refine J_aload_n dX0_setShort_0 (pc' := 1) rfl rfl ?_
  refine J_iload_n dX0_setShort_1 (pc' := 2) rfl rfl ?_
  refine J_v1 (As := [.int (nI j)]) (rest := []) (qX0_has _ _ _) vX0_has mX0_36 kd_13 dX0_setShort_2 (pc' := 5) rfl rfl (Nat.le_of_ble_eq_true rfl) (by decide) ?_
  refine J_beq dX0_setShort_5 (pt := 15) (by decide) (pc' := 8) rfl (fun c5 => ?_) (fun c5 => ?_)
  · exact absurd (dv_has hj hn (by omega)) (by rw [c5]; decide)
  · refine J_aload_n dX0_setShort_8 (pc' := 9) rfl rfl ?_
    refine J_getr fX0_19 kd_13 rf_13_2 dX0_setShort_9 (pc' := 12) rfl ?_
    refine J_iload_n dX0_setShort_12 (pc' := 13) rfl rfl ?_
    refine J_iload_n dX0_setShort_13 (pc' := 14) rfl rfl ?_
    refine J_iast (j := j) kd_16 (rfl) (by rw [ln_16]; omega) dX0_setShort_14 (pc' := 15) rfl ?_
    refine J_vret dX0_setShort_15 rfl (dv_r1 _) ?_
    exact ⟨rfl, rfl⟩
set_option maxRecDepth 100000 in
set_option maxHeartbeats 400000 in
theorem qX0_opened (d : Nat) (S : dv_S) (x : Int32) (n : Nat) (hn : S.1 13 5 = nI n) (hm : n ≤ 60) : dv_M yX0_opened cX0_opened 4 (some .int) (dv_rm (d + 2)) [.ref 13, .int x] S (fun r S' => r = some (.int (dv_op (dv_gm (S.2.1 16) n) 60 x)) ∧ S' = S) := by
  refine dv_M_of [some (.ref 13), some (.int x), none, none] (by decide) (fun _ _ => Nat.le_of_ble_eq_true rfl) (fun _ _ => rfl) ?_
  refine J_iload_n dX0_opened_0 (pc' := 1) rfl rfl ?_
  refine J_istore_n dX0_opened_1 (pc' := 2) rfl rfl (by decide) rfl (l' := [some (.ref 13), some (.int x), some (.int x), none]) rfl ?_
  refine J_iconst dX0_opened_2 (pc' := 3) rfl (v := 0) ic_0 ?_
  refine J_istore_n dX0_opened_3 (pc' := 4) rfl rfl (by decide) rfl (l' := [some (.ref 13), some (.int x), some (.int x), some (.int 0)]) rfl ?_
  have hlp4 : ∀ i, i ≤ 60 → ∀ (v : Int32), (dv_op (dv_gm (S.2.1 16) n) (60 - i) v) = (dv_op (dv_gm (S.2.1 16) n) 60 x) → dv_J yX0_opened cX0_opened 4 (some .int) (dv_rm (d + 2)) 0 0 4 [some (.ref 13), some (.int x), some (.int v), some (.int (nI i))] [] S (fun r S' => r = some (.int (dv_op (dv_gm (S.2.1 16) n) 60 x)) ∧ S' = S) := by
    refine dv_up (P := fun i => ∀ (v : Int32), (dv_op (dv_gm (S.2.1 16) n) (60 - i) v) = (dv_op (dv_gm (S.2.1 16) n) 60 x) → dv_J yX0_opened cX0_opened 4 (some .int) (dv_rm (d + 2)) 0 0 4 [some (.ref 13), some (.int x), some (.int v), some (.int (nI i))] [] S (fun r S' => r = some (.int (dv_op (dv_gm (S.2.1 16) n) 60 x)) ∧ S' = S)) ?_
    intro i hi4 ih4 v hv
    refine J_iload_n dX0_opened_4 (pc' := 5) rfl rfl ?_
    refine J_bipush dX0_opened_5 (pc' := 7) rfl (v := 60) bp_60 ?_
    refine J_top (w := .int (nI 60)) (by rw [dv_n60]) ?_
    refine J_icmp_ge dX0_opened_7 (pt := 31) (by decide) (pc' := 10) rfl (fun c7 => ?_) (fun c7 => ?_)
    · have hx := dv_ge hi4 (by omega) c7
      refine J_iload_n dX0_opened_31 (pc' := 32) rfl rfl ?_
      refine J_iret dX0_opened_32 rfl (dv_r1 _) ?_
      first
        | exact ⟨by rw [← hv, show 60 - i = (60 - (i + 1)) + 1 by omega, dv_op, if_pos c16], rfl⟩
        | exact ⟨by rw [← hv, show 60 - i = 0 by omega, dv_op], rfl⟩
    · have hx := dv_nge hi4 (by omega) c7
      refine J_aload_n dX0_opened_10 (pc' := 11) rfl rfl ?_
      refine J_iload_n dX0_opened_11 (pc' := 12) rfl rfl ?_
      refine J_v1 (As := [.int v]) (rest := []) (qX0_shortFor _ _ _ n hn hm) vX0_shortFor mX0_49 kd_13 dX0_opened_12 (pc' := 15) rfl rfl (Nat.le_of_ble_eq_true rfl) (by decide) ?_
      refine J_iconst dX0_opened_15 (pc' := 16) rfl (v := (-1)) ic_m1 ?_
      refine J_icmp_eq dX0_opened_16 (pt := 31) (by decide) (pc' := 19) rfl (fun c16 => ?_) (fun c16 => ?_)
      · refine J_iload_n dX0_opened_31 (pc' := 32) rfl rfl ?_
        refine J_iret dX0_opened_32 rfl (dv_r1 _) ?_
        first
          | exact ⟨by rw [← hv, show 60 - i = (60 - (i + 1)) + 1 by omega, dv_op, if_pos c16], rfl⟩
          | exact ⟨by rw [← hv, show 60 - i = 0 by omega, dv_op], rfl⟩
      · refine J_aload_n dX0_opened_19 (pc' := 20) rfl rfl ?_
        refine J_iload_n dX0_opened_20 (pc' := 21) rfl rfl ?_
        refine J_v1 (As := [.int v]) (rest := []) (qX0_shortFor _ _ _ n hn hm) vX0_shortFor mX0_49 kd_13 dX0_opened_21 (pc' := 24) rfl rfl (Nat.le_of_ble_eq_true rfl) (by decide) ?_
        refine J_istore_n dX0_opened_24 (pc' := 25) rfl rfl (by decide) rfl (l' := [some (.ref 13), some (.int x), some (.int (dv_gm (S.2.1 16) n v)), some (.int (nI i))]) rfl ?_
        refine J_iinc dX0_opened_25 (pc' := 28) rfl rfl (v := nI (i + 1)) (nI_1 i) (by decide) rfl (l' := [some (.ref 13), some (.int x), some (.int (dv_gm (S.2.1 16) n v)), some (.int (nI (i + 1)))]) rfl ?_
        refine J_goto dX0_opened_28 (pc' := 4) (by decide) ?_
        refine ih4 (i + 1) (by omega) (by omega) _ ?_
        rw [← hv, show 60 - i = (60 - (i + 1)) + 1 by omega, dv_op, if_neg c16]
  refine J_loc (l' := [some (.ref 13), some (.int x), some (.int x), some (.int (nI 0))]) (by simp only [nI_0, dv_b_f, dv_b_t]) ?_
  exact hlp4 0 (Nat.zero_le _) x rfl
set_option maxRecDepth 100000 in
set_option maxHeartbeats 400000 in
theorem qX0_join (d : Nat) (S : dv_S) (p q n : Nat) (hn : S.1 13 5 = nI n) (hp : p < n) (hq : q < n) (hm : n ≤ 60) : dv_M yX0_join cX0_join 6 none (dv_rm (d + 1)) [.ref 13, .int (nI p), .int (nI q)] S (fun r S' => r = none ∧ S' = (S.1, dv_rw S.2.1 17 (fun k => if S.2.1 17 k = S.2.1 17 q then S.2.1 17 p else S.2.1 17 k) n, S.2.2)) := by
  refine dv_M_of [some (.ref 13), some (.int (nI p)), some (.int (nI q)), none, none, none] (by decide) (fun _ _ => Nat.le_of_ble_eq_true rfl) (fun _ _ => rfl) ?_
  refine J_aload_n dX0_join_0 (pc' := 1) rfl rfl ?_
  refine J_iload_n dX0_join_1 (pc' := 2) rfl rfl ?_
  refine J_v1 (As := [.int (nI p)]) (rest := []) (qX0_has _ _ _) vX0_has mX0_36 kd_13 dX0_join_2 (pc' := 5) rfl rfl (Nat.le_of_ble_eq_true rfl) (by decide) ?_
  refine J_beq dX0_join_5 (pt := 16) (by decide) (pc' := 8) rfl (fun c5 => ?_) (fun c5 => ?_)
  · exact absurd (dv_has hp hn (by omega)) (by rw [c5]; decide)
  · refine J_aload_n dX0_join_8 (pc' := 9) rfl rfl ?_
    refine J_iload_n dX0_join_9 (pc' := 10) rfl rfl ?_
    refine J_v1 (As := [.int (nI q)]) (rest := []) (qX0_has _ _ _) vX0_has mX0_36 kd_13 dX0_join_10 (pc' := 13) rfl rfl (Nat.le_of_ble_eq_true rfl) (by decide) ?_
    refine J_bne dX0_join_13 (pt := 17) (by decide) (pc' := 16) rfl (fun c13 => ?_) (fun c13 => ?_)
    · refine J_aload_n dX0_join_17 (pc' := 18) rfl rfl ?_
      refine J_getr fX0_22 kd_13 rf_13_3 dX0_join_18 (pc' := 21) rfl ?_
      refine J_iload_n dX0_join_21 (pc' := 22) rfl rfl ?_
      refine J_iald (j := p) kd_17 (rfl) (by rw [ln_17]; omega) dX0_join_22 (pc' := 23) rfl ?_
      refine J_istore_n dX0_join_23 (pc' := 24) rfl rfl (by decide) rfl (l' := [some (.ref 13), some (.int (nI p)), some (.int (nI q)), some (.int (S.2.1 17 p)), none, none]) rfl ?_
      refine J_aload_n dX0_join_24 (pc' := 25) rfl rfl ?_
      refine J_getr fX0_22 kd_13 rf_13_3 dX0_join_25 (pc' := 28) rfl ?_
      refine J_iload_n dX0_join_28 (pc' := 29) rfl rfl ?_
      refine J_iald (j := q) kd_17 (rfl) (by rw [ln_17]; omega) dX0_join_29 (pc' := 30) rfl ?_
      refine J_istore dX0_join_30 (pc' := 32) rfl (by decide) rfl (l' := [some (.ref 13), some (.int (nI p)), some (.int (nI q)), some (.int (S.2.1 17 p)), some (.int (S.2.1 17 q)), none]) rfl ?_
      refine J_iconst dX0_join_32 (pc' := 33) rfl (v := 0) ic_0 ?_
      refine J_istore dX0_join_33 (pc' := 35) rfl (by decide) rfl (l' := [some (.ref 13), some (.int (nI p)), some (.int (nI q)), some (.int (S.2.1 17 p)), some (.int (S.2.1 17 q)), some (.int 0)]) rfl ?_
      have hlp35 : ∀ i, i ≤ n → dv_J yX0_join cX0_join 6 none (dv_rm (d + 1)) 0 0 35 [some (.ref 13), some (.int (nI p)), some (.int (nI q)), some (.int (S.2.1 17 p)), some (.int (S.2.1 17 q)), some (.int (nI i))] [] (S.1, dv_rw S.2.1 17 (fun k => if S.2.1 17 k = S.2.1 17 q then S.2.1 17 p else S.2.1 17 k) i, S.2.2) (fun r S' => r = none ∧ S' = (S.1, dv_rw S.2.1 17 (fun k => if S.2.1 17 k = S.2.1 17 q then S.2.1 17 p else S.2.1 17 k) n, S.2.2)) := by
        refine dv_up (P := fun i => dv_J yX0_join cX0_join 6 none (dv_rm (d + 1)) 0 0 35 [some (.ref 13), some (.int (nI p)), some (.int (nI q)), some (.int (S.2.1 17 p)), some (.int (S.2.1 17 q)), some (.int (nI i))] [] (S.1, dv_rw S.2.1 17 (fun k => if S.2.1 17 k = S.2.1 17 q then S.2.1 17 p else S.2.1 17 k) i, S.2.2) (fun r S' => r = none ∧ S' = (S.1, dv_rw S.2.1 17 (fun k => if S.2.1 17 k = S.2.1 17 q then S.2.1 17 p else S.2.1 17 k) n, S.2.2))) ?_
        intro i hi35 ih35 
        refine J_iload dX0_join_35 (pc' := 37) rfl rfl ?_
        refine J_aload_n dX0_join_37 (pc' := 38) rfl rfl ?_
        refine J_geti fX0_28 kd_13 rf_13_5 dX0_join_38 (pc' := 41) rfl ?_
        refine J_top (w := .int (nI n)) (by simp [hn]) ?_
        refine J_icmp_ge dX0_join_41 (pt := 70) (by decide) (pc' := 44) rfl (fun c41 => ?_) (fun c41 => ?_)
        · have hx := dv_ge hi35 (by omega) c41
          refine J_vret dX0_join_70 rfl (dv_r1 _) ?_
          exact ⟨rfl, by rw [hx]⟩
        · have hx := dv_nge hi35 (by omega) c41
          refine J_aload_n dX0_join_44 (pc' := 45) rfl rfl ?_
          refine J_getr fX0_22 kd_13 rf_13_3 dX0_join_45 (pc' := 48) rfl ?_
          refine J_iload dX0_join_48 (pc' := 50) rfl rfl ?_
          refine J_iald (j := i) kd_17 (rfl) (by rw [ln_17]; omega) dX0_join_50 (pc' := 51) rfl ?_
          refine J_top (w := .int (S.2.1 17 i)) (by simp [dv_rw]) ?_
          refine J_iload dX0_join_51 (pc' := 53) rfl rfl ?_
          refine J_icmp_ne dX0_join_53 (pt := 64) (by decide) (pc' := 56) rfl (fun c53 => ?_) (fun c53 => ?_)
          · refine J_iinc dX0_join_64 (pc' := 67) rfl rfl (v := nI (i + 1)) (nI_1 i) (by decide) rfl (l' := [some (.ref 13), some (.int (nI p)), some (.int (nI q)), some (.int (S.2.1 17 p)), some (.int (S.2.1 17 q)), some (.int (nI (i + 1)))]) rfl ?_
            refine J_goto dX0_join_67 (pc' := 35) (by decide) ?_
            refine J_sto (S' := (S.1, dv_rw S.2.1 17 (fun k => if S.2.1 17 k = S.2.1 17 q then S.2.1 17 p else S.2.1 17 k) (i + 1), S.2.2)) ?_ (ih35 (i + 1) (by omega) (by omega))
            clear ih35
            rw [← dv_rw_s]
            first | (rw [if_pos c53]; done) | (rw [if_neg c53, dv_ui _ _ _ _ (by simp [dv_rw])]; done)
          · refine J_aload_n dX0_join_56 (pc' := 57) rfl rfl ?_
            refine J_getr fX0_22 kd_13 rf_13_3 dX0_join_57 (pc' := 60) rfl ?_
            refine J_iload dX0_join_60 (pc' := 62) rfl rfl ?_
            refine J_iload_n dX0_join_62 (pc' := 63) rfl rfl ?_
            refine J_iast (j := i) kd_17 (rfl) (by rw [ln_17]; omega) dX0_join_63 (pc' := 64) rfl ?_
            refine J_iinc dX0_join_64 (pc' := 67) rfl rfl (v := nI (i + 1)) (nI_1 i) (by decide) rfl (l' := [some (.ref 13), some (.int (nI p)), some (.int (nI q)), some (.int (S.2.1 17 p)), some (.int (S.2.1 17 q)), some (.int (nI (i + 1)))]) rfl ?_
            refine J_goto dX0_join_67 (pc' := 35) (by decide) ?_
            refine J_sto (S' := (S.1, dv_rw S.2.1 17 (fun k => if S.2.1 17 k = S.2.1 17 q then S.2.1 17 p else S.2.1 17 k) (i + 1), S.2.2)) ?_ (ih35 (i + 1) (by omega) (by omega))
            clear ih35
            rw [← dv_rw_s]
            first | (rw [if_pos c53]; done) | (rw [if_neg c53, dv_ui _ _ _ _ (by simp [dv_rw])]; done)
      refine J_loc (l' := [some (.ref 13), some (.int (nI p)), some (.int (nI q)), some (.int (S.2.1 17 p)), some (.int (S.2.1 17 q)), some (.int (nI 0))]) (by simp only [nI_0, dv_b_f, dv_b_t]) ?_
      refine J_sto (S' := (S.1, dv_rw S.2.1 17 (fun k => if S.2.1 17 k = S.2.1 17 q then S.2.1 17 p else S.2.1 17 k) 0, S.2.2)) (by rw [dv_rw_0]) ?_
      exact hlp35 0 (Nat.zero_le _) 
    · exact absurd (dv_has hq hn (by omega)) (by rw [c13]; decide)
set_option maxRecDepth 100000 in
set_option maxHeartbeats 400000 in
theorem qX0_groupSize (d : Nat) (S : dv_S) (p n : Nat) (hn : S.1 13 5 = nI n) (hp : p < n) (hm : n ≤ 60) : dv_M yX0_groupSize cX0_groupSize 4 (some .int) (dv_rm (d + 1)) [.ref 13, .int (nI p)] S (fun r S' => r = some (.int (nI (dv_ct (fun k => decide (S.2.1 17 k = S.2.1 17 p)) n))) ∧ S' = S) := by
  refine dv_M_of [some (.ref 13), some (.int (nI p)), none, none] (by decide) (fun _ _ => Nat.le_of_ble_eq_true rfl) (fun _ _ => rfl) ?_
  refine J_iconst dX0_groupSize_0 (pc' := 1) rfl (v := 0) ic_0 ?_
  refine J_istore_n dX0_groupSize_1 (pc' := 2) rfl rfl (by decide) rfl (l' := [some (.ref 13), some (.int (nI p)), some (.int 0), none]) rfl ?_
  refine J_iconst dX0_groupSize_2 (pc' := 3) rfl (v := 0) ic_0 ?_
  refine J_istore_n dX0_groupSize_3 (pc' := 4) rfl rfl (by decide) rfl (l' := [some (.ref 13), some (.int (nI p)), some (.int 0), some (.int 0)]) rfl ?_
  have hlp4 : ∀ i, i ≤ n → dv_J yX0_groupSize cX0_groupSize 4 (some .int) (dv_rm (d + 1)) 0 0 4 [some (.ref 13), some (.int (nI p)), some (.int (nI (dv_ct (fun k => decide (S.2.1 17 k = S.2.1 17 p)) i))), some (.int (nI i))] [] S (fun r S' => r = some (.int (nI (dv_ct (fun k => decide (S.2.1 17 k = S.2.1 17 p)) n))) ∧ S' = S) := by
    refine dv_up (P := fun i => dv_J yX0_groupSize cX0_groupSize 4 (some .int) (dv_rm (d + 1)) 0 0 4 [some (.ref 13), some (.int (nI p)), some (.int (nI (dv_ct (fun k => decide (S.2.1 17 k = S.2.1 17 p)) i))), some (.int (nI i))] [] S (fun r S' => r = some (.int (nI (dv_ct (fun k => decide (S.2.1 17 k = S.2.1 17 p)) n))) ∧ S' = S)) ?_
    intro i hi4 ih4 
    refine J_iload_n dX0_groupSize_4 (pc' := 5) rfl rfl ?_
    refine J_aload_n dX0_groupSize_5 (pc' := 6) rfl rfl ?_
    refine J_geti fX0_28 kd_13 rf_13_5 dX0_groupSize_6 (pc' := 9) rfl ?_
    refine J_top (w := .int (nI n)) (by rw [hn]) ?_
    refine J_icmp_ge dX0_groupSize_9 (pt := 44) (by decide) (pc' := 12) rfl (fun c9 => ?_) (fun c9 => ?_)
    · have hx := dv_ge hi4 (by omega) c9
      refine J_iload_n dX0_groupSize_44 (pc' := 45) rfl rfl ?_
      refine J_iret dX0_groupSize_45 rfl (dv_r1 _) ?_
      exact ⟨by rw [hx], rfl⟩
    · have hx := dv_nge hi4 (by omega) c9
      refine J_aload_n dX0_groupSize_12 (pc' := 13) rfl rfl ?_
      refine J_iload_n dX0_groupSize_13 (pc' := 14) rfl rfl ?_
      refine J_v1 (As := [.int (nI p)]) (rest := []) (qX0_has _ _ _) vX0_has mX0_36 kd_13 dX0_groupSize_14 (pc' := 17) rfl rfl (Nat.le_of_ble_eq_true rfl) (by decide) ?_
      refine J_beq dX0_groupSize_17 (pt := 38) (by decide) (pc' := 20) rfl (fun c17 => ?_) (fun c17 => ?_)
      · exact absurd (dv_has hp hn (by omega)) (by rw [c17]; decide)
      · refine J_aload_n dX0_groupSize_20 (pc' := 21) rfl rfl ?_
        refine J_getr fX0_22 kd_13 rf_13_3 dX0_groupSize_21 (pc' := 24) rfl ?_
        refine J_iload_n dX0_groupSize_24 (pc' := 25) rfl rfl ?_
        refine J_iald (j := i) kd_17 (rfl) (by rw [ln_17]; omega) dX0_groupSize_25 (pc' := 26) rfl ?_
        refine J_aload_n dX0_groupSize_26 (pc' := 27) rfl rfl ?_
        refine J_getr fX0_22 kd_13 rf_13_3 dX0_groupSize_27 (pc' := 30) rfl ?_
        refine J_iload_n dX0_groupSize_30 (pc' := 31) rfl rfl ?_
        refine J_iald (j := p) kd_17 (rfl) (by rw [ln_17]; omega) dX0_groupSize_31 (pc' := 32) rfl ?_
        refine J_icmp_ne dX0_groupSize_32 (pt := 38) (by decide) (pc' := 35) rfl (fun c32 => ?_) (fun c32 => ?_)
        · refine J_iinc dX0_groupSize_38 (pc' := 41) rfl rfl (v := nI (i + 1)) (nI_1 i) (by decide) rfl (l' := [some (.ref 13), some (.int (nI p)), some (.int (nI (dv_ct (fun k => decide (S.2.1 17 k = S.2.1 17 p)) i))), some (.int (nI (i + 1)))]) rfl ?_
          refine J_goto dX0_groupSize_41 (pc' := 4) (by decide) ?_
          refine J_loc ?_ (ih4 (i + 1) (by omega) (by omega))
          clear ih4
          first | simp only [dv_ct_sf (p := (fun k => decide (S.2.1 17 k = S.2.1 17 p))) (n := i) (decide_eq_false c32)] | simp only [dv_ct_st (p := (fun k => decide (S.2.1 17 k = S.2.1 17 p))) (n := i) (decide_eq_true c32)]
        · refine J_iinc dX0_groupSize_35 (pc' := 38) rfl rfl (v := nI ((dv_ct (fun k => decide (S.2.1 17 k = S.2.1 17 p)) i) + 1)) (nI_1 (dv_ct (fun k => decide (S.2.1 17 k = S.2.1 17 p)) i)) (by decide) rfl (l' := [some (.ref 13), some (.int (nI p)), some (.int (nI ((dv_ct (fun k => decide (S.2.1 17 k = S.2.1 17 p)) i) + 1))), some (.int (nI i))]) rfl ?_
          refine J_iinc dX0_groupSize_38 (pc' := 41) rfl rfl (v := nI (i + 1)) (nI_1 i) (by decide) rfl (l' := [some (.ref 13), some (.int (nI p)), some (.int (nI ((dv_ct (fun k => decide (S.2.1 17 k = S.2.1 17 p)) i) + 1))), some (.int (nI (i + 1)))]) rfl ?_
          refine J_goto dX0_groupSize_41 (pc' := 4) (by decide) ?_
          refine J_loc ?_ (ih4 (i + 1) (by omega) (by omega))
          clear ih4
          first | simp only [dv_ct_sf (p := (fun k => decide (S.2.1 17 k = S.2.1 17 p))) (n := i) (decide_eq_false c32)] | simp only [dv_ct_st (p := (fun k => decide (S.2.1 17 k = S.2.1 17 p))) (n := i) (decide_eq_true c32)]
  refine J_loc (l' := [some (.ref 13), some (.int (nI p)), some (.int (nI (dv_ct (fun k => decide (S.2.1 17 k = S.2.1 17 p)) 0))), some (.int (nI 0))]) (by simp only [nI_0, dv_ct]) ?_
  exact hlp4 0 (Nat.zero_le _) 
set_option maxRecDepth 100000 in
set_option maxHeartbeats 400000 in
theorem qX0_clearUsed (d : Nat) (S : dv_S) (n : Nat) (hn : S.1 13 5 = nI n) (hm : n ≤ 60) : dv_M yX0_clearUsed cX0_clearUsed 2 none (dv_rm (d + 0)) [.ref 13] S (fun r S' => r = none ∧ S' = (S.1, dv_rw S.2.1 18 (fun _ => 0) n, S.2.2)) := by
  refine dv_M_of [some (.ref 13), none] (by decide) (fun _ _ => Nat.le_of_ble_eq_true rfl) (fun _ _ => rfl) ?_
  refine J_iconst dX0_clearUsed_0 (pc' := 1) rfl (v := 0) ic_0 ?_
  refine J_istore_n dX0_clearUsed_1 (pc' := 2) rfl rfl (by decide) rfl (l' := [some (.ref 13), some (.int 0)]) rfl ?_
  have hlp2 : ∀ i, i ≤ n → dv_J yX0_clearUsed cX0_clearUsed 2 none (dv_rm (d + 0)) 0 0 2 [some (.ref 13), some (.int (nI i))] [] (S.1, dv_rw S.2.1 18 (fun _ => 0) i, S.2.2) (fun r S' => r = none ∧ S' = (S.1, dv_rw S.2.1 18 (fun _ => 0) n, S.2.2)) := by
    refine dv_up (P := fun i => dv_J yX0_clearUsed cX0_clearUsed 2 none (dv_rm (d + 0)) 0 0 2 [some (.ref 13), some (.int (nI i))] [] (S.1, dv_rw S.2.1 18 (fun _ => 0) i, S.2.2) (fun r S' => r = none ∧ S' = (S.1, dv_rw S.2.1 18 (fun _ => 0) n, S.2.2))) ?_
    intro i hi2 ih2 
    refine J_iload_n dX0_clearUsed_2 (pc' := 3) rfl rfl ?_
    refine J_aload_n dX0_clearUsed_3 (pc' := 4) rfl rfl ?_
    refine J_geti fX0_28 kd_13 rf_13_5 dX0_clearUsed_4 (pc' := 7) rfl ?_
    refine J_top (w := .int (nI n)) (by simp [hn]) ?_
    refine J_icmp_ge dX0_clearUsed_7 (pt := 23) (by decide) (pc' := 10) rfl (fun c7 => ?_) (fun c7 => ?_)
    · have hx := dv_ge hi2 (by omega) c7
      refine J_vret dX0_clearUsed_23 rfl (dv_r1 _) ?_
      exact ⟨rfl, by rw [hx]⟩
    · have hx := dv_nge hi2 (by omega) c7
      refine J_aload_n dX0_clearUsed_10 (pc' := 11) rfl rfl ?_
      refine J_getr fX0_25 kd_13 rf_13_4 dX0_clearUsed_11 (pc' := 14) rfl ?_
      refine J_iload_n dX0_clearUsed_14 (pc' := 15) rfl rfl ?_
      refine J_iconst dX0_clearUsed_15 (pc' := 16) rfl (v := 0) ic_0 ?_
      refine J_iast (j := i) kd_18 (rfl) (by rw [ln_18]; omega) dX0_clearUsed_16 (pc' := 17) rfl ?_
      refine J_iinc dX0_clearUsed_17 (pc' := 20) rfl rfl (v := nI (i + 1)) (nI_1 i) (by decide) rfl (l' := [some (.ref 13), some (.int (nI (i + 1)))]) rfl ?_
      refine J_goto dX0_clearUsed_20 (pc' := 2) (by decide) ?_
      exact J_sto (S' := (S.1, dv_rw S.2.1 18 (fun _ => 0) (i + 1), S.2.2)) (by rw [← dv_rw_s]) (ih2 (i + 1) (by omega) (by omega))
  refine J_loc (l' := [some (.ref 13), some (.int (nI 0))]) (by simp only [nI_0, dv_b_f, dv_b_t]) ?_
  refine J_sto (S' := (S.1, dv_rw S.2.1 18 (fun _ => 0) 0, S.2.2)) (by rw [dv_rw_0]) ?_
  exact hlp2 0 (Nat.zero_le _) 
set_option maxRecDepth 100000 in
set_option maxHeartbeats 400000 in
theorem qX0_addUsed (d : Nat) (S : dv_S) (j n : Nat) (hn : S.1 13 5 = nI n) (hj : j < n) (hm : n ≤ 60) : dv_M yX0_addUsed cX0_addUsed 2 none (dv_rm (d + 1)) [.ref 13, .int (nI j)] S (fun r S' => r = none ∧ S' = (S.1, dv_u S.2.1 18 j (S.2.1 18 j + 1), S.2.2)) := by
  refine dv_M_of [some (.ref 13), some (.int (nI j))] (by decide) (fun _ _ => Nat.le_of_ble_eq_true rfl) (fun _ _ => rfl) ?_
  refine J_aload_n dX0_addUsed_0 (pc' := 1) rfl rfl ?_
  refine J_iload_n dX0_addUsed_1 (pc' := 2) rfl rfl ?_
  refine J_v1 (As := [.int (nI j)]) (rest := []) (qX0_has _ _ _) vX0_has mX0_36 kd_13 dX0_addUsed_2 (pc' := 5) rfl rfl (Nat.le_of_ble_eq_true rfl) (by decide) ?_
  refine J_beq dX0_addUsed_5 (pt := 18) (by decide) (pc' := 8) rfl (fun c5 => ?_) (fun c5 => ?_)
  · exact absurd (dv_has hj hn (by omega)) (by rw [c5]; decide)
  · refine J_aload_n dX0_addUsed_8 (pc' := 9) rfl rfl ?_
    refine J_getr fX0_25 kd_13 rf_13_4 dX0_addUsed_9 (pc' := 12) rfl ?_
    refine J_iload_n dX0_addUsed_12 (pc' := 13) rfl rfl ?_
    refine J_dup2 dX0_addUsed_13 (pc' := 14) rfl rfl rfl ?_
    refine J_iald (j := j) kd_18 (rfl) (by rw [ln_18]; omega) dX0_addUsed_14 (pc' := 15) rfl ?_
    refine J_iconst dX0_addUsed_15 (pc' := 16) rfl (v := 1) ic_1 ?_
    refine J_iadd dX0_addUsed_16 (pc' := 17) rfl ?_
    refine J_iast (j := j) kd_18 (rfl) (by rw [ln_18]; omega) dX0_addUsed_17 (pc' := 18) rfl ?_
    refine J_vret dX0_addUsed_18 rfl (dv_r1 _) ?_
    exact ⟨rfl, rfl⟩
set_option maxRecDepth 100000 in
set_option maxHeartbeats 400000 in
theorem qX0_addUsedN (d : Nat) (S : dv_S) (x : Int32) (hx : decide (0 ≤ x ∧ x < S.1 13 5) = false) : dv_M yX0_addUsed cX0_addUsed 2 none (dv_rm (d + 1)) [.ref 13, .int x] S (fun r S' => r = none ∧ S' = S) := by
  refine dv_M_of [some (.ref 13), some (.int x)] (by decide) (fun _ _ => Nat.le_of_ble_eq_true rfl) (fun _ _ => rfl) ?_
  refine J_aload_n dX0_addUsed_0 (pc' := 1) rfl rfl ?_
  refine J_iload_n dX0_addUsed_1 (pc' := 2) rfl rfl ?_
  refine J_v1 (As := [.int x]) (rest := []) (qX0_has _ _ _) vX0_has mX0_36 kd_13 dX0_addUsed_2 (pc' := 5) rfl rfl (Nat.le_of_ble_eq_true rfl) (by decide) ?_
  refine J_beq dX0_addUsed_5 (pt := 18) (by decide) (pc' := 8) rfl (fun c5 => ?_) (fun c5 => ?_)
  · refine J_vret dX0_addUsed_18 rfl (dv_r1 _) ?_
    exact ⟨rfl, rfl⟩
  · exact absurd c5 (by rw [hx]; decide)
set_option maxRecDepth 100000 in
set_option maxHeartbeats 400000 in
theorem qX0_headOf (d : Nat) (S : dv_S) (p n : Nat) (hn : S.1 13 5 = nI n) (hp : p < n) (hm : n ≤ 60) : dv_M yX0_headOf cX0_headOf 4 (some .int) (dv_rm (d + 2)) [.ref 13, .int (nI p)] S (fun r S' => r = some (.int (dv_oi (dv_hd (S.2.1 17) (S.2.1 18) (S.2.1 17 p) n))) ∧ S' = S) := by
  refine dv_M_of [some (.ref 13), some (.int (nI p)), none, none] (by decide) (fun _ _ => Nat.le_of_ble_eq_true rfl) (fun _ _ => rfl) ?_
  refine J_bipush dX0_headOf_0 (pc' := 2) rfl (v := (-2)) bp_m2 ?_
  refine J_istore_n dX0_headOf_2 (pc' := 3) rfl rfl (by decide) rfl (l' := [some (.ref 13), some (.int (nI p)), some (.int ((-2))), none]) rfl ?_
  refine J_iconst dX0_headOf_3 (pc' := 4) rfl (v := 0) ic_0 ?_
  refine J_istore_n dX0_headOf_4 (pc' := 5) rfl rfl (by decide) rfl (l' := [some (.ref 13), some (.int (nI p)), some (.int ((-2))), some (.int 0)]) rfl ?_
  have hlp5 : ∀ i, i ≤ n → dv_J yX0_headOf cX0_headOf 4 (some .int) (dv_rm (d + 2)) 0 0 5 [some (.ref 13), some (.int (nI p)), some (.int (dv_oi (dv_hd (S.2.1 17) (S.2.1 18) (S.2.1 17 p) i))), some (.int (nI i))] [] S (fun r S' => r = some (.int (dv_oi (dv_hd (S.2.1 17) (S.2.1 18) (S.2.1 17 p) n))) ∧ S' = S) := by
    refine dv_up (P := fun i => dv_J yX0_headOf cX0_headOf 4 (some .int) (dv_rm (d + 2)) 0 0 5 [some (.ref 13), some (.int (nI p)), some (.int (dv_oi (dv_hd (S.2.1 17) (S.2.1 18) (S.2.1 17 p) i))), some (.int (nI i))] [] S (fun r S' => r = some (.int (dv_oi (dv_hd (S.2.1 17) (S.2.1 18) (S.2.1 17 p) n))) ∧ S' = S)) ?_
    intro i hi5 ih5 
    refine J_iload_n dX0_headOf_5 (pc' := 6) rfl rfl ?_
    refine J_aload_n dX0_headOf_6 (pc' := 7) rfl rfl ?_
    refine J_geti fX0_28 kd_13 rf_13_5 dX0_headOf_7 (pc' := 10) rfl ?_
    refine J_top (w := .int (nI n)) (by rw [hn]) ?_
    refine J_icmp_ge dX0_headOf_10 (pt := 64) (by decide) (pc' := 13) rfl (fun c10 => ?_) (fun c10 => ?_)
    · have hx := dv_ge hi5 (by omega) c10
      refine J_iload_n dX0_headOf_64 (pc' := 65) rfl rfl ?_
      refine J_iret dX0_headOf_65 rfl (dv_r1 _) ?_
      exact ⟨by rw [hx], rfl⟩
    · have hx := dv_nge hi5 (by omega) c10
      refine J_aload_n dX0_headOf_13 (pc' := 14) rfl rfl ?_
      refine J_iload_n dX0_headOf_14 (pc' := 15) rfl rfl ?_
      refine J_v1 (As := [.int (nI p)]) (rest := []) (qX0_has _ _ _) vX0_has mX0_36 kd_13 dX0_headOf_15 (pc' := 18) rfl rfl (Nat.le_of_ble_eq_true rfl) (by decide) ?_
      refine J_beq dX0_headOf_18 (pt := 58) (by decide) (pc' := 21) rfl (fun c18 => ?_) (fun c18 => ?_)
      · exact absurd (dv_has hp hn (by omega)) (by rw [c18]; decide)
      · refine J_aload_n dX0_headOf_21 (pc' := 22) rfl rfl ?_
        refine J_getr fX0_22 kd_13 rf_13_3 dX0_headOf_22 (pc' := 25) rfl ?_
        refine J_iload_n dX0_headOf_25 (pc' := 26) rfl rfl ?_
        refine J_iald (j := i) kd_17 (rfl) (by rw [ln_17]; omega) dX0_headOf_26 (pc' := 27) rfl ?_
        refine J_aload_n dX0_headOf_27 (pc' := 28) rfl rfl ?_
        refine J_getr fX0_22 kd_13 rf_13_3 dX0_headOf_28 (pc' := 31) rfl ?_
        refine J_iload_n dX0_headOf_31 (pc' := 32) rfl rfl ?_
        refine J_iald (j := p) kd_17 (rfl) (by rw [ln_17]; omega) dX0_headOf_32 (pc' := 33) rfl ?_
        refine J_icmp_ne dX0_headOf_33 (pt := 58) (by decide) (pc' := 36) rfl (fun c33 => ?_) (fun c33 => ?_)
        · refine J_iinc dX0_headOf_58 (pc' := 61) rfl rfl (v := nI (i + 1)) (nI_1 i) (by decide) rfl (l' := [some (.ref 13), some (.int (nI p)), some (.int (dv_oi (dv_hd (S.2.1 17) (S.2.1 18) (S.2.1 17 p) i))), some (.int (nI (i + 1)))]) rfl ?_
          refine J_goto dX0_headOf_61 (pc' := 5) (by decide) ?_
          refine J_loc ?_ (ih5 (i + 1) (by omega) (by omega))
          clear ih5
          first
            | simp only [dv_hd_n (u := S.2.1 18) c33]
            | simp only [dv_hd_0 c33 ((dv_oi_m2 (fun j hj => by have := dv_hd_lt _ _ _ _ _ hj; omega)).mp c39), dv_oi]
            | simp only [dv_hd_k c33 hh (Int32.not_lt.mpr c53)]
            | simp only [dv_hd_y c33 hh (Int32.not_le.mp c53), dv_oi]
        · refine J_iload_n dX0_headOf_36 (pc' := 37) rfl rfl ?_
          refine J_bipush dX0_headOf_37 (pc' := 39) rfl (v := (-2)) bp_m2 ?_
          refine J_icmp_eq dX0_headOf_39 (pt := 56) (by decide) (pc' := 42) rfl (fun c39 => ?_) (fun c39 => ?_)
          · refine J_iload_n dX0_headOf_56 (pc' := 57) rfl rfl ?_
            refine J_istore_n dX0_headOf_57 (pc' := 58) rfl rfl (by decide) rfl (l' := [some (.ref 13), some (.int (nI p)), some (.int (nI i)), some (.int (nI i))]) rfl ?_
            refine J_iinc dX0_headOf_58 (pc' := 61) rfl rfl (v := nI (i + 1)) (nI_1 i) (by decide) rfl (l' := [some (.ref 13), some (.int (nI p)), some (.int (nI i)), some (.int (nI (i + 1)))]) rfl ?_
            refine J_goto dX0_headOf_61 (pc' := 5) (by decide) ?_
            refine J_loc ?_ (ih5 (i + 1) (by omega) (by omega))
            clear ih5
            first
              | simp only [dv_hd_n (u := S.2.1 18) c33]
              | simp only [dv_hd_0 c33 ((dv_oi_m2 (fun j hj => by have := dv_hd_lt _ _ _ _ _ hj; omega)).mp c39), dv_oi]
              | simp only [dv_hd_k c33 hh (Int32.not_lt.mpr c53)]
              | simp only [dv_hd_y c33 hh (Int32.not_le.mp c53), dv_oi]
          · have hs : ∃ h, dv_hd (S.2.1 17) (S.2.1 18) (S.2.1 17 p) i = some h := by
              cases hh : dv_hd (S.2.1 17) (S.2.1 18) (S.2.1 17 p) i with
              | none => rw [hh] at c39; exact absurd rfl c39
              | some h => exact ⟨h, rfl⟩
            obtain ⟨h, hh⟩ := hs
            have hh2 := dv_hd_lt _ _ _ _ _ hh
            rw [hh] at c39
            refine J_aload_n dX0_headOf_42 (pc' := 43) rfl rfl ?_
            refine J_getr fX0_25 kd_13 rf_13_4 dX0_headOf_43 (pc' := 46) rfl ?_
            refine J_iload_n dX0_headOf_46 (pc' := 47) rfl rfl ?_
            refine J_iald (j := i) kd_18 (rfl) (by rw [ln_18]; omega) dX0_headOf_47 (pc' := 48) rfl ?_
            refine J_aload_n dX0_headOf_48 (pc' := 49) rfl rfl ?_
            refine J_iload_n dX0_headOf_49 (pc' := 50) rfl rfl ?_
            refine J_v1 (As := [.int (dv_oi (dv_hd (S.2.1 17) (S.2.1 18) (S.2.1 17 p) i))]) (rest := [.int (S.2.1 18 i)]) (qX0_usedOf _ _ _ n hn hm) vX0_usedOf mX0_52 kd_13 dX0_headOf_50 (pc' := 53) rfl rfl (Nat.le_of_ble_eq_true rfl) (by decide) ?_
            refine J_top (w := .int (S.2.1 18 h)) (by rw [hh]; simp only [dv_oi]; rw [dv_gx_in (by omega) (by omega)]) ?_
            refine J_icmp_le dX0_headOf_53 (pt := 58) (by decide) (pc' := 56) rfl (fun c53 => ?_) (fun c53 => ?_)
            · refine J_iinc dX0_headOf_58 (pc' := 61) rfl rfl (v := nI (i + 1)) (nI_1 i) (by decide) rfl (l' := [some (.ref 13), some (.int (nI p)), some (.int (dv_oi (dv_hd (S.2.1 17) (S.2.1 18) (S.2.1 17 p) i))), some (.int (nI (i + 1)))]) rfl ?_
              refine J_goto dX0_headOf_61 (pc' := 5) (by decide) ?_
              refine J_loc ?_ (ih5 (i + 1) (by omega) (by omega))
              clear ih5
              first
                | simp only [dv_hd_n (u := S.2.1 18) c33]
                | simp only [dv_hd_0 c33 ((dv_oi_m2 (fun j hj => by have := dv_hd_lt _ _ _ _ _ hj; omega)).mp c39), dv_oi]
                | simp only [dv_hd_k c33 hh (Int32.not_lt.mpr c53)]
                | simp only [dv_hd_y c33 hh (Int32.not_le.mp c53), dv_oi]
            · refine J_iload_n dX0_headOf_56 (pc' := 57) rfl rfl ?_
              refine J_istore_n dX0_headOf_57 (pc' := 58) rfl rfl (by decide) rfl (l' := [some (.ref 13), some (.int (nI p)), some (.int (nI i)), some (.int (nI i))]) rfl ?_
              refine J_iinc dX0_headOf_58 (pc' := 61) rfl rfl (v := nI (i + 1)) (nI_1 i) (by decide) rfl (l' := [some (.ref 13), some (.int (nI p)), some (.int (nI i)), some (.int (nI (i + 1)))]) rfl ?_
              refine J_goto dX0_headOf_61 (pc' := 5) (by decide) ?_
              refine J_loc ?_ (ih5 (i + 1) (by omega) (by omega))
              clear ih5
              first
                | simp only [dv_hd_n (u := S.2.1 18) c33]
                | simp only [dv_hd_0 c33 ((dv_oi_m2 (fun j hj => by have := dv_hd_lt _ _ _ _ _ hj; omega)).mp c39), dv_oi]
                | simp only [dv_hd_k c33 hh (Int32.not_lt.mpr c53)]
                | simp only [dv_hd_y c33 hh (Int32.not_le.mp c53), dv_oi]
  refine J_loc (l' := [some (.ref 13), some (.int (nI p)), some (.int (dv_oi (dv_hd (S.2.1 17) (S.2.1 18) (S.2.1 17 p) 0))), some (.int (nI 0))]) (by simp only [nI_0, dv_hd, dv_oi]) ?_
  exact hlp5 0 (Nat.zero_le _) 
set_option maxRecDepth 100000 in
set_option maxHeartbeats 400000 in
theorem qX0_headOfN (d : Nat) (S : dv_S) (x : Int32) (n : Nat) (hn : S.1 13 5 = nI n) (hm : n ≤ 60) (hz : decide (0 ≤ x ∧ x < S.1 13 5) = false) : dv_M yX0_headOf cX0_headOf 4 (some .int) (dv_rm (d + 2)) [.ref 13, .int x] S (fun r S' => r = some (.int (-2)) ∧ S' = S) := by
  refine dv_M_of [some (.ref 13), some (.int x), none, none] (by decide) (fun _ _ => Nat.le_of_ble_eq_true rfl) (fun _ _ => rfl) ?_
  refine J_bipush dX0_headOf_0 (pc' := 2) rfl (v := (-2)) bp_m2 ?_
  refine J_istore_n dX0_headOf_2 (pc' := 3) rfl rfl (by decide) rfl (l' := [some (.ref 13), some (.int x), some (.int ((-2))), none]) rfl ?_
  refine J_iconst dX0_headOf_3 (pc' := 4) rfl (v := 0) ic_0 ?_
  refine J_istore_n dX0_headOf_4 (pc' := 5) rfl rfl (by decide) rfl (l' := [some (.ref 13), some (.int x), some (.int ((-2))), some (.int 0)]) rfl ?_
  have hlp5 : ∀ i, i ≤ n → dv_J yX0_headOf cX0_headOf 4 (some .int) (dv_rm (d + 2)) 0 0 5 [some (.ref 13), some (.int x), some (.int ((-2))), some (.int (nI i))] [] S (fun r S' => r = some (.int (-2)) ∧ S' = S) := by
    refine dv_up (P := fun i => dv_J yX0_headOf cX0_headOf 4 (some .int) (dv_rm (d + 2)) 0 0 5 [some (.ref 13), some (.int x), some (.int ((-2))), some (.int (nI i))] [] S (fun r S' => r = some (.int (-2)) ∧ S' = S)) ?_
    intro i hi5 ih5 
    refine J_iload_n dX0_headOf_5 (pc' := 6) rfl rfl ?_
    refine J_aload_n dX0_headOf_6 (pc' := 7) rfl rfl ?_
    refine J_geti fX0_28 kd_13 rf_13_5 dX0_headOf_7 (pc' := 10) rfl ?_
    refine J_top (w := .int (nI n)) (by rw [hn]) ?_
    refine J_icmp_ge dX0_headOf_10 (pt := 64) (by decide) (pc' := 13) rfl (fun c10 => ?_) (fun c10 => ?_)
    · have hx := dv_ge hi5 (by omega) c10
      refine J_iload_n dX0_headOf_64 (pc' := 65) rfl rfl ?_
      refine J_iret dX0_headOf_65 rfl (dv_r1 _) ?_
      exact ⟨rfl, rfl⟩
    · have hx := dv_nge hi5 (by omega) c10
      refine J_aload_n dX0_headOf_13 (pc' := 14) rfl rfl ?_
      refine J_iload_n dX0_headOf_14 (pc' := 15) rfl rfl ?_
      refine J_v1 (As := [.int x]) (rest := []) (qX0_has _ _ _) vX0_has mX0_36 kd_13 dX0_headOf_15 (pc' := 18) rfl rfl (Nat.le_of_ble_eq_true rfl) (by decide) ?_
      refine J_beq dX0_headOf_18 (pt := 58) (by decide) (pc' := 21) rfl (fun c18 => ?_) (fun c18 => ?_)
      · refine J_iinc dX0_headOf_58 (pc' := 61) rfl rfl (v := nI (i + 1)) (nI_1 i) (by decide) rfl (l' := [some (.ref 13), some (.int x), some (.int ((-2))), some (.int (nI (i + 1)))]) rfl ?_
        refine J_goto dX0_headOf_61 (pc' := 5) (by decide) ?_
        exact ih5 (i + 1) (by omega) (by omega)
      · exact absurd c18 (by rw [hz]; decide)
  refine J_loc (l' := [some (.ref 13), some (.int x), some (.int ((-2))), some (.int (nI 0))]) (by simp only [nI_0, dv_b_f, dv_b_t]) ?_
  exact hlp5 0 (Nat.zero_le _) 
set_option maxRecDepth 100000 in
set_option maxHeartbeats 400000 in
theorem qX0_mixedGroups (d : Nat) (S : dv_S) (n : Nat) (hn : S.1 13 5 = nI n) (hm : n ≤ 60) : dv_M yX0_mixedGroups cX0_mixedGroups 5 (some .int) (dv_rm (d + 0)) [.ref 13] S (fun r S' => r = some (.int (nI (dv_ct (fun z => decide (1 < dv_ct (fun k => decide (S.2.1 17 k = nI z ∧ 0 < S.2.1 18 k)) n)) n))) ∧ S' = S) := by
  refine dv_M_of [some (.ref 13), none, none, none, none] (by decide) (fun _ _ => Nat.le_of_ble_eq_true rfl) (fun _ _ => rfl) ?_
  refine J_iconst dX0_mixedGroups_0 (pc' := 1) rfl (v := 0) ic_0 ?_
  refine J_istore_n dX0_mixedGroups_1 (pc' := 2) rfl rfl (by decide) rfl (l' := [some (.ref 13), some (.int 0), none, none, none]) rfl ?_
  refine J_iconst dX0_mixedGroups_2 (pc' := 3) rfl (v := 0) ic_0 ?_
  refine J_istore_n dX0_mixedGroups_3 (pc' := 4) rfl rfl (by decide) rfl (l' := [some (.ref 13), some (.int 0), some (.int 0), none, none]) rfl ?_
  have hlp4 : ∀ m, m ≤ n → dv_J yX0_mixedGroups cX0_mixedGroups 5 (some .int) (dv_rm (d + 0)) 0 0 4 [some (.ref 13), some (.int (nI (dv_ct (fun z => decide (1 < dv_ct (fun k => decide (S.2.1 17 k = nI z ∧ 0 < S.2.1 18 k)) n)) m))), some (.int (nI m)), none, none] [] S (fun r S' => r = some (.int (nI (dv_ct (fun z => decide (1 < dv_ct (fun k => decide (S.2.1 17 k = nI z ∧ 0 < S.2.1 18 k)) n)) n))) ∧ S' = S) := by
    refine dv_up (P := fun m => dv_J yX0_mixedGroups cX0_mixedGroups 5 (some .int) (dv_rm (d + 0)) 0 0 4 [some (.ref 13), some (.int (nI (dv_ct (fun z => decide (1 < dv_ct (fun k => decide (S.2.1 17 k = nI z ∧ 0 < S.2.1 18 k)) n)) m))), some (.int (nI m)), none, none] [] S (fun r S' => r = some (.int (nI (dv_ct (fun z => decide (1 < dv_ct (fun k => decide (S.2.1 17 k = nI z ∧ 0 < S.2.1 18 k)) n)) n))) ∧ S' = S)) ?_
    intro m hi4 ih4 
    refine J_iload_n dX0_mixedGroups_4 (pc' := 5) rfl rfl ?_
    refine J_aload_n dX0_mixedGroups_5 (pc' := 6) rfl rfl ?_
    refine J_geti fX0_28 kd_13 rf_13_5 dX0_mixedGroups_6 (pc' := 9) rfl ?_
    refine J_top (w := .int (nI n)) (by rw [hn]) ?_
    refine J_icmp_ge dX0_mixedGroups_9 (pt := 70) (by decide) (pc' := 12) rfl (fun c9 => ?_) (fun c9 => ?_)
    · have hx := dv_ge hi4 (by omega) c9
      refine J_iload_n dX0_mixedGroups_70 (pc' := 71) rfl rfl ?_
      refine J_iret dX0_mixedGroups_71 rfl (dv_r1 _) ?_
      exact ⟨by rw [hx], rfl⟩
    · have hx := dv_nge hi4 (by omega) c9
      refine J_iconst dX0_mixedGroups_12 (pc' := 13) rfl (v := 0) ic_0 ?_
      refine J_istore_n dX0_mixedGroups_13 (pc' := 14) rfl rfl (by decide) rfl (l' := [some (.ref 13), some (.int (nI (dv_ct (fun z => decide (1 < dv_ct (fun k => decide (S.2.1 17 k = nI z ∧ 0 < S.2.1 18 k)) n)) m))), some (.int (nI m)), some (.int 0), none]) rfl ?_
      refine J_iconst dX0_mixedGroups_14 (pc' := 15) rfl (v := 0) ic_0 ?_
      refine J_istore dX0_mixedGroups_15 (pc' := 17) rfl (by decide) rfl (l' := [some (.ref 13), some (.int (nI (dv_ct (fun z => decide (1 < dv_ct (fun k => decide (S.2.1 17 k = nI z ∧ 0 < S.2.1 18 k)) n)) m))), some (.int (nI m)), some (.int 0), some (.int 0)]) rfl ?_
      have hlp17 : ∀ i, i ≤ n → dv_J yX0_mixedGroups cX0_mixedGroups 5 (some .int) (dv_rm (d + 0)) 0 0 17 [some (.ref 13), some (.int (nI (dv_ct (fun z => decide (1 < dv_ct (fun k => decide (S.2.1 17 k = nI z ∧ 0 < S.2.1 18 k)) n)) m))), some (.int (nI m)), some (.int (nI (dv_ct (fun k => decide (S.2.1 17 k = nI m ∧ 0 < S.2.1 18 k)) i))), some (.int (nI i))] [] S (fun r S' => r = some (.int (nI (dv_ct (fun z => decide (1 < dv_ct (fun k => decide (S.2.1 17 k = nI z ∧ 0 < S.2.1 18 k)) n)) n))) ∧ S' = S) := by
        refine dv_up (P := fun i => dv_J yX0_mixedGroups cX0_mixedGroups 5 (some .int) (dv_rm (d + 0)) 0 0 17 [some (.ref 13), some (.int (nI (dv_ct (fun z => decide (1 < dv_ct (fun k => decide (S.2.1 17 k = nI z ∧ 0 < S.2.1 18 k)) n)) m))), some (.int (nI m)), some (.int (nI (dv_ct (fun k => decide (S.2.1 17 k = nI m ∧ 0 < S.2.1 18 k)) i))), some (.int (nI i))] [] S (fun r S' => r = some (.int (nI (dv_ct (fun z => decide (1 < dv_ct (fun k => decide (S.2.1 17 k = nI z ∧ 0 < S.2.1 18 k)) n)) n))) ∧ S' = S)) ?_
        intro i hi17 ih17 
        refine J_iload dX0_mixedGroups_17 (pc' := 19) rfl rfl ?_
        refine J_aload_n dX0_mixedGroups_19 (pc' := 20) rfl rfl ?_
        refine J_geti fX0_28 kd_13 rf_13_5 dX0_mixedGroups_20 (pc' := 23) rfl ?_
        refine J_top (w := .int (nI n)) (by rw [hn]) ?_
        refine J_icmp_ge dX0_mixedGroups_23 (pt := 56) (by decide) (pc' := 26) rfl (fun c23 => ?_) (fun c23 => ?_)
        · have hy := dv_ge hi17 (by omega) c23
          have hyl := dv_ct_le (fun k => decide (S.2.1 17 k = nI m ∧ 0 < S.2.1 18 k)) n
          refine J_iload_n dX0_mixedGroups_56 (pc' := 57) rfl rfl ?_
          refine J_iconst dX0_mixedGroups_57 (pc' := 58) rfl (v := 1) ic_1 ?_
          refine J_icmp_le dX0_mixedGroups_58 (pt := 64) (by decide) (pc' := 61) rfl (fun c58 => ?_) (fun c58 => ?_)
          · rw [hy, dv_n1, nI_leI (by omega) (by omega)] at c58
            refine J_iinc dX0_mixedGroups_64 (pc' := 67) rfl rfl (v := nI (m + 1)) (nI_1 m) (by decide) rfl (l' := [some (.ref 13), some (.int (nI (dv_ct (fun z => decide (1 < dv_ct (fun k => decide (S.2.1 17 k = nI z ∧ 0 < S.2.1 18 k)) n)) m))), some (.int (nI (m + 1))), some (.int (nI (dv_ct (fun k => decide (S.2.1 17 k = nI m ∧ 0 < S.2.1 18 k)) i))), some (.int (nI i))]) rfl ?_
            refine J_goto dX0_mixedGroups_67 (pc' := 4) (by decide) ?_
            refine J_drop 3 (l' := [some (.ref 13), some (.int (nI (dv_ct (fun z => decide (1 < dv_ct (fun k => decide (S.2.1 17 k = nI z ∧ 0 < S.2.1 18 k)) n)) m))), some (.int (nI (m + 1))), none, some (.int (nI i))]) rfl ?_
            refine J_drop 4 (l' := [some (.ref 13), some (.int (nI (dv_ct (fun z => decide (1 < dv_ct (fun k => decide (S.2.1 17 k = nI z ∧ 0 < S.2.1 18 k)) n)) m))), some (.int (nI (m + 1))), none, none]) rfl ?_
            refine J_loc ?_ (ih4 (m + 1) (by omega) (by omega))
            clear ih4
            first | simp only [dv_ct_sf (p := (fun z => decide (1 < dv_ct (fun k => decide (S.2.1 17 k = nI z ∧ 0 < S.2.1 18 k)) n))) (n := m) (decide_eq_false (by omega))] | simp only [dv_ct_st (p := (fun z => decide (1 < dv_ct (fun k => decide (S.2.1 17 k = nI z ∧ 0 < S.2.1 18 k)) n))) (n := m) (decide_eq_true (by omega))]
          · rw [hy, dv_n1, nI_leI (by omega) (by omega)] at c58
            refine J_iinc dX0_mixedGroups_61 (pc' := 64) rfl rfl (v := nI ((dv_ct (fun z => decide (1 < dv_ct (fun k => decide (S.2.1 17 k = nI z ∧ 0 < S.2.1 18 k)) n)) m) + 1)) (nI_1 (dv_ct (fun z => decide (1 < dv_ct (fun k => decide (S.2.1 17 k = nI z ∧ 0 < S.2.1 18 k)) n)) m)) (by decide) rfl (l' := [some (.ref 13), some (.int (nI ((dv_ct (fun z => decide (1 < dv_ct (fun k => decide (S.2.1 17 k = nI z ∧ 0 < S.2.1 18 k)) n)) m) + 1))), some (.int (nI m)), some (.int (nI (dv_ct (fun k => decide (S.2.1 17 k = nI m ∧ 0 < S.2.1 18 k)) i))), some (.int (nI i))]) rfl ?_
            refine J_iinc dX0_mixedGroups_64 (pc' := 67) rfl rfl (v := nI (m + 1)) (nI_1 m) (by decide) rfl (l' := [some (.ref 13), some (.int (nI ((dv_ct (fun z => decide (1 < dv_ct (fun k => decide (S.2.1 17 k = nI z ∧ 0 < S.2.1 18 k)) n)) m) + 1))), some (.int (nI (m + 1))), some (.int (nI (dv_ct (fun k => decide (S.2.1 17 k = nI m ∧ 0 < S.2.1 18 k)) i))), some (.int (nI i))]) rfl ?_
            refine J_goto dX0_mixedGroups_67 (pc' := 4) (by decide) ?_
            refine J_drop 3 (l' := [some (.ref 13), some (.int (nI ((dv_ct (fun z => decide (1 < dv_ct (fun k => decide (S.2.1 17 k = nI z ∧ 0 < S.2.1 18 k)) n)) m) + 1))), some (.int (nI (m + 1))), none, some (.int (nI i))]) rfl ?_
            refine J_drop 4 (l' := [some (.ref 13), some (.int (nI ((dv_ct (fun z => decide (1 < dv_ct (fun k => decide (S.2.1 17 k = nI z ∧ 0 < S.2.1 18 k)) n)) m) + 1))), some (.int (nI (m + 1))), none, none]) rfl ?_
            refine J_loc ?_ (ih4 (m + 1) (by omega) (by omega))
            clear ih4
            first | simp only [dv_ct_sf (p := (fun z => decide (1 < dv_ct (fun k => decide (S.2.1 17 k = nI z ∧ 0 < S.2.1 18 k)) n))) (n := m) (decide_eq_false (by omega))] | simp only [dv_ct_st (p := (fun z => decide (1 < dv_ct (fun k => decide (S.2.1 17 k = nI z ∧ 0 < S.2.1 18 k)) n))) (n := m) (decide_eq_true (by omega))]
        · have hy := dv_nge hi17 (by omega) c23
          refine J_aload_n dX0_mixedGroups_26 (pc' := 27) rfl rfl ?_
          refine J_getr fX0_22 kd_13 rf_13_3 dX0_mixedGroups_27 (pc' := 30) rfl ?_
          refine J_iload dX0_mixedGroups_30 (pc' := 32) rfl rfl ?_
          refine J_iald (j := i) kd_17 (rfl) (by rw [ln_17]; omega) dX0_mixedGroups_32 (pc' := 33) rfl ?_
          refine J_iload_n dX0_mixedGroups_33 (pc' := 34) rfl rfl ?_
          refine J_icmp_ne dX0_mixedGroups_34 (pt := 50) (by decide) (pc' := 37) rfl (fun c34 => ?_) (fun c34 => ?_)
          · refine J_iinc dX0_mixedGroups_50 (pc' := 53) rfl rfl (v := nI (i + 1)) (nI_1 i) (by decide) rfl (l' := [some (.ref 13), some (.int (nI (dv_ct (fun z => decide (1 < dv_ct (fun k => decide (S.2.1 17 k = nI z ∧ 0 < S.2.1 18 k)) n)) m))), some (.int (nI m)), some (.int (nI (dv_ct (fun k => decide (S.2.1 17 k = nI m ∧ 0 < S.2.1 18 k)) i))), some (.int (nI (i + 1)))]) rfl ?_
            refine J_goto dX0_mixedGroups_53 (pc' := 17) (by decide) ?_
            refine J_loc ?_ (ih17 (i + 1) (by omega) (by omega))
            clear ih17 ih4
            first | simp only [dv_ct_sf (p := (fun k => decide (S.2.1 17 k = nI m ∧ 0 < S.2.1 18 k))) (n := i) (decide_eq_false (fun q => c34 q.1))] | simp only [dv_ct_sf (p := (fun k => decide (S.2.1 17 k = nI m ∧ 0 < S.2.1 18 k))) (n := i) (decide_eq_false (fun q => Int32.not_lt.mpr c44 q.2))] | simp only [dv_ct_st (p := (fun k => decide (S.2.1 17 k = nI m ∧ 0 < S.2.1 18 k))) (n := i) (decide_eq_true ⟨c34, Int32.not_le.mp c44⟩)]
          · refine J_aload_n dX0_mixedGroups_37 (pc' := 38) rfl rfl ?_
            refine J_getr fX0_25 kd_13 rf_13_4 dX0_mixedGroups_38 (pc' := 41) rfl ?_
            refine J_iload dX0_mixedGroups_41 (pc' := 43) rfl rfl ?_
            refine J_iald (j := i) kd_18 (rfl) (by rw [ln_18]; omega) dX0_mixedGroups_43 (pc' := 44) rfl ?_
            refine J_if_le dX0_mixedGroups_44 (pt := 50) (by decide) (pc' := 47) rfl (fun c44 => ?_) (fun c44 => ?_)
            · refine J_iinc dX0_mixedGroups_50 (pc' := 53) rfl rfl (v := nI (i + 1)) (nI_1 i) (by decide) rfl (l' := [some (.ref 13), some (.int (nI (dv_ct (fun z => decide (1 < dv_ct (fun k => decide (S.2.1 17 k = nI z ∧ 0 < S.2.1 18 k)) n)) m))), some (.int (nI m)), some (.int (nI (dv_ct (fun k => decide (S.2.1 17 k = nI m ∧ 0 < S.2.1 18 k)) i))), some (.int (nI (i + 1)))]) rfl ?_
              refine J_goto dX0_mixedGroups_53 (pc' := 17) (by decide) ?_
              refine J_loc ?_ (ih17 (i + 1) (by omega) (by omega))
              clear ih17 ih4
              first | simp only [dv_ct_sf (p := (fun k => decide (S.2.1 17 k = nI m ∧ 0 < S.2.1 18 k))) (n := i) (decide_eq_false (fun q => c34 q.1))] | simp only [dv_ct_sf (p := (fun k => decide (S.2.1 17 k = nI m ∧ 0 < S.2.1 18 k))) (n := i) (decide_eq_false (fun q => Int32.not_lt.mpr c44 q.2))] | simp only [dv_ct_st (p := (fun k => decide (S.2.1 17 k = nI m ∧ 0 < S.2.1 18 k))) (n := i) (decide_eq_true ⟨c34, Int32.not_le.mp c44⟩)]
            · refine J_iinc dX0_mixedGroups_47 (pc' := 50) rfl rfl (v := nI ((dv_ct (fun k => decide (S.2.1 17 k = nI m ∧ 0 < S.2.1 18 k)) i) + 1)) (nI_1 (dv_ct (fun k => decide (S.2.1 17 k = nI m ∧ 0 < S.2.1 18 k)) i)) (by decide) rfl (l' := [some (.ref 13), some (.int (nI (dv_ct (fun z => decide (1 < dv_ct (fun k => decide (S.2.1 17 k = nI z ∧ 0 < S.2.1 18 k)) n)) m))), some (.int (nI m)), some (.int (nI ((dv_ct (fun k => decide (S.2.1 17 k = nI m ∧ 0 < S.2.1 18 k)) i) + 1))), some (.int (nI i))]) rfl ?_
              refine J_iinc dX0_mixedGroups_50 (pc' := 53) rfl rfl (v := nI (i + 1)) (nI_1 i) (by decide) rfl (l' := [some (.ref 13), some (.int (nI (dv_ct (fun z => decide (1 < dv_ct (fun k => decide (S.2.1 17 k = nI z ∧ 0 < S.2.1 18 k)) n)) m))), some (.int (nI m)), some (.int (nI ((dv_ct (fun k => decide (S.2.1 17 k = nI m ∧ 0 < S.2.1 18 k)) i) + 1))), some (.int (nI (i + 1)))]) rfl ?_
              refine J_goto dX0_mixedGroups_53 (pc' := 17) (by decide) ?_
              refine J_loc ?_ (ih17 (i + 1) (by omega) (by omega))
              clear ih17 ih4
              first | simp only [dv_ct_sf (p := (fun k => decide (S.2.1 17 k = nI m ∧ 0 < S.2.1 18 k))) (n := i) (decide_eq_false (fun q => c34 q.1))] | simp only [dv_ct_sf (p := (fun k => decide (S.2.1 17 k = nI m ∧ 0 < S.2.1 18 k))) (n := i) (decide_eq_false (fun q => Int32.not_lt.mpr c44 q.2))] | simp only [dv_ct_st (p := (fun k => decide (S.2.1 17 k = nI m ∧ 0 < S.2.1 18 k))) (n := i) (decide_eq_true ⟨c34, Int32.not_le.mp c44⟩)]
      refine J_loc (l' := [some (.ref 13), some (.int (nI (dv_ct (fun z => decide (1 < dv_ct (fun k => decide (S.2.1 17 k = nI z ∧ 0 < S.2.1 18 k)) n)) m))), some (.int (nI m)), some (.int (nI (dv_ct (fun k => decide (S.2.1 17 k = nI m ∧ 0 < S.2.1 18 k)) 0))), some (.int (nI 0))]) (by simp only [nI_0, dv_ct]) ?_
      exact hlp17 0 (Nat.zero_le _) 
  refine J_loc (l' := [some (.ref 13), some (.int (nI (dv_ct (fun z => decide (1 < dv_ct (fun k => decide (S.2.1 17 k = nI z ∧ 0 < S.2.1 18 k)) n)) 0))), some (.int (nI 0)), none, none]) (by simp only [nI_0, dv_ct]) ?_
  exact hlp4 0 (Nat.zero_le _) 
