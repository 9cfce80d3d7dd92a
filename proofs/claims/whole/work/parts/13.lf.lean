set_option maxRecDepth 100000 in
set_option maxHeartbeats 400000 in
theorem qX7_isSmall (d : Nat) (S : dv_S) (x : Int32) : dv_M yX7_isSmall cX7_isSmall 1 (some .boolean) (dv_rm (d + 0)) [.int x] S (fun r S' => r = some (.int (dv_b (ch_s x))) ∧ S' = S) := by
  refine dv_M_of [some (.int x)] (by decide) (fun _ _ => Nat.le_of_ble_eq_true rfl) (fun _ _ => rfl) ?_
  refine J_iload_n dX7_isSmall_0 (pc' := 1) rfl rfl ?_
  refine J_bipush dX7_isSmall_1 (pc' := 3) rfl (v := 97) bp_97 ?_
  refine J_icmp_lt dX7_isSmall_3 (pt := 16) (by decide) (pc' := 6) rfl (fun c3 => ?_) (fun c3 => ?_)
  · refine J_iconst dX7_isSmall_16 (pc' := 17) rfl (v := 0) ic_0 ?_
    refine J_zret dX7_isSmall_17 rfl (by decide) (dv_r1 _) ?_
    exact ⟨by (try simp only [← Int32.not_le] at *); simp [dv_b, ch_s, ch_g, ch_d, *], rfl⟩
  · refine J_iload_n dX7_isSmall_6 (pc' := 7) rfl rfl ?_
    refine J_bipush dX7_isSmall_7 (pc' := 9) rfl (v := 122) bp_122 ?_
    refine J_icmp_gt dX7_isSmall_9 (pt := 16) (by decide) (pc' := 12) rfl (fun c9 => ?_) (fun c9 => ?_)
    · refine J_iconst dX7_isSmall_16 (pc' := 17) rfl (v := 0) ic_0 ?_
      refine J_zret dX7_isSmall_17 rfl (by decide) (dv_r1 _) ?_
      exact ⟨by (try simp only [← Int32.not_le] at *); simp [dv_b, ch_s, ch_g, ch_d, *], rfl⟩
    · refine J_iconst dX7_isSmall_12 (pc' := 13) rfl (v := 1) ic_1 ?_
      refine J_goto dX7_isSmall_13 (pc' := 17) (by decide) ?_
      refine J_zret dX7_isSmall_17 rfl (by decide) (dv_r1 _) ?_
      exact ⟨by (try simp only [← Int32.not_le] at *); simp [dv_b, ch_s, ch_g, ch_d, *], rfl⟩
set_option maxRecDepth 100000 in
set_option maxHeartbeats 400000 in
theorem qX7_isGreat (d : Nat) (S : dv_S) (x : Int32) : dv_M yX7_isGreat cX7_isGreat 1 (some .boolean) (dv_rm (d + 0)) [.int x] S (fun r S' => r = some (.int (dv_b (ch_g x))) ∧ S' = S) := by
  refine dv_M_of [some (.int x)] (by decide) (fun _ _ => Nat.le_of_ble_eq_true rfl) (fun _ _ => rfl) ?_
  refine J_iload_n dX7_isGreat_0 (pc' := 1) rfl rfl ?_
  refine J_bipush dX7_isGreat_1 (pc' := 3) rfl (v := 65) bp_65 ?_
  refine J_icmp_lt dX7_isGreat_3 (pt := 16) (by decide) (pc' := 6) rfl (fun c3 => ?_) (fun c3 => ?_)
  · refine J_iconst dX7_isGreat_16 (pc' := 17) rfl (v := 0) ic_0 ?_
    refine J_zret dX7_isGreat_17 rfl (by decide) (dv_r1 _) ?_
    exact ⟨by (try simp only [← Int32.not_le] at *); simp [dv_b, ch_s, ch_g, ch_d, *], rfl⟩
  · refine J_iload_n dX7_isGreat_6 (pc' := 7) rfl rfl ?_
    refine J_bipush dX7_isGreat_7 (pc' := 9) rfl (v := 90) bp_90 ?_
    refine J_icmp_gt dX7_isGreat_9 (pt := 16) (by decide) (pc' := 12) rfl (fun c9 => ?_) (fun c9 => ?_)
    · refine J_iconst dX7_isGreat_16 (pc' := 17) rfl (v := 0) ic_0 ?_
      refine J_zret dX7_isGreat_17 rfl (by decide) (dv_r1 _) ?_
      exact ⟨by (try simp only [← Int32.not_le] at *); simp [dv_b, ch_s, ch_g, ch_d, *], rfl⟩
    · refine J_iconst dX7_isGreat_12 (pc' := 13) rfl (v := 1) ic_1 ?_
      refine J_goto dX7_isGreat_13 (pc' := 17) (by decide) ?_
      refine J_zret dX7_isGreat_17 rfl (by decide) (dv_r1 _) ?_
      exact ⟨by (try simp only [← Int32.not_le] at *); simp [dv_b, ch_s, ch_g, ch_d, *], rfl⟩
set_option maxRecDepth 100000 in
set_option maxHeartbeats 400000 in
theorem qX7_isDigit (d : Nat) (S : dv_S) (x : Int32) : dv_M yX7_isDigit cX7_isDigit 1 (some .boolean) (dv_rm (d + 0)) [.int x] S (fun r S' => r = some (.int (dv_b (ch_d x))) ∧ S' = S) := by
  refine dv_M_of [some (.int x)] (by decide) (fun _ _ => Nat.le_of_ble_eq_true rfl) (fun _ _ => rfl) ?_
  refine J_iload_n dX7_isDigit_0 (pc' := 1) rfl rfl ?_
  refine J_bipush dX7_isDigit_1 (pc' := 3) rfl (v := 48) bp_48 ?_
  refine J_icmp_lt dX7_isDigit_3 (pt := 16) (by decide) (pc' := 6) rfl (fun c3 => ?_) (fun c3 => ?_)
  · refine J_iconst dX7_isDigit_16 (pc' := 17) rfl (v := 0) ic_0 ?_
    refine J_zret dX7_isDigit_17 rfl (by decide) (dv_r1 _) ?_
    exact ⟨by (try simp only [← Int32.not_le] at *); simp [dv_b, ch_s, ch_g, ch_d, *], rfl⟩
  · refine J_iload_n dX7_isDigit_6 (pc' := 7) rfl rfl ?_
    refine J_bipush dX7_isDigit_7 (pc' := 9) rfl (v := 57) bp_57 ?_
    refine J_icmp_gt dX7_isDigit_9 (pt := 16) (by decide) (pc' := 12) rfl (fun c9 => ?_) (fun c9 => ?_)
    · refine J_iconst dX7_isDigit_16 (pc' := 17) rfl (v := 0) ic_0 ?_
      refine J_zret dX7_isDigit_17 rfl (by decide) (dv_r1 _) ?_
      exact ⟨by (try simp only [← Int32.not_le] at *); simp [dv_b, ch_s, ch_g, ch_d, *], rfl⟩
    · refine J_iconst dX7_isDigit_12 (pc' := 13) rfl (v := 1) ic_1 ?_
      refine J_goto dX7_isDigit_13 (pc' := 17) (by decide) ?_
      refine J_zret dX7_isDigit_17 rfl (by decide) (dv_r1 _) ?_
      exact ⟨by (try simp only [← Int32.not_le] at *); simp [dv_b, ch_s, ch_g, ch_d, *], rfl⟩
set_option maxRecDepth 100000 in
set_option maxHeartbeats 400000 in
theorem qX8_isSmall (d : Nat) (S : dv_S) (x : Int32) : dv_M yX8_isSmall cX8_isSmall 1 (some .boolean) (dv_rm (d + 0)) [.int x] S (fun r S' => r = some (.int (dv_b (ch_s x))) ∧ S' = S) := by
  refine dv_M_of [some (.int x)] (by decide) (fun _ _ => Nat.le_of_ble_eq_true rfl) (fun _ _ => rfl) ?_
  refine J_iload_n dX8_isSmall_0 (pc' := 1) rfl rfl ?_
  refine J_bipush dX8_isSmall_1 (pc' := 3) rfl (v := 97) bp_97 ?_
  refine J_icmp_lt dX8_isSmall_3 (pt := 16) (by decide) (pc' := 6) rfl (fun c3 => ?_) (fun c3 => ?_)
  · refine J_iconst dX8_isSmall_16 (pc' := 17) rfl (v := 0) ic_0 ?_
    refine J_zret dX8_isSmall_17 rfl (by decide) (dv_r1 _) ?_
    exact ⟨by (try simp only [← Int32.not_le] at *); simp [dv_b, ch_s, ch_g, ch_d, *], rfl⟩
  · refine J_iload_n dX8_isSmall_6 (pc' := 7) rfl rfl ?_
    refine J_bipush dX8_isSmall_7 (pc' := 9) rfl (v := 122) bp_122 ?_
    refine J_icmp_gt dX8_isSmall_9 (pt := 16) (by decide) (pc' := 12) rfl (fun c9 => ?_) (fun c9 => ?_)
    · refine J_iconst dX8_isSmall_16 (pc' := 17) rfl (v := 0) ic_0 ?_
      refine J_zret dX8_isSmall_17 rfl (by decide) (dv_r1 _) ?_
      exact ⟨by (try simp only [← Int32.not_le] at *); simp [dv_b, ch_s, ch_g, ch_d, *], rfl⟩
    · refine J_iconst dX8_isSmall_12 (pc' := 13) rfl (v := 1) ic_1 ?_
      refine J_goto dX8_isSmall_13 (pc' := 17) (by decide) ?_
      refine J_zret dX8_isSmall_17 rfl (by decide) (dv_r1 _) ?_
      exact ⟨by (try simp only [← Int32.not_le] at *); simp [dv_b, ch_s, ch_g, ch_d, *], rfl⟩
set_option maxRecDepth 100000 in
set_option maxHeartbeats 400000 in
theorem qX8_isGreat (d : Nat) (S : dv_S) (x : Int32) : dv_M yX8_isGreat cX8_isGreat 1 (some .boolean) (dv_rm (d + 0)) [.int x] S (fun r S' => r = some (.int (dv_b (ch_g x))) ∧ S' = S) := by
  refine dv_M_of [some (.int x)] (by decide) (fun _ _ => Nat.le_of_ble_eq_true rfl) (fun _ _ => rfl) ?_
  refine J_iload_n dX8_isGreat_0 (pc' := 1) rfl rfl ?_
  refine J_bipush dX8_isGreat_1 (pc' := 3) rfl (v := 65) bp_65 ?_
  refine J_icmp_lt dX8_isGreat_3 (pt := 16) (by decide) (pc' := 6) rfl (fun c3 => ?_) (fun c3 => ?_)
  · refine J_iconst dX8_isGreat_16 (pc' := 17) rfl (v := 0) ic_0 ?_
    refine J_zret dX8_isGreat_17 rfl (by decide) (dv_r1 _) ?_
    exact ⟨by (try simp only [← Int32.not_le] at *); simp [dv_b, ch_s, ch_g, ch_d, *], rfl⟩
  · refine J_iload_n dX8_isGreat_6 (pc' := 7) rfl rfl ?_
    refine J_bipush dX8_isGreat_7 (pc' := 9) rfl (v := 90) bp_90 ?_
    refine J_icmp_gt dX8_isGreat_9 (pt := 16) (by decide) (pc' := 12) rfl (fun c9 => ?_) (fun c9 => ?_)
    · refine J_iconst dX8_isGreat_16 (pc' := 17) rfl (v := 0) ic_0 ?_
      refine J_zret dX8_isGreat_17 rfl (by decide) (dv_r1 _) ?_
      exact ⟨by (try simp only [← Int32.not_le] at *); simp [dv_b, ch_s, ch_g, ch_d, *], rfl⟩
    · refine J_iconst dX8_isGreat_12 (pc' := 13) rfl (v := 1) ic_1 ?_
      refine J_goto dX8_isGreat_13 (pc' := 17) (by decide) ?_
      refine J_zret dX8_isGreat_17 rfl (by decide) (dv_r1 _) ?_
      exact ⟨by (try simp only [← Int32.not_le] at *); simp [dv_b, ch_s, ch_g, ch_d, *], rfl⟩
set_option maxRecDepth 100000 in
set_option maxHeartbeats 400000 in
theorem qX8_isDigit (d : Nat) (S : dv_S) (x : Int32) : dv_M yX8_isDigit cX8_isDigit 1 (some .boolean) (dv_rm (d + 0)) [.int x] S (fun r S' => r = some (.int (dv_b (ch_d x))) ∧ S' = S) := by
  refine dv_M_of [some (.int x)] (by decide) (fun _ _ => Nat.le_of_ble_eq_true rfl) (fun _ _ => rfl) ?_
  refine J_iload_n dX8_isDigit_0 (pc' := 1) rfl rfl ?_
  refine J_bipush dX8_isDigit_1 (pc' := 3) rfl (v := 48) bp_48 ?_
  refine J_icmp_lt dX8_isDigit_3 (pt := 16) (by decide) (pc' := 6) rfl (fun c3 => ?_) (fun c3 => ?_)
  · refine J_iconst dX8_isDigit_16 (pc' := 17) rfl (v := 0) ic_0 ?_
    refine J_zret dX8_isDigit_17 rfl (by decide) (dv_r1 _) ?_
    exact ⟨by (try simp only [← Int32.not_le] at *); simp [dv_b, ch_s, ch_g, ch_d, *], rfl⟩
  · refine J_iload_n dX8_isDigit_6 (pc' := 7) rfl rfl ?_
    refine J_bipush dX8_isDigit_7 (pc' := 9) rfl (v := 57) bp_57 ?_
    refine J_icmp_gt dX8_isDigit_9 (pt := 16) (by decide) (pc' := 12) rfl (fun c9 => ?_) (fun c9 => ?_)
    · refine J_iconst dX8_isDigit_16 (pc' := 17) rfl (v := 0) ic_0 ?_
      refine J_zret dX8_isDigit_17 rfl (by decide) (dv_r1 _) ?_
      exact ⟨by (try simp only [← Int32.not_le] at *); simp [dv_b, ch_s, ch_g, ch_d, *], rfl⟩
    · refine J_iconst dX8_isDigit_12 (pc' := 13) rfl (v := 1) ic_1 ?_
      refine J_goto dX8_isDigit_13 (pc' := 17) (by decide) ?_
      refine J_zret dX8_isDigit_17 rfl (by decide) (dv_r1 _) ?_
      exact ⟨by (try simp only [← Int32.not_le] at *); simp [dv_b, ch_s, ch_g, ch_d, *], rfl⟩
set_option maxRecDepth 100000 in
set_option maxHeartbeats 400000 in
theorem qX0_has (d : Nat) (S : dv_S) (x : Int32) : dv_M yX0_has cX0_has 2 (some .boolean) (dv_rm (d + 0)) [.ref 13, .int x] S (fun r S' => r = some (.int (dv_b (decide (0 ≤ x ∧ x < S.1 13 5)))) ∧ S' = S) := by
  refine dv_M_of [some (.ref 13), some (.int x)] (by decide) (fun _ _ => Nat.le_of_ble_eq_true rfl) (fun _ _ => rfl) ?_
  refine J_iload_n dX0_has_0 (pc' := 1) rfl rfl ?_
  refine J_if_lt dX0_has_1 (pt := 16) (by decide) (pc' := 4) rfl (fun c1 => ?_) (fun c1 => ?_)
  · refine J_iconst dX0_has_16 (pc' := 17) rfl (v := 0) ic_0 ?_
    refine J_zret dX0_has_17 rfl (by decide) (dv_r1 _) ?_
    exact ⟨by (try simp only [← Int32.not_le] at *); simp [dv_b, ch_s, ch_g, ch_d, *], rfl⟩
  · refine J_iload_n dX0_has_4 (pc' := 5) rfl rfl ?_
    refine J_aload_n dX0_has_5 (pc' := 6) rfl rfl ?_
    refine J_geti fX0_28 kd_13 rf_13_5 dX0_has_6 (pc' := 9) rfl ?_
    refine J_icmp_ge dX0_has_9 (pt := 16) (by decide) (pc' := 12) rfl (fun c9 => ?_) (fun c9 => ?_)
    · refine J_iconst dX0_has_16 (pc' := 17) rfl (v := 0) ic_0 ?_
      refine J_zret dX0_has_17 rfl (by decide) (dv_r1 _) ?_
      exact ⟨by (try simp only [← Int32.not_le] at *); simp [dv_b, ch_s, ch_g, ch_d, *], rfl⟩
    · refine J_iconst dX0_has_12 (pc' := 13) rfl (v := 1) ic_1 ?_
      refine J_goto dX0_has_13 (pc' := 17) (by decide) ?_
      refine J_zret dX0_has_17 rfl (by decide) (dv_r1 _) ?_
      exact ⟨by (try simp only [← Int32.not_le] at *); simp [dv_b, ch_s, ch_g, ch_d, *], rfl⟩
set_option maxRecDepth 100000 in
set_option maxHeartbeats 400000 in
theorem qX1_has (d : Nat) (S : dv_S) (x : Int32) : dv_M yX1_has cX1_has 2 (some .boolean) (dv_rm (d + 0)) [.ref 9, .int x] S (fun r S' => r = some (.int (dv_b (decide (0 ≤ x ∧ x < S.1 9 4)))) ∧ S' = S) := by
  refine dv_M_of [some (.ref 9), some (.int x)] (by decide) (fun _ _ => Nat.le_of_ble_eq_true rfl) (fun _ _ => rfl) ?_
  refine J_iload_n dX1_has_0 (pc' := 1) rfl rfl ?_
  refine J_if_lt dX1_has_1 (pt := 16) (by decide) (pc' := 4) rfl (fun c1 => ?_) (fun c1 => ?_)
  · refine J_iconst dX1_has_16 (pc' := 17) rfl (v := 0) ic_0 ?_
    refine J_zret dX1_has_17 rfl (by decide) (dv_r1 _) ?_
    exact ⟨by (try simp only [← Int32.not_le] at *); simp [dv_b, ch_s, ch_g, ch_d, *], rfl⟩
  · refine J_iload_n dX1_has_4 (pc' := 5) rfl rfl ?_
    refine J_aload_n dX1_has_5 (pc' := 6) rfl rfl ?_
    refine J_geti fX1_25 kd_9 rf_9_4 dX1_has_6 (pc' := 9) rfl ?_
    refine J_icmp_ge dX1_has_9 (pt := 16) (by decide) (pc' := 12) rfl (fun c9 => ?_) (fun c9 => ?_)
    · refine J_iconst dX1_has_16 (pc' := 17) rfl (v := 0) ic_0 ?_
      refine J_zret dX1_has_17 rfl (by decide) (dv_r1 _) ?_
      exact ⟨by (try simp only [← Int32.not_le] at *); simp [dv_b, ch_s, ch_g, ch_d, *], rfl⟩
    · refine J_iconst dX1_has_12 (pc' := 13) rfl (v := 1) ic_1 ?_
      refine J_goto dX1_has_13 (pc' := 17) (by decide) ?_
      refine J_zret dX1_has_17 rfl (by decide) (dv_r1 _) ?_
      exact ⟨by (try simp only [← Int32.not_le] at *); simp [dv_b, ch_s, ch_g, ch_d, *], rfl⟩
set_option maxRecDepth 100000 in
set_option maxHeartbeats 400000 in
theorem qX3_has (d : Nat) (S : dv_S) (x : Int32) : dv_M yX3_has cX3_has 2 (some .boolean) (dv_rm (d + 0)) [.ref 19, .int x] S (fun r S' => r = some (.int (dv_b (decide (0 ≤ x ∧ x < S.1 19 1)))) ∧ S' = S) := by
  refine dv_M_of [some (.ref 19), some (.int x)] (by decide) (fun _ _ => Nat.le_of_ble_eq_true rfl) (fun _ _ => rfl) ?_
  refine J_iload_n dX3_has_0 (pc' := 1) rfl rfl ?_
  refine J_if_lt dX3_has_1 (pt := 16) (by decide) (pc' := 4) rfl (fun c1 => ?_) (fun c1 => ?_)
  · refine J_iconst dX3_has_16 (pc' := 17) rfl (v := 0) ic_0 ?_
    refine J_zret dX3_has_17 rfl (by decide) (dv_r1 _) ?_
    exact ⟨by (try simp only [← Int32.not_le] at *); simp [dv_b, ch_s, ch_g, ch_d, *], rfl⟩
  · refine J_iload_n dX3_has_4 (pc' := 5) rfl rfl ?_
    refine J_aload_n dX3_has_5 (pc' := 6) rfl rfl ?_
    refine J_geti fX3_15 kd_19 rf_19_1 dX3_has_6 (pc' := 9) rfl ?_
    refine J_icmp_ge dX3_has_9 (pt := 16) (by decide) (pc' := 12) rfl (fun c9 => ?_) (fun c9 => ?_)
    · refine J_iconst dX3_has_16 (pc' := 17) rfl (v := 0) ic_0 ?_
      refine J_zret dX3_has_17 rfl (by decide) (dv_r1 _) ?_
      exact ⟨by (try simp only [← Int32.not_le] at *); simp [dv_b, ch_s, ch_g, ch_d, *], rfl⟩
    · refine J_iconst dX3_has_12 (pc' := 13) rfl (v := 1) ic_1 ?_
      refine J_goto dX3_has_13 (pc' := 17) (by decide) ?_
      refine J_zret dX3_has_17 rfl (by decide) (dv_r1 _) ?_
      exact ⟨by (try simp only [← Int32.not_le] at *); simp [dv_b, ch_s, ch_g, ch_d, *], rfl⟩
set_option maxRecDepth 100000 in
set_option maxHeartbeats 400000 in
theorem qX5_has (d : Nat) (S : dv_S) (x : Int32) : dv_M yX5_has cX5_has 2 (some .boolean) (dv_rm (d + 0)) [.ref 21, .int x] S (fun r S' => r = some (.int (dv_b (decide (0 ≤ x ∧ x < S.1 21 3)))) ∧ S' = S) := by
  refine dv_M_of [some (.ref 21), some (.int x)] (by decide) (fun _ _ => Nat.le_of_ble_eq_true rfl) (fun _ _ => rfl) ?_
  refine J_iload_n dX5_has_0 (pc' := 1) rfl rfl ?_
  refine J_if_lt dX5_has_1 (pt := 16) (by decide) (pc' := 4) rfl (fun c1 => ?_) (fun c1 => ?_)
  · refine J_iconst dX5_has_16 (pc' := 17) rfl (v := 0) ic_0 ?_
    refine J_zret dX5_has_17 rfl (by decide) (dv_r1 _) ?_
    exact ⟨by (try simp only [← Int32.not_le] at *); simp [dv_b, ch_s, ch_g, ch_d, *], rfl⟩
  · refine J_iload_n dX5_has_4 (pc' := 5) rfl rfl ?_
    refine J_aload_n dX5_has_5 (pc' := 6) rfl rfl ?_
    refine J_geti fX5_24 kd_21 rf_21_3 dX5_has_6 (pc' := 9) rfl ?_
    refine J_icmp_ge dX5_has_9 (pt := 16) (by decide) (pc' := 12) rfl (fun c9 => ?_) (fun c9 => ?_)
    · refine J_iconst dX5_has_16 (pc' := 17) rfl (v := 0) ic_0 ?_
      refine J_zret dX5_has_17 rfl (by decide) (dv_r1 _) ?_
      exact ⟨by (try simp only [← Int32.not_le] at *); simp [dv_b, ch_s, ch_g, ch_d, *], rfl⟩
    · refine J_iconst dX5_has_12 (pc' := 13) rfl (v := 1) ic_1 ?_
      refine J_goto dX5_has_13 (pc' := 17) (by decide) ?_
      refine J_zret dX5_has_17 rfl (by decide) (dv_r1 _) ?_
      exact ⟨by (try simp only [← Int32.not_le] at *); simp [dv_b, ch_s, ch_g, ch_d, *], rfl⟩
set_option maxRecDepth 100000 in
set_option maxHeartbeats 400000 in
theorem qX6_has (d : Nat) (S : dv_S) (x : Int32) : dv_M yX6_has cX6_has 2 (some .boolean) (dv_rm (d + 0)) [.ref 185, .int x] S (fun r S' => r = some (.int (dv_b (decide (0 ≤ x ∧ x < S.1 185 2)))) ∧ S' = S) := by
  refine dv_M_of [some (.ref 185), some (.int x)] (by decide) (fun _ _ => Nat.le_of_ble_eq_true rfl) (fun _ _ => rfl) ?_
  refine J_iload_n dX6_has_0 (pc' := 1) rfl rfl ?_
  refine J_if_lt dX6_has_1 (pt := 16) (by decide) (pc' := 4) rfl (fun c1 => ?_) (fun c1 => ?_)
  · refine J_iconst dX6_has_16 (pc' := 17) rfl (v := 0) ic_0 ?_
    refine J_zret dX6_has_17 rfl (by decide) (dv_r1 _) ?_
    exact ⟨by (try simp only [← Int32.not_le] at *); simp [dv_b, ch_s, ch_g, ch_d, *], rfl⟩
  · refine J_iload_n dX6_has_4 (pc' := 5) rfl rfl ?_
    refine J_aload_n dX6_has_5 (pc' := 6) rfl rfl ?_
    refine J_geti fX6_18 kd_185 rf_185_2 dX6_has_6 (pc' := 9) rfl ?_
    refine J_icmp_ge dX6_has_9 (pt := 16) (by decide) (pc' := 12) rfl (fun c9 => ?_) (fun c9 => ?_)
    · refine J_iconst dX6_has_16 (pc' := 17) rfl (v := 0) ic_0 ?_
      refine J_zret dX6_has_17 rfl (by decide) (dv_r1 _) ?_
      exact ⟨by (try simp only [← Int32.not_le] at *); simp [dv_b, ch_s, ch_g, ch_d, *], rfl⟩
    · refine J_iconst dX6_has_12 (pc' := 13) rfl (v := 1) ic_1 ?_
      refine J_goto dX6_has_13 (pc' := 17) (by decide) ?_
      refine J_zret dX6_has_17 rfl (by decide) (dv_r1 _) ?_
      exact ⟨by (try simp only [← Int32.not_le] at *); simp [dv_b, ch_s, ch_g, ch_d, *], rfl⟩
set_option maxRecDepth 100000 in
set_option maxHeartbeats 400000 in
theorem qX0_size (d : Nat) (S : dv_S)  : dv_M yX0_size cX0_size 1 (some .int) (dv_rm (d + 0)) [.ref 13] S (fun r S' => r = some (.int (S.1 13 5)) ∧ S' = S) := by
  refine dv_M_of [some (.ref 13)] (by decide) (fun _ _ => Nat.le_of_ble_eq_true rfl) (fun _ _ => rfl) ?_
  refine J_aload_n dX0_size_0 (pc' := 1) rfl rfl ?_
  refine J_geti fX0_28 kd_13 rf_13_5 dX0_size_1 (pc' := 4) rfl ?_
  refine J_iret dX0_size_4 rfl (dv_r1 _) ?_
  exact ⟨rfl, rfl⟩
set_option maxRecDepth 100000 in
set_option maxHeartbeats 400000 in
theorem qX1_size (d : Nat) (S : dv_S)  : dv_M yX1_size cX1_size 1 (some .int) (dv_rm (d + 0)) [.ref 9] S (fun r S' => r = some (.int (S.1 9 4)) ∧ S' = S) := by
  refine dv_M_of [some (.ref 9)] (by decide) (fun _ _ => Nat.le_of_ble_eq_true rfl) (fun _ _ => rfl) ?_
  refine J_aload_n dX1_size_0 (pc' := 1) rfl rfl ?_
  refine J_geti fX1_25 kd_9 rf_9_4 dX1_size_1 (pc' := 4) rfl ?_
  refine J_iret dX1_size_4 rfl (dv_r1 _) ?_
  exact ⟨rfl, rfl⟩
set_option maxRecDepth 100000 in
set_option maxHeartbeats 400000 in
theorem qX3_size (d : Nat) (S : dv_S)  : dv_M yX3_size cX3_size 1 (some .int) (dv_rm (d + 0)) [.ref 19] S (fun r S' => r = some (.int (S.1 19 1)) ∧ S' = S) := by
  refine dv_M_of [some (.ref 19)] (by decide) (fun _ _ => Nat.le_of_ble_eq_true rfl) (fun _ _ => rfl) ?_
  refine J_aload_n dX3_size_0 (pc' := 1) rfl rfl ?_
  refine J_geti fX3_15 kd_19 rf_19_1 dX3_size_1 (pc' := 4) rfl ?_
  refine J_iret dX3_size_4 rfl (dv_r1 _) ?_
  exact ⟨rfl, rfl⟩
set_option maxRecDepth 100000 in
set_option maxHeartbeats 400000 in
theorem qX5_size (d : Nat) (S : dv_S)  : dv_M yX5_size cX5_size 1 (some .int) (dv_rm (d + 0)) [.ref 21] S (fun r S' => r = some (.int (S.1 21 3)) ∧ S' = S) := by
  refine dv_M_of [some (.ref 21)] (by decide) (fun _ _ => Nat.le_of_ble_eq_true rfl) (fun _ _ => rfl) ?_
  refine J_aload_n dX5_size_0 (pc' := 1) rfl rfl ?_
  refine J_geti fX5_24 kd_21 rf_21_3 dX5_size_1 (pc' := 4) rfl ?_
  refine J_iret dX5_size_4 rfl (dv_r1 _) ?_
  exact ⟨rfl, rfl⟩
set_option maxRecDepth 100000 in
set_option maxHeartbeats 400000 in
theorem qX6_size (d : Nat) (S : dv_S)  : dv_M yX6_size cX6_size 1 (some .int) (dv_rm (d + 0)) [.ref 185] S (fun r S' => r = some (.int (S.1 185 2)) ∧ S' = S) := by
  refine dv_M_of [some (.ref 185)] (by decide) (fun _ _ => Nat.le_of_ble_eq_true rfl) (fun _ _ => rfl) ?_
  refine J_aload_n dX6_size_0 (pc' := 1) rfl rfl ?_
  refine J_geti fX6_18 kd_185 rf_185_2 dX6_size_1 (pc' := 4) rfl ?_
  refine J_iret dX6_size_4 rfl (dv_r1 _) ?_
  exact ⟨rfl, rfl⟩
set_option maxRecDepth 100000 in
set_option maxHeartbeats 400000 in
theorem qX0_isFull (d : Nat) (S : dv_S)  : dv_M yX0_isFull cX0_isFull 1 (some .boolean) (dv_rm (d + 0)) [.ref 13] S (fun r S' => r = some (.int (dv_b (decide (60 ≤ S.1 13 5)))) ∧ S' = S) := by
  refine dv_M_of [some (.ref 13)] (by decide) (fun _ _ => Nat.le_of_ble_eq_true rfl) (fun _ _ => rfl) ?_
  refine J_aload_n dX0_isFull_0 (pc' := 1) rfl rfl ?_
  refine J_geti fX0_28 kd_13 rf_13_5 dX0_isFull_1 (pc' := 4) rfl ?_
  refine J_bipush dX0_isFull_4 (pc' := 6) rfl (v := 60) bp_60 ?_
  refine J_icmp_lt dX0_isFull_6 (pt := 13) (by decide) (pc' := 9) rfl (fun c6 => ?_) (fun c6 => ?_)
  · refine J_iconst dX0_isFull_13 (pc' := 14) rfl (v := 0) ic_0 ?_
    refine J_zret dX0_isFull_14 rfl (by decide) (dv_r1 _) ?_
    exact ⟨by (try simp only [← Int32.not_le] at *); simp [dv_b, ch_s, ch_g, ch_d, *], rfl⟩
  · refine J_iconst dX0_isFull_9 (pc' := 10) rfl (v := 1) ic_1 ?_
    refine J_goto dX0_isFull_10 (pc' := 14) (by decide) ?_
    refine J_zret dX0_isFull_14 rfl (by decide) (dv_r1 _) ?_
    exact ⟨by (try simp only [← Int32.not_le] at *); simp [dv_b, ch_s, ch_g, ch_d, *], rfl⟩
set_option maxRecDepth 100000 in
set_option maxHeartbeats 400000 in
theorem qX3_isFull (d : Nat) (S : dv_S)  : dv_M yX3_isFull cX3_isFull 1 (some .boolean) (dv_rm (d + 0)) [.ref 19] S (fun r S' => r = some (.int (dv_b (decide (20 ≤ S.1 19 1)))) ∧ S' = S) := by
  refine dv_M_of [some (.ref 19)] (by decide) (fun _ _ => Nat.le_of_ble_eq_true rfl) (fun _ _ => rfl) ?_
  refine J_aload_n dX3_isFull_0 (pc' := 1) rfl rfl ?_
  refine J_geti fX3_15 kd_19 rf_19_1 dX3_isFull_1 (pc' := 4) rfl ?_
  refine J_bipush dX3_isFull_4 (pc' := 6) rfl (v := 20) bp_20 ?_
  refine J_icmp_lt dX3_isFull_6 (pt := 13) (by decide) (pc' := 9) rfl (fun c6 => ?_) (fun c6 => ?_)
  · refine J_iconst dX3_isFull_13 (pc' := 14) rfl (v := 0) ic_0 ?_
    refine J_zret dX3_isFull_14 rfl (by decide) (dv_r1 _) ?_
    exact ⟨by (try simp only [← Int32.not_le] at *); simp [dv_b, ch_s, ch_g, ch_d, *], rfl⟩
  · refine J_iconst dX3_isFull_9 (pc' := 10) rfl (v := 1) ic_1 ?_
    refine J_goto dX3_isFull_10 (pc' := 14) (by decide) ?_
    refine J_zret dX3_isFull_14 rfl (by decide) (dv_r1 _) ?_
    exact ⟨by (try simp only [← Int32.not_le] at *); simp [dv_b, ch_s, ch_g, ch_d, *], rfl⟩
set_option maxRecDepth 100000 in
set_option maxHeartbeats 400000 in
theorem qX5_isFull (d : Nat) (S : dv_S)  : dv_M yX5_isFull cX5_isFull 1 (some .boolean) (dv_rm (d + 0)) [.ref 21] S (fun r S' => r = some (.int (dv_b (decide (80 ≤ S.1 21 3)))) ∧ S' = S) := by
  refine dv_M_of [some (.ref 21)] (by decide) (fun _ _ => Nat.le_of_ble_eq_true rfl) (fun _ _ => rfl) ?_
  refine J_aload_n dX5_isFull_0 (pc' := 1) rfl rfl ?_
  refine J_geti fX5_24 kd_21 rf_21_3 dX5_isFull_1 (pc' := 4) rfl ?_
  refine J_bipush dX5_isFull_4 (pc' := 6) rfl (v := 80) bp_80 ?_
  refine J_icmp_lt dX5_isFull_6 (pt := 13) (by decide) (pc' := 9) rfl (fun c6 => ?_) (fun c6 => ?_)
  · refine J_iconst dX5_isFull_13 (pc' := 14) rfl (v := 0) ic_0 ?_
    refine J_zret dX5_isFull_14 rfl (by decide) (dv_r1 _) ?_
    exact ⟨by (try simp only [← Int32.not_le] at *); simp [dv_b, ch_s, ch_g, ch_d, *], rfl⟩
  · refine J_iconst dX5_isFull_9 (pc' := 10) rfl (v := 1) ic_1 ?_
    refine J_goto dX5_isFull_10 (pc' := 14) (by decide) ?_
    refine J_zret dX5_isFull_14 rfl (by decide) (dv_r1 _) ?_
    exact ⟨by (try simp only [← Int32.not_le] at *); simp [dv_b, ch_s, ch_g, ch_d, *], rfl⟩
set_option maxRecDepth 100000 in
set_option maxHeartbeats 400000 in
theorem qX6_isFull (d : Nat) (S : dv_S)  : dv_M yX6_isFull cX6_isFull 1 (some .boolean) (dv_rm (d + 0)) [.ref 185] S (fun r S' => r = some (.int (dv_b (decide (150 ≤ S.1 185 2)))) ∧ S' = S) := by
  refine dv_M_of [some (.ref 185)] (by decide) (fun _ _ => Nat.le_of_ble_eq_true rfl) (fun _ _ => rfl) ?_
  refine J_aload_n dX6_isFull_0 (pc' := 1) rfl rfl ?_
  refine J_geti fX6_18 kd_185 rf_185_2 dX6_isFull_1 (pc' := 4) rfl ?_
  refine J_sipush dX6_isFull_4 (pc' := 7) rfl (v := 150) sp_150 ?_
  refine J_icmp_lt dX6_isFull_7 (pt := 14) (by decide) (pc' := 10) rfl (fun c7 => ?_) (fun c7 => ?_)
  · refine J_iconst dX6_isFull_14 (pc' := 15) rfl (v := 0) ic_0 ?_
    refine J_zret dX6_isFull_15 rfl (by decide) (dv_r1 _) ?_
    exact ⟨by (try simp only [← Int32.not_le] at *); simp [dv_b, ch_s, ch_g, ch_d, *], rfl⟩
  · refine J_iconst dX6_isFull_10 (pc' := 11) rfl (v := 1) ic_1 ?_
    refine J_goto dX6_isFull_11 (pc' := 15) (by decide) ?_
    refine J_zret dX6_isFull_15 rfl (by decide) (dv_r1 _) ?_
    exact ⟨by (try simp only [← Int32.not_le] at *); simp [dv_b, ch_s, ch_g, ch_d, *], rfl⟩
set_option maxRecDepth 100000 in
set_option maxHeartbeats 400000 in
theorem qX4_size (d : Nat) (S : dv_S) (a : Nat) (ha : dv_kd a = 4) : dv_M yX4_size cX4_size 1 (some .int) (dv_rm (d + 0)) [.ref a] S (fun r S' => r = some (.int (S.1 a 1)) ∧ S' = S) := by
  refine dv_M_of [some (.ref a)] (by decide) (fun _ _ => Nat.le_of_ble_eq_true rfl) (fun _ _ => rfl) ?_
  refine J_aload_n dX4_size_0 (pc' := 1) rfl rfl ?_
  refine J_geti fX4_9 ha (dv_rf4_1 ha) dX4_size_1 (pc' := 4) rfl ?_
  refine J_iret dX4_size_4 rfl (dv_r1 _) ?_
  exact ⟨rfl, rfl⟩
set_option maxRecDepth 100000 in
set_option maxHeartbeats 400000 in
theorem qX4_has (d : Nat) (S : dv_S) (a : Nat) (x : Int32) (ha : dv_kd a = 4) : dv_M yX4_has cX4_has 2 (some .boolean) (dv_rm (d + 0)) [.ref a, .int x] S (fun r S' => r = some (.int (dv_b (decide (0 ≤ x ∧ x < S.1 a 1)))) ∧ S' = S) := by
  refine dv_M_of [some (.ref a), some (.int x)] (by decide) (fun _ _ => Nat.le_of_ble_eq_true rfl) (fun _ _ => rfl) ?_
  refine J_iload_n dX4_has_0 (pc' := 1) rfl rfl ?_
  refine J_if_lt dX4_has_1 (pt := 16) (by decide) (pc' := 4) rfl (fun c1 => ?_) (fun c1 => ?_)
  · refine J_iconst dX4_has_16 (pc' := 17) rfl (v := 0) ic_0 ?_
    refine J_zret dX4_has_17 rfl (by decide) (dv_r1 _) ?_
    exact ⟨by (try simp only [← Int32.not_le] at *); simp [dv_b, ch_s, ch_g, ch_d, *], rfl⟩
  · refine J_iload_n dX4_has_4 (pc' := 5) rfl rfl ?_
    refine J_aload_n dX4_has_5 (pc' := 6) rfl rfl ?_
    refine J_geti fX4_9 ha (dv_rf4_1 ha) dX4_has_6 (pc' := 9) rfl ?_
    refine J_icmp_ge dX4_has_9 (pt := 16) (by decide) (pc' := 12) rfl (fun c9 => ?_) (fun c9 => ?_)
    · refine J_iconst dX4_has_16 (pc' := 17) rfl (v := 0) ic_0 ?_
      refine J_zret dX4_has_17 rfl (by decide) (dv_r1 _) ?_
      exact ⟨by (try simp only [← Int32.not_le] at *); simp [dv_b, ch_s, ch_g, ch_d, *], rfl⟩
    · refine J_iconst dX4_has_12 (pc' := 13) rfl (v := 1) ic_1 ?_
      refine J_goto dX4_has_13 (pc' := 17) (by decide) ?_
      refine J_zret dX4_has_17 rfl (by decide) (dv_r1 _) ?_
      exact ⟨by (try simp only [← Int32.not_le] at *); simp [dv_b, ch_s, ch_g, ch_d, *], rfl⟩
