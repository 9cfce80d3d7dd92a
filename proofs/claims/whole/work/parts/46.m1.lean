set_option maxRecDepth 100000 in
set_option maxHeartbeats 400000 in
theorem qX8_thrown (d : Nat) (S : dv_S)  : dv_M yX8_thrown cX8_thrown 1 (some .int) (dv_rm (d + 0)) [.ref 516] S (fun r S' => r = some (.int (S.1 516 0)) ∧ S' = S) := by
  refine dv_M_of [some (.ref 516)] (by decide) (fun _ _ => Nat.le_of_ble_eq_true rfl) (fun _ _ => rfl) ?_
  refine J_aload_n dX8_thrown_0 (pc' := 1) rfl rfl ?_
  refine J_geti fX8_1 kd_516 rf_516_0 dX8_thrown_1 (pc' := 4) rfl ?_
  refine J_iret dX8_thrown_4 rfl (dv_r1 _) ?_
  exact ⟨rfl, rfl⟩
set_option maxRecDepth 100000 in
set_option maxHeartbeats 400000 in
theorem qX8_refused (d : Nat) (S : dv_S) (x : Int32)  : dv_M yX8_refused cX8_refused 2 (some .int) (dv_rm (d + 0)) [.ref 516, .int x] S (fun r S' => r = some (.int (-1)) ∧ S' = (rT S x)) := by
  refine dv_M_of [some (.ref 516), some (.int x)] (by decide) (fun _ _ => Nat.le_of_ble_eq_true rfl) (fun _ _ => rfl) ?_
  refine J_aload_n dX8_refused_0 (pc' := 1) rfl rfl ?_
  refine J_iload_n dX8_refused_1 (pc' := 2) rfl rfl ?_
  refine J_puti fX8_7 kd_516 rf_516_1 dX8_refused_2 (pc' := 5) rfl ?_
  refine J_iconst dX8_refused_5 (pc' := 6) rfl (v := (-1)) ic_m1 ?_
  refine J_iret dX8_refused_6 rfl (dv_r1 _) ?_
  exact ⟨rfl, rfl⟩
set_option maxRecDepth 100000 in
set_option maxHeartbeats 400000 in
theorem qX8_denied (d : Nat) (S : dv_S) (x : Int32)  : dv_M yX8_denied cX8_denied 2 (some .boolean) (dv_rm (d + 0)) [.ref 516, .int x] S (fun r S' => r = some (.int 0) ∧ S' = (rT S x)) := by
  refine dv_M_of [some (.ref 516), some (.int x)] (by decide) (fun _ _ => Nat.le_of_ble_eq_true rfl) (fun _ _ => rfl) ?_
  refine J_aload_n dX8_denied_0 (pc' := 1) rfl rfl ?_
  refine J_iload_n dX8_denied_1 (pc' := 2) rfl rfl ?_
  refine J_puti fX8_7 kd_516 rf_516_1 dX8_denied_2 (pc' := 5) rfl ?_
  refine J_iconst dX8_denied_5 (pc' := 6) rfl (v := 0) ic_0 ?_
  refine J_zret dX8_denied_6 rfl (by decide) (dv_r1 _) ?_
  exact ⟨rfl, rfl⟩
set_option maxRecDepth 100000 in
set_option maxHeartbeats 400000 in
theorem qX8_done (d : Nat) (S : dv_S) (x : Int32)  : dv_M yX8_done cX8_done 2 (some .int) (dv_rm (d + 0)) [.ref 516, .int x] S (fun r S' => r = some (.int x) ∧ S' = (rT S 0)) := by
  refine dv_M_of [some (.ref 516), some (.int x)] (by decide) (fun _ _ => Nat.le_of_ble_eq_true rfl) (fun _ _ => rfl) ?_
  refine J_aload_n dX8_done_0 (pc' := 1) rfl rfl ?_
  refine J_iconst dX8_done_1 (pc' := 2) rfl (v := 0) ic_0 ?_
  refine J_puti fX8_7 kd_516 rf_516_1 dX8_done_2 (pc' := 5) rfl ?_
  refine J_iload_n dX8_done_5 (pc' := 6) rfl rfl ?_
  refine J_iret dX8_done_6 rfl (dv_r1 _) ?_
  exact ⟨rfl, rfl⟩
set_option maxRecDepth 100000 in
set_option maxHeartbeats 400000 in
theorem qX8_granted (d : Nat) (S : dv_S)  : dv_M yX8_granted cX8_granted 1 (some .boolean) (dv_rm (d + 0)) [.ref 516] S (fun r S' => r = some (.int 1) ∧ S' = (rT S 0)) := by
  refine dv_M_of [some (.ref 516)] (by decide) (fun _ _ => Nat.le_of_ble_eq_true rfl) (fun _ _ => rfl) ?_
  refine J_aload_n dX8_granted_0 (pc' := 1) rfl rfl ?_
  refine J_iconst dX8_granted_1 (pc' := 2) rfl (v := 0) ic_0 ?_
  refine J_puti fX8_7 kd_516 rf_516_1 dX8_granted_2 (pc' := 5) rfl ?_
  refine J_iconst dX8_granted_5 (pc' := 6) rfl (v := 1) ic_1 ?_
  refine J_zret dX8_granted_6 rfl (by decide) (dv_r1 _) ?_
  exact ⟨rfl, rfl⟩
set_option maxRecDepth 100000 in
set_option maxHeartbeats 400000 in
theorem qX8_in (d : Nat) (S : dv_S) (x y z : Int32)  : dv_M yX8_in cX8_in 3 (some .boolean) (dv_rm (d + 0)) [.int x, .int y, .int z] S (fun r S' => r = some (.int (dv_b (decide (y ≤ x ∧ x ≤ z)))) ∧ S' = S) := by
  refine dv_M_of [some (.int x), some (.int y), some (.int z)] (by decide) (fun _ _ => Nat.le_of_ble_eq_true rfl) (fun _ _ => rfl) ?_
  refine J_iload_n dX8_in_0 (pc' := 1) rfl rfl ?_
  refine J_iload_n dX8_in_1 (pc' := 2) rfl rfl ?_
  refine J_icmp_lt dX8_in_2 (pt := 14) (by decide) (pc' := 5) rfl (fun c2 => ?_) (fun c2 => ?_)
  · refine J_iconst dX8_in_14 (pc' := 15) rfl (v := 0) ic_0 ?_
    refine J_zret dX8_in_15 rfl (by decide) (dv_r1 _) ?_
    exact ⟨by (try simp only [← Int32.not_le] at *); simp [dv_b, *], rfl⟩
  · refine J_iload_n dX8_in_5 (pc' := 6) rfl rfl ?_
    refine J_iload_n dX8_in_6 (pc' := 7) rfl rfl ?_
    refine J_icmp_gt dX8_in_7 (pt := 14) (by decide) (pc' := 10) rfl (fun c7 => ?_) (fun c7 => ?_)
    · refine J_iconst dX8_in_14 (pc' := 15) rfl (v := 0) ic_0 ?_
      refine J_zret dX8_in_15 rfl (by decide) (dv_r1 _) ?_
      exact ⟨by (try simp only [← Int32.not_le] at *); simp [dv_b, *], rfl⟩
    · refine J_iconst dX8_in_10 (pc' := 11) rfl (v := 1) ic_1 ?_
      refine J_goto dX8_in_11 (pc' := 15) (by decide) ?_
      refine J_zret dX8_in_15 rfl (by decide) (dv_r1 _) ?_
      exact ⟨by (try simp only [← Int32.not_le] at *); simp [dv_b, *], rfl⟩
set_option maxRecDepth 100000 in
set_option maxHeartbeats 400000 in
theorem qX8_isTaped (d : Nat) (S : dv_S) (x : Int32)  : dv_M yX8_isTaped cX8_isTaped 2 (some .boolean) (dv_rm (d + 0)) [.ref 516, .int x] S (fun r S' => r = some (.int (dv_b (decide (0 ≤ x ∧ x ≤ S.1 516 3)))) ∧ S' = S) := by
  refine dv_M_of [some (.ref 516), some (.int x)] (by decide) (fun _ _ => Nat.le_of_ble_eq_true rfl) (fun _ _ => rfl) ?_
  refine J_iload_n dX8_isTaped_0 (pc' := 1) rfl rfl ?_
  refine J_if_lt dX8_isTaped_1 (pt := 16) (by decide) (pc' := 4) rfl (fun c1 => ?_) (fun c1 => ?_)
  · refine J_iconst dX8_isTaped_16 (pc' := 17) rfl (v := 0) ic_0 ?_
    refine J_zret dX8_isTaped_17 rfl (by decide) (dv_r1 _) ?_
    exact ⟨by (try simp only [← Int32.not_le] at *); simp [dv_b, *], rfl⟩
  · refine J_iload_n dX8_isTaped_4 (pc' := 5) rfl rfl ?_
    refine J_aload_n dX8_isTaped_5 (pc' := 6) rfl rfl ?_
    refine J_geti fX8_10 kd_516 rf_516_3 dX8_isTaped_6 (pc' := 9) rfl ?_
    refine J_icmp_gt dX8_isTaped_9 (pt := 16) (by decide) (pc' := 12) rfl (fun c9 => ?_) (fun c9 => ?_)
    · refine J_iconst dX8_isTaped_16 (pc' := 17) rfl (v := 0) ic_0 ?_
      refine J_zret dX8_isTaped_17 rfl (by decide) (dv_r1 _) ?_
      exact ⟨by (try simp only [← Int32.not_le] at *); simp [dv_b, *], rfl⟩
    · refine J_iconst dX8_isTaped_12 (pc' := 13) rfl (v := 1) ic_1 ?_
      refine J_goto dX8_isTaped_13 (pc' := 17) (by decide) ?_
      refine J_zret dX8_isTaped_17 rfl (by decide) (dv_r1 _) ?_
      exact ⟨by (try simp only [← Int32.not_le] at *); simp [dv_b, *], rfl⟩
set_option maxRecDepth 100000 in
set_option maxHeartbeats 400000 in
theorem qX8_isScope (d : Nat) (S : dv_S) (x : Int32)  : dv_M yX8_isScope cX8_isScope 2 (some .boolean) (dv_rm (d + 0)) [.ref 516, .int x] S (fun r S' => r = some (.int (dv_b (decide (0 ≤ x ∧ x < S.1 516 4)))) ∧ S' = S) := by
  refine dv_M_of [some (.ref 516), some (.int x)] (by decide) (fun _ _ => Nat.le_of_ble_eq_true rfl) (fun _ _ => rfl) ?_
  refine J_iload_n dX8_isScope_0 (pc' := 1) rfl rfl ?_
  refine J_if_lt dX8_isScope_1 (pt := 16) (by decide) (pc' := 4) rfl (fun c1 => ?_) (fun c1 => ?_)
  · refine J_iconst dX8_isScope_16 (pc' := 17) rfl (v := 0) ic_0 ?_
    refine J_zret dX8_isScope_17 rfl (by decide) (dv_r1 _) ?_
    exact ⟨by (try simp only [← Int32.not_le] at *); simp [dv_b, *], rfl⟩
  · refine J_iload_n dX8_isScope_4 (pc' := 5) rfl rfl ?_
    refine J_aload_n dX8_isScope_5 (pc' := 6) rfl rfl ?_
    refine J_geti fX8_40 kd_516 rf_516_4 dX8_isScope_6 (pc' := 9) rfl ?_
    refine J_icmp_ge dX8_isScope_9 (pt := 16) (by decide) (pc' := 12) rfl (fun c9 => ?_) (fun c9 => ?_)
    · refine J_iconst dX8_isScope_16 (pc' := 17) rfl (v := 0) ic_0 ?_
      refine J_zret dX8_isScope_17 rfl (by decide) (dv_r1 _) ?_
      exact ⟨by (try simp only [← Int32.not_le] at *); simp [dv_b, *], rfl⟩
    · refine J_iconst dX8_isScope_12 (pc' := 13) rfl (v := 1) ic_1 ?_
      refine J_goto dX8_isScope_13 (pc' := 17) (by decide) ?_
      refine J_zret dX8_isScope_17 rfl (by decide) (dv_r1 _) ?_
      exact ⟨by (try simp only [← Int32.not_le] at *); simp [dv_b, *], rfl⟩
set_option maxRecDepth 100000 in
set_option maxHeartbeats 400000 in
theorem qX8_isThing (d : Nat) (S : dv_S) (x : Int32)  : dv_M yX8_isThing cX8_isThing 2 (some .boolean) (dv_rm (d + 0)) [.ref 516, .int x] S (fun r S' => r = some (.int (dv_b (decide (0 ≤ x ∧ x < S.1 516 5)))) ∧ S' = S) := by
  refine dv_M_of [some (.ref 516), some (.int x)] (by decide) (fun _ _ => Nat.le_of_ble_eq_true rfl) (fun _ _ => rfl) ?_
  refine J_iload_n dX8_isThing_0 (pc' := 1) rfl rfl ?_
  refine J_if_lt dX8_isThing_1 (pt := 16) (by decide) (pc' := 4) rfl (fun c1 => ?_) (fun c1 => ?_)
  · refine J_iconst dX8_isThing_16 (pc' := 17) rfl (v := 0) ic_0 ?_
    refine J_zret dX8_isThing_17 rfl (by decide) (dv_r1 _) ?_
    exact ⟨by (try simp only [← Int32.not_le] at *); simp [dv_b, *], rfl⟩
  · refine J_iload_n dX8_isThing_4 (pc' := 5) rfl rfl ?_
    refine J_aload_n dX8_isThing_5 (pc' := 6) rfl rfl ?_
    refine J_geti fX8_120 kd_516 rf_516_5 dX8_isThing_6 (pc' := 9) rfl ?_
    refine J_icmp_ge dX8_isThing_9 (pt := 16) (by decide) (pc' := 12) rfl (fun c9 => ?_) (fun c9 => ?_)
    · refine J_iconst dX8_isThing_16 (pc' := 17) rfl (v := 0) ic_0 ?_
      refine J_zret dX8_isThing_17 rfl (by decide) (dv_r1 _) ?_
      exact ⟨by (try simp only [← Int32.not_le] at *); simp [dv_b, *], rfl⟩
    · refine J_iconst dX8_isThing_12 (pc' := 13) rfl (v := 1) ic_1 ?_
      refine J_goto dX8_isThing_13 (pc' := 17) (by decide) ?_
      refine J_zret dX8_isThing_17 rfl (by decide) (dv_r1 _) ?_
      exact ⟨by (try simp only [← Int32.not_le] at *); simp [dv_b, *], rfl⟩
set_option maxRecDepth 100000 in
set_option maxHeartbeats 400000 in
theorem qX8_isWord (d : Nat) (S : dv_S) (x : Int32)  : dv_M yX8_isWord cX8_isWord 2 (some .boolean) (dv_rm (d + 0)) [.ref 516, .int x] S (fun r S' => r = some (.int (dv_b (decide (0 ≤ x ∧ x < S.1 516 17)))) ∧ S' = S) := by
  refine dv_M_of [some (.ref 516), some (.int x)] (by decide) (fun _ _ => Nat.le_of_ble_eq_true rfl) (fun _ _ => rfl) ?_
  refine J_iload_n dX8_isWord_0 (pc' := 1) rfl rfl ?_
  refine J_if_lt dX8_isWord_1 (pt := 16) (by decide) (pc' := 4) rfl (fun c1 => ?_) (fun c1 => ?_)
  · refine J_iconst dX8_isWord_16 (pc' := 17) rfl (v := 0) ic_0 ?_
    refine J_zret dX8_isWord_17 rfl (by decide) (dv_r1 _) ?_
    exact ⟨by (try simp only [← Int32.not_le] at *); simp [dv_b, *], rfl⟩
  · refine J_iload_n dX8_isWord_4 (pc' := 5) rfl rfl ?_
    refine J_aload_n dX8_isWord_5 (pc' := 6) rfl rfl ?_
    refine J_geti fX8_165 kd_516 rf_516_17 dX8_isWord_6 (pc' := 9) rfl ?_
    refine J_icmp_ge dX8_isWord_9 (pt := 16) (by decide) (pc' := 12) rfl (fun c9 => ?_) (fun c9 => ?_)
    · refine J_iconst dX8_isWord_16 (pc' := 17) rfl (v := 0) ic_0 ?_
      refine J_zret dX8_isWord_17 rfl (by decide) (dv_r1 _) ?_
      exact ⟨by (try simp only [← Int32.not_le] at *); simp [dv_b, *], rfl⟩
    · refine J_iconst dX8_isWord_12 (pc' := 13) rfl (v := 1) ic_1 ?_
      refine J_goto dX8_isWord_13 (pc' := 17) (by decide) ?_
      refine J_zret dX8_isWord_17 rfl (by decide) (dv_r1 _) ?_
      exact ⟨by (try simp only [← Int32.not_le] at *); simp [dv_b, *], rfl⟩
set_option maxRecDepth 100000 in
set_option maxHeartbeats 400000 in
theorem qX8_low (d : Nat) (S : dv_S) (x : Int32)  : dv_M yX8_low cX8_low 1 (some .int) (dv_rm (d + 1)) [.int x] S (fun r S' => r = some (.int (ch_lo x)) ∧ S' = S) := by
  refine dv_M_of [some (.int x)] (by decide) (fun _ _ => Nat.le_of_ble_eq_true rfl) (fun _ _ => rfl) ?_
  refine J_iload_n dX8_low_0 (pc' := 1) rfl rfl ?_
  refine J_s1 (As := [.int x]) (rest := []) (qX8_isGreat _ _ _) vX8_isGreat mX8_21 dX8_low_1 (pc' := 4) rfl rfl (Nat.le_of_ble_eq_true rfl) (by decide) ?_
  refine J_beq dX8_low_4 (pt := 14) (by decide) (pc' := 7) rfl (fun c4 => ?_) (fun c4 => ?_)
  · refine J_iload_n dX8_low_14 (pc' := 15) rfl rfl ?_
    refine J_iret dX8_low_15 rfl (dv_r1 _) ?_
    exact ⟨by rw [ch_lo, if_neg (by rw [c4]; decide)], rfl⟩
  · refine J_iload_n dX8_low_7 (pc' := 8) rfl rfl ?_
    refine J_bipush dX8_low_8 (pc' := 10) rfl (v := 32) bp_32 ?_
    refine J_iadd dX8_low_10 (pc' := 11) rfl ?_
    refine J_goto dX8_low_11 (pc' := 15) (by decide) ?_
    refine J_iret dX8_low_15 rfl (dv_r1 _) ?_
    exact ⟨by rw [ch_lo, if_pos c4]; exact congrArg (fun z => some (Value.int z)) (by rw [show (97 : Int32) = 65 + 32 by decide, ← Int32.add_assoc, Int32.sub_add_cancel]), rfl⟩
set_option maxRecDepth 100000 in
set_option maxHeartbeats 400000 in
theorem qX8_isSame (d : Nat) (S : dv_S) (a f n b g m : Nat) (ha : dv_kd a = 9) (hb : dv_kd b = 9) (hfn : f + n ≤ dv_ln a) (hgm : g + m ≤ dv_ln b)  : dv_M yX8_isSame cX8_isSame 8 (some .boolean) (dv_rm (d + 0)) [.ref a, .int (nI f), .int (nI n), .ref b, .int (nI g), .int (nI m)] S (fun r S' => r = some (.int (dv_b (decide (dv_rd (fun z => S.2.1 a (f + z)) n = dv_rd (fun z => S.2.1 b (g + z)) m)))) ∧ S' = S) := by
  have h1 := dv_ln_lt a
  have h2 := dv_ln_lt b
  refine dv_M_of [some (.ref a), some (.int (nI f)), some (.int (nI n)), some (.ref b), some (.int (nI g)), some (.int (nI m)), none, none] (by decide) (fun _ _ => Nat.le_of_ble_eq_true rfl) (fun _ _ => rfl) ?_
  have hj11 : ∀ v : Int32, (dv_b (decide (n = m))) = v → dv_J yX8_isSame cX8_isSame 8 (some .boolean) (dv_rm (d + 0)) 0 0 11 [some (.ref a), some (.int (nI f)), some (.int (nI n)), some (.ref b), some (.int (nI g)), some (.int (nI m)), none, none] [.int v] S (fun r S' => r = some (.int (dv_b (decide (dv_rd (fun z => S.2.1 a (f + z)) n = dv_rd (fun z => S.2.1 b (g + z)) m)))) ∧ S' = S) := by
    intro v hv
    subst hv
    refine J_istore dX8_isSame_11 (pc' := 13) rfl (by decide) rfl (l' := [some (.ref a), some (.int (nI f)), some (.int (nI n)), some (.ref b), some (.int (nI g)), some (.int (nI m)), some (.int (dv_b (decide (n = m)))), none]) rfl ?_
    refine J_iconst dX8_isSame_13 (pc' := 14) rfl (v := 0) ic_0 ?_
    refine J_istore dX8_isSame_14 (pc' := 16) rfl (by decide) rfl (l' := [some (.ref a), some (.int (nI f)), some (.int (nI n)), some (.ref b), some (.int (nI g)), some (.int (nI m)), some (.int (dv_b (decide (n = m)))), some (.int 0)]) rfl ?_
    have hlp16 : ∀ k, k ≤ n → dv_J yX8_isSame cX8_isSame 8 (some .boolean) (dv_rm (d + 0)) 0 0 16 [some (.ref a), some (.int (nI f)), some (.int (nI n)), some (.ref b), some (.int (nI g)), some (.int (nI m)), some (.int (dv_b ((decide (n = m) && rsm (fun z => S.2.1 a (f + z)) (fun z => S.2.1 b (g + z)) k)))), some (.int (nI k))] [] S (fun r S' => r = some (.int (dv_b (decide (dv_rd (fun z => S.2.1 a (f + z)) n = dv_rd (fun z => S.2.1 b (g + z)) m)))) ∧ S' = S) := by
      refine dv_up (P := fun k => dv_J yX8_isSame cX8_isSame 8 (some .boolean) (dv_rm (d + 0)) 0 0 16 [some (.ref a), some (.int (nI f)), some (.int (nI n)), some (.ref b), some (.int (nI g)), some (.int (nI m)), some (.int (dv_b ((decide (n = m) && rsm (fun z => S.2.1 a (f + z)) (fun z => S.2.1 b (g + z)) k)))), some (.int (nI k))] [] S (fun r S' => r = some (.int (dv_b (decide (dv_rd (fun z => S.2.1 a (f + z)) n = dv_rd (fun z => S.2.1 b (g + z)) m)))) ∧ S' = S)) ?_
      intro k hi16 ih16 
      refine J_iload dX8_isSame_16 (pc' := 18) rfl rfl ?_
      refine J_iload_n dX8_isSame_18 (pc' := 19) rfl rfl ?_
      refine J_icmp_ge dX8_isSame_19 (pt := 56) (by decide) (pc' := 22) rfl (fun c19 => ?_) (fun c19 => ?_)
      · have hx := dv_ge hi16 (by omega) c19
        refine J_iload dX8_isSame_56 (pc' := 58) rfl rfl ?_
        refine J_zret dX8_isSame_58 rfl (dv_b_01 _) (dv_r1 _) ?_
        first | exact ⟨by rw [hx, rsm_rd], rfl⟩ | exact ⟨by rw [c24, rsm_no (by omega) c24], rfl⟩
      · have hx := dv_nge hi16 (by omega) c19
        refine J_iload dX8_isSame_22 (pc' := 24) rfl rfl ?_
        refine J_beq dX8_isSame_24 (pt := 56) (by decide) (pc' := 27) rfl (fun c24 => ?_) (fun c24 => ?_)
        · refine J_iload dX8_isSame_56 (pc' := 58) rfl rfl ?_
          refine J_zret dX8_isSame_58 rfl (dv_b_01 _) (dv_r1 _) ?_
          first | exact ⟨by rw [hx, rsm_rd], rfl⟩ | exact ⟨by rw [c24, rsm_no (by omega) c24], rfl⟩
        · have hnm : n = m := by rw [Bool.and_eq_true] at c24; exact of_decide_eq_true c24.1
          have hj48 : ∀ v : Int32, (dv_b (decide (S.2.1 a (f + k) = S.2.1 b (g + k)))) = v → dv_J yX8_isSame cX8_isSame 8 (some .boolean) (dv_rm (d + 0)) 0 0 48 [some (.ref a), some (.int (nI f)), some (.int (nI n)), some (.ref b), some (.int (nI g)), some (.int (nI m)), some (.int (dv_b ((decide (n = m) && rsm (fun z => S.2.1 a (f + z)) (fun z => S.2.1 b (g + z)) k)))), some (.int (nI k))] [.int v] S (fun r S' => r = some (.int (dv_b (decide (dv_rd (fun z => S.2.1 a (f + z)) n = dv_rd (fun z => S.2.1 b (g + z)) m)))) ∧ S' = S) := by
            intro v hv
            subst hv
            refine J_istore dX8_isSame_48 (pc' := 50) rfl (by decide) rfl (l' := [some (.ref a), some (.int (nI f)), some (.int (nI n)), some (.ref b), some (.int (nI g)), some (.int (nI m)), some (.int (dv_b (decide (S.2.1 a (f + k) = S.2.1 b (g + k))))), some (.int (nI k))]) rfl ?_
            refine J_iinc dX8_isSame_50 (pc' := 53) rfl rfl (v := nI (k + 1)) (nI_1 k) (by decide) rfl (l' := [some (.ref a), some (.int (nI f)), some (.int (nI n)), some (.ref b), some (.int (nI g)), some (.int (nI m)), some (.int (dv_b (decide (S.2.1 a (f + k) = S.2.1 b (g + k))))), some (.int (nI (k + 1)))]) rfl ?_
            refine J_goto dX8_isSame_53 (pc' := 16) (by decide) ?_
            refine J_loc ?_ (ih16 (k + 1) (by omega) (by omega))
            clear ih16
            rw [Bool.and_eq_true] at c24
            simp only [rsm, c24.1, c24.2, Bool.true_and]
          refine J_aload_n dX8_isSame_27 (pc' := 28) rfl rfl ?_
          refine J_iload_n dX8_isSame_28 (pc' := 29) rfl rfl ?_
          refine J_iload dX8_isSame_29 (pc' := 31) rfl rfl ?_
          refine J_iadd dX8_isSame_31 (pc' := 32) rfl ?_
          refine J_bald (j := f + k) ha (nI_add f k) (by omega) dX8_isSame_32 (pc' := 33) rfl ?_
          refine J_aload_n dX8_isSame_33 (pc' := 34) rfl rfl ?_
          refine J_iload dX8_isSame_34 (pc' := 36) rfl rfl ?_
          refine J_iload dX8_isSame_36 (pc' := 38) rfl rfl ?_
          refine J_iadd dX8_isSame_38 (pc' := 39) rfl ?_
          refine J_bald (j := g + k) hb (nI_add g k) (by omega) dX8_isSame_39 (pc' := 40) rfl ?_
          refine J_icmp_ne dX8_isSame_40 (pt := 47) (by decide) (pc' := 43) rfl (fun c40 => ?_) (fun c40 => ?_)
          · refine J_iconst dX8_isSame_47 (pc' := 48) rfl (v := 0) ic_0 ?_
            exact hj48 _ (by simp [dv_b, c40])
          · refine J_iconst dX8_isSame_43 (pc' := 44) rfl (v := 1) ic_1 ?_
            refine J_goto dX8_isSame_44 (pc' := 48) (by decide) ?_
            exact hj48 _ (by simp [dv_b, c40])
    refine J_loc (l' := [some (.ref a), some (.int (nI f)), some (.int (nI n)), some (.ref b), some (.int (nI g)), some (.int (nI m)), some (.int (dv_b ((decide (n = m) && rsm (fun z => S.2.1 a (f + z)) (fun z => S.2.1 b (g + z)) 0)))), some (.int (nI 0))]) (by simp only [nI_0, rsm, Bool.and_true]) ?_
    exact hlp16 0 (Nat.zero_le _) 
  refine J_iload_n dX8_isSame_0 (pc' := 1) rfl rfl ?_
  refine J_iload dX8_isSame_1 (pc' := 3) rfl rfl ?_
  refine J_icmp_ne dX8_isSame_3 (pt := 10) (by decide) (pc' := 6) rfl (fun c3 => ?_) (fun c3 => ?_)
  · rw [nI_eq (by omega) (by omega)] at c3
    refine J_iconst dX8_isSame_10 (pc' := 11) rfl (v := 0) ic_0 ?_
    exact hj11 _ (by simp [dv_b, c3])
  · rw [nI_eq (by omega) (by omega)] at c3
    refine J_iconst dX8_isSame_6 (pc' := 7) rfl (v := 1) ic_1 ?_
    refine J_goto dX8_isSame_7 (pc' := 11) (by decide) ?_
    exact hj11 _ (by simp [dv_b, c3])
set_option maxRecDepth 100000 in
set_option maxHeartbeats 400000 in
theorem qX8_isName (d : Nat) (S : dv_S) (a f n : Nat) (ha : dv_kd a = 9) (hfn : f + n ≤ dv_ln a)  : dv_M yX8_isName cX8_isName 6 (some .boolean) (dv_rm (d + 2)) [.ref a, .int (nI f), .int (nI n)] S (fun r S' => r = some (.int (dv_b (nm_ok (dv_rd (fun z => S.2.1 a (f + z)) n)))) ∧ S' = S) := by
  have h1 := dv_ln_lt a
  refine dv_M_of [some (.ref a), some (.int (nI f)), some (.int (nI n)), none, none, none] (by decide) (fun _ _ => Nat.le_of_ble_eq_true rfl) (fun _ _ => rfl) ?_
  refine J_iload_n dX8_isName_0 (pc' := 1) rfl rfl ?_
  refine J_iconst dX8_isName_1 (pc' := 2) rfl (v := 1) ic_1 ?_
  refine J_bipush dX8_isName_2 (pc' := 4) rfl (v := 24) bp_24 ?_
  refine J_s1 (As := [.int (nI n), .int 1, .int 24]) (rest := []) (qX8_in _ _ _ _ _) vX8_in mX8_24 dX8_isName_4 (pc' := 7) rfl rfl (Nat.le_of_ble_eq_true rfl) (by decide) ?_
  refine J_beq dX8_isName_7 (pt := 19) (by decide) (pc' := 10) rfl (fun c7 => ?_) (fun c7 => ?_)
  · have hr : ¬ (1 ≤ n ∧ n ≤ 24) := fun q => of_decide_eq_false c7 ⟨by rw [dv_n1, nI_leI (by omega) (by omega)]; exact q.1, by rw [dv_n24, nI_leI (by omega) (by omega)]; exact q.2⟩
    refine J_iconst dX8_isName_19 (pc' := 20) rfl (v := 0) ic_0 ?_
    refine J_zret dX8_isName_20 rfl (by decide) (dv_r1 _) ?_
    first | exact ⟨by rw [hx, nm_sp (by rw [dv_rd_len]; exact hr) hh], rfl⟩ | exact ⟨by unfold nm_ok; rw [dv_rd_len, decide_eq_false hr]; rfl, rfl⟩ | exact ⟨by unfold nm_ok; rw [hh]; simp [dv_b], rfl⟩
  · have hr : 1 ≤ n ∧ n ≤ 24 := by have q := of_decide_eq_true c7; rw [dv_n1, dv_n24, nI_leI (by omega) (by omega), nI_leI (by omega) (by omega)] at q; exact q
    refine J_aload_n dX8_isName_10 (pc' := 11) rfl rfl ?_
    refine J_iload_n dX8_isName_11 (pc' := 12) rfl rfl ?_
    refine J_bald (j := f + 0) ha (rfl) (by omega) dX8_isName_12 (pc' := 13) rfl ?_
    refine J_s1 (As := [.int (S.2.1 a (f + 0))]) (rest := []) (qX8_isDigit _ _ _) vX8_isDigit mX8_28 dX8_isName_13 (pc' := 16) rfl rfl (Nat.le_of_ble_eq_true rfl) (by decide) ?_
    refine J_beq dX8_isName_16 (pt := 21) (by decide) (pc' := 19) rfl (fun c16 => ?_) (fun c16 => ?_)
    · have hh : ch_d ((dv_rd (fun z => S.2.1 a (f + z)) n).headD 0) = false := by rw [dv_rd_hd (by omega)]; exact c16
      refine J_iconst dX8_isName_21 (pc' := 22) rfl (v := 1) ic_1 ?_
      refine J_istore_n dX8_isName_22 (pc' := 23) rfl rfl (by decide) rfl (l' := [some (.ref a), some (.int (nI f)), some (.int (nI n)), some (.int 1), none, none]) rfl ?_
      refine J_iconst dX8_isName_23 (pc' := 24) rfl (v := 0) ic_0 ?_
      refine J_istore dX8_isName_24 (pc' := 26) rfl (by decide) rfl (l' := [some (.ref a), some (.int (nI f)), some (.int (nI n)), some (.int 1), some (.int 0), none]) rfl ?_
      refine J_iload_n dX8_isName_26 (pc' := 27) rfl rfl ?_
      refine J_istore dX8_isName_27 (pc' := 29) rfl (by decide) rfl (l' := [some (.ref a), some (.int (nI f)), some (.int (nI n)), some (.int 1), some (.int 0), some (.int (nI f))]) rfl ?_
      have hlp29 : ∀ i, i ≤ n → dv_J yX8_isName cX8_isName 6 (some .boolean) (dv_rm (d + 2)) 0 0 29 [some (.ref a), some (.int (nI f)), some (.int (nI n)), some (.int (dv_b ((dv_rd (fun z => S.2.1 a (f + z)) i).all ch_n))), some (.int (dv_b ((dv_rd (fun z => S.2.1 a (f + z)) i).any ch_l))), some (.int (nI (f + i)))] [] S (fun r S' => r = some (.int (dv_b (nm_ok (dv_rd (fun z => S.2.1 a (f + z)) n)))) ∧ S' = S) := by
        refine dv_up (P := fun i => dv_J yX8_isName cX8_isName 6 (some .boolean) (dv_rm (d + 2)) 0 0 29 [some (.ref a), some (.int (nI f)), some (.int (nI n)), some (.int (dv_b ((dv_rd (fun z => S.2.1 a (f + z)) i).all ch_n))), some (.int (dv_b ((dv_rd (fun z => S.2.1 a (f + z)) i).any ch_l))), some (.int (nI (f + i)))] [] S (fun r S' => r = some (.int (dv_b (nm_ok (dv_rd (fun z => S.2.1 a (f + z)) n)))) ∧ S' = S)) ?_
        intro i hi29 ih29 
        refine J_iload dX8_isName_29 (pc' := 31) rfl rfl ?_
        refine J_iload_n dX8_isName_31 (pc' := 32) rfl rfl ?_
        refine J_iload_n dX8_isName_32 (pc' := 33) rfl rfl ?_
        refine J_iadd dX8_isName_33 (pc' := 34) rfl ?_
        refine J_top (w := .int (nI (f + n))) (by rw [nI_add]) ?_
        refine J_icmp_ge dX8_isName_34 (pt := 104) (by decide) (pc' := 37) rfl (fun c34 => ?_) (fun c34 => ?_)
        · have hx := dv_ge hi29 (by omega) (show nI n ≤ nI i by rw [nI_leI (by omega) (by omega)] at c34 ⊢; omega)
          have hj118 : ∀ v : Int32, (dv_b ((dv_rd (fun z => S.2.1 a (f + z)) i).all ch_n && (dv_rd (fun z => S.2.1 a (f + z)) i).any ch_l)) = v → dv_J yX8_isName cX8_isName 6 (some .boolean) (dv_rm (d + 2)) 0 0 118 [some (.ref a), some (.int (nI f)), some (.int (nI n)), some (.int (dv_b ((dv_rd (fun z => S.2.1 a (f + z)) i).all ch_n))), some (.int (dv_b ((dv_rd (fun z => S.2.1 a (f + z)) i).any ch_l))), some (.int (nI (f + i)))] [.int v] S (fun r S' => r = some (.int (dv_b (nm_ok (dv_rd (fun z => S.2.1 a (f + z)) n)))) ∧ S' = S) := by
            intro v hv
            subst hv
            refine J_zret dX8_isName_118 rfl (dv_b_01 _) (dv_r1 _) ?_
            first | exact ⟨by rw [hx, nm_sp (by rw [dv_rd_len]; exact hr) hh], rfl⟩ | exact ⟨by unfold nm_ok; rw [dv_rd_len, decide_eq_false hr]; rfl, rfl⟩ | exact ⟨by unfold nm_ok; rw [hh]; simp [dv_b], rfl⟩
          refine J_iload_n dX8_isName_104 (pc' := 105) rfl rfl ?_
          refine J_beq dX8_isName_105 (pt := 117) (by decide) (pc' := 108) rfl (fun c105 => ?_) (fun c105 => ?_)
          · refine J_iconst dX8_isName_117 (pc' := 118) rfl (v := 0) ic_0 ?_
            exact hj118 _ (by first | (simp [dv_b, c105]; done) | (simp [dv_b, c105, c110]; done))
          · refine J_iload dX8_isName_108 (pc' := 110) rfl rfl ?_
            refine J_beq dX8_isName_110 (pt := 117) (by decide) (pc' := 113) rfl (fun c110 => ?_) (fun c110 => ?_)
            · refine J_iconst dX8_isName_117 (pc' := 118) rfl (v := 0) ic_0 ?_
              exact hj118 _ (by first | (simp [dv_b, c105]; done) | (simp [dv_b, c105, c110]; done))
            · refine J_iconst dX8_isName_113 (pc' := 114) rfl (v := 1) ic_1 ?_
              refine J_goto dX8_isName_114 (pc' := 118) (by decide) ?_
              exact hj118 _ (by first | (simp [dv_b, c105]; done) | (simp [dv_b, c105, c110]; done))
        · have hx := dv_nge hi29 (by omega) (show ¬ nI n ≤ nI i by rw [nI_leI (by omega) (by omega)] at c34 ⊢; omega)
          have hj75 : ∀ v : Int32, (dv_b ((dv_rd (fun z => S.2.1 a (f + z)) i).all ch_n && ch_n (S.2.1 a (f + i)))) = v → dv_J yX8_isName cX8_isName 6 (some .boolean) (dv_rm (d + 2)) 0 0 75 [some (.ref a), some (.int (nI f)), some (.int (nI n)), some (.int (dv_b ((dv_rd (fun z => S.2.1 a (f + z)) i).all ch_n))), some (.int (dv_b ((dv_rd (fun z => S.2.1 a (f + z)) i).any ch_l))), some (.int (nI (f + i)))] [.int v] S (fun r S' => r = some (.int (dv_b (nm_ok (dv_rd (fun z => S.2.1 a (f + z)) n)))) ∧ S' = S) := by
            intro v hv
            subst hv
            refine J_istore_n dX8_isName_75 (pc' := 76) rfl rfl (by decide) rfl (l' := [some (.ref a), some (.int (nI f)), some (.int (nI n)), some (.int (dv_b ((dv_rd (fun z => S.2.1 a (f + z)) i).all ch_n && ch_n (S.2.1 a (f + i))))), some (.int (dv_b ((dv_rd (fun z => S.2.1 a (f + z)) i).any ch_l))), some (.int (nI (f + i)))]) rfl ?_
            have hj96 : ∀ v : Int32, (dv_b ((dv_rd (fun z => S.2.1 a (f + z)) i).any ch_l || ch_l (S.2.1 a (f + i)))) = v → dv_J yX8_isName cX8_isName 6 (some .boolean) (dv_rm (d + 2)) 0 0 96 [some (.ref a), some (.int (nI f)), some (.int (nI n)), some (.int (dv_b ((dv_rd (fun z => S.2.1 a (f + z)) i).all ch_n && ch_n (S.2.1 a (f + i))))), some (.int (dv_b ((dv_rd (fun z => S.2.1 a (f + z)) i).any ch_l))), some (.int (nI (f + i)))] [.int v] S (fun r S' => r = some (.int (dv_b (nm_ok (dv_rd (fun z => S.2.1 a (f + z)) n)))) ∧ S' = S) := by
              intro v hv
              subst hv
              refine J_istore dX8_isName_96 (pc' := 98) rfl (by decide) rfl (l' := [some (.ref a), some (.int (nI f)), some (.int (nI n)), some (.int (dv_b ((dv_rd (fun z => S.2.1 a (f + z)) i).all ch_n && ch_n (S.2.1 a (f + i))))), some (.int (dv_b ((dv_rd (fun z => S.2.1 a (f + z)) i).any ch_l || ch_l (S.2.1 a (f + i))))), some (.int (nI (f + i)))]) rfl ?_
              refine J_iinc dX8_isName_98 (pc' := 101) rfl rfl (v := nI ((f + i) + 1)) (nI_1 (f + i)) (by decide) rfl (l' := [some (.ref a), some (.int (nI f)), some (.int (nI n)), some (.int (dv_b ((dv_rd (fun z => S.2.1 a (f + z)) i).all ch_n && ch_n (S.2.1 a (f + i))))), some (.int (dv_b ((dv_rd (fun z => S.2.1 a (f + z)) i).any ch_l || ch_l (S.2.1 a (f + i))))), some (.int (nI ((f + i) + 1)))]) rfl ?_
              refine J_goto dX8_isName_101 (pc' := 29) (by decide) ?_
              refine J_loc ?_ (ih29 (i + 1) (by omega) (by omega))
              clear ih29
              simp only [dv_all_s, dv_any_s, Nat.add_assoc]
            refine J_iload dX8_isName_76 (pc' := 78) rfl rfl ?_
            refine J_bne dX8_isName_78 (pt := 91) (by decide) (pc' := 81) rfl (fun c78 => ?_) (fun c78 => ?_)
            · refine J_iconst dX8_isName_91 (pc' := 92) rfl (v := 1) ic_1 ?_
              refine J_goto dX8_isName_92 (pc' := 96) (by decide) ?_
              exact hj96 _ (by first | (simp [dv_b, c78]; done) | (simp [dv_b, c78, c88]; done))
            · refine J_aload_n dX8_isName_81 (pc' := 82) rfl rfl ?_
              refine J_iload dX8_isName_82 (pc' := 84) rfl rfl ?_
              refine J_bald (j := f + i) ha (rfl) (by omega) dX8_isName_84 (pc' := 85) rfl ?_
              refine J_s1 (As := [.int (S.2.1 a (f + i))]) (rest := []) (qX8_isLetter _ _ _) vX8_isLetter mX8_31 dX8_isName_85 (pc' := 88) rfl rfl (Nat.le_of_ble_eq_true rfl) (by decide) ?_
              refine J_beq dX8_isName_88 (pt := 95) (by decide) (pc' := 91) rfl (fun c88 => ?_) (fun c88 => ?_)
              · refine J_iconst dX8_isName_95 (pc' := 96) rfl (v := 0) ic_0 ?_
                exact hj96 _ (by first | (simp [dv_b, c78]; done) | (simp [dv_b, c78, c88]; done))
              · refine J_iconst dX8_isName_91 (pc' := 92) rfl (v := 1) ic_1 ?_
                refine J_goto dX8_isName_92 (pc' := 96) (by decide) ?_
                exact hj96 _ (by first | (simp [dv_b, c78]; done) | (simp [dv_b, c78, c88]; done))
          refine J_iload_n dX8_isName_37 (pc' := 38) rfl rfl ?_
          refine J_beq dX8_isName_38 (pt := 74) (by decide) (pc' := 41) rfl (fun c38 => ?_) (fun c38 => ?_)
          · refine J_iconst dX8_isName_74 (pc' := 75) rfl (v := 0) ic_0 ?_
            exact hj75 _ (by first | (simp [dv_b, c38]; done) | (simp [dv_b, ch_n, c38, c48]; done) | (simp [dv_b, ch_n, c38, c48, c58]; done) | (simp [dv_b, ch_n, c38, c48, c58, c67]; done))
          · refine J_aload_n dX8_isName_41 (pc' := 42) rfl rfl ?_
            refine J_iload dX8_isName_42 (pc' := 44) rfl rfl ?_
            refine J_bald (j := f + i) ha (rfl) (by omega) dX8_isName_44 (pc' := 45) rfl ?_
            refine J_s1 (As := [.int (S.2.1 a (f + i))]) (rest := []) (qX8_isLetter _ _ _) vX8_isLetter mX8_31 dX8_isName_45 (pc' := 48) rfl rfl (Nat.le_of_ble_eq_true rfl) (by decide) ?_
            refine J_bne dX8_isName_48 (pt := 70) (by decide) (pc' := 51) rfl (fun c48 => ?_) (fun c48 => ?_)
            · refine J_iconst dX8_isName_70 (pc' := 71) rfl (v := 1) ic_1 ?_
              refine J_goto dX8_isName_71 (pc' := 75) (by decide) ?_
              exact hj75 _ (by first | (simp [dv_b, c38]; done) | (simp [dv_b, ch_n, c38, c48]; done) | (simp [dv_b, ch_n, c38, c48, c58]; done) | (simp [dv_b, ch_n, c38, c48, c58, c67]; done))
            · refine J_aload_n dX8_isName_51 (pc' := 52) rfl rfl ?_
              refine J_iload dX8_isName_52 (pc' := 54) rfl rfl ?_
              refine J_bald (j := f + i) ha (rfl) (by omega) dX8_isName_54 (pc' := 55) rfl ?_
              refine J_s1 (As := [.int (S.2.1 a (f + i))]) (rest := []) (qX8_isDigit _ _ _) vX8_isDigit mX8_28 dX8_isName_55 (pc' := 58) rfl rfl (Nat.le_of_ble_eq_true rfl) (by decide) ?_
              refine J_bne dX8_isName_58 (pt := 70) (by decide) (pc' := 61) rfl (fun c58 => ?_) (fun c58 => ?_)
              · refine J_iconst dX8_isName_70 (pc' := 71) rfl (v := 1) ic_1 ?_
                refine J_goto dX8_isName_71 (pc' := 75) (by decide) ?_
                exact hj75 _ (by first | (simp [dv_b, c38]; done) | (simp [dv_b, ch_n, c38, c48]; done) | (simp [dv_b, ch_n, c38, c48, c58]; done) | (simp [dv_b, ch_n, c38, c48, c58, c67]; done))
              · refine J_aload_n dX8_isName_61 (pc' := 62) rfl rfl ?_
                refine J_iload dX8_isName_62 (pc' := 64) rfl rfl ?_
                refine J_bald (j := f + i) ha (rfl) (by omega) dX8_isName_64 (pc' := 65) rfl ?_
                refine J_bipush dX8_isName_65 (pc' := 67) rfl (v := 95) bp_95 ?_
                refine J_icmp_ne dX8_isName_67 (pt := 74) (by decide) (pc' := 70) rfl (fun c67 => ?_) (fun c67 => ?_)
                · refine J_iconst dX8_isName_74 (pc' := 75) rfl (v := 0) ic_0 ?_
                  exact hj75 _ (by first | (simp [dv_b, c38]; done) | (simp [dv_b, ch_n, c38, c48]; done) | (simp [dv_b, ch_n, c38, c48, c58]; done) | (simp [dv_b, ch_n, c38, c48, c58, c67]; done))
                · refine J_iconst dX8_isName_70 (pc' := 71) rfl (v := 1) ic_1 ?_
                  refine J_goto dX8_isName_71 (pc' := 75) (by decide) ?_
                  exact hj75 _ (by first | (simp [dv_b, c38]; done) | (simp [dv_b, ch_n, c38, c48]; done) | (simp [dv_b, ch_n, c38, c48, c58]; done) | (simp [dv_b, ch_n, c38, c48, c58, c67]; done))
      refine J_loc (l' := [some (.ref a), some (.int (nI f)), some (.int (nI n)), some (.int (dv_b ((dv_rd (fun z => S.2.1 a (f + z)) 0).all ch_n))), some (.int (dv_b ((dv_rd (fun z => S.2.1 a (f + z)) 0).any ch_l))), some (.int (nI (f + 0)))]) (by simp only [dv_rd_0, List.all_nil, List.any_nil, Nat.add_zero, dv_b_t, dv_b_f]) ?_
      exact hlp29 0 (Nat.zero_le _) 
    · have hh : ch_d ((dv_rd (fun z => S.2.1 a (f + z)) n).headD 0) = true := by rw [dv_rd_hd (by omega)]; exact c16
      refine J_iconst dX8_isName_19 (pc' := 20) rfl (v := 0) ic_0 ?_
      refine J_zret dX8_isName_20 rfl (by decide) (dv_r1 _) ?_
      first | exact ⟨by rw [hx, nm_sp (by rw [dv_rd_len]; exact hr) hh], rfl⟩ | exact ⟨by unfold nm_ok; rw [dv_rd_len, decide_eq_false hr]; rfl, rfl⟩ | exact ⟨by unfold nm_ok; rw [hh]; simp [dv_b], rfl⟩
set_option maxRecDepth 100000 in
set_option maxHeartbeats 400000 in
theorem qX8_feedN (d : Nat) (S : dv_S) (n : Nat) (xa xb xc xd xe : Int32) (hn : S.1 516 3 = nI n) (h200 : n ≤ 200) (h : ¬ n + 20 ≤ 200)  : dv_M yX8_feed cX8_feed 8 (some .int) (dv_rm (d + 0)) [.ref 516, .int xa, .int xb, .int xc, .int xd, .int xe] S (fun r S' => r = some (.int (-1)) ∧ S' = (rS S)) := by
  refine dv_M_of [some (.ref 516), some (.int xa), some (.int xb), some (.int xc), some (.int xd), some (.int xe), none, none] (by decide) (fun _ _ => Nat.le_of_ble_eq_true rfl) (fun _ _ => rfl) ?_
  refine J_aload_n dX8_feed_0 (pc' := 1) rfl rfl ?_
  refine J_iconst dX8_feed_1 (pc' := 2) rfl (v := 0) ic_0 ?_
  refine J_puti fX8_1 kd_516 rf_516_0 dX8_feed_2 (pc' := 5) rfl ?_
  refine J_aload_n dX8_feed_5 (pc' := 6) rfl rfl ?_
  refine J_geti fX8_10 kd_516 rf_516_3 dX8_feed_6 (pc' := 9) rfl ?_
  refine J_bipush dX8_feed_9 (pc' := 11) rfl (v := 20) bp_20 ?_
  refine J_iadd dX8_feed_11 (pc' := 12) rfl ?_
  refine J_top (w := .int (nI (n + 20))) (by show Value.int (dv_u S.1 516 0 0 516 3 + 20) = _; rw [dv_u_ne _ _ (by decide), hn, dv_n20, nI_add]) ?_
  refine J_sipush dX8_feed_12 (pc' := 15) rfl (v := 200) sp_200 ?_
  refine J_icmp_le dX8_feed_15 (pt := 20) (by decide) (pc' := 18) rfl (fun c15 => ?_) (fun c15 => ?_)
  · rw [dv_n200, nI_leI (by omega) (by omega)] at c15
    exact absurd c15 h
  · refine J_iconst dX8_feed_18 (pc' := 19) rfl (v := (-1)) ic_m1 ?_
    refine J_iret dX8_feed_19 rfl (dv_r1 _) ?_
    exact ⟨rfl, rfl⟩
set_option maxRecDepth 100000 in
set_option maxHeartbeats 400000 in
theorem qX8_feed (d : Nat) (S : dv_S) (n : Nat) (xa xb xc xd xe : Int32) (hn : S.1 516 3 = nI n) (h200 : n ≤ 200) (h : n + 20 ≤ 200)  : dv_M yX8_feed cX8_feed 8 (some .int) (dv_rm (d + 0)) [.ref 516, .int xa, .int xb, .int xc, .int xd, .int xe] S (fun r S' => r = some (.int (nI (n + 20))) ∧ S' = (fdR S n xa xb xc xd xe 20)) := by
  refine dv_M_of [some (.ref 516), some (.int xa), some (.int xb), some (.int xc), some (.int xd), some (.int xe), none, none] (by decide) (fun _ _ => Nat.le_of_ble_eq_true rfl) (fun _ _ => rfl) ?_
  refine J_aload_n dX8_feed_0 (pc' := 1) rfl rfl ?_
  refine J_iconst dX8_feed_1 (pc' := 2) rfl (v := 0) ic_0 ?_
  refine J_puti fX8_1 kd_516 rf_516_0 dX8_feed_2 (pc' := 5) rfl ?_
  refine J_aload_n dX8_feed_5 (pc' := 6) rfl rfl ?_
  refine J_geti fX8_10 kd_516 rf_516_3 dX8_feed_6 (pc' := 9) rfl ?_
  refine J_bipush dX8_feed_9 (pc' := 11) rfl (v := 20) bp_20 ?_
  refine J_iadd dX8_feed_11 (pc' := 12) rfl ?_
  refine J_top (w := .int (nI (n + 20))) (by show Value.int (dv_u S.1 516 0 0 516 3 + 20) = _; rw [dv_u_ne _ _ (by decide), hn, dv_n20, nI_add]) ?_
  refine J_sipush dX8_feed_12 (pc' := 15) rfl (v := 200) sp_200 ?_
  refine J_icmp_le dX8_feed_15 (pt := 20) (by decide) (pc' := 18) rfl (fun c15 => ?_) (fun c15 => ?_)
  · refine J_iconst dX8_feed_20 (pc' := 21) rfl (v := 0) ic_0 ?_
    refine J_istore dX8_feed_21 (pc' := 23) rfl (by decide) rfl (l' := [some (.ref 516), some (.int xa), some (.int xb), some (.int xc), some (.int xd), some (.int xe), some (.int 0), none]) rfl ?_
    have hlp23 : ∀ i, i ≤ 20 → dv_J yX8_feed cX8_feed 8 (some .int) (dv_rm (d + 0)) 0 0 23 [some (.ref 516), some (.int xa), some (.int xb), some (.int xc), some (.int xd), some (.int xe), some (.int (nI i)), none] [] (fdR S n xa xb xc xd xe i) (fun r S' => r = some (.int (nI (n + 20))) ∧ S' = (fdR S n xa xb xc xd xe 20)) := by
      refine dv_up (P := fun i => dv_J yX8_feed cX8_feed 8 (some .int) (dv_rm (d + 0)) 0 0 23 [some (.ref 516), some (.int xa), some (.int xb), some (.int xc), some (.int xd), some (.int xe), some (.int (nI i)), none] [] (fdR S n xa xb xc xd xe i) (fun r S' => r = some (.int (nI (n + 20))) ∧ S' = (fdR S n xa xb xc xd xe 20))) ?_
      intro i hi23 ih23 
      refine J_iload dX8_feed_23 (pc' := 25) rfl rfl ?_
      refine J_bipush dX8_feed_25 (pc' := 27) rfl (v := 20) bp_20 ?_
      refine J_top (w := .int (nI 20)) (by rw [dv_n20]) ?_
      refine J_icmp_ge dX8_feed_27 (pt := 117) (by decide) (pc' := 30) rfl (fun c27 => ?_) (fun c27 => ?_)
      · have hx := dv_ge hi23 (by decide) c27
        refine J_aload_n dX8_feed_117 (pc' := 118) rfl rfl ?_
        refine J_geti fX8_10 kd_516 rf_516_3 dX8_feed_118 (pc' := 121) rfl ?_
        refine J_iret dX8_feed_121 rfl (dv_r1 _) ?_
        exact ⟨by rw [hx, fdR_n], by rw [hx]⟩
      · have hx := dv_nge hi23 (by decide) c27
        have hj76 : ∀ v : Int32, (fv5 xa xb xc xd xe i) = v → dv_J yX8_feed cX8_feed 8 (some .int) (dv_rm (d + 0)) 0 0 76 [some (.ref 516), some (.int xa), some (.int xb), some (.int xc), some (.int xd), some (.int xe), some (.int (nI i)), none] [.int v] (fdR S n xa xb xc xd xe i) (fun r S' => r = some (.int (nI (n + 20))) ∧ S' = (fdR S n xa xb xc xd xe 20)) := by
          intro v hv
          subst hv
          refine J_istore dX8_feed_76 (pc' := 78) rfl (by decide) rfl (l' := [some (.ref 516), some (.int xa), some (.int xb), some (.int xc), some (.int xd), some (.int xe), some (.int (nI i)), some (.int (fv5 xa xb xc xd xe i))]) rfl ?_
          refine J_aload_n dX8_feed_78 (pc' := 79) rfl rfl ?_
          refine J_getr fX8_13 kd_516 rf_516_2 dX8_feed_79 (pc' := 82) rfl ?_
          refine J_aload_n dX8_feed_82 (pc' := 83) rfl rfl ?_
          refine J_geti fX8_10 kd_516 rf_516_3 dX8_feed_83 (pc' := 86) rfl ?_
          refine J_iload dX8_feed_86 (pc' := 88) rfl rfl ?_
          refine J_bipush dX8_feed_88 (pc' := 90) rfl (v := 24) bp_24 ?_
          refine J_bipush dX8_feed_90 (pc' := 92) rfl (v := 8) bp_8 ?_
          refine J_iload dX8_feed_92 (pc' := 94) rfl rfl ?_
          refine J_iconst dX8_feed_94 (pc' := 95) rfl (v := 4) ic_4 ?_
          refine J_irem dX8_feed_95 (pc' := 96) rfl (by decide) ?_
          refine J_imul dX8_feed_96 (pc' := 97) rfl ?_
          refine J_isub dX8_feed_97 (pc' := 98) rfl ?_
          refine J_ishr dX8_feed_98 (pc' := 99) rfl ?_
          refine J_i2b dX8_feed_99 (pc' := 100) rfl ?_
          refine J_bast (j := n + i) kd_517 (fdR_n _ _ _ _ _ _ _ _) (by rw [ln_517]; omega) dX8_feed_100 (pc' := 101) rfl ?_
          refine J_aload_n dX8_feed_101 (pc' := 102) rfl rfl ?_
          refine J_dup dX8_feed_102 (pc' := 103) rfl rfl ?_
          refine J_geti fX8_10 kd_516 rf_516_3 dX8_feed_103 (pc' := 106) rfl ?_
          refine J_iconst dX8_feed_106 (pc' := 107) rfl (v := 1) ic_1 ?_
          refine J_iadd dX8_feed_107 (pc' := 108) rfl ?_
          refine J_top (w := .int (nI (n + (i + 1)))) (by show Value.int ((fdR S n xa xb xc xd xe i).1 516 3 + 1) = _; rw [fdR_n, nI_1]; rfl) ?_
          refine J_puti fX8_10 kd_516 rf_516_3 dX8_feed_108 (pc' := 111) rfl ?_
          refine J_iinc dX8_feed_111 (pc' := 114) rfl rfl (v := nI (i + 1)) (nI_1 i) (by decide) rfl (l' := [some (.ref 516), some (.int xa), some (.int xb), some (.int xc), some (.int xd), some (.int xe), some (.int (nI (i + 1))), some (.int (fv5 xa xb xc xd xe i))]) rfl ?_
          refine J_goto dX8_feed_114 (pc' := 23) (by decide) ?_
          refine J_drop 7 (l' := [some (.ref 516), some (.int xa), some (.int xb), some (.int xc), some (.int xd), some (.int xe), some (.int (nI (i + 1))), none]) rfl ?_
          exact J_sto (fdR_s S n xa xb xc xd xe i) (ih23 (i + 1) (by omega) (by omega))
        refine J_iload dX8_feed_30 (pc' := 32) rfl rfl ?_
        refine J_iconst dX8_feed_32 (pc' := 33) rfl (v := 4) ic_4 ?_
        refine J_icmp_ge dX8_feed_33 (pt := 40) (by decide) (pc' := 36) rfl (fun c33 => ?_) (fun c33 => ?_)
        · rw [show (4 : Int32) = nI 4 by decide, nI_leI (by omega) (by omega)] at c33
          refine J_iload dX8_feed_40 (pc' := 42) rfl rfl ?_
          refine J_bipush dX8_feed_42 (pc' := 44) rfl (v := 8) bp_8 ?_
          refine J_icmp_ge dX8_feed_44 (pt := 51) (by decide) (pc' := 47) rfl (fun c44 => ?_) (fun c44 => ?_)
          · rw [show (8 : Int32) = nI 8 by decide, nI_leI (by omega) (by omega)] at c44
            refine J_iload dX8_feed_51 (pc' := 53) rfl rfl ?_
            refine J_bipush dX8_feed_53 (pc' := 55) rfl (v := 12) bp_12 ?_
            refine J_icmp_ge dX8_feed_55 (pt := 62) (by decide) (pc' := 58) rfl (fun c55 => ?_) (fun c55 => ?_)
            · rw [show (12 : Int32) = nI 12 by decide, nI_leI (by omega) (by omega)] at c55
              refine J_iload dX8_feed_62 (pc' := 64) rfl rfl ?_
              refine J_bipush dX8_feed_64 (pc' := 66) rfl (v := 16) bp_16 ?_
              refine J_icmp_ge dX8_feed_66 (pt := 74) (by decide) (pc' := 69) rfl (fun c66 => ?_) (fun c66 => ?_)
              · rw [show (16 : Int32) = nI 16 by decide, nI_leI (by omega) (by omega)] at c66
                refine J_iload dX8_feed_74 (pc' := 76) rfl rfl ?_
                exact hj76 _ (by first | (rw [fv5, if_pos (by omega)]; done) | (rw [fv5, if_neg (by omega), if_pos (by omega)]; done) | (rw [fv5, if_neg (by omega), if_neg (by omega), if_pos (by omega)]; done) | (rw [fv5, if_neg (by omega), if_neg (by omega), if_neg (by omega), if_pos (by omega)]; done) | (rw [fv5, if_neg (by omega), if_neg (by omega), if_neg (by omega), if_neg (by omega)]; done))
              · rw [show (16 : Int32) = nI 16 by decide, nI_leI (by omega) (by omega)] at c66
                refine J_iload dX8_feed_69 (pc' := 71) rfl rfl ?_
                refine J_goto dX8_feed_71 (pc' := 76) (by decide) ?_
                exact hj76 _ (by first | (rw [fv5, if_pos (by omega)]; done) | (rw [fv5, if_neg (by omega), if_pos (by omega)]; done) | (rw [fv5, if_neg (by omega), if_neg (by omega), if_pos (by omega)]; done) | (rw [fv5, if_neg (by omega), if_neg (by omega), if_neg (by omega), if_pos (by omega)]; done) | (rw [fv5, if_neg (by omega), if_neg (by omega), if_neg (by omega), if_neg (by omega)]; done))
            · rw [show (12 : Int32) = nI 12 by decide, nI_leI (by omega) (by omega)] at c55
              refine J_iload_n dX8_feed_58 (pc' := 59) rfl rfl ?_
              refine J_goto dX8_feed_59 (pc' := 76) (by decide) ?_
              exact hj76 _ (by first | (rw [fv5, if_pos (by omega)]; done) | (rw [fv5, if_neg (by omega), if_pos (by omega)]; done) | (rw [fv5, if_neg (by omega), if_neg (by omega), if_pos (by omega)]; done) | (rw [fv5, if_neg (by omega), if_neg (by omega), if_neg (by omega), if_pos (by omega)]; done) | (rw [fv5, if_neg (by omega), if_neg (by omega), if_neg (by omega), if_neg (by omega)]; done))
          · rw [show (8 : Int32) = nI 8 by decide, nI_leI (by omega) (by omega)] at c44
            refine J_iload_n dX8_feed_47 (pc' := 48) rfl rfl ?_
            refine J_goto dX8_feed_48 (pc' := 76) (by decide) ?_
            exact hj76 _ (by first | (rw [fv5, if_pos (by omega)]; done) | (rw [fv5, if_neg (by omega), if_pos (by omega)]; done) | (rw [fv5, if_neg (by omega), if_neg (by omega), if_pos (by omega)]; done) | (rw [fv5, if_neg (by omega), if_neg (by omega), if_neg (by omega), if_pos (by omega)]; done) | (rw [fv5, if_neg (by omega), if_neg (by omega), if_neg (by omega), if_neg (by omega)]; done))
        · rw [show (4 : Int32) = nI 4 by decide, nI_leI (by omega) (by omega)] at c33
          refine J_iload_n dX8_feed_36 (pc' := 37) rfl rfl ?_
          refine J_goto dX8_feed_37 (pc' := 76) (by decide) ?_
          exact hj76 _ (by first | (rw [fv5, if_pos (by omega)]; done) | (rw [fv5, if_neg (by omega), if_pos (by omega)]; done) | (rw [fv5, if_neg (by omega), if_neg (by omega), if_pos (by omega)]; done) | (rw [fv5, if_neg (by omega), if_neg (by omega), if_neg (by omega), if_pos (by omega)]; done) | (rw [fv5, if_neg (by omega), if_neg (by omega), if_neg (by omega), if_neg (by omega)]; done))
    refine J_loc (l' := [some (.ref 516), some (.int xa), some (.int xb), some (.int xc), some (.int xd), some (.int xe), some (.int (nI 0)), none]) (by simp only [nI_0, dv_b_f, dv_b_t]) ?_
    refine J_sto (S' := (fdR S n xa xb xc xd xe 0)) (fdR_0 _ _ _ _ _ hn) ?_
    exact hlp23 0 (Nat.zero_le _) 
  · rw [dv_n200, nI_leI (by omega) (by omega)] at c15
    exact absurd h c15
