set_option maxRecDepth 100000 in
set_option maxHeartbeats 400000 in
theorem qX7_isLetter (d : Nat) (S : dv_S) (x : Int32) : dv_M yX7_isLetter cX7_isLetter 1 (some .boolean) (dv_rm (d + 1)) [.int x] S (fun r S' => r = some (.int (dv_b (ch_l x))) ∧ S' = S) := by
  refine dv_M_of [some (.int x)] (by decide) (fun _ _ => Nat.le_of_ble_eq_true rfl) (fun _ _ => rfl) ?_
  refine J_iload_n dX7_isLetter_0 (pc' := 1) rfl rfl ?_
  refine J_s1 (As := [.int x]) (rest := []) (qX7_isSmall _ _ _) vX7_isSmall mX7_330 dX7_isLetter_1 (pc' := 4) rfl rfl (Nat.le_of_ble_eq_true rfl) (by decide) ?_
  refine J_bne dX7_isLetter_4 (pt := 14) (by decide) (pc' := 7) rfl (fun c4 => ?_) (fun c4 => ?_)
  · refine J_iconst dX7_isLetter_14 (pc' := 15) rfl (v := 1) ic_1 ?_
    refine J_goto dX7_isLetter_15 (pc' := 19) (by decide) ?_
    refine J_zret dX7_isLetter_19 rfl (by decide) (dv_r1 _) ?_
    exact ⟨by simp [dv_b, ch_l, *], rfl⟩
  · refine J_iload_n dX7_isLetter_7 (pc' := 8) rfl rfl ?_
    refine J_s1 (As := [.int x]) (rest := []) (qX7_isGreat _ _ _) vX7_isGreat mX7_333 dX7_isLetter_8 (pc' := 11) rfl rfl (Nat.le_of_ble_eq_true rfl) (by decide) ?_
    refine J_beq dX7_isLetter_11 (pt := 18) (by decide) (pc' := 14) rfl (fun c11 => ?_) (fun c11 => ?_)
    · refine J_iconst dX7_isLetter_18 (pc' := 19) rfl (v := 0) ic_0 ?_
      refine J_zret dX7_isLetter_19 rfl (by decide) (dv_r1 _) ?_
      exact ⟨by simp [dv_b, ch_l, *], rfl⟩
    · refine J_iconst dX7_isLetter_14 (pc' := 15) rfl (v := 1) ic_1 ?_
      refine J_goto dX7_isLetter_15 (pc' := 19) (by decide) ?_
      refine J_zret dX7_isLetter_19 rfl (by decide) (dv_r1 _) ?_
      exact ⟨by simp [dv_b, ch_l, *], rfl⟩
set_option maxRecDepth 100000 in
set_option maxHeartbeats 400000 in
theorem qX8_isLetter (d : Nat) (S : dv_S) (x : Int32) : dv_M yX8_isLetter cX8_isLetter 1 (some .boolean) (dv_rm (d + 1)) [.int x] S (fun r S' => r = some (.int (dv_b (ch_l x))) ∧ S' = S) := by
  refine dv_M_of [some (.int x)] (by decide) (fun _ _ => Nat.le_of_ble_eq_true rfl) (fun _ _ => rfl) ?_
  refine J_iload_n dX8_isLetter_0 (pc' := 1) rfl rfl ?_
  refine J_s1 (As := [.int x]) (rest := []) (qX8_isSmall _ _ _) vX8_isSmall mX8_17 dX8_isLetter_1 (pc' := 4) rfl rfl (Nat.le_of_ble_eq_true rfl) (by decide) ?_
  refine J_bne dX8_isLetter_4 (pt := 14) (by decide) (pc' := 7) rfl (fun c4 => ?_) (fun c4 => ?_)
  · refine J_iconst dX8_isLetter_14 (pc' := 15) rfl (v := 1) ic_1 ?_
    refine J_goto dX8_isLetter_15 (pc' := 19) (by decide) ?_
    refine J_zret dX8_isLetter_19 rfl (by decide) (dv_r1 _) ?_
    exact ⟨by simp [dv_b, ch_l, *], rfl⟩
  · refine J_iload_n dX8_isLetter_7 (pc' := 8) rfl rfl ?_
    refine J_s1 (As := [.int x]) (rest := []) (qX8_isGreat _ _ _) vX8_isGreat mX8_21 dX8_isLetter_8 (pc' := 11) rfl rfl (Nat.le_of_ble_eq_true rfl) (by decide) ?_
    refine J_beq dX8_isLetter_11 (pt := 18) (by decide) (pc' := 14) rfl (fun c11 => ?_) (fun c11 => ?_)
    · refine J_iconst dX8_isLetter_18 (pc' := 19) rfl (v := 0) ic_0 ?_
      refine J_zret dX8_isLetter_19 rfl (by decide) (dv_r1 _) ?_
      exact ⟨by simp [dv_b, ch_l, *], rfl⟩
    · refine J_iconst dX8_isLetter_14 (pc' := 15) rfl (v := 1) ic_1 ?_
      refine J_goto dX8_isLetter_15 (pc' := 19) (by decide) ?_
      refine J_zret dX8_isLetter_19 rfl (by decide) (dv_r1 _) ?_
      exact ⟨by simp [dv_b, ch_l, *], rfl⟩
set_option maxRecDepth 100000 in
set_option maxHeartbeats 400000 in
theorem qX7_smallOf (d : Nat) (S : dv_S) (x : Int32) : dv_M yX7_smallOf cX7_smallOf 1 (some .int) (dv_rm (d + 1)) [.int x] S (fun r S' => r = some (.int (ch_lo x)) ∧ S' = S) := by
  refine dv_M_of [some (.int x)] (by decide) (fun _ _ => Nat.le_of_ble_eq_true rfl) (fun _ _ => rfl) ?_
  refine J_iload_n dX7_smallOf_0 (pc' := 1) rfl rfl ?_
  refine J_s1 (As := [.int x]) (rest := []) (qX7_isGreat _ _ _) vX7_isGreat mX7_333 dX7_smallOf_1 (pc' := 4) rfl rfl (Nat.le_of_ble_eq_true rfl) (by decide) ?_
  refine J_beq dX7_smallOf_4 (pt := 17) (by decide) (pc' := 7) rfl (fun c4 => ?_) (fun c4 => ?_)
  · refine J_iload_n dX7_smallOf_17 (pc' := 18) rfl rfl ?_
    refine J_iret dX7_smallOf_18 rfl (dv_r1 _) ?_
    exact ⟨by simp [ch_lo, *], rfl⟩
  · refine J_iload_n dX7_smallOf_7 (pc' := 8) rfl rfl ?_
    refine J_bipush dX7_smallOf_8 (pc' := 10) rfl (v := 65) bp_65 ?_
    refine J_isub dX7_smallOf_10 (pc' := 11) rfl ?_
    refine J_bipush dX7_smallOf_11 (pc' := 13) rfl (v := 97) bp_97 ?_
    refine J_iadd dX7_smallOf_13 (pc' := 14) rfl ?_
    refine J_goto dX7_smallOf_14 (pc' := 18) (by decide) ?_
    refine J_iret dX7_smallOf_18 rfl (dv_r1 _) ?_
    exact ⟨by simp [ch_lo, *], rfl⟩
set_option maxRecDepth 100000 in
set_option maxHeartbeats 400000 in
theorem qX7_greatOf (d : Nat) (S : dv_S) (x : Int32) : dv_M yX7_greatOf cX7_greatOf 1 (some .int) (dv_rm (d + 1)) [.int x] S (fun r S' => r = some (.int (ch_up x)) ∧ S' = S) := by
  refine dv_M_of [some (.int x)] (by decide) (fun _ _ => Nat.le_of_ble_eq_true rfl) (fun _ _ => rfl) ?_
  refine J_iload_n dX7_greatOf_0 (pc' := 1) rfl rfl ?_
  refine J_s1 (As := [.int x]) (rest := []) (qX7_isSmall _ _ _) vX7_isSmall mX7_330 dX7_greatOf_1 (pc' := 4) rfl rfl (Nat.le_of_ble_eq_true rfl) (by decide) ?_
  refine J_beq dX7_greatOf_4 (pt := 17) (by decide) (pc' := 7) rfl (fun c4 => ?_) (fun c4 => ?_)
  · refine J_iload_n dX7_greatOf_17 (pc' := 18) rfl rfl ?_
    refine J_iret dX7_greatOf_18 rfl (dv_r1 _) ?_
    exact ⟨by simp [ch_up, *], rfl⟩
  · refine J_iload_n dX7_greatOf_7 (pc' := 8) rfl rfl ?_
    refine J_bipush dX7_greatOf_8 (pc' := 10) rfl (v := 97) bp_97 ?_
    refine J_isub dX7_greatOf_10 (pc' := 11) rfl ?_
    refine J_bipush dX7_greatOf_11 (pc' := 13) rfl (v := 65) bp_65 ?_
    refine J_iadd dX7_greatOf_13 (pc' := 14) rfl ?_
    refine J_goto dX7_greatOf_14 (pc' := 18) (by decide) ?_
    refine J_iret dX7_greatOf_18 rfl (dv_r1 _) ?_
    exact ⟨by simp [ch_up, *], rfl⟩
set_option maxRecDepth 100000 in
set_option maxHeartbeats 400000 in
theorem qX4_at (d : Nat) (S : dv_S) (a n : Nat) (x : Int32) (ha : dv_kd a = 4) (ha1 : dv_kd (a + 1) = 10) (hn : S.1 a 1 = nI n) (hl : n ≤ dv_ln (a + 1)) : dv_M yX4_at cX4_at 2 (some .int) (dv_rm (d + 1)) [.ref a, .int x] S (fun r S' => r = some (.int (dv_gx (S.2.1 (a + 1)) n x)) ∧ S' = S) := by
  have h31 := dv_ln_lt (a + 1)
  refine dv_M_of [some (.ref a), some (.int x)] (by decide) (fun _ _ => Nat.le_of_ble_eq_true rfl) (fun _ _ => rfl) ?_
  refine J_aload_n dX4_at_0 (pc' := 1) rfl rfl ?_
  refine J_iload_n dX4_at_1 (pc' := 2) rfl rfl ?_
  refine J_v1 (As := [.int x]) (rest := []) (qX4_has _ _ a x ha) vX4_has mX4_23 ha dX4_at_2 (pc' := 5) rfl rfl (Nat.le_of_ble_eq_true rfl) (by decide) ?_
  refine J_beq dX4_at_5 (pt := 17) (by decide) (pc' := 8) rfl (fun c5 => ?_) (fun c5 => ?_)
  · rw [hn] at c5
    refine J_iconst dX4_at_17 (pc' := 18) rfl (v := 0) ic_0 ?_
    refine J_iret dX4_at_18 rfl (dv_r1 _) ?_
    exact ⟨by rw [dv_gx_out c5], rfl⟩
  · obtain ⟨j, hj, hxj⟩ := dv_idx hn (by omega) c5
    refine J_aload_n dX4_at_8 (pc' := 9) rfl rfl ?_
    refine J_getr fX4_19 ha (dv_rf4_0 ha) dX4_at_9 (pc' := 12) rfl ?_
    refine J_iload_n dX4_at_12 (pc' := 13) rfl rfl ?_
    refine J_iald (j := j) ha1 (hxj) (by omega) dX4_at_13 (pc' := 14) rfl ?_
    refine J_goto dX4_at_14 (pc' := 18) (by decide) ?_
    refine J_iret dX4_at_18 rfl (dv_r1 _) ?_
    exact ⟨by rw [hxj, dv_gx_in hj (by omega)], rfl⟩
set_option maxRecDepth 100000 in
set_option maxHeartbeats 400000 in
theorem qX4_clear (d : Nat) (S : dv_S) (a : Nat) (ha : dv_kd a = 4) : dv_M yX4_clear cX4_clear 1 none (dv_rm (d + 0)) [.ref a] S (fun r S' => r = none ∧ S' = (dv_u (dv_u S.1 a 1 0) a 2 0, S.2)) := by
  refine dv_M_of [some (.ref a)] (by decide) (fun _ _ => Nat.le_of_ble_eq_true rfl) (fun _ _ => rfl) ?_
  refine J_aload_n dX4_clear_0 (pc' := 1) rfl rfl ?_
  refine J_iconst dX4_clear_1 (pc' := 2) rfl (v := 0) ic_0 ?_
  refine J_puti fX4_9 ha (dv_rf4_1 ha) dX4_clear_2 (pc' := 5) rfl ?_
  refine J_aload_n dX4_clear_5 (pc' := 6) rfl rfl ?_
  refine J_iconst dX4_clear_6 (pc' := 7) rfl (v := 0) ic_0 ?_
  refine J_putz fX4_15 ha (dv_rf4_2 ha) (by decide) dX4_clear_7 (pc' := 10) rfl ?_
  refine J_vret dX4_clear_10 rfl (dv_r1 _) ?_
  exact ⟨rfl, rfl⟩
set_option maxRecDepth 100000 in
set_option maxHeartbeats 400000 in
theorem qX4_add (d : Nat) (S : dv_S) (a n : Nat) (b : Int32) (ha : dv_kd a = 4) (ha1 : dv_kd (a + 1) = 10) (hn : S.1 a 1 = nI n) (hl : n < dv_ln (a + 1)) : dv_M yX4_add cX4_add 2 none (dv_rm (d + 0)) [.ref a, .int b] S (fun r S' => r = none ∧ S' = (dv_ap S a n b)) := by
  have h31 := dv_ln_lt (a + 1)
  refine dv_M_of [some (.ref a), some (.int b)] (by decide) (fun _ _ => Nat.le_of_ble_eq_true rfl) (fun _ _ => rfl) ?_
  refine J_aload_n dX4_add_0 (pc' := 1) rfl rfl ?_
  refine J_geti fX4_9 ha (dv_rf4_1 ha) dX4_add_1 (pc' := 4) rfl ?_
  refine J_aload_n dX4_add_4 (pc' := 5) rfl rfl ?_
  refine J_getr fX4_19 ha (dv_rf4_0 ha) dX4_add_5 (pc' := 8) rfl ?_
  refine J_alen ha1 dX4_add_8 (pc' := 9) rfl ?_
  refine J_icmp_ge dX4_add_9 (pt := 35) (by decide) (pc' := 12) rfl (fun c9 => ?_) (fun c9 => ?_)
  · rw [hn] at c9
    exact absurd c9 (nI_ge hl h31)
  · refine J_aload_n dX4_add_12 (pc' := 13) rfl rfl ?_
    refine J_getr fX4_19 ha (dv_rf4_0 ha) dX4_add_13 (pc' := 16) rfl ?_
    refine J_aload_n dX4_add_16 (pc' := 17) rfl rfl ?_
    refine J_geti fX4_9 ha (dv_rf4_1 ha) dX4_add_17 (pc' := 20) rfl ?_
    refine J_iload_n dX4_add_20 (pc' := 21) rfl rfl ?_
    refine J_iast (j := n) ha1 (hn) hl dX4_add_21 (pc' := 22) rfl ?_
    refine J_aload_n dX4_add_22 (pc' := 23) rfl rfl ?_
    refine J_dup dX4_add_23 (pc' := 24) rfl rfl ?_
    refine J_geti fX4_9 ha (dv_rf4_1 ha) dX4_add_24 (pc' := 27) rfl ?_
    refine J_iconst dX4_add_27 (pc' := 28) rfl (v := 1) ic_1 ?_
    refine J_iadd dX4_add_28 (pc' := 29) rfl ?_
    refine J_puti fX4_9 ha (dv_rf4_1 ha) dX4_add_29 (pc' := 32) rfl ?_
    refine J_goto dX4_add_32 (pc' := 40) (by decide) ?_
    refine J_vret dX4_add_40 rfl (dv_r1 _) ?_
    exact ⟨rfl, by simp [dv_ap, hn, nI_1]⟩
set_option maxRecDepth 100000 in
set_option maxHeartbeats 400000 in
theorem qX4_addF (d : Nat) (S : dv_S) (a : Nat) (b : Int32) (ha : dv_kd a = 4) (ha1 : dv_kd (a + 1) = 10) (hn : S.1 a 1 = nI (dv_ln (a + 1))) : dv_M yX4_add cX4_add 2 none (dv_rm (d + 0)) [.ref a, .int b] S (fun r S' => r = none ∧ S' = (dv_u S.1 a 2 1, S.2)) := by
  have h31 := dv_ln_lt (a + 1)
  refine dv_M_of [some (.ref a), some (.int b)] (by decide) (fun _ _ => Nat.le_of_ble_eq_true rfl) (fun _ _ => rfl) ?_
  refine J_aload_n dX4_add_0 (pc' := 1) rfl rfl ?_
  refine J_geti fX4_9 ha (dv_rf4_1 ha) dX4_add_1 (pc' := 4) rfl ?_
  refine J_aload_n dX4_add_4 (pc' := 5) rfl rfl ?_
  refine J_getr fX4_19 ha (dv_rf4_0 ha) dX4_add_5 (pc' := 8) rfl ?_
  refine J_alen ha1 dX4_add_8 (pc' := 9) rfl ?_
  refine J_icmp_ge dX4_add_9 (pt := 35) (by decide) (pc' := 12) rfl (fun c9 => ?_) (fun c9 => ?_)
  · refine J_aload_n dX4_add_35 (pc' := 36) rfl rfl ?_
    refine J_iconst dX4_add_36 (pc' := 37) rfl (v := 1) ic_1 ?_
    refine J_putz fX4_15 ha (dv_rf4_2 ha) (by decide) dX4_add_37 (pc' := 40) rfl ?_
    refine J_vret dX4_add_40 rfl (dv_r1 _) ?_
    exact ⟨rfl, rfl⟩
  · rw [hn] at c9
    exact absurd (nI_le (Nat.le_refl _) h31) c9
set_option maxRecDepth 100000 in
set_option maxHeartbeats 400000 in
theorem qX4_addNumber (d : Nat) (S : dv_S) (a n : Nat) (x : Int32) (ha : dv_kd a = 4) (ha1 : dv_kd (a + 1) = 10) (hn : S.1 a 1 = nI n) (hl : n + 4 ≤ dv_ln (a + 1)) : dv_M yX4_addNumber cX4_addNumber 3 none (dv_rm (d + 1)) [.ref a, .int x] S (fun r S' => r = none ∧ S' = (dv_ap (dv_ap (dv_ap (dv_ap S a n ((x >>> (24 &&& 31)) &&& 255)) a (n + 1) ((x >>> (16 &&& 31)) &&& 255)) a (n + 2) ((x >>> (8 &&& 31)) &&& 255)) a (n + 3) ((x >>> (0 &&& 31)) &&& 255))) := by
  refine dv_M_of [some (.ref a), some (.int x), none] (by decide) (fun _ _ => Nat.le_of_ble_eq_true rfl) (fun _ _ => rfl) ?_
  refine J_bipush dX4_addNumber_0 (pc' := 2) rfl (v := 24) bp_24 ?_
  refine J_istore_n dX4_addNumber_2 (pc' := 3) rfl rfl (by decide) rfl (l' := [some (.ref a), some (.int x), some (.int 24)]) rfl ?_
  refine J_iload_n dX4_addNumber_3 (pc' := 4) rfl rfl ?_
  refine J_if_lt dX4_addNumber_4 (pt := 24) (by decide) (pc' := 7) rfl (fun c4 => ?_) (fun c4 => ?_)
  · exact absurd c4 (by decide)
  · refine J_aload_n dX4_addNumber_7 (pc' := 8) rfl rfl ?_
    refine J_iload_n dX4_addNumber_8 (pc' := 9) rfl rfl ?_
    refine J_iload_n dX4_addNumber_9 (pc' := 10) rfl rfl ?_
    refine J_ishr dX4_addNumber_10 (pc' := 11) rfl ?_
    refine J_sipush dX4_addNumber_11 (pc' := 14) rfl (v := 255) sp_255 ?_
    refine J_iand dX4_addNumber_14 (pc' := 15) rfl ?_
    refine J_v0 (As := [.int ((x >>> (24 &&& 31)) &&& 255)]) (rest := []) (qX4_add _ _ a (n + 0) _ ha ha1 (hn) (by omega)) vX4_add mX4_27 ha dX4_addNumber_15 (pc' := 18) rfl rfl (Nat.le_of_ble_eq_true rfl) (by decide) ?_
    refine J_iinc dX4_addNumber_18 (pc' := 21) rfl rfl (v := 16) (by decide) (by decide) rfl (l' := [some (.ref a), some (.int x), some (.int 16)]) rfl ?_
    refine J_goto dX4_addNumber_21 (pc' := 3) (by decide) ?_
    refine J_iload_n dX4_addNumber_3 (pc' := 4) rfl rfl ?_
    refine J_if_lt dX4_addNumber_4 (pt := 24) (by decide) (pc' := 7) rfl (fun c4 => ?_) (fun c4 => ?_)
    · exact absurd c4 (by decide)
    · refine J_aload_n dX4_addNumber_7 (pc' := 8) rfl rfl ?_
      refine J_iload_n dX4_addNumber_8 (pc' := 9) rfl rfl ?_
      refine J_iload_n dX4_addNumber_9 (pc' := 10) rfl rfl ?_
      refine J_ishr dX4_addNumber_10 (pc' := 11) rfl ?_
      refine J_sipush dX4_addNumber_11 (pc' := 14) rfl (v := 255) sp_255 ?_
      refine J_iand dX4_addNumber_14 (pc' := 15) rfl ?_
      refine J_v0 (As := [.int ((x >>> (16 &&& 31)) &&& 255)]) (rest := []) (qX4_add _ _ a (n + 1) _ ha ha1 (dv_ap_n _ _ _ _) (by omega)) vX4_add mX4_27 ha dX4_addNumber_15 (pc' := 18) rfl rfl (Nat.le_of_ble_eq_true rfl) (by decide) ?_
      refine J_iinc dX4_addNumber_18 (pc' := 21) rfl rfl (v := 8) (by decide) (by decide) rfl (l' := [some (.ref a), some (.int x), some (.int 8)]) rfl ?_
      refine J_goto dX4_addNumber_21 (pc' := 3) (by decide) ?_
      refine J_iload_n dX4_addNumber_3 (pc' := 4) rfl rfl ?_
      refine J_if_lt dX4_addNumber_4 (pt := 24) (by decide) (pc' := 7) rfl (fun c4 => ?_) (fun c4 => ?_)
      · exact absurd c4 (by decide)
      · refine J_aload_n dX4_addNumber_7 (pc' := 8) rfl rfl ?_
        refine J_iload_n dX4_addNumber_8 (pc' := 9) rfl rfl ?_
        refine J_iload_n dX4_addNumber_9 (pc' := 10) rfl rfl ?_
        refine J_ishr dX4_addNumber_10 (pc' := 11) rfl ?_
        refine J_sipush dX4_addNumber_11 (pc' := 14) rfl (v := 255) sp_255 ?_
        refine J_iand dX4_addNumber_14 (pc' := 15) rfl ?_
        refine J_v0 (As := [.int ((x >>> (8 &&& 31)) &&& 255)]) (rest := []) (qX4_add _ _ a (n + 2) _ ha ha1 (dv_ap_n _ _ _ _) (by omega)) vX4_add mX4_27 ha dX4_addNumber_15 (pc' := 18) rfl rfl (Nat.le_of_ble_eq_true rfl) (by decide) ?_
        refine J_iinc dX4_addNumber_18 (pc' := 21) rfl rfl (v := 0) (by decide) (by decide) rfl (l' := [some (.ref a), some (.int x), some (.int 0)]) rfl ?_
        refine J_goto dX4_addNumber_21 (pc' := 3) (by decide) ?_
        refine J_iload_n dX4_addNumber_3 (pc' := 4) rfl rfl ?_
        refine J_if_lt dX4_addNumber_4 (pt := 24) (by decide) (pc' := 7) rfl (fun c4 => ?_) (fun c4 => ?_)
        · exact absurd c4 (by decide)
        · refine J_aload_n dX4_addNumber_7 (pc' := 8) rfl rfl ?_
          refine J_iload_n dX4_addNumber_8 (pc' := 9) rfl rfl ?_
          refine J_iload_n dX4_addNumber_9 (pc' := 10) rfl rfl ?_
          refine J_ishr dX4_addNumber_10 (pc' := 11) rfl ?_
          refine J_sipush dX4_addNumber_11 (pc' := 14) rfl (v := 255) sp_255 ?_
          refine J_iand dX4_addNumber_14 (pc' := 15) rfl ?_
          refine J_v0 (As := [.int ((x >>> (0 &&& 31)) &&& 255)]) (rest := []) (qX4_add _ _ a (n + 3) _ ha ha1 (dv_ap_n _ _ _ _) (by omega)) vX4_add mX4_27 ha dX4_addNumber_15 (pc' := 18) rfl rfl (Nat.le_of_ble_eq_true rfl) (by decide) ?_
          refine J_iinc dX4_addNumber_18 (pc' := 21) rfl rfl (v := (-8)) (by decide) (by decide) rfl (l' := [some (.ref a), some (.int x), some (.int ((-8)))]) rfl ?_
          refine J_goto dX4_addNumber_21 (pc' := 3) (by decide) ?_
          refine J_iload_n dX4_addNumber_3 (pc' := 4) rfl rfl ?_
          refine J_if_lt dX4_addNumber_4 (pt := 24) (by decide) (pc' := 7) rfl (fun c4 => ?_) (fun c4 => ?_)
          · refine J_vret dX4_addNumber_24 rfl (dv_r1 _) ?_
            exact ⟨rfl, rfl⟩
          · exact absurd c4 (by decide)
set_option maxRecDepth 100000 in
set_option maxHeartbeats 400000 in
theorem qX4_set (d : Nat) (S : dv_S) (a o m : Nat) (ha : dv_kd a = 4) (ha1 : dv_kd (a + 1) = 10) (ho : dv_kd o = 4) (ho1 : dv_kd (o + 1) = 10) (hm : S.1 o 1 = nI m) (hlo : m ≤ dv_ln (o + 1)) (hla : m ≤ dv_ln (a + 1)) (hao : a ≠ o) : dv_M yX4_set cX4_set 3 none (dv_rm (d + 1)) [.ref a, .ref o] S (fun r S' => r = none ∧ S' = (dv_tx S a m (S.2.1 (o + 1)))) := by
  have h31 := dv_ln_lt (o + 1)
  refine dv_M_of [some (.ref a), some (.ref o), none] (by decide) (fun _ _ => Nat.le_of_ble_eq_true rfl) (fun _ _ => rfl) ?_
  refine J_aload_n dX4_set_0 (pc' := 1) rfl rfl ?_
  refine J_v0 (As := []) (rest := []) (qX4_clear _ _ a ha) vX4_clear mX4_31 ha dX4_set_1 (pc' := 4) rfl rfl (Nat.le_of_ble_eq_true rfl) (by decide) ?_
  refine J_iconst dX4_set_4 (pc' := 5) rfl (v := 0) ic_0 ?_
  refine J_istore_n dX4_set_5 (pc' := 6) rfl rfl (by decide) rfl (l' := [some (.ref a), some (.ref o), some (.int 0)]) rfl ?_
  have hlp6 : ∀ i, i ≤ m → dv_J yX4_set cX4_set 3 none (dv_rm (d + 1)) 0 0 6 [some (.ref a), some (.ref o), some (.int (nI i))] [] (dv_tx S a i (S.2.1 (o + 1))) (fun r S' => r = none ∧ S' = (dv_tx S a m (S.2.1 (o + 1)))) := by
    refine dv_up (P := fun i => dv_J yX4_set cX4_set 3 none (dv_rm (d + 1)) 0 0 6 [some (.ref a), some (.ref o), some (.int (nI i))] [] (dv_tx S a i (S.2.1 (o + 1))) (fun r S' => r = none ∧ S' = (dv_tx S a m (S.2.1 (o + 1))))) ?_
    intro i hi6 ih6 
    refine J_iload_n dX4_set_6 (pc' := 7) rfl rfl ?_
    refine J_aload_n dX4_set_7 (pc' := 8) rfl rfl ?_
    refine J_geti fX4_9 ho (dv_rf4_1 ho) dX4_set_8 (pc' := 11) rfl ?_
    refine J_top (w := .int (nI m)) (by simp [dv_tx, dv_u, hm, Ne.symm hao]) ?_
    refine J_icmp_ge dX4_set_11 (pt := 30) (by decide) (pc' := 14) rfl (fun c11 => ?_) (fun c11 => ?_)
    · have hx := dv_ge hi6 (by omega) c11
      refine J_vret dX4_set_30 rfl (dv_r1 _) ?_
      exact ⟨rfl, by rw [hx]⟩
    · have hx := dv_nge hi6 (by omega) c11
      refine J_aload_n dX4_set_14 (pc' := 15) rfl rfl ?_
      refine J_aload_n dX4_set_15 (pc' := 16) rfl rfl ?_
      refine J_getr fX4_19 ho (dv_rf4_0 ho) dX4_set_16 (pc' := 19) rfl ?_
      refine J_iload_n dX4_set_19 (pc' := 20) rfl rfl ?_
      refine J_iald (j := i) ho1 (rfl) (by omega) dX4_set_20 (pc' := 21) rfl ?_
      refine J_top (w := .int (S.2.1 (o + 1) i)) (by simp [dv_tx, dv_rw, Ne.symm hao]) ?_
      refine J_v0 (As := [.int (S.2.1 (o + 1) i)]) (rest := []) (qX4_add _ _ a i _ ha ha1 (dv_tx_n _ _ _ _) (by omega)) vX4_add mX4_27 ha dX4_set_21 (pc' := 24) rfl rfl (Nat.le_of_ble_eq_true rfl) (by decide) ?_
      refine J_iinc dX4_set_24 (pc' := 27) rfl rfl (v := nI (i + 1)) (nI_1 i) (by decide) rfl (l' := [some (.ref a), some (.ref o), some (.int (nI (i + 1)))]) rfl ?_
      refine J_goto dX4_set_27 (pc' := 6) (by decide) ?_
      exact J_sto (dv_tx_s S a i (S.2.1 (o + 1))) (ih6 (i + 1) (by omega) (by omega))
  refine J_loc (l' := [some (.ref a), some (.ref o), some (.int (nI 0))]) (by simp only [nI_0, dv_b_f, dv_b_t]) ?_
  refine J_sto (S' := (dv_tx S a 0 (S.2.1 (o + 1)))) (dv_tx_0 _ _ _) ?_
  exact hlp6 0 (Nat.zero_le _) 
set_option maxRecDepth 100000 in
set_option maxHeartbeats 400000 in
theorem qX4_same (d : Nat) (S : dv_S) (a o n m : Nat) (ha : dv_kd a = 4) (ha1 : dv_kd (a + 1) = 10) (hn : S.1 a 1 = nI n) (hl : n ≤ dv_ln (a + 1)) (ho : dv_kd o = 4) (ho1 : dv_kd (o + 1) = 10) (hm : S.1 o 1 = nI m) (hlo : m ≤ dv_ln (o + 1)) : dv_M yX4_same cX4_same 3 (some .boolean) (dv_rm (d + 0)) [.ref a, .ref o] S (fun r S' => r = some (.int (dv_b (decide (dv_rd (S.2.1 (a + 1)) n = dv_rd (S.2.1 (o + 1)) m)))) ∧ S' = S) := by
  have h31 := dv_ln_lt (a + 1)
  have h32 := dv_ln_lt (o + 1)
  refine dv_M_of [some (.ref a), some (.ref o), none] (by decide) (fun _ _ => Nat.le_of_ble_eq_true rfl) (fun _ _ => rfl) ?_
  refine J_aload_n dX4_same_0 (pc' := 1) rfl rfl ?_
  refine J_geti fX4_9 ha (dv_rf4_1 ha) dX4_same_1 (pc' := 4) rfl ?_
  refine J_aload_n dX4_same_4 (pc' := 5) rfl rfl ?_
  refine J_geti fX4_9 ho (dv_rf4_1 ho) dX4_same_5 (pc' := 8) rfl ?_
  refine J_top (w := .int (nI m)) (by rw [hm]) ?_
  refine J_icmp_eq dX4_same_8 (pt := 13) (by decide) (pc' := 11) rfl (fun c8 => ?_) (fun c8 => ?_)
  · rw [hn, nI_eq (by omega) (by omega)] at c8
    refine J_iconst dX4_same_13 (pc' := 14) rfl (v := 0) ic_0 ?_
    refine J_istore_n dX4_same_14 (pc' := 15) rfl rfl (by decide) rfl (l' := [some (.ref a), some (.ref o), some (.int 0)]) rfl ?_
    have hlp15 : ∀ i, i ≤ n → (∀ j, j < i → S.2.1 (a + 1) j = S.2.1 (o + 1) j) → dv_J yX4_same cX4_same 3 (some .boolean) (dv_rm (d + 0)) 0 0 15 [some (.ref a), some (.ref o), some (.int (nI i))] [] S (fun r S' => r = some (.int (dv_b (decide (dv_rd (S.2.1 (a + 1)) n = dv_rd (S.2.1 (o + 1)) m)))) ∧ S' = S) := by
      refine dv_up (P := fun i => (∀ j, j < i → S.2.1 (a + 1) j = S.2.1 (o + 1) j) → dv_J yX4_same cX4_same 3 (some .boolean) (dv_rm (d + 0)) 0 0 15 [some (.ref a), some (.ref o), some (.int (nI i))] [] S (fun r S' => r = some (.int (dv_b (decide (dv_rd (S.2.1 (a + 1)) n = dv_rd (S.2.1 (o + 1)) m)))) ∧ S' = S)) ?_
      intro i hi15 ih15 hq
      refine J_iload_n dX4_same_15 (pc' := 16) rfl rfl ?_
      refine J_aload_n dX4_same_16 (pc' := 17) rfl rfl ?_
      refine J_geti fX4_9 ha (dv_rf4_1 ha) dX4_same_17 (pc' := 20) rfl ?_
      refine J_top (w := .int (nI n)) (by rw [hn]) ?_
      refine J_icmp_ge dX4_same_20 (pt := 46) (by decide) (pc' := 23) rfl (fun c20 => ?_) (fun c20 => ?_)
      · have hx := dv_ge hi15 (by omega) c20
        refine J_iconst dX4_same_46 (pc' := 47) rfl (v := 1) ic_1 ?_
        refine J_zret dX4_same_47 rfl (by decide) (dv_r1 _) ?_
        first | exact ⟨by rw [decide_eq_true (dv_rd_eq.mpr ⟨c8, fun j hj => hq j (by omega)⟩)]; rfl, rfl⟩ | exact ⟨by rw [decide_eq_false (fun q => c35 ((dv_rd_eq.mp q).2 _ hx))]; rfl, rfl⟩ | exact ⟨by rw [decide_eq_false (fun q => c8 (dv_rd_eq.mp q).1)]; rfl, rfl⟩
      · have hx := dv_nge hi15 (by omega) c20
        refine J_aload_n dX4_same_23 (pc' := 24) rfl rfl ?_
        refine J_getr fX4_19 ha (dv_rf4_0 ha) dX4_same_24 (pc' := 27) rfl ?_
        refine J_iload_n dX4_same_27 (pc' := 28) rfl rfl ?_
        refine J_iald (j := i) ha1 (rfl) (by omega) dX4_same_28 (pc' := 29) rfl ?_
        refine J_aload_n dX4_same_29 (pc' := 30) rfl rfl ?_
        refine J_getr fX4_19 ho (dv_rf4_0 ho) dX4_same_30 (pc' := 33) rfl ?_
        refine J_iload_n dX4_same_33 (pc' := 34) rfl rfl ?_
        refine J_iald (j := i) ho1 (rfl) (by omega) dX4_same_34 (pc' := 35) rfl ?_
        refine J_icmp_eq dX4_same_35 (pt := 40) (by decide) (pc' := 38) rfl (fun c35 => ?_) (fun c35 => ?_)
        · refine J_iinc dX4_same_40 (pc' := 43) rfl rfl (v := nI (i + 1)) (nI_1 i) (by decide) rfl (l' := [some (.ref a), some (.ref o), some (.int (nI (i + 1)))]) rfl ?_
          refine J_goto dX4_same_43 (pc' := 15) (by decide) ?_
          exact ih15 (i + 1) (by omega) (by omega) (lt_s hq c35)
        · refine J_iconst dX4_same_38 (pc' := 39) rfl (v := 0) ic_0 ?_
          refine J_zret dX4_same_39 rfl (by decide) (dv_r1 _) ?_
          first | exact ⟨by rw [decide_eq_true (dv_rd_eq.mpr ⟨c8, fun j hj => hq j (by omega)⟩)]; rfl, rfl⟩ | exact ⟨by rw [decide_eq_false (fun q => c35 ((dv_rd_eq.mp q).2 _ hx))]; rfl, rfl⟩ | exact ⟨by rw [decide_eq_false (fun q => c8 (dv_rd_eq.mp q).1)]; rfl, rfl⟩
    refine J_loc (l' := [some (.ref a), some (.ref o), some (.int (nI 0))]) (by simp only [nI_0, dv_b_f, dv_b_t]) ?_
    exact hlp15 0 (Nat.zero_le _) (fun j hj => absurd hj (Nat.not_lt_zero j))
  · rw [hn, nI_eq (by omega) (by omega)] at c8
    refine J_iconst dX4_same_11 (pc' := 12) rfl (v := 0) ic_0 ?_
    refine J_zret dX4_same_12 rfl (by decide) (dv_r1 _) ?_
    first | exact ⟨by rw [decide_eq_true (dv_rd_eq.mpr ⟨c8, fun j hj => hq j (by omega)⟩)]; rfl, rfl⟩ | exact ⟨by rw [decide_eq_false (fun q => c35 ((dv_rd_eq.mp q).2 _ hx))]; rfl, rfl⟩ | exact ⟨by rw [decide_eq_false (fun q => c8 (dv_rd_eq.mp q).1)]; rfl, rfl⟩
set_option maxRecDepth 100000 in
set_option maxHeartbeats 400000 in
theorem qX4_isName (d : Nat) (S : dv_S) (a n : Nat) (ha : dv_kd a = 4) (ha1 : dv_kd (a + 1) = 10) (hn : S.1 a 1 = nI n) (hl : n ≤ dv_ln (a + 1)) : dv_M yX4_isName cX4_isName 3 (some .boolean) (dv_rm (d + 2)) [.ref a] S (fun r S' => r = some (.int (dv_b (decide (S.1 a 2 = 0) && nm_ok (dv_rd (S.2.1 (a + 1)) n)))) ∧ S' = S) := by
  have h31 := dv_ln_lt (a + 1)
  have h24 : (24 : Int32) = nI 24 := by decide
  refine dv_M_of [some (.ref a), none, none] (by decide) (fun _ _ => Nat.le_of_ble_eq_true rfl) (fun _ _ => rfl) ?_
  refine J_aload_n dX4_isName_0 (pc' := 1) rfl rfl ?_
  refine J_geti fX4_15 ha (dv_rf4_2 ha) dX4_isName_1 (pc' := 4) rfl ?_
  refine J_if_ne dX4_isName_4 (pt := 35) (by decide) (pc' := 7) rfl (fun c4 => ?_) (fun c4 => ?_)
  · refine J_iconst dX4_isName_35 (pc' := 36) rfl (v := 0) ic_0 ?_
    refine J_zret dX4_isName_36 rfl (by decide) (dv_r1 _) ?_
    refine ⟨?_, rfl⟩
    first
      | (simp [dv_b, c4]; done)
      | (have h1 : decide (1 ≤ n ∧ n ≤ 24) = false := decide_eq_false (by omega)
         simp only [nm_ok, dv_rd_len, h1]; simp [dv_b]; done)
      | (simp only [nm_ok, dv_rd_hd (f := S.2.1 (a + 1)) (Nat.pos_of_ne_zero hz), c32]; simp [dv_b]; done)
  · refine J_aload_n dX4_isName_7 (pc' := 8) rfl rfl ?_
    refine J_geti fX4_9 ha (dv_rf4_1 ha) dX4_isName_8 (pc' := 11) rfl ?_
    refine J_top (w := .int (nI n)) (by rw [hn]) ?_
    refine J_if_eq dX4_isName_11 (pt := 35) (by decide) (pc' := 14) rfl (fun c11 => ?_) (fun c11 => ?_)
    · have hz : n = 0 := by rw [← nI_0, nI_eq (by omega) (by omega)] at c11; exact c11
      refine J_iconst dX4_isName_35 (pc' := 36) rfl (v := 0) ic_0 ?_
      refine J_zret dX4_isName_36 rfl (by decide) (dv_r1 _) ?_
      refine ⟨?_, rfl⟩
      first
        | (simp [dv_b, c4]; done)
        | (have h1 : decide (1 ≤ n ∧ n ≤ 24) = false := decide_eq_false (by omega)
           simp only [nm_ok, dv_rd_len, h1]; simp [dv_b]; done)
        | (simp only [nm_ok, dv_rd_hd (f := S.2.1 (a + 1)) (Nat.pos_of_ne_zero hz), c32]; simp [dv_b]; done)
    · have hz : n ≠ 0 := fun q => c11 (by rw [q, nI_0])
      refine J_aload_n dX4_isName_14 (pc' := 15) rfl rfl ?_
      refine J_geti fX4_9 ha (dv_rf4_1 ha) dX4_isName_15 (pc' := 18) rfl ?_
      refine J_bipush dX4_isName_18 (pc' := 20) rfl (v := 24) bp_24 ?_
      refine J_icmp_gt dX4_isName_20 (pt := 35) (by decide) (pc' := 23) rfl (fun c20 => ?_) (fun c20 => ?_)
      · rw [hn, h24, nI_ltI (by omega) (by omega)] at c20
        refine J_iconst dX4_isName_35 (pc' := 36) rfl (v := 0) ic_0 ?_
        refine J_zret dX4_isName_36 rfl (by decide) (dv_r1 _) ?_
        refine ⟨?_, rfl⟩
        first
          | (simp [dv_b, c4]; done)
          | (have h1 : decide (1 ≤ n ∧ n ≤ 24) = false := decide_eq_false (by omega)
             simp only [nm_ok, dv_rd_len, h1]; simp [dv_b]; done)
          | (simp only [nm_ok, dv_rd_hd (f := S.2.1 (a + 1)) (Nat.pos_of_ne_zero hz), c32]; simp [dv_b]; done)
      · rw [hn, h24, nI_ltI (by omega) (by omega)] at c20
        refine J_aload_n dX4_isName_23 (pc' := 24) rfl rfl ?_
        refine J_getr fX4_19 ha (dv_rf4_0 ha) dX4_isName_24 (pc' := 27) rfl ?_
        refine J_iconst dX4_isName_27 (pc' := 28) rfl (v := 0) ic_0 ?_
        refine J_iald (j := 0) ha1 (nI_0.symm) (by omega) dX4_isName_28 (pc' := 29) rfl ?_
        refine J_n1 (As := [.int (S.2.1 (a + 1) 0)]) (rest := []) (qX7_isDigit _ _ _) vX7_isDigit nX4_34 dX4_isName_29 (pc' := 32) rfl rfl (Nat.le_of_ble_eq_true rfl) (by decide) ?_
        refine J_beq dX4_isName_32 (pt := 37) (by decide) (pc' := 35) rfl (fun c32 => ?_) (fun c32 => ?_)
        · refine J_iconst dX4_isName_37 (pc' := 38) rfl (v := 0) ic_0 ?_
          refine J_istore_n dX4_isName_38 (pc' := 39) rfl rfl (by decide) rfl (l' := [some (.ref a), some (.int 0), none]) rfl ?_
          refine J_iconst dX4_isName_39 (pc' := 40) rfl (v := 0) ic_0 ?_
          refine J_istore_n dX4_isName_40 (pc' := 41) rfl rfl (by decide) rfl (l' := [some (.ref a), some (.int 0), some (.int 0)]) rfl ?_
          have hlp41 : ∀ i, i ≤ n → ∀ (sl : Bool), (dv_rd (S.2.1 (a + 1)) i).all ch_n = true → sl = (dv_rd (S.2.1 (a + 1)) i).any ch_l → dv_J yX4_isName cX4_isName 3 (some .boolean) (dv_rm (d + 2)) 0 0 41 [some (.ref a), some (.int (dv_b sl)), some (.int (nI i))] [] S (fun r S' => r = some (.int (dv_b (decide (S.1 a 2 = 0) && nm_ok (dv_rd (S.2.1 (a + 1)) n)))) ∧ S' = S) := by
            refine dv_up (P := fun i => ∀ (sl : Bool), (dv_rd (S.2.1 (a + 1)) i).all ch_n = true → sl = (dv_rd (S.2.1 (a + 1)) i).any ch_l → dv_J yX4_isName cX4_isName 3 (some .boolean) (dv_rm (d + 2)) 0 0 41 [some (.ref a), some (.int (dv_b sl)), some (.int (nI i))] [] S (fun r S' => r = some (.int (dv_b (decide (S.1 a 2 = 0) && nm_ok (dv_rd (S.2.1 (a + 1)) n)))) ∧ S' = S)) ?_
            intro i hi41 ih41 sl hal hsl
            refine J_iload_n dX4_isName_41 (pc' := 42) rfl rfl ?_
            refine J_aload_n dX4_isName_42 (pc' := 43) rfl rfl ?_
            refine J_geti fX4_9 ha (dv_rf4_1 ha) dX4_isName_43 (pc' := 46) rfl ?_
            refine J_top (w := .int (nI n)) (by rw [hn]) ?_
            refine J_icmp_ge dX4_isName_46 (pt := 97) (by decide) (pc' := 49) rfl (fun c46 => ?_) (fun c46 => ?_)
            · have hx := dv_ge hi41 (by omega) c46
              refine J_iload_n dX4_isName_97 (pc' := 98) rfl rfl ?_
              refine J_zret dX4_isName_98 rfl (dv_b_01 _) (dv_r1 _) ?_
              refine ⟨?_, rfl⟩
              have h0 := dv_rd_hd (f := S.2.1 (a + 1)) (Nat.pos_of_ne_zero hz)
              have h1 : decide (1 ≤ n ∧ n ≤ 24) = true := decide_eq_true ⟨by omega, by omega⟩
              rw [hx] at hal hsl
              rw [hsl]
              simp only [nm_ok, dv_rd_len, h0, h1, hal, c32, decide_eq_true c4]
              simp
            · have hx := dv_nge hi41 (by omega) c46
              refine J_aload_n dX4_isName_49 (pc' := 50) rfl rfl ?_
              refine J_getr fX4_19 ha (dv_rf4_0 ha) dX4_isName_50 (pc' := 53) rfl ?_
              refine J_iload_n dX4_isName_53 (pc' := 54) rfl rfl ?_
              refine J_iald (j := i) ha1 (rfl) (by omega) dX4_isName_54 (pc' := 55) rfl ?_
              refine J_n1 (As := [.int (S.2.1 (a + 1) i)]) (rest := []) (qX7_isLetter _ _ _) vX7_isLetter nX4_37 dX4_isName_55 (pc' := 58) rfl rfl (Nat.le_of_ble_eq_true rfl) (by decide) ?_
              refine J_beq dX4_isName_58 (pt := 66) (by decide) (pc' := 61) rfl (fun c58 => ?_) (fun c58 => ?_)
              · refine J_aload_n dX4_isName_66 (pc' := 67) rfl rfl ?_
                refine J_getr fX4_19 ha (dv_rf4_0 ha) dX4_isName_67 (pc' := 70) rfl ?_
                refine J_iload_n dX4_isName_70 (pc' := 71) rfl rfl ?_
                refine J_iald (j := i) ha1 (rfl) (by omega) dX4_isName_71 (pc' := 72) rfl ?_
                refine J_n1 (As := [.int (S.2.1 (a + 1) i)]) (rest := []) (qX7_isDigit _ _ _) vX7_isDigit nX4_34 dX4_isName_72 (pc' := 75) rfl rfl (Nat.le_of_ble_eq_true rfl) (by decide) ?_
                refine J_bne dX4_isName_75 (pt := 91) (by decide) (pc' := 78) rfl (fun c75 => ?_) (fun c75 => ?_)
                · refine J_iinc dX4_isName_91 (pc' := 94) rfl rfl (v := nI (i + 1)) (nI_1 i) (by decide) rfl (l' := [some (.ref a), some (.int (dv_b sl)), some (.int (nI (i + 1)))]) rfl ?_
                  refine J_goto dX4_isName_94 (pc' := 41) (by decide) ?_
                  refine J_loc (l' := [some (.ref a), some (.int (dv_b ((dv_rd (S.2.1 (a + 1)) (i + 1)).any ch_l))), some (.int (nI (i + 1)))]) ?_ (ih41 (i + 1) (by omega) (by omega) _ ?_ rfl)
                  · first | (simp only [dv_any_s, c58, Bool.or_true]; rfl) | (simp only [dv_any_s, c58, Bool.or_false, hsl])
                  · first | (simp only [dv_all_s, hal, ch_n, c58, Bool.true_or, Bool.and_self]; done) | (simp only [dv_all_s, hal, ch_n, c75, Bool.true_or, Bool.or_true, Bool.and_self]; done) | (simp only [dv_all_s, hal, ch_n, decide_eq_true c86, Bool.or_true, Bool.and_self]; done)
                · refine J_aload_n dX4_isName_78 (pc' := 79) rfl rfl ?_
                  refine J_getr fX4_19 ha (dv_rf4_0 ha) dX4_isName_79 (pc' := 82) rfl ?_
                  refine J_iload_n dX4_isName_82 (pc' := 83) rfl rfl ?_
                  refine J_iald (j := i) ha1 (rfl) (by omega) dX4_isName_83 (pc' := 84) rfl ?_
                  refine J_bipush dX4_isName_84 (pc' := 86) rfl (v := 95) bp_95 ?_
                  refine J_icmp_eq dX4_isName_86 (pt := 91) (by decide) (pc' := 89) rfl (fun c86 => ?_) (fun c86 => ?_)
                  · refine J_iinc dX4_isName_91 (pc' := 94) rfl rfl (v := nI (i + 1)) (nI_1 i) (by decide) rfl (l' := [some (.ref a), some (.int (dv_b sl)), some (.int (nI (i + 1)))]) rfl ?_
                    refine J_goto dX4_isName_94 (pc' := 41) (by decide) ?_
                    refine J_loc (l' := [some (.ref a), some (.int (dv_b ((dv_rd (S.2.1 (a + 1)) (i + 1)).any ch_l))), some (.int (nI (i + 1)))]) ?_ (ih41 (i + 1) (by omega) (by omega) _ ?_ rfl)
                    · first | (simp only [dv_any_s, c58, Bool.or_true]; rfl) | (simp only [dv_any_s, c58, Bool.or_false, hsl])
                    · first | (simp only [dv_all_s, hal, ch_n, c58, Bool.true_or, Bool.and_self]; done) | (simp only [dv_all_s, hal, ch_n, c75, Bool.true_or, Bool.or_true, Bool.and_self]; done) | (simp only [dv_all_s, hal, ch_n, decide_eq_true c86, Bool.or_true, Bool.and_self]; done)
                  · refine J_iconst dX4_isName_89 (pc' := 90) rfl (v := 0) ic_0 ?_
                    refine J_zret dX4_isName_90 rfl (by decide) (dv_r1 _) ?_
                    refine ⟨?_, rfl⟩
                    have hc : ch_n (S.2.1 (a + 1) i) = false := by simp [ch_n, c58, c75, c86]
                    simp only [nm_ok, dv_all_le hx hc]; simp [dv_b]
              · refine J_iconst dX4_isName_61 (pc' := 62) rfl (v := 1) ic_1 ?_
                refine J_istore_n dX4_isName_62 (pc' := 63) rfl rfl (by decide) rfl (l' := [some (.ref a), some (.int 1), some (.int (nI i))]) rfl ?_
                refine J_goto dX4_isName_63 (pc' := 91) (by decide) ?_
                refine J_iinc dX4_isName_91 (pc' := 94) rfl rfl (v := nI (i + 1)) (nI_1 i) (by decide) rfl (l' := [some (.ref a), some (.int 1), some (.int (nI (i + 1)))]) rfl ?_
                refine J_goto dX4_isName_94 (pc' := 41) (by decide) ?_
                refine J_loc (l' := [some (.ref a), some (.int (dv_b ((dv_rd (S.2.1 (a + 1)) (i + 1)).any ch_l))), some (.int (nI (i + 1)))]) ?_ (ih41 (i + 1) (by omega) (by omega) _ ?_ rfl)
                · first | (simp only [dv_any_s, c58, Bool.or_true]; rfl) | (simp only [dv_any_s, c58, Bool.or_false, hsl])
                · first | (simp only [dv_all_s, hal, ch_n, c58, Bool.true_or, Bool.and_self]; done) | (simp only [dv_all_s, hal, ch_n, c75, Bool.true_or, Bool.or_true, Bool.and_self]; done) | (simp only [dv_all_s, hal, ch_n, decide_eq_true c86, Bool.or_true, Bool.and_self]; done)
          refine J_loc (l' := [some (.ref a), some (.int (dv_b false)), some (.int (nI 0))]) (by simp only [nI_0, dv_b_f, dv_b_t]) ?_
          exact hlp41 0 (Nat.zero_le _) false rfl rfl
        · refine J_iconst dX4_isName_35 (pc' := 36) rfl (v := 0) ic_0 ?_
          refine J_zret dX4_isName_36 rfl (by decide) (dv_r1 _) ?_
          refine ⟨?_, rfl⟩
          first
            | (simp [dv_b, c4]; done)
            | (have h1 : decide (1 ≤ n ∧ n ≤ 24) = false := decide_eq_false (by omega)
               simp only [nm_ok, dv_rd_len, h1]; simp [dv_b]; done)
            | (simp only [nm_ok, dv_rd_hd (f := S.2.1 (a + 1)) (Nat.pos_of_ne_zero hz), c32]; simp [dv_b]; done)
set_option maxRecDepth 100000 in
set_option maxHeartbeats 400000 in
theorem qX4_isWord (d : Nat) (S : dv_S) (a n : Nat) (ha : dv_kd a = 4) (ha1 : dv_kd (a + 1) = 10) (hn : S.1 a 1 = nI n) (hl : n ≤ dv_ln (a + 1)) : dv_M yX4_isWord cX4_isWord 2 (some .boolean) (dv_rm (d + 1)) [.ref a] S (fun r S' => r = some (.int (dv_b (decide (S.1 a 2 = 0) && wd_ok (dv_rd (S.2.1 (a + 1)) n)))) ∧ S' = S) := by
  have h31 := dv_ln_lt (a + 1)
  have h12 : (12 : Int32) = nI 12 := by decide
  refine dv_M_of [some (.ref a), none] (by decide) (fun _ _ => Nat.le_of_ble_eq_true rfl) (fun _ _ => rfl) ?_
  refine J_aload_n dX4_isWord_0 (pc' := 1) rfl rfl ?_
  refine J_geti fX4_15 ha (dv_rf4_2 ha) dX4_isWord_1 (pc' := 4) rfl ?_
  refine J_if_ne dX4_isWord_4 (pt := 23) (by decide) (pc' := 7) rfl (fun c4 => ?_) (fun c4 => ?_)
  · refine J_iconst dX4_isWord_23 (pc' := 24) rfl (v := 0) ic_0 ?_
    refine J_zret dX4_isWord_24 rfl (by decide) (dv_r1 _) ?_
    refine ⟨?_, rfl⟩
    first
      | (simp [dv_b, c4]; done)
      | (have h1 : decide (1 ≤ n ∧ n ≤ 12) = false := decide_eq_false (by omega)
         simp only [wd_ok, dv_rd_len, h1]; simp [dv_b]; done)
  · refine J_aload_n dX4_isWord_7 (pc' := 8) rfl rfl ?_
    refine J_geti fX4_9 ha (dv_rf4_1 ha) dX4_isWord_8 (pc' := 11) rfl ?_
    refine J_top (w := .int (nI n)) (by rw [hn]) ?_
    refine J_if_eq dX4_isWord_11 (pt := 23) (by decide) (pc' := 14) rfl (fun c11 => ?_) (fun c11 => ?_)
    · have hz : n = 0 := by rw [← nI_0, nI_eq (by omega) (by omega)] at c11; exact c11
      refine J_iconst dX4_isWord_23 (pc' := 24) rfl (v := 0) ic_0 ?_
      refine J_zret dX4_isWord_24 rfl (by decide) (dv_r1 _) ?_
      refine ⟨?_, rfl⟩
      first
        | (simp [dv_b, c4]; done)
        | (have h1 : decide (1 ≤ n ∧ n ≤ 12) = false := decide_eq_false (by omega)
           simp only [wd_ok, dv_rd_len, h1]; simp [dv_b]; done)
    · have hz : n ≠ 0 := fun q => c11 (by rw [q, nI_0])
      refine J_aload_n dX4_isWord_14 (pc' := 15) rfl rfl ?_
      refine J_geti fX4_9 ha (dv_rf4_1 ha) dX4_isWord_15 (pc' := 18) rfl ?_
      refine J_bipush dX4_isWord_18 (pc' := 20) rfl (v := 12) bp_12 ?_
      refine J_icmp_le dX4_isWord_20 (pt := 25) (by decide) (pc' := 23) rfl (fun c20 => ?_) (fun c20 => ?_)
      · rw [hn, h12, nI_leI (by omega) (by omega)] at c20
        refine J_iconst dX4_isWord_25 (pc' := 26) rfl (v := 0) ic_0 ?_
        refine J_istore_n dX4_isWord_26 (pc' := 27) rfl rfl (by decide) rfl (l' := [some (.ref a), some (.int 0)]) rfl ?_
        have hlp27 : ∀ i, i ≤ n → (dv_rd (S.2.1 (a + 1)) i).all ch_s = true → dv_J yX4_isWord cX4_isWord 2 (some .boolean) (dv_rm (d + 1)) 0 0 27 [some (.ref a), some (.int (nI i))] [] S (fun r S' => r = some (.int (dv_b (decide (S.1 a 2 = 0) && wd_ok (dv_rd (S.2.1 (a + 1)) n)))) ∧ S' = S) := by
          refine dv_up (P := fun i => (dv_rd (S.2.1 (a + 1)) i).all ch_s = true → dv_J yX4_isWord cX4_isWord 2 (some .boolean) (dv_rm (d + 1)) 0 0 27 [some (.ref a), some (.int (nI i))] [] S (fun r S' => r = some (.int (dv_b (decide (S.1 a 2 = 0) && wd_ok (dv_rd (S.2.1 (a + 1)) n)))) ∧ S' = S)) ?_
          intro i hi27 ih27 hal
          refine J_iload_n dX4_isWord_27 (pc' := 28) rfl rfl ?_
          refine J_aload_n dX4_isWord_28 (pc' := 29) rfl rfl ?_
          refine J_geti fX4_9 ha (dv_rf4_1 ha) dX4_isWord_29 (pc' := 32) rfl ?_
          refine J_top (w := .int (nI n)) (by rw [hn]) ?_
          refine J_icmp_ge dX4_isWord_32 (pt := 55) (by decide) (pc' := 35) rfl (fun c32 => ?_) (fun c32 => ?_)
          · have hx := dv_ge hi27 (by omega) c32
            refine J_iconst dX4_isWord_55 (pc' := 56) rfl (v := 1) ic_1 ?_
            refine J_zret dX4_isWord_56 rfl (by decide) (dv_r1 _) ?_
            refine ⟨?_, rfl⟩
            have h1 : decide (1 ≤ n ∧ n ≤ 12) = true := decide_eq_true ⟨by omega, by omega⟩
            rw [hx] at hal
            simp only [wd_ok, dv_rd_len, h1, hal, decide_eq_true c4]
            simp [dv_b]
          · have hx := dv_nge hi27 (by omega) c32
            refine J_aload_n dX4_isWord_35 (pc' := 36) rfl rfl ?_
            refine J_getr fX4_19 ha (dv_rf4_0 ha) dX4_isWord_36 (pc' := 39) rfl ?_
            refine J_iload_n dX4_isWord_39 (pc' := 40) rfl rfl ?_
            refine J_iald (j := i) ha1 (rfl) (by omega) dX4_isWord_40 (pc' := 41) rfl ?_
            refine J_n1 (As := [.int (S.2.1 (a + 1) i)]) (rest := []) (qX7_isSmall _ _ _) vX7_isSmall nX4_40 dX4_isWord_41 (pc' := 44) rfl rfl (Nat.le_of_ble_eq_true rfl) (by decide) ?_
            refine J_bne dX4_isWord_44 (pt := 49) (by decide) (pc' := 47) rfl (fun c44 => ?_) (fun c44 => ?_)
            · refine J_iinc dX4_isWord_49 (pc' := 52) rfl rfl (v := nI (i + 1)) (nI_1 i) (by decide) rfl (l' := [some (.ref a), some (.int (nI (i + 1)))]) rfl ?_
              refine J_goto dX4_isWord_52 (pc' := 27) (by decide) ?_
              exact ih27 (i + 1) (by omega) (by omega) (by simp only [dv_all_s, hal, c44, Bool.and_self])
            · refine J_iconst dX4_isWord_47 (pc' := 48) rfl (v := 0) ic_0 ?_
              refine J_zret dX4_isWord_48 rfl (by decide) (dv_r1 _) ?_
              refine ⟨?_, rfl⟩
              simp only [wd_ok, dv_all_le hx c44]; simp [dv_b]
        refine J_loc (l' := [some (.ref a), some (.int (nI 0))]) (by simp only [nI_0, dv_b_f, dv_b_t]) ?_
        exact hlp27 0 (Nat.zero_le _) rfl
      · rw [hn, h12, nI_leI (by omega) (by omega)] at c20
        refine J_iconst dX4_isWord_23 (pc' := 24) rfl (v := 0) ic_0 ?_
        refine J_zret dX4_isWord_24 rfl (by decide) (dv_r1 _) ?_
        refine ⟨?_, rfl⟩
        first
          | (simp [dv_b, c4]; done)
          | (have h1 : decide (1 ≤ n ∧ n ≤ 12) = false := decide_eq_false (by omega)
             simp only [wd_ok, dv_rd_len, h1]; simp [dv_b]; done)
set_option maxRecDepth 100000 in
set_option maxHeartbeats 400000 in
theorem qX4_style (d : Nat) (S : dv_S) (a n : Nat) (ha : dv_kd a = 4) (ha1 : dv_kd (a + 1) = 10) (hn : S.1 a 1 = nI n) (hl : n ≤ dv_ln (a + 1)) : dv_M yX4_style cX4_style 7 (some .int) (dv_rm (d + 1)) [.ref a] S (fun r S' => r = some (.int (st_of (dv_rd (S.2.1 (a + 1)) n))) ∧ S' = S) := by
  have h31 := dv_ln_lt (a + 1)
  refine dv_M_of [some (.ref a), none, none, none, none, none, none] (by decide) (fun _ _ => Nat.le_of_ble_eq_true rfl) (fun _ _ => rfl) ?_
  refine J_iconst dX4_style_0 (pc' := 1) rfl (v := 0) ic_0 ?_
  refine J_istore_n dX4_style_1 (pc' := 2) rfl rfl (by decide) rfl (l' := [some (.ref a), some (.int 0), none, none, none, none, none]) rfl ?_
  refine J_iconst dX4_style_2 (pc' := 3) rfl (v := 0) ic_0 ?_
  refine J_istore_n dX4_style_3 (pc' := 4) rfl rfl (by decide) rfl (l' := [some (.ref a), some (.int 0), some (.int 0), none, none, none, none]) rfl ?_
  refine J_iconst dX4_style_4 (pc' := 5) rfl (v := 0) ic_0 ?_
  refine J_istore_n dX4_style_5 (pc' := 6) rfl rfl (by decide) rfl (l' := [some (.ref a), some (.int 0), some (.int 0), some (.int 0), none, none, none]) rfl ?_
  refine J_iconst dX4_style_6 (pc' := 7) rfl (v := 0) ic_0 ?_
  refine J_istore dX4_style_7 (pc' := 9) rfl (by decide) rfl (l' := [some (.ref a), some (.int 0), some (.int 0), some (.int 0), some (.int 0), none, none]) rfl ?_
  refine J_iconst dX4_style_9 (pc' := 10) rfl (v := 0) ic_0 ?_
  refine J_istore dX4_style_10 (pc' := 12) rfl (by decide) rfl (l' := [some (.ref a), some (.int 0), some (.int 0), some (.int 0), some (.int 0), some (.int 0), none]) rfl ?_
  have hlp12 : ∀ i, i ≤ n → ∀ (lw gr sm gf : Bool), lw = (dv_rd (S.2.1 (a + 1)) i).any (fun x => decide (x = 95)) → gr = (dv_rd (S.2.1 (a + 1)) i).any ch_g → sm = (dv_rd (S.2.1 (a + 1)) i).any ch_s → gf = st_gf (dv_rd (S.2.1 (a + 1)) i) → dv_J yX4_style cX4_style 7 (some .int) (dv_rm (d + 1)) 0 0 12 [some (.ref a), some (.int (dv_b lw)), some (.int (dv_b gr)), some (.int (dv_b sm)), some (.int (dv_b gf)), some (.int (nI i)), none] [] S (fun r S' => r = some (.int (st_of (dv_rd (S.2.1 (a + 1)) n))) ∧ S' = S) := by
    refine dv_up (P := fun i => ∀ (lw gr sm gf : Bool), lw = (dv_rd (S.2.1 (a + 1)) i).any (fun x => decide (x = 95)) → gr = (dv_rd (S.2.1 (a + 1)) i).any ch_g → sm = (dv_rd (S.2.1 (a + 1)) i).any ch_s → gf = st_gf (dv_rd (S.2.1 (a + 1)) i) → dv_J yX4_style cX4_style 7 (some .int) (dv_rm (d + 1)) 0 0 12 [some (.ref a), some (.int (dv_b lw)), some (.int (dv_b gr)), some (.int (dv_b sm)), some (.int (dv_b gf)), some (.int (nI i)), none] [] S (fun r S' => r = some (.int (st_of (dv_rd (S.2.1 (a + 1)) n))) ∧ S' = S)) ?_
    intro i hi12 ih12 lw gr sm gf h1 h2 h3 h4
    refine J_iload dX4_style_12 (pc' := 14) rfl rfl ?_
    refine J_aload_n dX4_style_14 (pc' := 15) rfl rfl ?_
    refine J_geti fX4_9 ha (dv_rf4_1 ha) dX4_style_15 (pc' := 18) rfl ?_
    refine J_top (w := .int (nI n)) (by rw [hn]) ?_
    refine J_icmp_ge dX4_style_18 (pt := 113) (by decide) (pc' := 21) rfl (fun c18 => ?_) (fun c18 => ?_)
    · have hx := dv_ge hi12 (by omega) c18
      refine J_iload_n dX4_style_113 (pc' := 114) rfl rfl ?_
      refine J_beq dX4_style_114 (pt := 123) (by decide) (pc' := 117) rfl (fun c114 => ?_) (fun c114 => ?_)
      · refine J_iload_n dX4_style_123 (pc' := 124) rfl rfl ?_
        refine J_beq dX4_style_124 (pt := 133) (by decide) (pc' := 127) rfl (fun c124 => ?_) (fun c124 => ?_)
        · refine J_iload dX4_style_133 (pc' := 135) rfl rfl ?_
          refine J_beq dX4_style_135 (pt := 142) (by decide) (pc' := 138) rfl (fun c135 => ?_) (fun c135 => ?_)
          · refine J_iconst dX4_style_142 (pc' := 143) rfl (v := 0) ic_0 ?_
            refine J_iret dX4_style_143 rfl (dv_r1 _) ?_
            refine ⟨?_, rfl⟩
            rw [hx] at h1 h2 h3 h4
            simp only [st_of, ← h1, ← h2, ← h3, ← h4]
            clear ih12 h1 h2 h3 h4
            simp_all
          · refine J_iconst dX4_style_138 (pc' := 139) rfl (v := 1) ic_1 ?_
            refine J_goto dX4_style_139 (pc' := 143) (by decide) ?_
            refine J_iret dX4_style_143 rfl (dv_r1 _) ?_
            refine ⟨?_, rfl⟩
            rw [hx] at h1 h2 h3 h4
            simp only [st_of, ← h1, ← h2, ← h3, ← h4]
            clear ih12 h1 h2 h3 h4
            simp_all
        · refine J_iload_n dX4_style_127 (pc' := 128) rfl rfl ?_
          refine J_bne dX4_style_128 (pt := 133) (by decide) (pc' := 131) rfl (fun c128 => ?_) (fun c128 => ?_)
          · refine J_iload dX4_style_133 (pc' := 135) rfl rfl ?_
            refine J_beq dX4_style_135 (pt := 142) (by decide) (pc' := 138) rfl (fun c135 => ?_) (fun c135 => ?_)
            · refine J_iconst dX4_style_142 (pc' := 143) rfl (v := 0) ic_0 ?_
              refine J_iret dX4_style_143 rfl (dv_r1 _) ?_
              refine ⟨?_, rfl⟩
              rw [hx] at h1 h2 h3 h4
              simp only [st_of, ← h1, ← h2, ← h3, ← h4]
              clear ih12 h1 h2 h3 h4
              simp_all
            · refine J_iconst dX4_style_138 (pc' := 139) rfl (v := 1) ic_1 ?_
              refine J_goto dX4_style_139 (pc' := 143) (by decide) ?_
              refine J_iret dX4_style_143 rfl (dv_r1 _) ?_
              refine ⟨?_, rfl⟩
              rw [hx] at h1 h2 h3 h4
              simp only [st_of, ← h1, ← h2, ← h3, ← h4]
              clear ih12 h1 h2 h3 h4
              simp_all
          · refine J_iconst dX4_style_131 (pc' := 132) rfl (v := 3) ic_3 ?_
            refine J_iret dX4_style_132 rfl (dv_r1 _) ?_
            refine ⟨?_, rfl⟩
            rw [hx] at h1 h2 h3 h4
            simp only [st_of, ← h1, ← h2, ← h3, ← h4]
            clear ih12 h1 h2 h3 h4
            simp_all
      · refine J_iload_n dX4_style_117 (pc' := 118) rfl rfl ?_
        refine J_bne dX4_style_118 (pt := 123) (by decide) (pc' := 121) rfl (fun c118 => ?_) (fun c118 => ?_)
        · refine J_iload_n dX4_style_123 (pc' := 124) rfl rfl ?_
          refine J_beq dX4_style_124 (pt := 133) (by decide) (pc' := 127) rfl (fun c124 => ?_) (fun c124 => ?_)
          · refine J_iload dX4_style_133 (pc' := 135) rfl rfl ?_
            refine J_beq dX4_style_135 (pt := 142) (by decide) (pc' := 138) rfl (fun c135 => ?_) (fun c135 => ?_)
            · refine J_iconst dX4_style_142 (pc' := 143) rfl (v := 0) ic_0 ?_
              refine J_iret dX4_style_143 rfl (dv_r1 _) ?_
              refine ⟨?_, rfl⟩
              rw [hx] at h1 h2 h3 h4
              simp only [st_of, ← h1, ← h2, ← h3, ← h4]
              clear ih12 h1 h2 h3 h4
              simp_all
            · refine J_iconst dX4_style_138 (pc' := 139) rfl (v := 1) ic_1 ?_
              refine J_goto dX4_style_139 (pc' := 143) (by decide) ?_
              refine J_iret dX4_style_143 rfl (dv_r1 _) ?_
              refine ⟨?_, rfl⟩
              rw [hx] at h1 h2 h3 h4
              simp only [st_of, ← h1, ← h2, ← h3, ← h4]
              clear ih12 h1 h2 h3 h4
              simp_all
          · refine J_iload_n dX4_style_127 (pc' := 128) rfl rfl ?_
            refine J_bne dX4_style_128 (pt := 133) (by decide) (pc' := 131) rfl (fun c128 => ?_) (fun c128 => ?_)
            · refine J_iload dX4_style_133 (pc' := 135) rfl rfl ?_
              refine J_beq dX4_style_135 (pt := 142) (by decide) (pc' := 138) rfl (fun c135 => ?_) (fun c135 => ?_)
              · refine J_iconst dX4_style_142 (pc' := 143) rfl (v := 0) ic_0 ?_
                refine J_iret dX4_style_143 rfl (dv_r1 _) ?_
                refine ⟨?_, rfl⟩
                rw [hx] at h1 h2 h3 h4
                simp only [st_of, ← h1, ← h2, ← h3, ← h4]
                clear ih12 h1 h2 h3 h4
                simp_all
              · refine J_iconst dX4_style_138 (pc' := 139) rfl (v := 1) ic_1 ?_
                refine J_goto dX4_style_139 (pc' := 143) (by decide) ?_
                refine J_iret dX4_style_143 rfl (dv_r1 _) ?_
                refine ⟨?_, rfl⟩
                rw [hx] at h1 h2 h3 h4
                simp only [st_of, ← h1, ← h2, ← h3, ← h4]
                clear ih12 h1 h2 h3 h4
                simp_all
            · refine J_iconst dX4_style_131 (pc' := 132) rfl (v := 3) ic_3 ?_
              refine J_iret dX4_style_132 rfl (dv_r1 _) ?_
              refine ⟨?_, rfl⟩
              rw [hx] at h1 h2 h3 h4
              simp only [st_of, ← h1, ← h2, ← h3, ← h4]
              clear ih12 h1 h2 h3 h4
              simp_all
        · refine J_iconst dX4_style_121 (pc' := 122) rfl (v := 2) ic_2 ?_
          refine J_iret dX4_style_122 rfl (dv_r1 _) ?_
          refine ⟨?_, rfl⟩
          rw [hx] at h1 h2 h3 h4
          simp only [st_of, ← h1, ← h2, ← h3, ← h4]
          clear ih12 h1 h2 h3 h4
          simp_all
    · have hx := dv_nge hi12 (by omega) c18
      refine J_aload_n dX4_style_21 (pc' := 22) rfl rfl ?_
      refine J_getr fX4_19 ha (dv_rf4_0 ha) dX4_style_22 (pc' := 25) rfl ?_
      refine J_iload dX4_style_25 (pc' := 27) rfl rfl ?_
      refine J_iald (j := i) ha1 (rfl) (by omega) dX4_style_27 (pc' := 28) rfl ?_
      refine J_istore dX4_style_28 (pc' := 30) rfl (by decide) rfl (l' := [some (.ref a), some (.int (dv_b lw)), some (.int (dv_b gr)), some (.int (dv_b sm)), some (.int (dv_b gf)), some (.int (nI i)), some (.int (S.2.1 (a + 1) i))]) rfl ?_
      have hj52 : ∀ jv : Int32, (dv_b (gf || (ch_g (S.2.1 (a + 1) i) && !sm))) = jv → dv_J yX4_style cX4_style 7 (some .int) (dv_rm (d + 1)) 0 0 52 [some (.ref a), some (.int (dv_b lw)), some (.int (dv_b gr)), some (.int (dv_b sm)), some (.int (dv_b gf)), some (.int (nI i)), some (.int (S.2.1 (a + 1) i))] [.int jv] S (fun r S' => r = some (.int (st_of (dv_rd (S.2.1 (a + 1)) n))) ∧ S' = S) := by
        intro jv hjv
        subst hjv
        refine J_istore dX4_style_52 (pc' := 54) rfl (by decide) rfl (l' := [some (.ref a), some (.int (dv_b lw)), some (.int (dv_b gr)), some (.int (dv_b sm)), some (.int (dv_b (gf || (ch_g (S.2.1 (a + 1) i) && !sm)))), some (.int (nI i)), some (.int (S.2.1 (a + 1) i))]) rfl ?_
        have hj70 : ∀ jv : Int32, (dv_b (lw || decide (S.2.1 (a + 1) i = 95))) = jv → dv_J yX4_style cX4_style 7 (some .int) (dv_rm (d + 1)) 0 0 70 [some (.ref a), some (.int (dv_b lw)), some (.int (dv_b gr)), some (.int (dv_b sm)), some (.int (dv_b (gf || (ch_g (S.2.1 (a + 1) i) && !sm)))), some (.int (nI i)), some (.int (S.2.1 (a + 1) i))] [.int jv] S (fun r S' => r = some (.int (st_of (dv_rd (S.2.1 (a + 1)) n))) ∧ S' = S) := by
          intro jv hjv
          subst hjv
          refine J_istore_n dX4_style_70 (pc' := 71) rfl rfl (by decide) rfl (l' := [some (.ref a), some (.int (dv_b (lw || decide (S.2.1 (a + 1) i = 95)))), some (.int (dv_b gr)), some (.int (dv_b sm)), some (.int (dv_b (gf || (ch_g (S.2.1 (a + 1) i) && !sm)))), some (.int (nI i)), some (.int (S.2.1 (a + 1) i))]) rfl ?_
          have hj88 : ∀ jv : Int32, (dv_b (gr || ch_g (S.2.1 (a + 1) i))) = jv → dv_J yX4_style cX4_style 7 (some .int) (dv_rm (d + 1)) 0 0 88 [some (.ref a), some (.int (dv_b (lw || decide (S.2.1 (a + 1) i = 95)))), some (.int (dv_b gr)), some (.int (dv_b sm)), some (.int (dv_b (gf || (ch_g (S.2.1 (a + 1) i) && !sm)))), some (.int (nI i)), some (.int (S.2.1 (a + 1) i))] [.int jv] S (fun r S' => r = some (.int (st_of (dv_rd (S.2.1 (a + 1)) n))) ∧ S' = S) := by
            intro jv hjv
            subst hjv
            refine J_istore_n dX4_style_88 (pc' := 89) rfl rfl (by decide) rfl (l' := [some (.ref a), some (.int (dv_b (lw || decide (S.2.1 (a + 1) i = 95)))), some (.int (dv_b (gr || ch_g (S.2.1 (a + 1) i)))), some (.int (dv_b sm)), some (.int (dv_b (gf || (ch_g (S.2.1 (a + 1) i) && !sm)))), some (.int (nI i)), some (.int (S.2.1 (a + 1) i))]) rfl ?_
            have hj106 : ∀ jv : Int32, (dv_b (sm || ch_s (S.2.1 (a + 1) i))) = jv → dv_J yX4_style cX4_style 7 (some .int) (dv_rm (d + 1)) 0 0 106 [some (.ref a), some (.int (dv_b (lw || decide (S.2.1 (a + 1) i = 95)))), some (.int (dv_b (gr || ch_g (S.2.1 (a + 1) i)))), some (.int (dv_b sm)), some (.int (dv_b (gf || (ch_g (S.2.1 (a + 1) i) && !sm)))), some (.int (nI i)), some (.int (S.2.1 (a + 1) i))] [.int jv] S (fun r S' => r = some (.int (st_of (dv_rd (S.2.1 (a + 1)) n))) ∧ S' = S) := by
              intro jv hjv
              subst hjv
              refine J_istore_n dX4_style_106 (pc' := 107) rfl rfl (by decide) rfl (l' := [some (.ref a), some (.int (dv_b (lw || decide (S.2.1 (a + 1) i = 95)))), some (.int (dv_b (gr || ch_g (S.2.1 (a + 1) i)))), some (.int (dv_b (sm || ch_s (S.2.1 (a + 1) i)))), some (.int (dv_b (gf || (ch_g (S.2.1 (a + 1) i) && !sm)))), some (.int (nI i)), some (.int (S.2.1 (a + 1) i))]) rfl ?_
              refine J_iinc dX4_style_107 (pc' := 110) rfl rfl (v := nI (i + 1)) (nI_1 i) (by decide) rfl (l' := [some (.ref a), some (.int (dv_b (lw || decide (S.2.1 (a + 1) i = 95)))), some (.int (dv_b (gr || ch_g (S.2.1 (a + 1) i)))), some (.int (dv_b (sm || ch_s (S.2.1 (a + 1) i)))), some (.int (dv_b (gf || (ch_g (S.2.1 (a + 1) i) && !sm)))), some (.int (nI (i + 1))), some (.int (S.2.1 (a + 1) i))]) rfl ?_
              refine J_goto dX4_style_110 (pc' := 12) (by decide) ?_
              refine J_drop 6 (l' := [some (.ref a), some (.int (dv_b (lw || decide (S.2.1 (a + 1) i = 95)))), some (.int (dv_b (gr || ch_g (S.2.1 (a + 1) i)))), some (.int (dv_b (sm || ch_s (S.2.1 (a + 1) i)))), some (.int (dv_b (gf || (ch_g (S.2.1 (a + 1) i) && !sm)))), some (.int (nI (i + 1))), none]) rfl ?_
              refine ih12 (i + 1) (by omega) (by omega) _ _ _ _ ?_ ?_ ?_ ?_
              · simp only [dv_any_s, h1]
              · simp only [dv_any_s, h2]
              · simp only [dv_any_s, h3]
              · simp only [dv_rd_s, st_gf_s, h4, h3]
            refine J_iload_n dX4_style_89 (pc' := 90) rfl rfl ?_
            refine J_bne dX4_style_90 (pt := 101) (by decide) (pc' := 93) rfl (fun c90 => ?_) (fun c90 => ?_)
            · refine J_iconst dX4_style_101 (pc' := 102) rfl (v := 1) ic_1 ?_
              refine J_goto dX4_style_102 (pc' := 106) (by decide) ?_
              exact hj106 _ (by clear ih12 h1 h2 h3 h4; simp_all [dv_b])
            · refine J_iload dX4_style_93 (pc' := 95) rfl rfl ?_
              refine J_n1 (As := [.int (S.2.1 (a + 1) i)]) (rest := []) (qX7_isSmall _ _ _) vX7_isSmall nX4_40 dX4_style_95 (pc' := 98) rfl rfl (Nat.le_of_ble_eq_true rfl) (by decide) ?_
              refine J_beq dX4_style_98 (pt := 105) (by decide) (pc' := 101) rfl (fun c98 => ?_) (fun c98 => ?_)
              · refine J_iconst dX4_style_105 (pc' := 106) rfl (v := 0) ic_0 ?_
                exact hj106 _ (by clear ih12 h1 h2 h3 h4; simp_all [dv_b])
              · refine J_iconst dX4_style_101 (pc' := 102) rfl (v := 1) ic_1 ?_
                refine J_goto dX4_style_102 (pc' := 106) (by decide) ?_
                exact hj106 _ (by clear ih12 h1 h2 h3 h4; simp_all [dv_b])
          refine J_iload_n dX4_style_71 (pc' := 72) rfl rfl ?_
          refine J_bne dX4_style_72 (pt := 83) (by decide) (pc' := 75) rfl (fun c72 => ?_) (fun c72 => ?_)
          · refine J_iconst dX4_style_83 (pc' := 84) rfl (v := 1) ic_1 ?_
            refine J_goto dX4_style_84 (pc' := 88) (by decide) ?_
            exact hj88 _ (by clear ih12 h1 h2 h3 h4; simp_all [dv_b])
          · refine J_iload dX4_style_75 (pc' := 77) rfl rfl ?_
            refine J_n1 (As := [.int (S.2.1 (a + 1) i)]) (rest := []) (qX7_isGreat _ _ _) vX7_isGreat nX4_43 dX4_style_77 (pc' := 80) rfl rfl (Nat.le_of_ble_eq_true rfl) (by decide) ?_
            refine J_beq dX4_style_80 (pt := 87) (by decide) (pc' := 83) rfl (fun c80 => ?_) (fun c80 => ?_)
            · refine J_iconst dX4_style_87 (pc' := 88) rfl (v := 0) ic_0 ?_
              exact hj88 _ (by clear ih12 h1 h2 h3 h4; simp_all [dv_b])
            · refine J_iconst dX4_style_83 (pc' := 84) rfl (v := 1) ic_1 ?_
              refine J_goto dX4_style_84 (pc' := 88) (by decide) ?_
              exact hj88 _ (by clear ih12 h1 h2 h3 h4; simp_all [dv_b])
        refine J_iload_n dX4_style_54 (pc' := 55) rfl rfl ?_
        refine J_bne dX4_style_55 (pt := 65) (by decide) (pc' := 58) rfl (fun c55 => ?_) (fun c55 => ?_)
        · refine J_iconst dX4_style_65 (pc' := 66) rfl (v := 1) ic_1 ?_
          refine J_goto dX4_style_66 (pc' := 70) (by decide) ?_
          exact hj70 _ (by clear ih12 h1 h2 h3 h4; simp_all [dv_b])
        · refine J_iload dX4_style_58 (pc' := 60) rfl rfl ?_
          refine J_bipush dX4_style_60 (pc' := 62) rfl (v := 95) bp_95 ?_
          refine J_icmp_ne dX4_style_62 (pt := 69) (by decide) (pc' := 65) rfl (fun c62 => ?_) (fun c62 => ?_)
          · refine J_iconst dX4_style_69 (pc' := 70) rfl (v := 0) ic_0 ?_
            exact hj70 _ (by clear ih12 h1 h2 h3 h4; simp_all [dv_b])
          · refine J_iconst dX4_style_65 (pc' := 66) rfl (v := 1) ic_1 ?_
            refine J_goto dX4_style_66 (pc' := 70) (by decide) ?_
            exact hj70 _ (by clear ih12 h1 h2 h3 h4; simp_all [dv_b])
      refine J_iload dX4_style_30 (pc' := 32) rfl rfl ?_
      refine J_bne dX4_style_32 (pt := 47) (by decide) (pc' := 35) rfl (fun c32 => ?_) (fun c32 => ?_)
      · refine J_iconst dX4_style_47 (pc' := 48) rfl (v := 1) ic_1 ?_
        refine J_goto dX4_style_48 (pc' := 52) (by decide) ?_
        exact hj52 _ (by clear ih12 h1 h2 h3 h4; simp_all [dv_b])
      · refine J_iload dX4_style_35 (pc' := 37) rfl rfl ?_
        refine J_n1 (As := [.int (S.2.1 (a + 1) i)]) (rest := []) (qX7_isGreat _ _ _) vX7_isGreat nX4_43 dX4_style_37 (pc' := 40) rfl rfl (Nat.le_of_ble_eq_true rfl) (by decide) ?_
        refine J_beq dX4_style_40 (pt := 51) (by decide) (pc' := 43) rfl (fun c40 => ?_) (fun c40 => ?_)
        · refine J_iconst dX4_style_51 (pc' := 52) rfl (v := 0) ic_0 ?_
          exact hj52 _ (by clear ih12 h1 h2 h3 h4; simp_all [dv_b])
        · refine J_iload_n dX4_style_43 (pc' := 44) rfl rfl ?_
          refine J_bne dX4_style_44 (pt := 51) (by decide) (pc' := 47) rfl (fun c44 => ?_) (fun c44 => ?_)
          · refine J_iconst dX4_style_51 (pc' := 52) rfl (v := 0) ic_0 ?_
            exact hj52 _ (by clear ih12 h1 h2 h3 h4; simp_all [dv_b])
          · refine J_iconst dX4_style_47 (pc' := 48) rfl (v := 1) ic_1 ?_
            refine J_goto dX4_style_48 (pc' := 52) (by decide) ?_
            exact hj52 _ (by clear ih12 h1 h2 h3 h4; simp_all [dv_b])
  refine J_loc (l' := [some (.ref a), some (.int (dv_b false)), some (.int (dv_b false)), some (.int (dv_b false)), some (.int (dv_b false)), some (.int (nI 0)), none]) (by simp only [nI_0, dv_b_f, dv_b_t]) ?_
  exact hlp12 0 (Nat.zero_le _) false false false false rfl rfl rfl rfl
