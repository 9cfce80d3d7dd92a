set_option maxRecDepth 100000 in
set_option maxHeartbeats 400000 in
theorem qX7_shortsN (d : Nat) (S : dv_S) (x y : Int32) (hK : (decide (0 ≤ x ∧ x < S.1 13 5) && (decide (y = -1) || decide (0 ≤ y ∧ y < S.1 13 5)) && !decide (x = y)) = false)  : dv_M yX7_shorts cX7_shorts 4 (some .boolean) (dv_rm (d + 2)) [.ref 0, .int x, .int y] S (fun r S' => r = some (.int 0) ∧ S' = (rfS S 1)) := by
  refine dv_M_of [some (.ref 0), some (.int x), some (.int y), none] (by decide) (fun _ _ => Nat.le_of_ble_eq_true rfl) (fun _ _ => rfl) ?_
  have hj37 : ∀ jv : Int32, (dv_b ((decide (0 ≤ x ∧ x < S.1 13 5) && (decide (y = -1) || decide (0 ≤ y ∧ y < S.1 13 5)) && !decide (x = y)))) = jv → dv_J yX7_shorts cX7_shorts 4 (some .boolean) (dv_rm (d + 2)) 0 0 37 [some (.ref 0), some (.int x), some (.int y), none] [.int jv] S (fun r S' => r = some (.int 0) ∧ S' = (rfS S 1)) := by
    intro jv hjv
    subst hjv
    refine J_istore_n dX7_shorts_37 (pc' := 38) rfl rfl (by decide) rfl (l' := [some (.ref 0), some (.int x), some (.int y), some (.int (dv_b ((decide (0 ≤ x ∧ x < S.1 13 5) && (decide (y = -1) || decide (0 ≤ y ∧ y < S.1 13 5)) && !decide (x = y)))))]) rfl ?_
    refine J_aload_n dX7_shorts_38 (pc' := 39) rfl rfl ?_
    refine J_iload_n dX7_shorts_39 (pc' := 40) rfl rfl ?_
    refine J_beq dX7_shorts_40 (pt := 47) (by decide) (pc' := 43) rfl (fun c40 => ?_) (fun c40 => ?_)
    · refine J_iconst dX7_shorts_47 (pc' := 48) rfl (v := 1) ic_1 ?_
      refine J_puti fX7_84 kd_0 rf_0_14 dX7_shorts_48 (pc' := 51) rfl ?_
      refine J_iload_n dX7_shorts_51 (pc' := 52) rfl rfl ?_
      refine J_beq dX7_shorts_52 (pt := 64) (by decide) (pc' := 55) rfl (fun c52 => ?_) (fun c52 => ?_)
      · refine J_iload_n dX7_shorts_64 (pc' := 65) rfl rfl ?_
        refine J_zret dX7_shorts_65 rfl (dv_b_01 _) (dv_r1 _) ?_
        exact ⟨by rw [hK]; rfl, rfl⟩
      · exact absurd c52 (by rw [hK]; decide)
    · exact absurd c40 (by rw [hK]; decide)
  refine J_aload_n dX7_shorts_0 (pc' := 1) rfl rfl ?_
  refine J_getr fX7_37 kd_0 rf_0_5 dX7_shorts_1 (pc' := 4) rfl ?_
  refine J_iload_n dX7_shorts_4 (pc' := 5) rfl rfl ?_
  refine J_v1 (As := [.int x]) (rest := []) (qX0_has _ _ _) vX0_has mX7_229 kd_13 dX7_shorts_5 (pc' := 8) rfl rfl (Nat.le_of_ble_eq_true rfl) (by decide) ?_
  refine J_beq dX7_shorts_8 (pt := 36) (by decide) (pc' := 11) rfl (fun c8 => ?_) (fun c8 => ?_)
  · refine J_iconst dX7_shorts_36 (pc' := 37) rfl (v := 0) ic_0 ?_
    exact hj37 _ (by first | (simp [dv_b, c8]; done) | (simp [dv_b, c8, c13, c24]; done) | (simp [dv_b, c8, c13, c29]; done) | (rw [c13] at c29 ⊢; simp [dv_b, c8, c29]; done) | (simp [dv_b, c8, c13, c24, c29]; done))
  · refine J_iload_n dX7_shorts_11 (pc' := 12) rfl rfl ?_
    refine J_iconst dX7_shorts_12 (pc' := 13) rfl (v := (-1)) ic_m1 ?_
    refine J_icmp_eq dX7_shorts_13 (pt := 27) (by decide) (pc' := 16) rfl (fun c13 => ?_) (fun c13 => ?_)
    · refine J_iload_n dX7_shorts_27 (pc' := 28) rfl rfl ?_
      refine J_iload_n dX7_shorts_28 (pc' := 29) rfl rfl ?_
      refine J_icmp_eq dX7_shorts_29 (pt := 36) (by decide) (pc' := 32) rfl (fun c29 => ?_) (fun c29 => ?_)
      · refine J_iconst dX7_shorts_36 (pc' := 37) rfl (v := 0) ic_0 ?_
        exact hj37 _ (by first | (simp [dv_b, c8]; done) | (simp [dv_b, c8, c13, c24]; done) | (simp [dv_b, c8, c13, c29]; done) | (rw [c13] at c29 ⊢; simp [dv_b, c8, c29]; done) | (simp [dv_b, c8, c13, c24, c29]; done))
      · refine J_iconst dX7_shorts_32 (pc' := 33) rfl (v := 1) ic_1 ?_
        refine J_goto dX7_shorts_33 (pc' := 37) (by decide) ?_
        exact hj37 _ (by first | (simp [dv_b, c8]; done) | (simp [dv_b, c8, c13, c24]; done) | (simp [dv_b, c8, c13, c29]; done) | (rw [c13] at c29 ⊢; simp [dv_b, c8, c29]; done) | (simp [dv_b, c8, c13, c24, c29]; done))
    · refine J_aload_n dX7_shorts_16 (pc' := 17) rfl rfl ?_
      refine J_getr fX7_37 kd_0 rf_0_5 dX7_shorts_17 (pc' := 20) rfl ?_
      refine J_iload_n dX7_shorts_20 (pc' := 21) rfl rfl ?_
      refine J_v1 (As := [.int y]) (rest := []) (qX0_has _ _ _) vX0_has mX7_229 kd_13 dX7_shorts_21 (pc' := 24) rfl rfl (Nat.le_of_ble_eq_true rfl) (by decide) ?_
      refine J_beq dX7_shorts_24 (pt := 36) (by decide) (pc' := 27) rfl (fun c24 => ?_) (fun c24 => ?_)
      · refine J_iconst dX7_shorts_36 (pc' := 37) rfl (v := 0) ic_0 ?_
        exact hj37 _ (by first | (simp [dv_b, c8]; done) | (simp [dv_b, c8, c13, c24]; done) | (simp [dv_b, c8, c13, c29]; done) | (rw [c13] at c29 ⊢; simp [dv_b, c8, c29]; done) | (simp [dv_b, c8, c13, c24, c29]; done))
      · refine J_iload_n dX7_shorts_27 (pc' := 28) rfl rfl ?_
        refine J_iload_n dX7_shorts_28 (pc' := 29) rfl rfl ?_
        refine J_icmp_eq dX7_shorts_29 (pt := 36) (by decide) (pc' := 32) rfl (fun c29 => ?_) (fun c29 => ?_)
        · refine J_iconst dX7_shorts_36 (pc' := 37) rfl (v := 0) ic_0 ?_
          exact hj37 _ (by first | (simp [dv_b, c8]; done) | (simp [dv_b, c8, c13, c24]; done) | (simp [dv_b, c8, c13, c29]; done) | (rw [c13] at c29 ⊢; simp [dv_b, c8, c29]; done) | (simp [dv_b, c8, c13, c24, c29]; done))
        · refine J_iconst dX7_shorts_32 (pc' := 33) rfl (v := 1) ic_1 ?_
          refine J_goto dX7_shorts_33 (pc' := 37) (by decide) ?_
          exact hj37 _ (by first | (simp [dv_b, c8]; done) | (simp [dv_b, c8, c13, c24]; done) | (simp [dv_b, c8, c13, c29]; done) | (rw [c13] at c29 ⊢; simp [dv_b, c8, c29]; done) | (simp [dv_b, c8, c13, c24, c29]; done))
set_option maxRecDepth 100000 in
set_option maxHeartbeats 400000 in
theorem qX7_shortsY (d : Nat) (S : dv_S) (j n : Nat) (y : Int32) (hn : S.1 13 5 = nI n) (hj : j < n) (hm : n ≤ 60) (hK : (decide (0 ≤ nI j ∧ nI j < S.1 13 5) && (decide (y = -1) || decide (0 ≤ y ∧ y < S.1 13 5)) && !decide (nI j = y)) = true)  : dv_M yX7_shorts cX7_shorts 4 (some .boolean) (dv_rm (d + 2)) [.ref 0, .int (nI j), .int y] S (fun r S' => r = some (.int 1) ∧ S' = ((rfS S 0).1, dv_u (rfS S 0).2.1 16 j y, (rfS S 0).2.2)) := by
  refine dv_M_of [some (.ref 0), some (.int (nI j)), some (.int y), none] (by decide) (fun _ _ => Nat.le_of_ble_eq_true rfl) (fun _ _ => rfl) ?_
  have hj37 : ∀ jv : Int32, (dv_b ((decide (0 ≤ nI j ∧ nI j < S.1 13 5) && (decide (y = -1) || decide (0 ≤ y ∧ y < S.1 13 5)) && !decide (nI j = y)))) = jv → dv_J yX7_shorts cX7_shorts 4 (some .boolean) (dv_rm (d + 2)) 0 0 37 [some (.ref 0), some (.int (nI j)), some (.int y), none] [.int jv] S (fun r S' => r = some (.int 1) ∧ S' = ((rfS S 0).1, dv_u (rfS S 0).2.1 16 j y, (rfS S 0).2.2)) := by
    intro jv hjv
    subst hjv
    refine J_istore_n dX7_shorts_37 (pc' := 38) rfl rfl (by decide) rfl (l' := [some (.ref 0), some (.int (nI j)), some (.int y), some (.int (dv_b ((decide (0 ≤ nI j ∧ nI j < S.1 13 5) && (decide (y = -1) || decide (0 ≤ y ∧ y < S.1 13 5)) && !decide (nI j = y)))))]) rfl ?_
    refine J_aload_n dX7_shorts_38 (pc' := 39) rfl rfl ?_
    refine J_iload_n dX7_shorts_39 (pc' := 40) rfl rfl ?_
    refine J_beq dX7_shorts_40 (pt := 47) (by decide) (pc' := 43) rfl (fun c40 => ?_) (fun c40 => ?_)
    · exact absurd c40 (by rw [hK]; decide)
    · refine J_iconst dX7_shorts_43 (pc' := 44) rfl (v := 0) ic_0 ?_
      refine J_goto dX7_shorts_44 (pc' := 48) (by decide) ?_
      refine J_puti fX7_84 kd_0 rf_0_14 dX7_shorts_48 (pc' := 51) rfl ?_
      refine J_iload_n dX7_shorts_51 (pc' := 52) rfl rfl ?_
      refine J_beq dX7_shorts_52 (pt := 64) (by decide) (pc' := 55) rfl (fun c52 => ?_) (fun c52 => ?_)
      · exact absurd c52 (by rw [hK]; decide)
      · refine J_aload_n dX7_shorts_55 (pc' := 56) rfl rfl ?_
        refine J_getr fX7_37 kd_0 rf_0_5 dX7_shorts_56 (pc' := 59) rfl ?_
        refine J_iload_n dX7_shorts_59 (pc' := 60) rfl rfl ?_
        refine J_iload_n dX7_shorts_60 (pc' := 61) rfl rfl ?_
        refine J_v0 (As := [.int (nI j), .int y]) (rest := []) (qX0_setShort _ _ j n y (by show dv_u S.1 0 14 0 13 5 = _; rw [dv_u_ne _ _ (by decide)]; exact hn) hj hm) vX0_setShort mX7_230 kd_13 dX7_shorts_61 (pc' := 64) rfl rfl (Nat.le_of_ble_eq_true rfl) (by decide) ?_
        refine J_iload_n dX7_shorts_64 (pc' := 65) rfl rfl ?_
        refine J_zret dX7_shorts_65 rfl (dv_b_01 _) (dv_r1 _) ?_
        exact ⟨by rw [hK]; rfl, rfl⟩
  refine J_aload_n dX7_shorts_0 (pc' := 1) rfl rfl ?_
  refine J_getr fX7_37 kd_0 rf_0_5 dX7_shorts_1 (pc' := 4) rfl ?_
  refine J_iload_n dX7_shorts_4 (pc' := 5) rfl rfl ?_
  refine J_v1 (As := [.int (nI j)]) (rest := []) (qX0_has _ _ _) vX0_has mX7_229 kd_13 dX7_shorts_5 (pc' := 8) rfl rfl (Nat.le_of_ble_eq_true rfl) (by decide) ?_
  refine J_beq dX7_shorts_8 (pt := 36) (by decide) (pc' := 11) rfl (fun c8 => ?_) (fun c8 => ?_)
  · refine J_iconst dX7_shorts_36 (pc' := 37) rfl (v := 0) ic_0 ?_
    exact hj37 _ (by first | (simp [dv_b, c8]; done) | (simp [dv_b, c8, c13, c24]; done) | (simp [dv_b, c8, c13, c29]; done) | (rw [c13] at c29 ⊢; simp [dv_b, c8, c29]; done) | (simp [dv_b, c8, c13, c24, c29]; done))
  · refine J_iload_n dX7_shorts_11 (pc' := 12) rfl rfl ?_
    refine J_iconst dX7_shorts_12 (pc' := 13) rfl (v := (-1)) ic_m1 ?_
    refine J_icmp_eq dX7_shorts_13 (pt := 27) (by decide) (pc' := 16) rfl (fun c13 => ?_) (fun c13 => ?_)
    · refine J_iload_n dX7_shorts_27 (pc' := 28) rfl rfl ?_
      refine J_iload_n dX7_shorts_28 (pc' := 29) rfl rfl ?_
      refine J_icmp_eq dX7_shorts_29 (pt := 36) (by decide) (pc' := 32) rfl (fun c29 => ?_) (fun c29 => ?_)
      · refine J_iconst dX7_shorts_36 (pc' := 37) rfl (v := 0) ic_0 ?_
        exact hj37 _ (by first | (simp [dv_b, c8]; done) | (simp [dv_b, c8, c13, c24]; done) | (simp [dv_b, c8, c13, c29]; done) | (rw [c13] at c29 ⊢; simp [dv_b, c8, c29]; done) | (simp [dv_b, c8, c13, c24, c29]; done))
      · refine J_iconst dX7_shorts_32 (pc' := 33) rfl (v := 1) ic_1 ?_
        refine J_goto dX7_shorts_33 (pc' := 37) (by decide) ?_
        exact hj37 _ (by first | (simp [dv_b, c8]; done) | (simp [dv_b, c8, c13, c24]; done) | (simp [dv_b, c8, c13, c29]; done) | (rw [c13] at c29 ⊢; simp [dv_b, c8, c29]; done) | (simp [dv_b, c8, c13, c24, c29]; done))
    · refine J_aload_n dX7_shorts_16 (pc' := 17) rfl rfl ?_
      refine J_getr fX7_37 kd_0 rf_0_5 dX7_shorts_17 (pc' := 20) rfl ?_
      refine J_iload_n dX7_shorts_20 (pc' := 21) rfl rfl ?_
      refine J_v1 (As := [.int y]) (rest := []) (qX0_has _ _ _) vX0_has mX7_229 kd_13 dX7_shorts_21 (pc' := 24) rfl rfl (Nat.le_of_ble_eq_true rfl) (by decide) ?_
      refine J_beq dX7_shorts_24 (pt := 36) (by decide) (pc' := 27) rfl (fun c24 => ?_) (fun c24 => ?_)
      · refine J_iconst dX7_shorts_36 (pc' := 37) rfl (v := 0) ic_0 ?_
        exact hj37 _ (by first | (simp [dv_b, c8]; done) | (simp [dv_b, c8, c13, c24]; done) | (simp [dv_b, c8, c13, c29]; done) | (rw [c13] at c29 ⊢; simp [dv_b, c8, c29]; done) | (simp [dv_b, c8, c13, c24, c29]; done))
      · refine J_iload_n dX7_shorts_27 (pc' := 28) rfl rfl ?_
        refine J_iload_n dX7_shorts_28 (pc' := 29) rfl rfl ?_
        refine J_icmp_eq dX7_shorts_29 (pt := 36) (by decide) (pc' := 32) rfl (fun c29 => ?_) (fun c29 => ?_)
        · refine J_iconst dX7_shorts_36 (pc' := 37) rfl (v := 0) ic_0 ?_
          exact hj37 _ (by first | (simp [dv_b, c8]; done) | (simp [dv_b, c8, c13, c24]; done) | (simp [dv_b, c8, c13, c29]; done) | (rw [c13] at c29 ⊢; simp [dv_b, c8, c29]; done) | (simp [dv_b, c8, c13, c24, c29]; done))
        · refine J_iconst dX7_shorts_32 (pc' := 33) rfl (v := 1) ic_1 ?_
          refine J_goto dX7_shorts_33 (pc' := 37) (by decide) ?_
          exact hj37 _ (by first | (simp [dv_b, c8]; done) | (simp [dv_b, c8, c13, c24]; done) | (simp [dv_b, c8, c13, c29]; done) | (rw [c13] at c29 ⊢; simp [dv_b, c8, c29]; done) | (simp [dv_b, c8, c13, c24, c29]; done))
set_option maxRecDepth 100000 in
set_option maxHeartbeats 400000 in
theorem qX7_alikeN (d : Nat) (S : dv_S) (x y : Int32) (hK : (decide (0 ≤ x ∧ x < S.1 13 5) && decide (0 ≤ y ∧ y < S.1 13 5)) = false)  : dv_M yX7_alike cX7_alike 4 (some .boolean) (dv_rm (d + 2)) [.ref 0, .int x, .int y] S (fun r S' => r = some (.int 0) ∧ S' = (rfS S 1)) := by
  refine dv_M_of [some (.ref 0), some (.int x), some (.int y), none] (by decide) (fun _ _ => Nat.le_of_ble_eq_true rfl) (fun _ _ => rfl) ?_
  have hj27 : ∀ jv : Int32, (dv_b ((decide (0 ≤ x ∧ x < S.1 13 5) && decide (0 ≤ y ∧ y < S.1 13 5)))) = jv → dv_J yX7_alike cX7_alike 4 (some .boolean) (dv_rm (d + 2)) 0 0 27 [some (.ref 0), some (.int x), some (.int y), none] [.int jv] S (fun r S' => r = some (.int 0) ∧ S' = (rfS S 1)) := by
    intro jv hjv
    subst hjv
    refine J_istore_n dX7_alike_27 (pc' := 28) rfl rfl (by decide) rfl (l' := [some (.ref 0), some (.int x), some (.int y), some (.int (dv_b ((decide (0 ≤ x ∧ x < S.1 13 5) && decide (0 ≤ y ∧ y < S.1 13 5)))))]) rfl ?_
    refine J_aload_n dX7_alike_28 (pc' := 29) rfl rfl ?_
    refine J_iload_n dX7_alike_29 (pc' := 30) rfl rfl ?_
    refine J_beq dX7_alike_30 (pt := 37) (by decide) (pc' := 33) rfl (fun c30 => ?_) (fun c30 => ?_)
    · refine J_iconst dX7_alike_37 (pc' := 38) rfl (v := 1) ic_1 ?_
      refine J_puti fX7_84 kd_0 rf_0_14 dX7_alike_38 (pc' := 41) rfl ?_
      refine J_iload_n dX7_alike_41 (pc' := 42) rfl rfl ?_
      refine J_beq dX7_alike_42 (pt := 54) (by decide) (pc' := 45) rfl (fun c42 => ?_) (fun c42 => ?_)
      · refine J_iload_n dX7_alike_54 (pc' := 55) rfl rfl ?_
        refine J_zret dX7_alike_55 rfl (dv_b_01 _) (dv_r1 _) ?_
        exact ⟨by rw [hK]; rfl, rfl⟩
      · exact absurd c42 (by rw [hK]; decide)
    · exact absurd c30 (by rw [hK]; decide)
  refine J_aload_n dX7_alike_0 (pc' := 1) rfl rfl ?_
  refine J_getr fX7_37 kd_0 rf_0_5 dX7_alike_1 (pc' := 4) rfl ?_
  refine J_iload_n dX7_alike_4 (pc' := 5) rfl rfl ?_
  refine J_v1 (As := [.int x]) (rest := []) (qX0_has _ _ _) vX0_has mX7_229 kd_13 dX7_alike_5 (pc' := 8) rfl rfl (Nat.le_of_ble_eq_true rfl) (by decide) ?_
  refine J_beq dX7_alike_8 (pt := 26) (by decide) (pc' := 11) rfl (fun c8 => ?_) (fun c8 => ?_)
  · refine J_iconst dX7_alike_26 (pc' := 27) rfl (v := 0) ic_0 ?_
    exact hj27 _ (by first | (simp [dv_b, c8]; done) | (simp [dv_b, c8, c19]; done))
  · refine J_aload_n dX7_alike_11 (pc' := 12) rfl rfl ?_
    refine J_getr fX7_37 kd_0 rf_0_5 dX7_alike_12 (pc' := 15) rfl ?_
    refine J_iload_n dX7_alike_15 (pc' := 16) rfl rfl ?_
    refine J_v1 (As := [.int y]) (rest := []) (qX0_has _ _ _) vX0_has mX7_229 kd_13 dX7_alike_16 (pc' := 19) rfl rfl (Nat.le_of_ble_eq_true rfl) (by decide) ?_
    refine J_beq dX7_alike_19 (pt := 26) (by decide) (pc' := 22) rfl (fun c19 => ?_) (fun c19 => ?_)
    · refine J_iconst dX7_alike_26 (pc' := 27) rfl (v := 0) ic_0 ?_
      exact hj27 _ (by first | (simp [dv_b, c8]; done) | (simp [dv_b, c8, c19]; done))
    · refine J_iconst dX7_alike_22 (pc' := 23) rfl (v := 1) ic_1 ?_
      refine J_goto dX7_alike_23 (pc' := 27) (by decide) ?_
      exact hj27 _ (by first | (simp [dv_b, c8]; done) | (simp [dv_b, c8, c19]; done))
set_option maxRecDepth 100000 in
set_option maxHeartbeats 400000 in
theorem qX7_alikeY (d : Nat) (S : dv_S) (p q n : Nat) (hn : S.1 13 5 = nI n) (hp : p < n) (hq : q < n) (hm : n ≤ 60)  : dv_M yX7_alike cX7_alike 4 (some .boolean) (dv_rm (d + 2)) [.ref 0, .int (nI p), .int (nI q)] S (fun r S' => r = some (.int 1) ∧ S' = ((rfS S 0).1, dv_rw S.2.1 17 (fun k => if S.2.1 17 k = S.2.1 17 q then S.2.1 17 p else S.2.1 17 k) n, S.2.2)) := by
  have hK : (decide (0 ≤ nI p ∧ nI p < S.1 13 5) && decide (0 ≤ nI q ∧ nI q < S.1 13 5)) = true := by rw [dv_has hp hn (by omega), dv_has hq hn (by omega)]; rfl
  refine dv_M_of [some (.ref 0), some (.int (nI p)), some (.int (nI q)), none] (by decide) (fun _ _ => Nat.le_of_ble_eq_true rfl) (fun _ _ => rfl) ?_
  have hj27 : ∀ jv : Int32, (dv_b ((decide (0 ≤ nI p ∧ nI p < S.1 13 5) && decide (0 ≤ nI q ∧ nI q < S.1 13 5)))) = jv → dv_J yX7_alike cX7_alike 4 (some .boolean) (dv_rm (d + 2)) 0 0 27 [some (.ref 0), some (.int (nI p)), some (.int (nI q)), none] [.int jv] S (fun r S' => r = some (.int 1) ∧ S' = ((rfS S 0).1, dv_rw S.2.1 17 (fun k => if S.2.1 17 k = S.2.1 17 q then S.2.1 17 p else S.2.1 17 k) n, S.2.2)) := by
    intro jv hjv
    subst hjv
    refine J_istore_n dX7_alike_27 (pc' := 28) rfl rfl (by decide) rfl (l' := [some (.ref 0), some (.int (nI p)), some (.int (nI q)), some (.int (dv_b ((decide (0 ≤ nI p ∧ nI p < S.1 13 5) && decide (0 ≤ nI q ∧ nI q < S.1 13 5)))))]) rfl ?_
    refine J_aload_n dX7_alike_28 (pc' := 29) rfl rfl ?_
    refine J_iload_n dX7_alike_29 (pc' := 30) rfl rfl ?_
    refine J_beq dX7_alike_30 (pt := 37) (by decide) (pc' := 33) rfl (fun c30 => ?_) (fun c30 => ?_)
    · exact absurd c30 (by rw [hK]; decide)
    · refine J_iconst dX7_alike_33 (pc' := 34) rfl (v := 0) ic_0 ?_
      refine J_goto dX7_alike_34 (pc' := 38) (by decide) ?_
      refine J_puti fX7_84 kd_0 rf_0_14 dX7_alike_38 (pc' := 41) rfl ?_
      refine J_iload_n dX7_alike_41 (pc' := 42) rfl rfl ?_
      refine J_beq dX7_alike_42 (pt := 54) (by decide) (pc' := 45) rfl (fun c42 => ?_) (fun c42 => ?_)
      · exact absurd c42 (by rw [hK]; decide)
      · refine J_aload_n dX7_alike_45 (pc' := 46) rfl rfl ?_
        refine J_getr fX7_37 kd_0 rf_0_5 dX7_alike_46 (pc' := 49) rfl ?_
        refine J_iload_n dX7_alike_49 (pc' := 50) rfl rfl ?_
        refine J_iload_n dX7_alike_50 (pc' := 51) rfl rfl ?_
        refine J_v0 (As := [.int (nI p), .int (nI q)]) (rest := []) (qX0_join _ (rfS S 0) p q n (by show dv_u S.1 0 14 0 13 5 = _; rw [dv_u_ne _ _ (by decide)]; exact hn) hp hq hm) vX0_join mX7_234 kd_13 dX7_alike_51 (pc' := 54) rfl rfl (Nat.le_of_ble_eq_true rfl) (by decide) ?_
        refine J_iload_n dX7_alike_54 (pc' := 55) rfl rfl ?_
        refine J_zret dX7_alike_55 rfl (dv_b_01 _) (dv_r1 _) ?_
        exact ⟨by rw [hK]; rfl, rfl⟩
  refine J_aload_n dX7_alike_0 (pc' := 1) rfl rfl ?_
  refine J_getr fX7_37 kd_0 rf_0_5 dX7_alike_1 (pc' := 4) rfl ?_
  refine J_iload_n dX7_alike_4 (pc' := 5) rfl rfl ?_
  refine J_v1 (As := [.int (nI p)]) (rest := []) (qX0_has _ _ _) vX0_has mX7_229 kd_13 dX7_alike_5 (pc' := 8) rfl rfl (Nat.le_of_ble_eq_true rfl) (by decide) ?_
  refine J_beq dX7_alike_8 (pt := 26) (by decide) (pc' := 11) rfl (fun c8 => ?_) (fun c8 => ?_)
  · refine J_iconst dX7_alike_26 (pc' := 27) rfl (v := 0) ic_0 ?_
    exact hj27 _ (by first | (simp [dv_b, c8]; done) | (simp [dv_b, c8, c19]; done))
  · refine J_aload_n dX7_alike_11 (pc' := 12) rfl rfl ?_
    refine J_getr fX7_37 kd_0 rf_0_5 dX7_alike_12 (pc' := 15) rfl ?_
    refine J_iload_n dX7_alike_15 (pc' := 16) rfl rfl ?_
    refine J_v1 (As := [.int (nI q)]) (rest := []) (qX0_has _ _ _) vX0_has mX7_229 kd_13 dX7_alike_16 (pc' := 19) rfl rfl (Nat.le_of_ble_eq_true rfl) (by decide) ?_
    refine J_beq dX7_alike_19 (pt := 26) (by decide) (pc' := 22) rfl (fun c19 => ?_) (fun c19 => ?_)
    · refine J_iconst dX7_alike_26 (pc' := 27) rfl (v := 0) ic_0 ?_
      exact hj27 _ (by first | (simp [dv_b, c8]; done) | (simp [dv_b, c8, c19]; done))
    · refine J_iconst dX7_alike_22 (pc' := 23) rfl (v := 1) ic_1 ?_
      refine J_goto dX7_alike_23 (pc' := 27) (by decide) ?_
      exact hj27 _ (by first | (simp [dv_b, c8]; done) | (simp [dv_b, c8, c19]; done))
set_option maxRecDepth 100000 in
set_option maxHeartbeats 400000 in
theorem qX7_toldN (d : Nat) (S : dv_S) (x y : Int32) (hx : decide (0 ≤ x ∧ x < S.1 13 5) = false)  : dv_M yX7_told cX7_told 3 (some .int) (dv_rm (d + 6)) [.ref 0, .int x, .int y] S (fun r S' => r = some (.int (-1)) ∧ S' = S) := by
  refine dv_M_of [some (.ref 0), some (.int x), some (.int y)] (by decide) (fun _ _ => Nat.le_of_ble_eq_true rfl) (fun _ _ => rfl) ?_
  refine J_aload_n dX7_told_0 (pc' := 1) rfl rfl ?_
  refine J_getr fX7_37 kd_0 rf_0_5 dX7_told_1 (pc' := 4) rfl ?_
  refine J_iload_n dX7_told_4 (pc' := 5) rfl rfl ?_
  refine J_v1 (As := [.int x]) (rest := []) (qX0_has _ _ _) vX0_has mX7_229 kd_13 dX7_told_5 (pc' := 8) rfl rfl (Nat.le_of_ble_eq_true rfl) (by decide) ?_
  refine J_bne dX7_told_8 (pt := 13) (by decide) (pc' := 11) rfl (fun c8 => ?_) (fun c8 => ?_)
  · exact absurd c8 (by rw [hx]; decide)
  · refine J_iconst dX7_told_11 (pc' := 12) rfl (v := (-1)) ic_m1 ?_
    refine J_iret dX7_told_12 rfl (dv_r1 _) ?_
    exact ⟨rfl, rfl⟩
set_option maxRecDepth 100000 in
set_option maxHeartbeats 400000 in
theorem qX7_told0 (d : Nat) (S : dv_S) (j w : Nat) (hw : S.1 13 5 = nI w) (hj : j < w) (hw60 : w ≤ 60)  : dv_M yX7_told cX7_told 3 (some .int) (dv_rm (d + 6)) [.ref 0, .int (nI j), .int (nI 0)] S (fun r S' => r = some (.int (S.2.1 15 j)) ∧ S' = S) := by
  refine dv_M_of [some (.ref 0), some (.int (nI j)), some (.int (nI 0))] (by decide) (fun _ _ => Nat.le_of_ble_eq_true rfl) (fun _ _ => rfl) ?_
  refine J_aload_n dX7_told_0 (pc' := 1) rfl rfl ?_
  refine J_getr fX7_37 kd_0 rf_0_5 dX7_told_1 (pc' := 4) rfl ?_
  refine J_iload_n dX7_told_4 (pc' := 5) rfl rfl ?_
  refine J_v1 (As := [.int (nI j)]) (rest := []) (qX0_has _ _ _) vX0_has mX7_229 kd_13 dX7_told_5 (pc' := 8) rfl rfl (Nat.le_of_ble_eq_true rfl) (by decide) ?_
  refine J_bne dX7_told_8 (pt := 13) (by decide) (pc' := 11) rfl (fun c8 => ?_) (fun c8 => ?_)
  · refine J_iload_n dX7_told_13 (pc' := 14) rfl rfl ?_
    refine J_tswi (off := 34) (pt := 48) dX7_told_14 (by decide) (by decide) (by decide) (by decide) ?_
    refine J_aload_n dX7_told_48 (pc' := 49) rfl rfl ?_
    refine J_getr fX7_37 kd_0 rf_0_5 dX7_told_49 (pc' := 52) rfl ?_
    refine J_iload_n dX7_told_52 (pc' := 53) rfl rfl ?_
    refine J_v1 (As := [.int (nI j)]) (rest := []) (qX0_rolesOf _ _ _ w hw hw60) vX0_rolesOf mX7_237 kd_13 dX7_told_53 (pc' := 56) rfl rfl (Nat.le_of_ble_eq_true rfl) (by decide) ?_
    refine J_iret dX7_told_56 rfl (dv_r1 _) ?_
    exact ⟨by rw [dv_gx_in hj (by omega)], rfl⟩
  · exact absurd (dv_has hj hw (by omega)) (by rw [c8]; decide)
set_option maxRecDepth 100000 in
set_option maxHeartbeats 400000 in
theorem qX7_told1 (d : Nat) (S : dv_S) (j w : Nat) (hw : S.1 13 5 = nI w) (hj : j < w) (hw60 : w ≤ 60)  : dv_M yX7_told cX7_told 3 (some .int) (dv_rm (d + 6)) [.ref 0, .int (nI j), .int (nI 1)] S (fun r S' => r = some (.int (S.2.1 16 j)) ∧ S' = S) := by
  refine dv_M_of [some (.ref 0), some (.int (nI j)), some (.int (nI 1))] (by decide) (fun _ _ => Nat.le_of_ble_eq_true rfl) (fun _ _ => rfl) ?_
  refine J_aload_n dX7_told_0 (pc' := 1) rfl rfl ?_
  refine J_getr fX7_37 kd_0 rf_0_5 dX7_told_1 (pc' := 4) rfl ?_
  refine J_iload_n dX7_told_4 (pc' := 5) rfl rfl ?_
  refine J_v1 (As := [.int (nI j)]) (rest := []) (qX0_has _ _ _) vX0_has mX7_229 kd_13 dX7_told_5 (pc' := 8) rfl rfl (Nat.le_of_ble_eq_true rfl) (by decide) ?_
  refine J_bne dX7_told_8 (pt := 13) (by decide) (pc' := 11) rfl (fun c8 => ?_) (fun c8 => ?_)
  · refine J_iload_n dX7_told_13 (pc' := 14) rfl rfl ?_
    refine J_tswi (off := 43) (pt := 57) dX7_told_14 (by decide) (by decide) (by decide) (by decide) ?_
    refine J_aload_n dX7_told_57 (pc' := 58) rfl rfl ?_
    refine J_getr fX7_37 kd_0 rf_0_5 dX7_told_58 (pc' := 61) rfl ?_
    refine J_iload_n dX7_told_61 (pc' := 62) rfl rfl ?_
    refine J_v1 (As := [.int (nI j)]) (rest := []) (qX0_shortFor _ _ _ w hw hw60) vX0_shortFor mX7_240 kd_13 dX7_told_62 (pc' := 65) rfl rfl (Nat.le_of_ble_eq_true rfl) (by decide) ?_
    refine J_iret dX7_told_65 rfl (dv_r1 _) ?_
    exact ⟨by rw [dv_gm_in hj (by omega)], rfl⟩
  · exact absurd (dv_has hj hw (by omega)) (by rw [c8]; decide)
set_option maxRecDepth 100000 in
set_option maxHeartbeats 400000 in
theorem qX7_told2 (d : Nat) (S : dv_S) (n j w : Nat) (hT : cw_T S n) (hw : S.1 13 5 = nI w) (hj : j < w) (hw60 : w ≤ 60)  : dv_M yX7_told cX7_told 3 (some .int) (dv_rm (d + 6)) [.ref 0, .int (nI j), .int (nI 2)] S (fun r S' => r = some (.int (ut S w n j)) ∧ sc S S') := by
  refine dv_M_of [some (.ref 0), some (.int (nI j)), some (.int (nI 2))] (by decide) (fun _ _ => Nat.le_of_ble_eq_true rfl) (fun _ _ => rfl) ?_
  refine J_aload_n dX7_told_0 (pc' := 1) rfl rfl ?_
  refine J_getr fX7_37 kd_0 rf_0_5 dX7_told_1 (pc' := 4) rfl ?_
  refine J_iload_n dX7_told_4 (pc' := 5) rfl rfl ?_
  refine J_v1 (As := [.int (nI j)]) (rest := []) (qX0_has _ _ _) vX0_has mX7_229 kd_13 dX7_told_5 (pc' := 8) rfl rfl (Nat.le_of_ble_eq_true rfl) (by decide) ?_
  refine J_bne dX7_told_8 (pt := 13) (by decide) (pc' := 11) rfl (fun c8 => ?_) (fun c8 => ?_)
  · refine J_iload_n dX7_told_13 (pc' := 14) rfl rfl ?_
    refine J_tswi (off := 52) (pt := 66) dX7_told_14 (by decide) (by decide) (by decide) (by decide) ?_
    refine J_aload_n dX7_told_66 (pc' := 67) rfl rfl ?_
    refine J_vq (As := []) (rest := []) (qX7_countUsed _ _ n w hT hw hw60) vX7_countUsed mX7_243 kd_0 dX7_told_67 (pc' := 70) rfl rfl (Nat.le_of_ble_eq_true rfl) (by decide) ?_
    rintro r S1 ⟨rfl, hI⟩
    show dv_J yX7_told cX7_told 3 (some .int) (dv_rm (d + 6)) 0 0 70 [some (.ref 0), some (.int (nI j)), some (.int (nI 2))] [] S1 (fun r S' => r = some (.int (ut S w n j)) ∧ sc S S')
    refine J_aload_n dX7_told_70 (pc' := 71) rfl rfl ?_
    refine J_getr fX7_37 kd_0 rf_0_5 dX7_told_71 (pc' := 74) rfl ?_
    refine J_iload_n dX7_told_74 (pc' := 75) rfl rfl ?_
    refine J_v1 (As := [.int (nI j)]) (rest := []) (qX0_usedOf _ _ _ w (by rw [hI.1.1 13 5 (by decide)]; exact hw) hw60) vX0_usedOf mX7_246 kd_13 dX7_told_75 (pc' := 78) rfl rfl (Nat.le_of_ble_eq_true rfl) (by decide) ?_
    refine J_iret dX7_told_78 rfl (dv_r1 _) ?_
    exact ⟨by rw [dv_gx_in hj (by omega), hI.2 j hj], hI.1⟩
  · exact absurd (dv_has hj hw (by omega)) (by rw [c8]; decide)
set_option maxRecDepth 100000 in
set_option maxHeartbeats 400000 in
theorem qX7_told3 (d : Nat) (S : dv_S) (n j w : Nat) (hT : cw_T S n) (hw : S.1 13 5 = nI w) (hj : j < w) (hw60 : w ≤ 60)  : dv_M yX7_told cX7_told 3 (some .int) (dv_rm (d + 6)) [.ref 0, .int (nI j), .int (nI 3)] S (fun r S' => r = some (.int (dv_oi (dv_hd (S.2.1 17) (ut S w n) (S.2.1 17 j) w))) ∧ sc S S') := by
  refine dv_M_of [some (.ref 0), some (.int (nI j)), some (.int (nI 3))] (by decide) (fun _ _ => Nat.le_of_ble_eq_true rfl) (fun _ _ => rfl) ?_
  refine J_aload_n dX7_told_0 (pc' := 1) rfl rfl ?_
  refine J_getr fX7_37 kd_0 rf_0_5 dX7_told_1 (pc' := 4) rfl ?_
  refine J_iload_n dX7_told_4 (pc' := 5) rfl rfl ?_
  refine J_v1 (As := [.int (nI j)]) (rest := []) (qX0_has _ _ _) vX0_has mX7_229 kd_13 dX7_told_5 (pc' := 8) rfl rfl (Nat.le_of_ble_eq_true rfl) (by decide) ?_
  refine J_bne dX7_told_8 (pt := 13) (by decide) (pc' := 11) rfl (fun c8 => ?_) (fun c8 => ?_)
  · refine J_iload_n dX7_told_13 (pc' := 14) rfl rfl ?_
    refine J_tswi (off := 65) (pt := 79) dX7_told_14 (by decide) (by decide) (by decide) (by decide) ?_
    refine J_aload_n dX7_told_79 (pc' := 80) rfl rfl ?_
    refine J_vq (As := []) (rest := []) (qX7_countUsed _ _ n w hT hw hw60) vX7_countUsed mX7_243 kd_0 dX7_told_80 (pc' := 83) rfl rfl (Nat.le_of_ble_eq_true rfl) (by decide) ?_
    rintro r S1 ⟨rfl, hI⟩
    show dv_J yX7_told cX7_told 3 (some .int) (dv_rm (d + 6)) 0 0 83 [some (.ref 0), some (.int (nI j)), some (.int (nI 3))] [] S1 (fun r S' => r = some (.int (dv_oi (dv_hd (S.2.1 17) (ut S w n) (S.2.1 17 j) w))) ∧ sc S S')
    refine J_aload_n dX7_told_83 (pc' := 84) rfl rfl ?_
    refine J_getr fX7_37 kd_0 rf_0_5 dX7_told_84 (pc' := 87) rfl ?_
    refine J_iload_n dX7_told_87 (pc' := 88) rfl rfl ?_
    refine J_v1 (As := [.int (nI j)]) (rest := []) (qX0_headOf _ S1 j w (by rw [hI.1.1 13 5 (by decide)]; exact hw) hj hw60) vX0_headOf mX7_249 kd_13 dX7_told_88 (pc' := 91) rfl rfl (Nat.le_of_ble_eq_true rfl) (by decide) ?_
    refine J_iret dX7_told_91 rfl (dv_r1 _) ?_
    exact ⟨by rw [hI.1.g (by decide), dv_hd_cong hI.2], hI.1⟩
  · exact absurd (dv_has hj hw (by omega)) (by rw [c8]; decide)
set_option maxRecDepth 100000 in
set_option maxHeartbeats 400000 in
theorem qX7_told4 (d : Nat) (S : dv_S) (j w : Nat) (hw : S.1 13 5 = nI w) (hj : j < w) (hw60 : w ≤ 60)  : dv_M yX7_told cX7_told 3 (some .int) (dv_rm (d + 6)) [.ref 0, .int (nI j), .int (nI 4)] S (fun r S' => r = some (.int (nI (dv_ct (fun k => decide (S.2.1 17 k = S.2.1 17 j)) w))) ∧ S' = S) := by
  refine dv_M_of [some (.ref 0), some (.int (nI j)), some (.int (nI 4))] (by decide) (fun _ _ => Nat.le_of_ble_eq_true rfl) (fun _ _ => rfl) ?_
  refine J_aload_n dX7_told_0 (pc' := 1) rfl rfl ?_
  refine J_getr fX7_37 kd_0 rf_0_5 dX7_told_1 (pc' := 4) rfl ?_
  refine J_iload_n dX7_told_4 (pc' := 5) rfl rfl ?_
  refine J_v1 (As := [.int (nI j)]) (rest := []) (qX0_has _ _ _) vX0_has mX7_229 kd_13 dX7_told_5 (pc' := 8) rfl rfl (Nat.le_of_ble_eq_true rfl) (by decide) ?_
  refine J_bne dX7_told_8 (pt := 13) (by decide) (pc' := 11) rfl (fun c8 => ?_) (fun c8 => ?_)
  · refine J_iload_n dX7_told_13 (pc' := 14) rfl rfl ?_
    refine J_tswi (off := 78) (pt := 92) dX7_told_14 (by decide) (by decide) (by decide) (by decide) ?_
    refine J_aload_n dX7_told_92 (pc' := 93) rfl rfl ?_
    refine J_getr fX7_37 kd_0 rf_0_5 dX7_told_93 (pc' := 96) rfl ?_
    refine J_iload_n dX7_told_96 (pc' := 97) rfl rfl ?_
    refine J_v1 (As := [.int (nI j)]) (rest := []) (qX0_groupSize _ _ j w hw hj hw60) vX0_groupSize mX7_252 kd_13 dX7_told_97 (pc' := 100) rfl rfl (Nat.le_of_ble_eq_true rfl) (by decide) ?_
    refine J_iret dX7_told_100 rfl (dv_r1 _) ?_
    exact ⟨rfl, rfl⟩
  · exact absurd (dv_has hj hw (by omega)) (by rw [c8]; decide)
set_option maxRecDepth 100000 in
set_option maxHeartbeats 400000 in
theorem qX7_toldO (d : Nat) (S : dv_S) (j w : Nat) (y : Int32) (hw : S.1 13 5 = nI w) (hj : j < w) (hw60 : w ≤ 60) (ho : y.toInt < 0 ∨ 5 ≤ y.toInt)  : dv_M yX7_told cX7_told 3 (some .int) (dv_rm (d + 6)) [.ref 0, .int (nI j), .int y] S (fun r S' => r = some (.int (-1)) ∧ S' = S) := by
  refine dv_M_of [some (.ref 0), some (.int (nI j)), some (.int y)] (by decide) (fun _ _ => Nat.le_of_ble_eq_true rfl) (fun _ _ => rfl) ?_
  refine J_aload_n dX7_told_0 (pc' := 1) rfl rfl ?_
  refine J_getr fX7_37 kd_0 rf_0_5 dX7_told_1 (pc' := 4) rfl ?_
  refine J_iload_n dX7_told_4 (pc' := 5) rfl rfl ?_
  refine J_v1 (As := [.int (nI j)]) (rest := []) (qX0_has _ _ _) vX0_has mX7_229 kd_13 dX7_told_5 (pc' := 8) rfl rfl (Nat.le_of_ble_eq_true rfl) (by decide) ?_
  refine J_bne dX7_told_8 (pt := 13) (by decide) (pc' := 11) rfl (fun c8 => ?_) (fun c8 => ?_)
  · refine J_iload_n dX7_told_13 (pc' := 14) rfl rfl ?_
    refine J_tswo (pt := 101) dX7_told_14 (ho.imp id (fun q => by omega)) (by decide) ?_
    refine J_iconst dX7_told_101 (pc' := 102) rfl (v := (-1)) ic_m1 ?_
    refine J_iret dX7_told_102 rfl (dv_r1 _) ?_
    exact ⟨rfl, rfl⟩
  · exact absurd (dv_has hj hw (by omega)) (by rw [c8]; decide)
set_option maxRecDepth 100000 in
set_option maxHeartbeats 400000 in
theorem qX7_partN (d : Nat) (S : dv_S) (x y : Int32) (hx : decide (0 ≤ x ∧ x < S.1 21 3) = false)  : dv_M yX7_part cX7_part 3 (some .int) (dv_rm (d + 5)) [.ref 0, .int x, .int y] S (fun r S' => r = some (.int (-1)) ∧ S' = S) := by
  refine dv_M_of [some (.ref 0), some (.int x), some (.int y)] (by decide) (fun _ _ => Nat.le_of_ble_eq_true rfl) (fun _ _ => rfl) ?_
  refine J_aload_n dX7_part_0 (pc' := 1) rfl rfl ?_
  refine J_getr fX7_51 kd_0 rf_0_7 dX7_part_1 (pc' := 4) rfl ?_
  refine J_iload_n dX7_part_4 (pc' := 5) rfl rfl ?_
  refine J_v1 (As := [.int x]) (rest := []) (qX5_has _ _ _) vX5_has mX7_160 kd_21 dX7_part_5 (pc' := 8) rfl rfl (Nat.le_of_ble_eq_true rfl) (by decide) ?_
  refine J_bne dX7_part_8 (pt := 13) (by decide) (pc' := 11) rfl (fun c8 => ?_) (fun c8 => ?_)
  · exact absurd c8 (by rw [hx]; decide)
  · refine J_iconst dX7_part_11 (pc' := 12) rfl (v := (-1)) ic_m1 ?_
    refine J_iret dX7_part_12 rfl (dv_r1 _) ?_
    exact ⟨rfl, rfl⟩
set_option maxRecDepth 100000 in
set_option maxHeartbeats 400000 in
theorem qX7_partO (d : Nat) (S : dv_S) (n t : Nat) (y : Int32) (hT : cw_T S n) (ht : t < n) (hy : decide (0 ≤ y ∧ y < nI (pnS S t)) = false)  : dv_M yX7_part cX7_part 3 (some .int) (dv_rm (d + 5)) [.ref 0, .int (nI t), .int y] S (fun r S' => r = some (.int (-1)) ∧ sc S S') := by
  have h80 := hT.2.1
  have htl := (hT.2.2 t ht).1
  refine dv_M_of [some (.ref 0), some (.int (nI t)), some (.int y)] (by decide) (fun _ _ => Nat.le_of_ble_eq_true rfl) (fun _ _ => rfl) ?_
  refine J_aload_n dX7_part_0 (pc' := 1) rfl rfl ?_
  refine J_getr fX7_51 kd_0 rf_0_7 dX7_part_1 (pc' := 4) rfl ?_
  refine J_iload_n dX7_part_4 (pc' := 5) rfl rfl ?_
  refine J_v1 (As := [.int (nI t)]) (rest := []) (qX5_has _ _ _) vX5_has mX7_160 kd_21 dX7_part_5 (pc' := 8) rfl rfl (Nat.le_of_ble_eq_true rfl) (by decide) ?_
  refine J_bne dX7_part_8 (pt := 13) (by decide) (pc' := 11) rfl (fun c8 => ?_) (fun c8 => ?_)
  · refine J_aload_n dX7_part_13 (pc' := 14) rfl rfl ?_
    refine J_getr fX7_30 kd_0 rf_0_4 dX7_part_14 (pc' := 17) rfl ?_
    refine J_aload_n dX7_part_17 (pc' := 18) rfl rfl ?_
    refine J_getr fX7_51 kd_0 rf_0_7 dX7_part_18 (pc' := 21) rfl ?_
    refine J_iload_n dX7_part_21 (pc' := 22) rfl rfl ?_
    refine J_v1 (As := [.int (nI t)]) (rest := [.ref 9]) (qX5_nameOf _ _ t n hT.1 ht h80) vX5_nameOf mX7_167 kd_21 dX7_part_22 (pc' := 25) rfl rfl (Nat.le_of_ble_eq_true rfl) (by decide) ?_
    refine J_vq (As := [.ref (25 + 2 * t)]) (rest := []) (qX1_split _ _ (25 + 2 * t) (dn (S.1 (25 + 2 * t) 1)) (kd_T (by omega)).1 (kd_T (by omega)).2.1 htl.1 (by rw [(kd_T (by omega)).2.2]; exact htl.2) htl.2) vX1_split mX7_171 kd_9 dX7_part_25 (pc' := 28) rfl rfl (Nat.le_of_ble_eq_true rfl) (by decide) ?_
    rintro r S2 ⟨rfl, hsp⟩
    have hsp : dv_spl S (S.2.1 (25 + 2 * t + 1)) (dn (S.1 (25 + 2 * t) 1)) S2 := hsp
    have hsc := hsp.sc
    show dv_J yX7_part cX7_part 3 (some .int) (dv_rm (d + 5)) 0 0 28 [some (.ref 0), some (.int (nI t)), some (.int y)] [] S2 (fun r S' => r = some (.int (-1)) ∧ sc S S')
    refine J_aload_n dX7_part_28 (pc' := 29) rfl rfl ?_
    refine J_getr fX7_30 kd_0 rf_0_4 dX7_part_29 (pc' := 32) rfl ?_
    refine J_iload_n dX7_part_32 (pc' := 33) rfl rfl ?_
    refine J_v1 (As := [.int y]) (rest := []) (qX1_has _ _ _) vX1_has mX7_255 kd_9 dX7_part_33 (pc' := 36) rfl rfl (Nat.le_of_ble_eq_true rfl) (by decide) ?_
    refine J_beq dX7_part_36 (pt := 57) (by decide) (pc' := 39) rfl (fun c36 => ?_) (fun c36 => ?_)
    · refine J_iconst dX7_part_57 (pc' := 58) rfl (v := (-1)) ic_m1 ?_
      refine J_iret dX7_part_58 rfl (dv_r1 _) ?_
      exact ⟨rfl, hsc⟩
    · rw [hsp.csp.1] at c36
      exact absurd c36 (by rw [hy]; decide)
  · exact absurd (dv_has ht hT.1 (by omega)) (by rw [c8]; decide)
set_option maxRecDepth 100000 in
set_option maxHeartbeats 400000 in
theorem qX7_partY (d : Nat) (S : dv_S) (n t i w : Nat) (hT : cw_T S n) (ht : t < n) (hw : S.1 13 5 = nI w) (hw60 : w ≤ 60) (hi : i < (pnS S t))  : dv_M yX7_part cX7_part 3 (some .int) (dv_rm (d + 5)) [.ref 0, .int (nI t), .int (nI i)] S (fun r S' => r = some (.int (dv_oi (pk_w S w (S.2.1 (25 + 2 * t + 1)) (dn (S.1 (25 + 2 * t) 1)) i))) ∧ sc S S') := by
  have h80 := hT.2.1
  have htl := (hT.2.2 t ht).1
  have hc24 : (pnS S t) ≤ (dn (S.1 (25 + 2 * t) 1)) := cu_le (S.2.1 (25 + 2 * t + 1)) (dn (S.1 (25 + 2 * t) 1)) (dn (S.1 (25 + 2 * t) 1))
  refine dv_M_of [some (.ref 0), some (.int (nI t)), some (.int (nI i))] (by decide) (fun _ _ => Nat.le_of_ble_eq_true rfl) (fun _ _ => rfl) ?_
  refine J_aload_n dX7_part_0 (pc' := 1) rfl rfl ?_
  refine J_getr fX7_51 kd_0 rf_0_7 dX7_part_1 (pc' := 4) rfl ?_
  refine J_iload_n dX7_part_4 (pc' := 5) rfl rfl ?_
  refine J_v1 (As := [.int (nI t)]) (rest := []) (qX5_has _ _ _) vX5_has mX7_160 kd_21 dX7_part_5 (pc' := 8) rfl rfl (Nat.le_of_ble_eq_true rfl) (by decide) ?_
  refine J_bne dX7_part_8 (pt := 13) (by decide) (pc' := 11) rfl (fun c8 => ?_) (fun c8 => ?_)
  · refine J_aload_n dX7_part_13 (pc' := 14) rfl rfl ?_
    refine J_getr fX7_30 kd_0 rf_0_4 dX7_part_14 (pc' := 17) rfl ?_
    refine J_aload_n dX7_part_17 (pc' := 18) rfl rfl ?_
    refine J_getr fX7_51 kd_0 rf_0_7 dX7_part_18 (pc' := 21) rfl ?_
    refine J_iload_n dX7_part_21 (pc' := 22) rfl rfl ?_
    refine J_v1 (As := [.int (nI t)]) (rest := [.ref 9]) (qX5_nameOf _ _ t n hT.1 ht h80) vX5_nameOf mX7_167 kd_21 dX7_part_22 (pc' := 25) rfl rfl (Nat.le_of_ble_eq_true rfl) (by decide) ?_
    refine J_vq (As := [.ref (25 + 2 * t)]) (rest := []) (qX1_split _ _ (25 + 2 * t) (dn (S.1 (25 + 2 * t) 1)) (kd_T (by omega)).1 (kd_T (by omega)).2.1 htl.1 (by rw [(kd_T (by omega)).2.2]; exact htl.2) htl.2) vX1_split mX7_171 kd_9 dX7_part_25 (pc' := 28) rfl rfl (Nat.le_of_ble_eq_true rfl) (by decide) ?_
    rintro r S2 ⟨rfl, hsp⟩
    have hsp : dv_spl S (S.2.1 (25 + 2 * t + 1)) (dn (S.1 (25 + 2 * t) 1)) S2 := hsp
    have hsc := hsp.sc
    show dv_J yX7_part cX7_part 3 (some .int) (dv_rm (d + 5)) 0 0 28 [some (.ref 0), some (.int (nI t)), some (.int (nI i))] [] S2 (fun r S' => r = some (.int (dv_oi (pk_w S w (S.2.1 (25 + 2 * t + 1)) (dn (S.1 (25 + 2 * t) 1)) i))) ∧ sc S S')
    refine J_aload_n dX7_part_28 (pc' := 29) rfl rfl ?_
    refine J_getr fX7_30 kd_0 rf_0_4 dX7_part_29 (pc' := 32) rfl ?_
    refine J_iload_n dX7_part_32 (pc' := 33) rfl rfl ?_
    refine J_v1 (As := [.int (nI i)]) (rest := []) (qX1_has _ _ _) vX1_has mX7_255 kd_9 dX7_part_33 (pc' := 36) rfl rfl (Nat.le_of_ble_eq_true rfl) (by decide) ?_
    refine J_beq dX7_part_36 (pt := 57) (by decide) (pc' := 39) rfl (fun c36 => ?_) (fun c36 => ?_)
    · exact absurd (dv_has hi hsp.csp.1 (by have := htl.2; omega)) (by rw [c36]; decide)
    · refine J_aload_n dX7_part_39 (pc' := 40) rfl rfl ?_
      refine J_getr fX7_37 kd_0 rf_0_5 dX7_part_40 (pc' := 43) rfl ?_
      refine J_aload_n dX7_part_43 (pc' := 44) rfl rfl ?_
      refine J_getr fX7_30 kd_0 rf_0_4 dX7_part_44 (pc' := 47) rfl ?_
      refine J_iload_n dX7_part_47 (pc' := 48) rfl rfl ?_
      refine J_v1 (As := [.int (nI i)]) (rest := [.ref 13]) (qX1_key _ S S2 (S.2.1 (25 + 2 * t + 1)) (dn (S.1 (25 + 2 * t) 1)) i hsp htl.2 hi) vX1_keyOf mX7_217 kd_9 dX7_part_48 (pc' := 51) rfl rfl (Nat.le_of_ble_eq_true rfl) (by decide) ?_
      refine J_v1 (As := [.long (pk_k (S.2.1 (25 + 2 * t + 1)) (dn (S.1 (25 + 2 * t) 1)) i)]) (rest := []) (qX0_numberOf _ _ _ w (by rw [hsc.1 13 5 (by decide)]; exact hw) hw60) vX0_numberOf mX7_221 kd_13 dX7_part_51 (pc' := 54) rfl rfl (Nat.le_of_ble_eq_true rfl) (by decide) ?_
      refine J_goto dX7_part_54 (pc' := 58) (by decide) ?_
      refine J_iret dX7_part_58 rfl (dv_r1 _) ?_
      exact ⟨by rw [hsc.2.2]; rfl, hsc⟩
  · exact absurd (dv_has ht hT.1 (by omega)) (by rw [c8]; decide)
set_option maxRecDepth 100000 in
set_option maxHeartbeats 400000 in
theorem qX7_wayN (d : Nat) (S : dv_S) (x : Int32) (hy : decide (0 ≤ x ∧ x < 3) = false)  : dv_M yX7_way cX7_way 2 (some .int) (dv_rm (d + 7)) [.ref 0, .int x] S (fun r S' => r = some (.int (-1)) ∧ S' = S) := by
  refine dv_M_of [some (.ref 0), some (.int x)] (by decide) (fun _ _ => Nat.le_of_ble_eq_true rfl) (fun _ _ => rfl) ?_
  refine J_iload_n dX7_way_0 (pc' := 1) rfl rfl ?_
  refine J_s1 (As := [.int x]) (rest := []) (qX7_isKind _ _ _) vX7_isKind mX7_134 dX7_way_1 (pc' := 4) rfl rfl (Nat.le_of_ble_eq_true rfl) (by decide) ?_
  refine J_bne dX7_way_4 (pt := 9) (by decide) (pc' := 7) rfl (fun c4 => ?_) (fun c4 => ?_)
  · exact absurd c4 (by rw [hy]; decide)
  · refine J_iconst dX7_way_7 (pc' := 8) rfl (v := (-1)) ic_m1 ?_
    refine J_iret dX7_way_8 rfl (dv_r1 _) ?_
    exact ⟨rfl, rfl⟩
set_option maxRecDepth 100000 in
set_option maxHeartbeats 400000 in
theorem qX7_oddN (d : Nat) (S : dv_S) (x : Int32) (hy : decide (0 ≤ x ∧ x < 3) = false)  : dv_M yX7_odd cX7_odd 5 (some .int) (dv_rm (d + 7)) [.ref 0, .int x] S (fun r S' => r = some (.int (-1)) ∧ S' = S) := by
  refine dv_M_of [some (.ref 0), some (.int x), none, none, none] (by decide) (fun _ _ => Nat.le_of_ble_eq_true rfl) (fun _ _ => rfl) ?_
  refine J_iload_n dX7_odd_0 (pc' := 1) rfl rfl ?_
  refine J_s1 (As := [.int x]) (rest := []) (qX7_isKind _ _ _) vX7_isKind mX7_134 dX7_odd_1 (pc' := 4) rfl rfl (Nat.le_of_ble_eq_true rfl) (by decide) ?_
  refine J_bne dX7_odd_4 (pt := 9) (by decide) (pc' := 7) rfl (fun c4 => ?_) (fun c4 => ?_)
  · exact absurd c4 (by rw [hy]; decide)
  · refine J_iconst dX7_odd_7 (pc' := 8) rfl (v := (-1)) ic_m1 ?_
    refine J_iret dX7_odd_8 rfl (dv_r1 _) ?_
    exact ⟨rfl, rfl⟩
set_option maxRecDepth 100000 in
set_option maxHeartbeats 400000 in
theorem qX7_wayY (d : Nat) (S : dv_S) (n w : Nat) (x : Int32) (hT : cw_T S n) (hw : S.1 13 5 = nI w) (hw60 : w ≤ 60) (hy : decide (0 ≤ x ∧ x < 3) = true)  : dv_M yX7_way cX7_way 2 (some .int) (dv_rm (d + 7)) [.ref 0, .int x] S (fun r S' => r = some (.int (wy (ptS S w) (S.2.1 23) n x n).1) ∧ sc S S') := by
  refine dv_M_of [some (.ref 0), some (.int x)] (by decide) (fun _ _ => Nat.le_of_ble_eq_true rfl) (fun _ _ => rfl) ?_
  refine J_iload_n dX7_way_0 (pc' := 1) rfl rfl ?_
  refine J_s1 (As := [.int x]) (rest := []) (qX7_isKind _ _ _) vX7_isKind mX7_134 dX7_way_1 (pc' := 4) rfl rfl (Nat.le_of_ble_eq_true rfl) (by decide) ?_
  refine J_bne dX7_way_4 (pt := 9) (by decide) (pc' := 7) rfl (fun c4 => ?_) (fun c4 => ?_)
  · refine J_aload_n dX7_way_9 (pc' := 10) rfl rfl ?_
    refine J_iload_n dX7_way_10 (pc' := 11) rfl rfl ?_
    refine J_vq (As := [.int x]) (rest := []) (qX7_wayOf _ _ n w x hT hw hw60) vX7_wayOf mX7_256 kd_0 dX7_way_11 (pc' := 14) rfl rfl (Nat.le_of_ble_eq_true rfl) (by decide) ?_
    rintro r S1 ⟨rfl, hI⟩
    show dv_J yX7_way cX7_way 2 (some .int) (dv_rm (d + 7)) 0 0 14 [some (.ref 0), some (.int x)] [.int ((wy (ptS S w) (S.2.1 23) n x n).1)] S1 (fun r S' => r = some (.int (wy (ptS S w) (S.2.1 23) n x n).1) ∧ sc S S')
    refine J_iret dX7_way_14 rfl (dv_r1 _) ?_
    exact ⟨rfl, hI.1⟩
  · exact absurd c4 (by rw [hy]; decide)
set_option maxRecDepth 100000 in
set_option maxHeartbeats 400000 in
theorem qX7_oddY (d : Nat) (S : dv_S) (n w : Nat) (x : Int32) (hT : cw_T S n) (hw : S.1 13 5 = nI w) (hw60 : w ≤ 60) (hy : decide (0 ≤ x ∧ x < 3) = true)  : dv_M yX7_odd cX7_odd 5 (some .int) (dv_rm (d + 7)) [.ref 0, .int x] S (fun r S' => r = some (.int (nI (dv_ct (fun t => decide (S.2.1 23 t = x) && !decide (ptS S w t = (wy (ptS S w) (S.2.1 23) n x n).1)) n))) ∧ sc S S') := by
  have h80 := hT.2.1
  refine dv_M_of [some (.ref 0), some (.int x), none, none, none] (by decide) (fun _ _ => Nat.le_of_ble_eq_true rfl) (fun _ _ => rfl) ?_
  refine J_iload_n dX7_odd_0 (pc' := 1) rfl rfl ?_
  refine J_s1 (As := [.int x]) (rest := []) (qX7_isKind _ _ _) vX7_isKind mX7_134 dX7_odd_1 (pc' := 4) rfl rfl (Nat.le_of_ble_eq_true rfl) (by decide) ?_
  refine J_bne dX7_odd_4 (pt := 9) (by decide) (pc' := 7) rfl (fun c4 => ?_) (fun c4 => ?_)
  · refine J_aload_n dX7_odd_9 (pc' := 10) rfl rfl ?_
    refine J_iload_n dX7_odd_10 (pc' := 11) rfl rfl ?_
    refine J_vq (As := [.int x]) (rest := []) (qX7_wayOf _ _ n w x hT hw hw60) vX7_wayOf mX7_256 kd_0 dX7_odd_11 (pc' := 14) rfl rfl (Nat.le_of_ble_eq_true rfl) (by decide) ?_
    rintro r S1 ⟨rfl, hI⟩
    show dv_J yX7_odd cX7_odd 5 (some .int) (dv_rm (d + 7)) 0 0 14 [some (.ref 0), some (.int x), none, none, none] [.int ((wy (ptS S w) (S.2.1 23) n x n).1)] S1 (fun r S' => r = some (.int (nI (dv_ct (fun t => decide (S.2.1 23 t = x) && !decide (ptS S w t = (wy (ptS S w) (S.2.1 23) n x n).1)) n))) ∧ sc S S')
    refine J_istore_n dX7_odd_14 (pc' := 15) rfl rfl (by decide) rfl (l' := [some (.ref 0), some (.int x), some (.int ((wy (ptS S w) (S.2.1 23) n x n).1)), none, none]) rfl ?_
    refine J_iconst dX7_odd_15 (pc' := 16) rfl (v := 0) ic_0 ?_
    refine J_istore_n dX7_odd_16 (pc' := 17) rfl rfl (by decide) rfl (l' := [some (.ref 0), some (.int x), some (.int ((wy (ptS S w) (S.2.1 23) n x n).1)), some (.int 0), none]) rfl ?_
    refine J_iconst dX7_odd_17 (pc' := 18) rfl (v := 0) ic_0 ?_
    refine J_istore dX7_odd_18 (pc' := 20) rfl (by decide) rfl (l' := [some (.ref 0), some (.int x), some (.int ((wy (ptS S w) (S.2.1 23) n x n).1)), some (.int 0), some (.int 0)]) rfl ?_
    have hlp20 : ∀ i, i ≤ n → dv_J yX7_odd cX7_odd 5 (some .int) (dv_rm (d + 7)) 0 0 20 [some (.ref 0), some (.int x), some (.int ((wy (ptS S w) (S.2.1 23) n x n).1)), some (.int (nI (dv_ct (fun t => decide (S.2.1 23 t = x) && !decide (ptS S w t = (wy (ptS S w) (S.2.1 23) n x n).1)) i))), some (.int (nI i))] [] S1 (fun r S' => r = some (.int (nI (dv_ct (fun t => decide (S.2.1 23 t = x) && !decide (ptS S w t = (wy (ptS S w) (S.2.1 23) n x n).1)) n))) ∧ sc S S') := by
      refine dv_up (P := fun i => dv_J yX7_odd cX7_odd 5 (some .int) (dv_rm (d + 7)) 0 0 20 [some (.ref 0), some (.int x), some (.int ((wy (ptS S w) (S.2.1 23) n x n).1)), some (.int (nI (dv_ct (fun t => decide (S.2.1 23 t = x) && !decide (ptS S w t = (wy (ptS S w) (S.2.1 23) n x n).1)) i))), some (.int (nI i))] [] S1 (fun r S' => r = some (.int (nI (dv_ct (fun t => decide (S.2.1 23 t = x) && !decide (ptS S w t = (wy (ptS S w) (S.2.1 23) n x n).1)) n))) ∧ sc S S')) ?_
      intro i hi20 ih20 
      refine J_iload dX7_odd_20 (pc' := 22) rfl rfl ?_
      refine J_aload_n dX7_odd_22 (pc' := 23) rfl rfl ?_
      refine J_getr fX7_51 kd_0 rf_0_7 dX7_odd_23 (pc' := 26) rfl ?_
      refine J_v1 (As := []) (rest := [.int (nI i)]) (qX5_size _ _) vX5_size mX7_198 kd_21 dX7_odd_26 (pc' := 29) rfl rfl (Nat.le_of_ble_eq_true rfl) (by decide) ?_
      refine J_top (w := .int (nI n)) (by rw [(hI.1.T hT).1]) ?_
      refine J_icmp_ge dX7_odd_29 (pt := 65) (by decide) (pc' := 32) rfl (fun c29 => ?_) (fun c29 => ?_)
      · have hx := dv_ge hi20 (by omega) c29
        refine J_iload_n dX7_odd_65 (pc' := 66) rfl rfl ?_
        refine J_iret dX7_odd_66 rfl (dv_r1 _) ?_
        exact ⟨by rw [hx], hI.1⟩
      · have hx := dv_nge hi20 (by omega) c29
        refine J_aload_n dX7_odd_32 (pc' := 33) rfl rfl ?_
        refine J_getr fX7_51 kd_0 rf_0_7 dX7_odd_33 (pc' := 36) rfl ?_
        refine J_iload dX7_odd_36 (pc' := 38) rfl rfl ?_
        refine J_v1 (As := [.int (nI i)]) (rest := []) (qX5_kindOf _ _ i n (hI.1.T hT).1 (by omega) h80) vX5_kindOf mX7_164 kd_21 dX7_odd_38 (pc' := 41) rfl rfl (Nat.le_of_ble_eq_true rfl) (by decide) ?_
        refine J_top (w := .int (S.2.1 23 i)) (by rw [hI.1.g (by decide)]) ?_
        refine J_iload_n dX7_odd_41 (pc' := 42) rfl rfl ?_
        refine J_icmp_ne dX7_odd_42 (pt := 59) (by decide) (pc' := 45) rfl (fun c42 => ?_) (fun c42 => ?_)
        · refine J_iinc dX7_odd_59 (pc' := 62) rfl rfl (v := nI (i + 1)) (nI_1 i) (by decide) rfl (l' := [some (.ref 0), some (.int x), some (.int ((wy (ptS S w) (S.2.1 23) n x n).1)), some (.int (nI (dv_ct (fun t => decide (S.2.1 23 t = x) && !decide (ptS S w t = (wy (ptS S w) (S.2.1 23) n x n).1)) i))), some (.int (nI (i + 1)))]) rfl ?_
          refine J_goto dX7_odd_62 (pc' := 20) (by decide) ?_
          refine J_loc ?_ (ih20 (i + 1) (by omega) (by omega))
          clear ih20
          first | simp only [dv_ct_sf (p := (fun t => decide (S.2.1 23 t = x) && !decide (ptS S w t = (wy (ptS S w) (S.2.1 23) n x n).1))) (n := i) (by simp only [decide_eq_false c42, Bool.false_and])] | simp only [dv_ct_sf (p := (fun t => decide (S.2.1 23 t = x) && !decide (ptS S w t = (wy (ptS S w) (S.2.1 23) n x n).1))) (n := i) (by simp only [decide_eq_true c53]; simp)]
        · refine J_aload_n dX7_odd_45 (pc' := 46) rfl rfl ?_
          refine J_getr fX7_76 kd_0 rf_0_12 dX7_odd_46 (pc' := 49) rfl ?_
          refine J_iload dX7_odd_49 (pc' := 51) rfl rfl ?_
          refine J_iald (j := i) kd_515 (rfl) (by rw [ln_515]; omega) dX7_odd_51 (pc' := 52) rfl ?_
          refine J_top (w := .int (ptS S w i)) (by rw [hI.2 i hx c42]) ?_
          refine J_iload_n dX7_odd_52 (pc' := 53) rfl rfl ?_
          refine J_icmp_eq dX7_odd_53 (pt := 59) (by decide) (pc' := 56) rfl (fun c53 => ?_) (fun c53 => ?_)
          · refine J_iinc dX7_odd_59 (pc' := 62) rfl rfl (v := nI (i + 1)) (nI_1 i) (by decide) rfl (l' := [some (.ref 0), some (.int x), some (.int ((wy (ptS S w) (S.2.1 23) n x n).1)), some (.int (nI (dv_ct (fun t => decide (S.2.1 23 t = x) && !decide (ptS S w t = (wy (ptS S w) (S.2.1 23) n x n).1)) i))), some (.int (nI (i + 1)))]) rfl ?_
            refine J_goto dX7_odd_62 (pc' := 20) (by decide) ?_
            refine J_loc ?_ (ih20 (i + 1) (by omega) (by omega))
            clear ih20
            first | simp only [dv_ct_sf (p := (fun t => decide (S.2.1 23 t = x) && !decide (ptS S w t = (wy (ptS S w) (S.2.1 23) n x n).1))) (n := i) (by simp only [decide_eq_false c42, Bool.false_and])] | simp only [dv_ct_sf (p := (fun t => decide (S.2.1 23 t = x) && !decide (ptS S w t = (wy (ptS S w) (S.2.1 23) n x n).1))) (n := i) (by simp only [decide_eq_true c53]; simp)]
          · refine J_iinc dX7_odd_56 (pc' := 59) rfl rfl (v := nI ((dv_ct (fun t => decide (S.2.1 23 t = x) && !decide (ptS S w t = (wy (ptS S w) (S.2.1 23) n x n).1)) i) + 1)) (nI_1 (dv_ct (fun t => decide (S.2.1 23 t = x) && !decide (ptS S w t = (wy (ptS S w) (S.2.1 23) n x n).1)) i)) (by decide) rfl (l' := [some (.ref 0), some (.int x), some (.int ((wy (ptS S w) (S.2.1 23) n x n).1)), some (.int (nI ((dv_ct (fun t => decide (S.2.1 23 t = x) && !decide (ptS S w t = (wy (ptS S w) (S.2.1 23) n x n).1)) i) + 1))), some (.int (nI i))]) rfl ?_
            refine J_iinc dX7_odd_59 (pc' := 62) rfl rfl (v := nI (i + 1)) (nI_1 i) (by decide) rfl (l' := [some (.ref 0), some (.int x), some (.int ((wy (ptS S w) (S.2.1 23) n x n).1)), some (.int (nI ((dv_ct (fun t => decide (S.2.1 23 t = x) && !decide (ptS S w t = (wy (ptS S w) (S.2.1 23) n x n).1)) i) + 1))), some (.int (nI (i + 1)))]) rfl ?_
            refine J_goto dX7_odd_62 (pc' := 20) (by decide) ?_
            refine J_loc ?_ (ih20 (i + 1) (by omega) (by omega))
            clear ih20
            first | simp only [dv_ct_st (p := (fun t => decide (S.2.1 23 t = x) && !decide (ptS S w t = (wy (ptS S w) (S.2.1 23) n x n).1))) (n := i) (by simp only [decide_eq_true c42, decide_eq_false c53]; rfl)]
    refine J_loc (l' := [some (.ref 0), some (.int x), some (.int ((wy (ptS S w) (S.2.1 23) n x n).1)), some (.int (nI (dv_ct (fun t => decide (S.2.1 23 t = x) && !decide (ptS S w t = (wy (ptS S w) (S.2.1 23) n x n).1)) 0))), some (.int (nI 0))]) (by simp only [nI_0, dv_ct]) ?_
    exact hlp20 0 (Nat.zero_le _) 
  · exact absurd c4 (by rw [hy]; decide)
set_option maxRecDepth 100000 in
set_option maxHeartbeats 400000 in
theorem qX7_isOddN (d : Nat) (S : dv_S) (x : Int32) (hx : decide (0 ≤ x ∧ x < S.1 21 3) = false)  : dv_M yX7_isOdd cX7_isOdd 3 (some .int) (dv_rm (d + 7)) [.ref 0, .int x] S (fun r S' => r = some (.int (-1)) ∧ S' = S) := by
  refine dv_M_of [some (.ref 0), some (.int x), none] (by decide) (fun _ _ => Nat.le_of_ble_eq_true rfl) (fun _ _ => rfl) ?_
  refine J_aload_n dX7_isOdd_0 (pc' := 1) rfl rfl ?_
  refine J_getr fX7_51 kd_0 rf_0_7 dX7_isOdd_1 (pc' := 4) rfl ?_
  refine J_iload_n dX7_isOdd_4 (pc' := 5) rfl rfl ?_
  refine J_v1 (As := [.int x]) (rest := []) (qX5_has _ _ _) vX5_has mX7_160 kd_21 dX7_isOdd_5 (pc' := 8) rfl rfl (Nat.le_of_ble_eq_true rfl) (by decide) ?_
  refine J_bne dX7_isOdd_8 (pt := 13) (by decide) (pc' := 11) rfl (fun c8 => ?_) (fun c8 => ?_)
  · exact absurd c8 (by rw [hx]; decide)
  · refine J_iconst dX7_isOdd_11 (pc' := 12) rfl (v := (-1)) ic_m1 ?_
    refine J_iret dX7_isOdd_12 rfl (dv_r1 _) ?_
    exact ⟨rfl, rfl⟩
set_option maxRecDepth 100000 in
set_option maxHeartbeats 400000 in
theorem qX7_isOddY (d : Nat) (S : dv_S) (n w t : Nat) (hT : cw_T S n) (ht : t < n) (hw : S.1 13 5 = nI w) (hw60 : w ≤ 60)  : dv_M yX7_isOdd cX7_isOdd 3 (some .int) (dv_rm (d + 7)) [.ref 0, .int (nI t)] S (fun r S' => r = some (.int (if ptS S w t = (wy (ptS S w) (S.2.1 23) n (S.2.1 23 t) n).1 then 0 else 1)) ∧ sc S S') := by
  have h80 := hT.2.1
  have htl := (hT.2.2 t ht).1
  refine dv_M_of [some (.ref 0), some (.int (nI t)), none] (by decide) (fun _ _ => Nat.le_of_ble_eq_true rfl) (fun _ _ => rfl) ?_
  refine J_aload_n dX7_isOdd_0 (pc' := 1) rfl rfl ?_
  refine J_getr fX7_51 kd_0 rf_0_7 dX7_isOdd_1 (pc' := 4) rfl ?_
  refine J_iload_n dX7_isOdd_4 (pc' := 5) rfl rfl ?_
  refine J_v1 (As := [.int (nI t)]) (rest := []) (qX5_has _ _ _) vX5_has mX7_160 kd_21 dX7_isOdd_5 (pc' := 8) rfl rfl (Nat.le_of_ble_eq_true rfl) (by decide) ?_
  refine J_bne dX7_isOdd_8 (pt := 13) (by decide) (pc' := 11) rfl (fun c8 => ?_) (fun c8 => ?_)
  · refine J_aload_n dX7_isOdd_13 (pc' := 14) rfl rfl ?_
    refine J_aload_n dX7_isOdd_14 (pc' := 15) rfl rfl ?_
    refine J_getr fX7_51 kd_0 rf_0_7 dX7_isOdd_15 (pc' := 18) rfl ?_
    refine J_iload_n dX7_isOdd_18 (pc' := 19) rfl rfl ?_
    refine J_v1 (As := [.int (nI t)]) (rest := [.ref 0]) (qX5_kindOf _ _ t n hT.1 ht h80) vX5_kindOf mX7_164 kd_21 dX7_isOdd_19 (pc' := 22) rfl rfl (Nat.le_of_ble_eq_true rfl) (by decide) ?_
    refine J_vq (As := [.int (S.2.1 23 t)]) (rest := []) (qX7_wayOf _ _ n w (S.2.1 23 t) hT hw hw60) vX7_wayOf mX7_256 kd_0 dX7_isOdd_22 (pc' := 25) rfl rfl (Nat.le_of_ble_eq_true rfl) (by decide) ?_
    rintro r S1 ⟨rfl, hI⟩
    show dv_J yX7_isOdd cX7_isOdd 3 (some .int) (dv_rm (d + 7)) 0 0 25 [some (.ref 0), some (.int (nI t)), none] [.int ((wy (ptS S w) (S.2.1 23) n (S.2.1 23 t) n).1)] S1 (fun r S' => r = some (.int (if ptS S w t = (wy (ptS S w) (S.2.1 23) n (S.2.1 23 t) n).1 then 0 else 1)) ∧ sc S S')
    refine J_istore_n dX7_isOdd_25 (pc' := 26) rfl rfl (by decide) rfl (l' := [some (.ref 0), some (.int (nI t)), some (.int ((wy (ptS S w) (S.2.1 23) n (S.2.1 23 t) n).1))]) rfl ?_
    refine J_aload_n dX7_isOdd_26 (pc' := 27) rfl rfl ?_
    refine J_getr fX7_76 kd_0 rf_0_12 dX7_isOdd_27 (pc' := 30) rfl ?_
    refine J_iload_n dX7_isOdd_30 (pc' := 31) rfl rfl ?_
    refine J_iald (j := t) kd_515 (rfl) (by rw [ln_515]; omega) dX7_isOdd_31 (pc' := 32) rfl ?_
    refine J_top (w := .int (ptS S w t)) (by rw [hI.2 t ht rfl]) ?_
    refine J_iload_n dX7_isOdd_32 (pc' := 33) rfl rfl ?_
    refine J_icmp_eq dX7_isOdd_33 (pt := 40) (by decide) (pc' := 36) rfl (fun c33 => ?_) (fun c33 => ?_)
    · refine J_iconst dX7_isOdd_40 (pc' := 41) rfl (v := 0) ic_0 ?_
      refine J_iret dX7_isOdd_41 rfl (dv_r1 _) ?_
      exact ⟨by rw [if_pos c33], hI.1⟩
    · refine J_iconst dX7_isOdd_36 (pc' := 37) rfl (v := 1) ic_1 ?_
      refine J_goto dX7_isOdd_37 (pc' := 41) (by decide) ?_
      refine J_iret dX7_isOdd_41 rfl (dv_r1 _) ?_
      exact ⟨by rw [if_neg c33], hI.1⟩
  · exact absurd (dv_has ht hT.1 (by omega)) (by rw [c8]; decide)
set_option maxRecDepth 100000 in
set_option maxHeartbeats 400000 in
theorem qX7_mixed (d : Nat) (S : dv_S) (n w : Nat) (hT : cw_T S n) (hw : S.1 13 5 = nI w) (hw60 : w ≤ 60)  : dv_M yX7_mixed cX7_mixed 1 (some .int) (dv_rm (d + 6)) [.ref 0] S (fun r S' => r = some (.int (nI (mxS S w n))) ∧ sc S S') := by
  refine dv_M_of [some (.ref 0)] (by decide) (fun _ _ => Nat.le_of_ble_eq_true rfl) (fun _ _ => rfl) ?_
  refine J_aload_n dX7_mixed_0 (pc' := 1) rfl rfl ?_
  refine J_vq (As := []) (rest := []) (qX7_countUsed _ _ n w hT hw hw60) vX7_countUsed mX7_243 kd_0 dX7_mixed_1 (pc' := 4) rfl rfl (Nat.le_of_ble_eq_true rfl) (by decide) ?_
  rintro r S1 ⟨rfl, hI⟩
  show dv_J yX7_mixed cX7_mixed 1 (some .int) (dv_rm (d + 6)) 0 0 4 [some (.ref 0)] [] S1 (fun r S' => r = some (.int (nI (mxS S w n))) ∧ sc S S')
  refine J_aload_n dX7_mixed_4 (pc' := 5) rfl rfl ?_
  refine J_getr fX7_37 kd_0 rf_0_5 dX7_mixed_5 (pc' := 8) rfl ?_
  refine J_v1 (As := []) (rest := []) (qX0_mixedGroups _ S1 w (by rw [hI.1.1 13 5 (by decide)]; exact hw) hw60) vX0_mixedGroups mX7_259 kd_13 dX7_mixed_8 (pc' := 11) rfl rfl (Nat.le_of_ble_eq_true rfl) (by decide) ?_
  refine J_iret dX7_mixed_11 rfl (dv_r1 _) ?_
  exact ⟨by rw [mx_cong hI], hI.1⟩
