set_option maxRecDepth 100000 in
set_option maxHeartbeats 400000 in
theorem qX8_shortsN (d : Nat) (S : dv_S) (S1 : dv_S) (x y : Int32) (h0 : rS S = S1) (hK : (decide (0 ≤ x ∧ x < S1.1 516 17) && (decide (y = -1) || decide (0 ≤ y ∧ y < S1.1 516 17)) && !decide (x = y)) = false)  : dv_M yX8_shorts cX8_shorts 3 (some .boolean) (dv_rm (d + 1)) [.ref 516, .int x, .int y] S (fun r S' => r = some (.int 0) ∧ S' = (rT S1 1)) := by
  refine dv_M_of [some (.ref 516), some (.int x), some (.int y)] (by decide) (fun _ _ => Nat.le_of_ble_eq_true rfl) (fun _ _ => rfl) ?_
  refine J_aload_n dX8_shorts_0 (pc' := 1) rfl rfl ?_
  refine J_iconst dX8_shorts_1 (pc' := 2) rfl (v := 0) ic_0 ?_
  refine J_puti fX8_1 kd_516 rf_516_0 dX8_shorts_2 (pc' := 5) rfl ?_
  refine J_sto (S' := S1) (h0) ?_
  refine J_aload_n dX8_shorts_5 (pc' := 6) rfl rfl ?_
  refine J_iload_n dX8_shorts_6 (pc' := 7) rfl rfl ?_
  refine J_v1 (As := [.int x]) (rest := []) (qX8_isWord _ _ _) vX8_isWord mX8_168 kd_516 dX8_shorts_7 (pc' := 10) rfl rfl (Nat.le_of_ble_eq_true rfl) (by decide) ?_
  refine J_beq dX8_shorts_10 (pt := 31) (by decide) (pc' := 13) rfl (fun c10 => ?_) (fun c10 => ?_)
  · refine J_aload_n dX8_shorts_31 (pc' := 32) rfl rfl ?_
    refine J_iconst dX8_shorts_32 (pc' := 33) rfl (v := 1) ic_1 ?_
    refine J_v1 (As := [.int 1]) (rest := []) (qX8_denied _ _ _) vX8_denied mX8_171 kd_516 dX8_shorts_33 (pc' := 36) rfl rfl (Nat.le_of_ble_eq_true rfl) (by decide) ?_
    refine J_zret dX8_shorts_36 rfl (by decide) (dv_r1 _) ?_
    exact ⟨rfl, rfl⟩
  · refine J_iload_n dX8_shorts_13 (pc' := 14) rfl rfl ?_
    refine J_iconst dX8_shorts_14 (pc' := 15) rfl (v := (-1)) ic_m1 ?_
    refine J_icmp_eq dX8_shorts_15 (pt := 26) (by decide) (pc' := 18) rfl (fun c15 => ?_) (fun c15 => ?_)
    · refine J_iload_n dX8_shorts_26 (pc' := 27) rfl rfl ?_
      refine J_iload_n dX8_shorts_27 (pc' := 28) rfl rfl ?_
      refine J_icmp_ne dX8_shorts_28 (pt := 37) (by decide) (pc' := 31) rfl (fun c28 => ?_) (fun c28 => ?_)
      · first | (refine absurd hK ?_; rw [c15] at c28 ⊢; simp [c10, c28]; done) | (refine absurd hK ?_; simp [c10, c15, c23, c28]; done)
      · refine J_aload_n dX8_shorts_31 (pc' := 32) rfl rfl ?_
        refine J_iconst dX8_shorts_32 (pc' := 33) rfl (v := 1) ic_1 ?_
        refine J_v1 (As := [.int 1]) (rest := []) (qX8_denied _ _ _) vX8_denied mX8_171 kd_516 dX8_shorts_33 (pc' := 36) rfl rfl (Nat.le_of_ble_eq_true rfl) (by decide) ?_
        refine J_zret dX8_shorts_36 rfl (by decide) (dv_r1 _) ?_
        exact ⟨rfl, rfl⟩
    · refine J_aload_n dX8_shorts_18 (pc' := 19) rfl rfl ?_
      refine J_iload_n dX8_shorts_19 (pc' := 20) rfl rfl ?_
      refine J_v1 (As := [.int y]) (rest := []) (qX8_isWord _ _ _) vX8_isWord mX8_168 kd_516 dX8_shorts_20 (pc' := 23) rfl rfl (Nat.le_of_ble_eq_true rfl) (by decide) ?_
      refine J_beq dX8_shorts_23 (pt := 31) (by decide) (pc' := 26) rfl (fun c23 => ?_) (fun c23 => ?_)
      · refine J_aload_n dX8_shorts_31 (pc' := 32) rfl rfl ?_
        refine J_iconst dX8_shorts_32 (pc' := 33) rfl (v := 1) ic_1 ?_
        refine J_v1 (As := [.int 1]) (rest := []) (qX8_denied _ _ _) vX8_denied mX8_171 kd_516 dX8_shorts_33 (pc' := 36) rfl rfl (Nat.le_of_ble_eq_true rfl) (by decide) ?_
        refine J_zret dX8_shorts_36 rfl (by decide) (dv_r1 _) ?_
        exact ⟨rfl, rfl⟩
      · refine J_iload_n dX8_shorts_26 (pc' := 27) rfl rfl ?_
        refine J_iload_n dX8_shorts_27 (pc' := 28) rfl rfl ?_
        refine J_icmp_ne dX8_shorts_28 (pt := 37) (by decide) (pc' := 31) rfl (fun c28 => ?_) (fun c28 => ?_)
        · first | (refine absurd hK ?_; rw [c15] at c28 ⊢; simp [c10, c28]; done) | (refine absurd hK ?_; simp [c10, c15, c23, c28]; done)
        · refine J_aload_n dX8_shorts_31 (pc' := 32) rfl rfl ?_
          refine J_iconst dX8_shorts_32 (pc' := 33) rfl (v := 1) ic_1 ?_
          refine J_v1 (As := [.int 1]) (rest := []) (qX8_denied _ _ _) vX8_denied mX8_171 kd_516 dX8_shorts_33 (pc' := 36) rfl rfl (Nat.le_of_ble_eq_true rfl) (by decide) ?_
          refine J_zret dX8_shorts_36 rfl (by decide) (dv_r1 _) ?_
          exact ⟨rfl, rfl⟩
set_option maxRecDepth 100000 in
set_option maxHeartbeats 400000 in
theorem qX8_shortsY (d : Nat) (S : dv_S) (S1 : dv_S) (j w : Nat) (y : Int32) (h0 : rS S = S1) (hn : S1.1 516 17 = nI w) (hj : j < w) (hm : w ≤ 60) (hK : (decide (0 ≤ nI j ∧ nI j < S1.1 516 17) && (decide (y = -1) || decide (0 ≤ y ∧ y < S1.1 516 17)) && !decide (nI j = y)) = true)  : dv_M yX8_shorts cX8_shorts 3 (some .boolean) (dv_rm (d + 1)) [.ref 516, .int (nI j), .int y] S (fun r S' => r = some (.int 1) ∧ S' = (rT (S1.1, dv_u S1.2.1 530 j y, S1.2.2) 0)) := by
  refine dv_M_of [some (.ref 516), some (.int (nI j)), some (.int y)] (by decide) (fun _ _ => Nat.le_of_ble_eq_true rfl) (fun _ _ => rfl) ?_
  refine J_aload_n dX8_shorts_0 (pc' := 1) rfl rfl ?_
  refine J_iconst dX8_shorts_1 (pc' := 2) rfl (v := 0) ic_0 ?_
  refine J_puti fX8_1 kd_516 rf_516_0 dX8_shorts_2 (pc' := 5) rfl ?_
  refine J_sto (S' := S1) (h0) ?_
  refine J_aload_n dX8_shorts_5 (pc' := 6) rfl rfl ?_
  refine J_iload_n dX8_shorts_6 (pc' := 7) rfl rfl ?_
  refine J_v1 (As := [.int (nI j)]) (rest := []) (qX8_isWord _ _ _) vX8_isWord mX8_168 kd_516 dX8_shorts_7 (pc' := 10) rfl rfl (Nat.le_of_ble_eq_true rfl) (by decide) ?_
  refine J_beq dX8_shorts_10 (pt := 31) (by decide) (pc' := 13) rfl (fun c10 => ?_) (fun c10 => ?_)
  · exact absurd (dv_has hj hn (by omega)) (by rw [c10]; decide)
  · refine J_iload_n dX8_shorts_13 (pc' := 14) rfl rfl ?_
    refine J_iconst dX8_shorts_14 (pc' := 15) rfl (v := (-1)) ic_m1 ?_
    refine J_icmp_eq dX8_shorts_15 (pt := 26) (by decide) (pc' := 18) rfl (fun c15 => ?_) (fun c15 => ?_)
    · refine J_iload_n dX8_shorts_26 (pc' := 27) rfl rfl ?_
      refine J_iload_n dX8_shorts_27 (pc' := 28) rfl rfl ?_
      refine J_icmp_ne dX8_shorts_28 (pt := 37) (by decide) (pc' := 31) rfl (fun c28 => ?_) (fun c28 => ?_)
      · refine J_aload_n dX8_shorts_37 (pc' := 38) rfl rfl ?_
        refine J_getr fX8_80 kd_516 rf_516_21 dX8_shorts_38 (pc' := 41) rfl ?_
        refine J_iload_n dX8_shorts_41 (pc' := 42) rfl rfl ?_
        refine J_iload_n dX8_shorts_42 (pc' := 43) rfl rfl ?_
        refine J_iast (j := j) kd_530 (rfl) (by rw [ln_530]; omega) dX8_shorts_43 (pc' := 44) rfl ?_
        refine J_aload_n dX8_shorts_44 (pc' := 45) rfl rfl ?_
        refine J_v1 (As := []) (rest := []) (qX8_granted _ _) vX8_granted mX8_174 kd_516 dX8_shorts_45 (pc' := 48) rfl rfl (Nat.le_of_ble_eq_true rfl) (by decide) ?_
        refine J_zret dX8_shorts_48 rfl (by decide) (dv_r1 _) ?_
        exact ⟨rfl, rfl⟩
      · exact absurd hK (by simp [c28])
    · refine J_aload_n dX8_shorts_18 (pc' := 19) rfl rfl ?_
      refine J_iload_n dX8_shorts_19 (pc' := 20) rfl rfl ?_
      refine J_v1 (As := [.int y]) (rest := []) (qX8_isWord _ _ _) vX8_isWord mX8_168 kd_516 dX8_shorts_20 (pc' := 23) rfl rfl (Nat.le_of_ble_eq_true rfl) (by decide) ?_
      refine J_beq dX8_shorts_23 (pt := 31) (by decide) (pc' := 26) rfl (fun c23 => ?_) (fun c23 => ?_)
      · exact absurd hK (by simp [c10, c15, c23])
      · refine J_iload_n dX8_shorts_26 (pc' := 27) rfl rfl ?_
        refine J_iload_n dX8_shorts_27 (pc' := 28) rfl rfl ?_
        refine J_icmp_ne dX8_shorts_28 (pt := 37) (by decide) (pc' := 31) rfl (fun c28 => ?_) (fun c28 => ?_)
        · refine J_aload_n dX8_shorts_37 (pc' := 38) rfl rfl ?_
          refine J_getr fX8_80 kd_516 rf_516_21 dX8_shorts_38 (pc' := 41) rfl ?_
          refine J_iload_n dX8_shorts_41 (pc' := 42) rfl rfl ?_
          refine J_iload_n dX8_shorts_42 (pc' := 43) rfl rfl ?_
          refine J_iast (j := j) kd_530 (rfl) (by rw [ln_530]; omega) dX8_shorts_43 (pc' := 44) rfl ?_
          refine J_aload_n dX8_shorts_44 (pc' := 45) rfl rfl ?_
          refine J_v1 (As := []) (rest := []) (qX8_granted _ _) vX8_granted mX8_174 kd_516 dX8_shorts_45 (pc' := 48) rfl rfl (Nat.le_of_ble_eq_true rfl) (by decide) ?_
          refine J_zret dX8_shorts_48 rfl (by decide) (dv_r1 _) ?_
          exact ⟨rfl, rfl⟩
        · exact absurd hK (by simp [c28])
set_option maxRecDepth 100000 in
set_option maxHeartbeats 400000 in
theorem qX8_alikeN (d : Nat) (S : dv_S) (S1 : dv_S) (x y : Int32) (h0 : rS S = S1) (hK : (decide (0 ≤ x ∧ x < S1.1 516 17) && decide (0 ≤ y ∧ y < S1.1 516 17)) = false)  : dv_M yX8_alike cX8_alike 5 (some .boolean) (dv_rm (d + 1)) [.ref 516, .int x, .int y] S (fun r S' => r = some (.int 0) ∧ S' = (rT S1 1)) := by
  refine dv_M_of [some (.ref 516), some (.int x), some (.int y), none, none] (by decide) (fun _ _ => Nat.le_of_ble_eq_true rfl) (fun _ _ => rfl) ?_
  refine J_aload_n dX8_alike_0 (pc' := 1) rfl rfl ?_
  refine J_iconst dX8_alike_1 (pc' := 2) rfl (v := 0) ic_0 ?_
  refine J_puti fX8_1 kd_516 rf_516_0 dX8_alike_2 (pc' := 5) rfl ?_
  refine J_sto (S' := S1) (h0) ?_
  refine J_aload_n dX8_alike_5 (pc' := 6) rfl rfl ?_
  refine J_iload_n dX8_alike_6 (pc' := 7) rfl rfl ?_
  refine J_v1 (As := [.int x]) (rest := []) (qX8_isWord _ _ _) vX8_isWord mX8_168 kd_516 dX8_alike_7 (pc' := 10) rfl rfl (Nat.le_of_ble_eq_true rfl) (by decide) ?_
  refine J_beq dX8_alike_10 (pt := 21) (by decide) (pc' := 13) rfl (fun c10 => ?_) (fun c10 => ?_)
  · refine J_aload_n dX8_alike_21 (pc' := 22) rfl rfl ?_
    refine J_iconst dX8_alike_22 (pc' := 23) rfl (v := 1) ic_1 ?_
    refine J_v1 (As := [.int 1]) (rest := []) (qX8_denied _ _ _) vX8_denied mX8_171 kd_516 dX8_alike_23 (pc' := 26) rfl rfl (Nat.le_of_ble_eq_true rfl) (by decide) ?_
    refine J_zret dX8_alike_26 rfl (by decide) (dv_r1 _) ?_
    exact ⟨rfl, rfl⟩
  · refine J_aload_n dX8_alike_13 (pc' := 14) rfl rfl ?_
    refine J_iload_n dX8_alike_14 (pc' := 15) rfl rfl ?_
    refine J_v1 (As := [.int y]) (rest := []) (qX8_isWord _ _ _) vX8_isWord mX8_168 kd_516 dX8_alike_15 (pc' := 18) rfl rfl (Nat.le_of_ble_eq_true rfl) (by decide) ?_
    refine J_bne dX8_alike_18 (pt := 27) (by decide) (pc' := 21) rfl (fun c18 => ?_) (fun c18 => ?_)
    · exact absurd hK (by rw [c10, c18]; decide)
    · refine J_aload_n dX8_alike_21 (pc' := 22) rfl rfl ?_
      refine J_iconst dX8_alike_22 (pc' := 23) rfl (v := 1) ic_1 ?_
      refine J_v1 (As := [.int 1]) (rest := []) (qX8_denied _ _ _) vX8_denied mX8_171 kd_516 dX8_alike_23 (pc' := 26) rfl rfl (Nat.le_of_ble_eq_true rfl) (by decide) ?_
      refine J_zret dX8_alike_26 rfl (by decide) (dv_r1 _) ?_
      exact ⟨rfl, rfl⟩
set_option maxRecDepth 100000 in
set_option maxHeartbeats 400000 in
theorem qX8_alikeY (d : Nat) (S : dv_S) (S1 : dv_S) (p q w : Nat) (h0 : rS S = S1) (hn : S1.1 516 17 = nI w) (hp : p < w) (hq : q < w) (hm : w ≤ 60)  : dv_M yX8_alike cX8_alike 5 (some .boolean) (dv_rm (d + 1)) [.ref 516, .int (nI p), .int (nI q)] S (fun r S' => r = some (.int 1) ∧ S' = (rT (rJn S1 p q w) 0)) := by
  refine dv_M_of [some (.ref 516), some (.int (nI p)), some (.int (nI q)), none, none] (by decide) (fun _ _ => Nat.le_of_ble_eq_true rfl) (fun _ _ => rfl) ?_
  refine J_aload_n dX8_alike_0 (pc' := 1) rfl rfl ?_
  refine J_iconst dX8_alike_1 (pc' := 2) rfl (v := 0) ic_0 ?_
  refine J_puti fX8_1 kd_516 rf_516_0 dX8_alike_2 (pc' := 5) rfl ?_
  refine J_sto (S' := S1) (h0) ?_
  refine J_aload_n dX8_alike_5 (pc' := 6) rfl rfl ?_
  refine J_iload_n dX8_alike_6 (pc' := 7) rfl rfl ?_
  refine J_v1 (As := [.int (nI p)]) (rest := []) (qX8_isWord _ _ _) vX8_isWord mX8_168 kd_516 dX8_alike_7 (pc' := 10) rfl rfl (Nat.le_of_ble_eq_true rfl) (by decide) ?_
  refine J_beq dX8_alike_10 (pt := 21) (by decide) (pc' := 13) rfl (fun c10 => ?_) (fun c10 => ?_)
  · exact absurd (dv_has hp hn (by omega)) (by rw [c10]; decide)
  · refine J_aload_n dX8_alike_13 (pc' := 14) rfl rfl ?_
    refine J_iload_n dX8_alike_14 (pc' := 15) rfl rfl ?_
    refine J_v1 (As := [.int (nI q)]) (rest := []) (qX8_isWord _ _ _) vX8_isWord mX8_168 kd_516 dX8_alike_15 (pc' := 18) rfl rfl (Nat.le_of_ble_eq_true rfl) (by decide) ?_
    refine J_bne dX8_alike_18 (pt := 27) (by decide) (pc' := 21) rfl (fun c18 => ?_) (fun c18 => ?_)
    · refine J_aload_n dX8_alike_27 (pc' := 28) rfl rfl ?_
      refine J_getr fX8_83 kd_516 rf_516_22 dX8_alike_28 (pc' := 31) rfl ?_
      refine J_iload_n dX8_alike_31 (pc' := 32) rfl rfl ?_
      refine J_iald (j := q) kd_531 (rfl) (by rw [ln_531]; omega) dX8_alike_32 (pc' := 33) rfl ?_
      refine J_istore_n dX8_alike_33 (pc' := 34) rfl rfl (by decide) rfl (l' := [some (.ref 516), some (.int (nI p)), some (.int (nI q)), some (.int (S1.2.1 531 q)), none]) rfl ?_
      refine J_iconst dX8_alike_34 (pc' := 35) rfl (v := 0) ic_0 ?_
      refine J_istore dX8_alike_35 (pc' := 37) rfl (by decide) rfl (l' := [some (.ref 516), some (.int (nI p)), some (.int (nI q)), some (.int (S1.2.1 531 q)), some (.int 0)]) rfl ?_
      have hlp37 : ∀ i, i ≤ w → dv_J yX8_alike cX8_alike 5 (some .boolean) (dv_rm (d + 1)) 0 0 37 [some (.ref 516), some (.int (nI p)), some (.int (nI q)), some (.int (S1.2.1 531 q)), some (.int (nI i))] [] (rJn S1 p q i) (fun r S' => r = some (.int 1) ∧ S' = (rT (rJn S1 p q w) 0)) := by
        refine dv_up (P := fun i => dv_J yX8_alike cX8_alike 5 (some .boolean) (dv_rm (d + 1)) 0 0 37 [some (.ref 516), some (.int (nI p)), some (.int (nI q)), some (.int (S1.2.1 531 q)), some (.int (nI i))] [] (rJn S1 p q i) (fun r S' => r = some (.int 1) ∧ S' = (rT (rJn S1 p q w) 0))) ?_
        intro i hi37 ih37 
        refine J_iload dX8_alike_37 (pc' := 39) rfl rfl ?_
        refine J_aload_n dX8_alike_39 (pc' := 40) rfl rfl ?_
        refine J_geti fX8_165 kd_516 rf_516_17 dX8_alike_40 (pc' := 43) rfl ?_
        refine J_top (w := .int (nI w)) (by show Value.int (S1.1 516 17) = _; rw [hn]) ?_
        refine J_icmp_ge dX8_alike_43 (pt := 76) (by decide) (pc' := 46) rfl (fun c43 => ?_) (fun c43 => ?_)
        · have hx := dv_ge hi37 (by omega) c43
          refine J_aload_n dX8_alike_76 (pc' := 77) rfl rfl ?_
          refine J_v1 (As := []) (rest := []) (qX8_granted _ _) vX8_granted mX8_174 kd_516 dX8_alike_77 (pc' := 80) rfl rfl (Nat.le_of_ble_eq_true rfl) (by decide) ?_
          refine J_zret dX8_alike_80 rfl (by decide) (dv_r1 _) ?_
          exact ⟨rfl, by rw [hx]⟩
        · have hx := dv_nge hi37 (by omega) c43
          refine J_aload_n dX8_alike_46 (pc' := 47) rfl rfl ?_
          refine J_getr fX8_83 kd_516 rf_516_22 dX8_alike_47 (pc' := 50) rfl ?_
          refine J_iload dX8_alike_50 (pc' := 52) rfl rfl ?_
          refine J_iald (j := i) kd_531 (rfl) (by rw [ln_531]; omega) dX8_alike_52 (pc' := 53) rfl ?_
          refine J_top (w := .int (S1.2.1 531 i)) (by rw [rJn_i]) ?_
          refine J_iload_n dX8_alike_53 (pc' := 54) rfl rfl ?_
          refine J_icmp_ne dX8_alike_54 (pt := 70) (by decide) (pc' := 57) rfl (fun c54 => ?_) (fun c54 => ?_)
          · refine J_iinc dX8_alike_70 (pc' := 73) rfl rfl (v := nI (i + 1)) (nI_1 i) (by decide) rfl (l' := [some (.ref 516), some (.int (nI p)), some (.int (nI q)), some (.int (S1.2.1 531 q)), some (.int (nI (i + 1)))]) rfl ?_
            refine J_goto dX8_alike_73 (pc' := 37) (by decide) ?_
            exact J_sto (rJn_n c54) (ih37 (i + 1) (by omega) (by omega))
          · refine J_aload_n dX8_alike_57 (pc' := 58) rfl rfl ?_
            refine J_getr fX8_83 kd_516 rf_516_22 dX8_alike_58 (pc' := 61) rfl ?_
            refine J_iload dX8_alike_61 (pc' := 63) rfl rfl ?_
            refine J_aload_n dX8_alike_63 (pc' := 64) rfl rfl ?_
            refine J_getr fX8_83 kd_516 rf_516_22 dX8_alike_64 (pc' := 67) rfl ?_
            refine J_iload_n dX8_alike_67 (pc' := 68) rfl rfl ?_
            refine J_iald (j := p) kd_531 (rfl) (by rw [ln_531]; omega) dX8_alike_68 (pc' := 69) rfl ?_
            refine J_top (w := .int (S1.2.1 531 p)) (by rw [rJn_p]) ?_
            refine J_iast (j := i) kd_531 (rfl) (by rw [ln_531]; omega) dX8_alike_69 (pc' := 70) rfl ?_
            refine J_iinc dX8_alike_70 (pc' := 73) rfl rfl (v := nI (i + 1)) (nI_1 i) (by decide) rfl (l' := [some (.ref 516), some (.int (nI p)), some (.int (nI q)), some (.int (S1.2.1 531 q)), some (.int (nI (i + 1)))]) rfl ?_
            refine J_goto dX8_alike_73 (pc' := 37) (by decide) ?_
            exact J_sto (rJn_y c54) (ih37 (i + 1) (by omega) (by omega))
      refine J_loc (l' := [some (.ref 516), some (.int (nI p)), some (.int (nI q)), some (.int (S1.2.1 531 q)), some (.int (nI 0))]) (by simp only [nI_0, dv_b_f, dv_b_t]) ?_
      refine J_sto (S' := (rJn S1 p q 0)) (by unfold rJn; rw [dv_rw_0]) ?_
      exact hlp37 0 (Nat.zero_le _) 
    · exact absurd (dv_has hq hn (by omega)) (by rw [c18]; decide)
set_option maxRecDepth 100000 in
set_option maxHeartbeats 400000 in
theorem qX8_toldN (d : Nat) (S : dv_S) (S1 : dv_S) (x y : Int32) (h0 : rS S = S1) (hx : decide (0 ≤ x ∧ x < S1.1 516 17) = false)  : dv_M yX8_told cX8_told 3 (some .int) (dv_rm (d + 4)) [.ref 516, .int x, .int y] S (fun r S' => r = some (.int (-1)) ∧ S' = S1) := by
  refine dv_M_of [some (.ref 516), some (.int x), some (.int y)] (by decide) (fun _ _ => Nat.le_of_ble_eq_true rfl) (fun _ _ => rfl) ?_
  refine J_aload_n dX8_told_0 (pc' := 1) rfl rfl ?_
  refine J_iconst dX8_told_1 (pc' := 2) rfl (v := 0) ic_0 ?_
  refine J_puti fX8_1 kd_516 rf_516_0 dX8_told_2 (pc' := 5) rfl ?_
  refine J_sto (S' := S1) (h0) ?_
  refine J_aload_n dX8_told_5 (pc' := 6) rfl rfl ?_
  refine J_iload_n dX8_told_6 (pc' := 7) rfl rfl ?_
  refine J_v1 (As := [.int x]) (rest := []) (qX8_isWord _ _ _) vX8_isWord mX8_168 kd_516 dX8_told_7 (pc' := 10) rfl rfl (Nat.le_of_ble_eq_true rfl) (by decide) ?_
  refine J_bne dX8_told_10 (pt := 15) (by decide) (pc' := 13) rfl (fun c10 => ?_) (fun c10 => ?_)
  · exact absurd c10 (by rw [hx]; decide)
  · refine J_iconst dX8_told_13 (pc' := 14) rfl (v := (-1)) ic_m1 ?_
    refine J_iret dX8_told_14 rfl (dv_r1 _) ?_
    exact ⟨rfl, rfl⟩
set_option maxRecDepth 100000 in
set_option maxHeartbeats 400000 in
theorem qX8_told0 (d : Nat) (S : dv_S) (S1 : dv_S) (C : dv_S) (n w : Nat) (wl : Nat → Nat → Int32) (wm : Nat → Nat) (j : Nat) (h0 : rS S = S1) (hX : RX S1 C n w wl wm) (hj : j < w)  : dv_M yX8_told cX8_told 3 (some .int) (dv_rm (d + 4)) [.ref 516, .int (nI j), .int (nI 0)] S (fun r S' => r = some (.int (C.2.1 15 j)) ∧ rcF S1 S') := by
  have h60 := hX.2.1.2
  refine dv_M_of [some (.ref 516), some (.int (nI j)), some (.int (nI 0))] (by decide) (fun _ _ => Nat.le_of_ble_eq_true rfl) (fun _ _ => rfl) ?_
  refine J_aload_n dX8_told_0 (pc' := 1) rfl rfl ?_
  refine J_iconst dX8_told_1 (pc' := 2) rfl (v := 0) ic_0 ?_
  refine J_puti fX8_1 kd_516 rf_516_0 dX8_told_2 (pc' := 5) rfl ?_
  refine J_sto (S' := S1) (h0) ?_
  refine J_aload_n dX8_told_5 (pc' := 6) rfl rfl ?_
  refine J_iload_n dX8_told_6 (pc' := 7) rfl rfl ?_
  refine J_v1 (As := [.int (nI j)]) (rest := []) (qX8_isWord _ _ _) vX8_isWord mX8_168 kd_516 dX8_told_7 (pc' := 10) rfl rfl (Nat.le_of_ble_eq_true rfl) (by decide) ?_
  refine J_bne dX8_told_10 (pt := 15) (by decide) (pc' := 13) rfl (fun c10 => ?_) (fun c10 => ?_)
  · refine J_aload_n dX8_told_15 (pc' := 16) rfl rfl ?_
    refine J_vq (As := []) (rest := []) (qX8_counts _ S1 C n w wl wm hX) vX8_counts mX8_192 kd_516 dX8_told_16 (pc' := 19) rfl rfl (Nat.le_of_ble_eq_true rfl) (by decide) ?_
    rintro r S2 ⟨rfl, hI⟩
    have hX2 := RX_fr hI.1 hX (by decide) (by decide)
    show dv_J yX8_told cX8_told 3 (some .int) (dv_rm (d + 4)) 0 0 19 [some (.ref 516), some (.int (nI j)), some (.int (nI 0))] [] S2 (fun r S' => r = some (.int (C.2.1 15 j)) ∧ rcF S1 S')
    refine J_iload_n dX8_told_19 (pc' := 20) rfl rfl ?_
    refine J_tswi (off := 36) (pt := 56) dX8_told_20 (by decide) (by decide) (by decide) (by decide) ?_
    refine J_aload_n dX8_told_56 (pc' := 57) rfl rfl ?_
    refine J_getr fX8_77 kd_516 rf_516_20 dX8_told_57 (pc' := 60) rfl ?_
    refine J_iload_n dX8_told_60 (pc' := 61) rfl rfl ?_
    refine J_iald (j := j) kd_529 (rfl) (by rw [ln_529]; omega) dX8_told_61 (pc' := 62) rfl ?_
    refine J_iret dX8_told_62 rfl (dv_r1 _) ?_
    exact ⟨by rw [(hX2.2.2.2 j hj).2.2.2.2.2.1], hI.1⟩
  · exact absurd (dv_has hj hX.2.1.1 (by omega)) (by rw [c10]; decide)
set_option maxRecDepth 100000 in
set_option maxHeartbeats 400000 in
theorem qX8_told1 (d : Nat) (S : dv_S) (S1 : dv_S) (C : dv_S) (n w : Nat) (wl : Nat → Nat → Int32) (wm : Nat → Nat) (j : Nat) (h0 : rS S = S1) (hX : RX S1 C n w wl wm) (hj : j < w)  : dv_M yX8_told cX8_told 3 (some .int) (dv_rm (d + 4)) [.ref 516, .int (nI j), .int (nI 1)] S (fun r S' => r = some (.int (C.2.1 16 j)) ∧ rcF S1 S') := by
  have h60 := hX.2.1.2
  refine dv_M_of [some (.ref 516), some (.int (nI j)), some (.int (nI 1))] (by decide) (fun _ _ => Nat.le_of_ble_eq_true rfl) (fun _ _ => rfl) ?_
  refine J_aload_n dX8_told_0 (pc' := 1) rfl rfl ?_
  refine J_iconst dX8_told_1 (pc' := 2) rfl (v := 0) ic_0 ?_
  refine J_puti fX8_1 kd_516 rf_516_0 dX8_told_2 (pc' := 5) rfl ?_
  refine J_sto (S' := S1) (h0) ?_
  refine J_aload_n dX8_told_5 (pc' := 6) rfl rfl ?_
  refine J_iload_n dX8_told_6 (pc' := 7) rfl rfl ?_
  refine J_v1 (As := [.int (nI j)]) (rest := []) (qX8_isWord _ _ _) vX8_isWord mX8_168 kd_516 dX8_told_7 (pc' := 10) rfl rfl (Nat.le_of_ble_eq_true rfl) (by decide) ?_
  refine J_bne dX8_told_10 (pt := 15) (by decide) (pc' := 13) rfl (fun c10 => ?_) (fun c10 => ?_)
  · refine J_aload_n dX8_told_15 (pc' := 16) rfl rfl ?_
    refine J_vq (As := []) (rest := []) (qX8_counts _ S1 C n w wl wm hX) vX8_counts mX8_192 kd_516 dX8_told_16 (pc' := 19) rfl rfl (Nat.le_of_ble_eq_true rfl) (by decide) ?_
    rintro r S2 ⟨rfl, hI⟩
    have hX2 := RX_fr hI.1 hX (by decide) (by decide)
    show dv_J yX8_told cX8_told 3 (some .int) (dv_rm (d + 4)) 0 0 19 [some (.ref 516), some (.int (nI j)), some (.int (nI 1))] [] S2 (fun r S' => r = some (.int (C.2.1 16 j)) ∧ rcF S1 S')
    refine J_iload_n dX8_told_19 (pc' := 20) rfl rfl ?_
    refine J_tswi (off := 43) (pt := 63) dX8_told_20 (by decide) (by decide) (by decide) (by decide) ?_
    refine J_aload_n dX8_told_63 (pc' := 64) rfl rfl ?_
    refine J_getr fX8_80 kd_516 rf_516_21 dX8_told_64 (pc' := 67) rfl ?_
    refine J_iload_n dX8_told_67 (pc' := 68) rfl rfl ?_
    refine J_iald (j := j) kd_530 (rfl) (by rw [ln_530]; omega) dX8_told_68 (pc' := 69) rfl ?_
    refine J_iret dX8_told_69 rfl (dv_r1 _) ?_
    exact ⟨by rw [(hX2.2.2.2 j hj).2.2.2.2.2.2.1], hI.1⟩
  · exact absurd (dv_has hj hX.2.1.1 (by omega)) (by rw [c10]; decide)
set_option maxRecDepth 100000 in
set_option maxHeartbeats 400000 in
theorem qX8_told2 (d : Nat) (S : dv_S) (S1 : dv_S) (C : dv_S) (n w : Nat) (wl : Nat → Nat → Int32) (wm : Nat → Nat) (j : Nat) (h0 : rS S = S1) (hX : RX S1 C n w wl wm) (hj : j < w)  : dv_M yX8_told cX8_told 3 (some .int) (dv_rm (d + 4)) [.ref 516, .int (nI j), .int (nI 2)] S (fun r S' => r = some (.int (ut C w n j)) ∧ rcF S1 S') := by
  have h60 := hX.2.1.2
  refine dv_M_of [some (.ref 516), some (.int (nI j)), some (.int (nI 2))] (by decide) (fun _ _ => Nat.le_of_ble_eq_true rfl) (fun _ _ => rfl) ?_
  refine J_aload_n dX8_told_0 (pc' := 1) rfl rfl ?_
  refine J_iconst dX8_told_1 (pc' := 2) rfl (v := 0) ic_0 ?_
  refine J_puti fX8_1 kd_516 rf_516_0 dX8_told_2 (pc' := 5) rfl ?_
  refine J_sto (S' := S1) (h0) ?_
  refine J_aload_n dX8_told_5 (pc' := 6) rfl rfl ?_
  refine J_iload_n dX8_told_6 (pc' := 7) rfl rfl ?_
  refine J_v1 (As := [.int (nI j)]) (rest := []) (qX8_isWord _ _ _) vX8_isWord mX8_168 kd_516 dX8_told_7 (pc' := 10) rfl rfl (Nat.le_of_ble_eq_true rfl) (by decide) ?_
  refine J_bne dX8_told_10 (pt := 15) (by decide) (pc' := 13) rfl (fun c10 => ?_) (fun c10 => ?_)
  · refine J_aload_n dX8_told_15 (pc' := 16) rfl rfl ?_
    refine J_vq (As := []) (rest := []) (qX8_counts _ S1 C n w wl wm hX) vX8_counts mX8_192 kd_516 dX8_told_16 (pc' := 19) rfl rfl (Nat.le_of_ble_eq_true rfl) (by decide) ?_
    rintro r S2 ⟨rfl, hI⟩
    have hX2 := RX_fr hI.1 hX (by decide) (by decide)
    show dv_J yX8_told cX8_told 3 (some .int) (dv_rm (d + 4)) 0 0 19 [some (.ref 516), some (.int (nI j)), some (.int (nI 2))] [] S2 (fun r S' => r = some (.int (ut C w n j)) ∧ rcF S1 S')
    refine J_iload_n dX8_told_19 (pc' := 20) rfl rfl ?_
    refine J_tswi (off := 50) (pt := 70) dX8_told_20 (by decide) (by decide) (by decide) (by decide) ?_
    refine J_aload_n dX8_told_70 (pc' := 71) rfl rfl ?_
    refine J_getr fX8_86 kd_516 rf_516_23 dX8_told_71 (pc' := 74) rfl ?_
    refine J_iload_n dX8_told_74 (pc' := 75) rfl rfl ?_
    refine J_iald (j := j) kd_532 (rfl) (by rw [ln_532]; omega) dX8_told_75 (pc' := 76) rfl ?_
    refine J_iret dX8_told_76 rfl (dv_r1 _) ?_
    exact ⟨by rw [hI.2 j hj], hI.1⟩
  · exact absurd (dv_has hj hX.2.1.1 (by omega)) (by rw [c10]; decide)
set_option maxRecDepth 100000 in
set_option maxHeartbeats 400000 in
theorem qX8_told3 (d : Nat) (S : dv_S) (S1 : dv_S) (C : dv_S) (n w : Nat) (wl : Nat → Nat → Int32) (wm : Nat → Nat) (j : Nat) (h0 : rS S = S1) (hX : RX S1 C n w wl wm) (hj : j < w)  : dv_M yX8_told cX8_told 3 (some .int) (dv_rm (d + 4)) [.ref 516, .int (nI j), .int (nI 3)] S (fun r S' => r = some (.int (dv_oi (dv_hd (C.2.1 17) (ut C w n) (C.2.1 17 j) w))) ∧ rcF S1 S') := by
  have h60 := hX.2.1.2
  refine dv_M_of [some (.ref 516), some (.int (nI j)), some (.int (nI 3))] (by decide) (fun _ _ => Nat.le_of_ble_eq_true rfl) (fun _ _ => rfl) ?_
  refine J_aload_n dX8_told_0 (pc' := 1) rfl rfl ?_
  refine J_iconst dX8_told_1 (pc' := 2) rfl (v := 0) ic_0 ?_
  refine J_puti fX8_1 kd_516 rf_516_0 dX8_told_2 (pc' := 5) rfl ?_
  refine J_sto (S' := S1) (h0) ?_
  refine J_aload_n dX8_told_5 (pc' := 6) rfl rfl ?_
  refine J_iload_n dX8_told_6 (pc' := 7) rfl rfl ?_
  refine J_v1 (As := [.int (nI j)]) (rest := []) (qX8_isWord _ _ _) vX8_isWord mX8_168 kd_516 dX8_told_7 (pc' := 10) rfl rfl (Nat.le_of_ble_eq_true rfl) (by decide) ?_
  refine J_bne dX8_told_10 (pt := 15) (by decide) (pc' := 13) rfl (fun c10 => ?_) (fun c10 => ?_)
  · refine J_aload_n dX8_told_15 (pc' := 16) rfl rfl ?_
    refine J_vq (As := []) (rest := []) (qX8_counts _ S1 C n w wl wm hX) vX8_counts mX8_192 kd_516 dX8_told_16 (pc' := 19) rfl rfl (Nat.le_of_ble_eq_true rfl) (by decide) ?_
    rintro r S2 ⟨rfl, hI⟩
    have hX2 := RX_fr hI.1 hX (by decide) (by decide)
    show dv_J yX8_told cX8_told 3 (some .int) (dv_rm (d + 4)) 0 0 19 [some (.ref 516), some (.int (nI j)), some (.int (nI 3))] [] S2 (fun r S' => r = some (.int (dv_oi (dv_hd (C.2.1 17) (ut C w n) (C.2.1 17 j) w))) ∧ rcF S1 S')
    refine J_iload_n dX8_told_19 (pc' := 20) rfl rfl ?_
    refine J_tswi (off := 57) (pt := 77) dX8_told_20 (by decide) (by decide) (by decide) (by decide) ?_
    refine J_aload_n dX8_told_77 (pc' := 78) rfl rfl ?_
    refine J_iload_n dX8_told_78 (pc' := 79) rfl rfl ?_
    refine J_v1 (As := [.int (nI j)]) (rest := []) (qX8_headOf _ S2 C n w wl wm (ut C w n) j hX2 hI.2 hj) vX8_headOf mX8_195 kd_516 dX8_told_79 (pc' := 82) rfl rfl (Nat.le_of_ble_eq_true rfl) (by decide) ?_
    refine J_iret dX8_told_82 rfl (dv_r1 _) ?_
    exact ⟨by rw [dv_om_oi (by obtain ⟨h, hh⟩ := dv_hd_is (g := C.2.1 17) (u := ut C w n) hj rfl; rw [hh]; rfl)], hI.1⟩
  · exact absurd (dv_has hj hX.2.1.1 (by omega)) (by rw [c10]; decide)
set_option maxRecDepth 100000 in
set_option maxHeartbeats 400000 in
theorem qX8_told4 (d : Nat) (S : dv_S) (S1 : dv_S) (C : dv_S) (n w : Nat) (wl : Nat → Nat → Int32) (wm : Nat → Nat) (j : Nat) (h0 : rS S = S1) (hX : RX S1 C n w wl wm) (hj : j < w)  : dv_M yX8_told cX8_told 3 (some .int) (dv_rm (d + 4)) [.ref 516, .int (nI j), .int (nI 4)] S (fun r S' => r = some (.int (nI (dv_ct (fun z => decide (C.2.1 17 z = C.2.1 17 j)) w))) ∧ rcF S1 S') := by
  have h60 := hX.2.1.2
  refine dv_M_of [some (.ref 516), some (.int (nI j)), some (.int (nI 4))] (by decide) (fun _ _ => Nat.le_of_ble_eq_true rfl) (fun _ _ => rfl) ?_
  refine J_aload_n dX8_told_0 (pc' := 1) rfl rfl ?_
  refine J_iconst dX8_told_1 (pc' := 2) rfl (v := 0) ic_0 ?_
  refine J_puti fX8_1 kd_516 rf_516_0 dX8_told_2 (pc' := 5) rfl ?_
  refine J_sto (S' := S1) (h0) ?_
  refine J_aload_n dX8_told_5 (pc' := 6) rfl rfl ?_
  refine J_iload_n dX8_told_6 (pc' := 7) rfl rfl ?_
  refine J_v1 (As := [.int (nI j)]) (rest := []) (qX8_isWord _ _ _) vX8_isWord mX8_168 kd_516 dX8_told_7 (pc' := 10) rfl rfl (Nat.le_of_ble_eq_true rfl) (by decide) ?_
  refine J_bne dX8_told_10 (pt := 15) (by decide) (pc' := 13) rfl (fun c10 => ?_) (fun c10 => ?_)
  · refine J_aload_n dX8_told_15 (pc' := 16) rfl rfl ?_
    refine J_vq (As := []) (rest := []) (qX8_counts _ S1 C n w wl wm hX) vX8_counts mX8_192 kd_516 dX8_told_16 (pc' := 19) rfl rfl (Nat.le_of_ble_eq_true rfl) (by decide) ?_
    rintro r S2 ⟨rfl, hI⟩
    have hX2 := RX_fr hI.1 hX (by decide) (by decide)
    show dv_J yX8_told cX8_told 3 (some .int) (dv_rm (d + 4)) 0 0 19 [some (.ref 516), some (.int (nI j)), some (.int (nI 4))] [] S2 (fun r S' => r = some (.int (nI (dv_ct (fun z => decide (C.2.1 17 z = C.2.1 17 j)) w))) ∧ rcF S1 S')
    refine J_iload_n dX8_told_19 (pc' := 20) rfl rfl ?_
    refine J_tswi (off := 63) (pt := 83) dX8_told_20 (by decide) (by decide) (by decide) (by decide) ?_
    refine J_aload_n dX8_told_83 (pc' := 84) rfl rfl ?_
    refine J_iload_n dX8_told_84 (pc' := 85) rfl rfl ?_
    refine J_v1 (As := [.int (nI j)]) (rest := []) (qX8_groupSize _ S2 C n w wl wm j hX2 hj) vX8_groupSize mX8_198 kd_516 dX8_told_85 (pc' := 88) rfl rfl (Nat.le_of_ble_eq_true rfl) (by decide) ?_
    refine J_iret dX8_told_88 rfl (dv_r1 _) ?_
    exact ⟨rfl, hI.1⟩
  · exact absurd (dv_has hj hX.2.1.1 (by omega)) (by rw [c10]; decide)
set_option maxRecDepth 100000 in
set_option maxHeartbeats 400000 in
theorem qX8_toldO (d : Nat) (S : dv_S) (S1 : dv_S) (C : dv_S) (n w : Nat) (wl : Nat → Nat → Int32) (wm : Nat → Nat) (j : Nat) (y : Int32) (h0 : rS S = S1) (hX : RX S1 C n w wl wm) (hj : j < w) (ho : y.toInt < 0 ∨ 5 ≤ y.toInt)  : dv_M yX8_told cX8_told 3 (some .int) (dv_rm (d + 4)) [.ref 516, .int (nI j), .int y] S (fun r S' => r = some (.int (-1)) ∧ rcF S1 S') := by
  have h60 := hX.2.1.2
  refine dv_M_of [some (.ref 516), some (.int (nI j)), some (.int y)] (by decide) (fun _ _ => Nat.le_of_ble_eq_true rfl) (fun _ _ => rfl) ?_
  refine J_aload_n dX8_told_0 (pc' := 1) rfl rfl ?_
  refine J_iconst dX8_told_1 (pc' := 2) rfl (v := 0) ic_0 ?_
  refine J_puti fX8_1 kd_516 rf_516_0 dX8_told_2 (pc' := 5) rfl ?_
  refine J_sto (S' := S1) (h0) ?_
  refine J_aload_n dX8_told_5 (pc' := 6) rfl rfl ?_
  refine J_iload_n dX8_told_6 (pc' := 7) rfl rfl ?_
  refine J_v1 (As := [.int (nI j)]) (rest := []) (qX8_isWord _ _ _) vX8_isWord mX8_168 kd_516 dX8_told_7 (pc' := 10) rfl rfl (Nat.le_of_ble_eq_true rfl) (by decide) ?_
  refine J_bne dX8_told_10 (pt := 15) (by decide) (pc' := 13) rfl (fun c10 => ?_) (fun c10 => ?_)
  · refine J_aload_n dX8_told_15 (pc' := 16) rfl rfl ?_
    refine J_vq (As := []) (rest := []) (qX8_counts _ S1 C n w wl wm hX) vX8_counts mX8_192 kd_516 dX8_told_16 (pc' := 19) rfl rfl (Nat.le_of_ble_eq_true rfl) (by decide) ?_
    rintro r S2 ⟨rfl, hI⟩
    have hX2 := RX_fr hI.1 hX (by decide) (by decide)
    show dv_J yX8_told cX8_told 3 (some .int) (dv_rm (d + 4)) 0 0 19 [some (.ref 516), some (.int (nI j)), some (.int y)] [] S2 (fun r S' => r = some (.int (-1)) ∧ rcF S1 S')
    refine J_iload_n dX8_told_19 (pc' := 20) rfl rfl ?_
    refine J_tswo (pt := 89) dX8_told_20 (ho.imp id (fun q => by omega)) (by decide) ?_
    refine J_iconst dX8_told_89 (pc' := 90) rfl (v := (-1)) ic_m1 ?_
    refine J_iret dX8_told_90 rfl (dv_r1 _) ?_
    exact ⟨rfl, hI.1⟩
  · exact absurd (dv_has hj hX.2.1.1 (by omega)) (by rw [c10]; decide)
set_option maxRecDepth 100000 in
set_option maxHeartbeats 400000 in
theorem qX8_partN (d : Nat) (S : dv_S) (S1 : dv_S) (x y : Int32) (h0 : rS S = S1) (hx : decide (0 ≤ x ∧ x < S1.1 516 5) = false)  : dv_M yX8_part cX8_part 3 (some .int) (dv_rm (d + 3)) [.ref 516, .int x, .int y] S (fun r S' => r = some (.int (-1)) ∧ S' = S1) := by
  refine dv_M_of [some (.ref 516), some (.int x), some (.int y)] (by decide) (fun _ _ => Nat.le_of_ble_eq_true rfl) (fun _ _ => rfl) ?_
  refine J_aload_n dX8_part_0 (pc' := 1) rfl rfl ?_
  refine J_iconst dX8_part_1 (pc' := 2) rfl (v := 0) ic_0 ?_
  refine J_puti fX8_1 kd_516 rf_516_0 dX8_part_2 (pc' := 5) rfl ?_
  refine J_sto (S' := S1) (h0) ?_
  refine J_aload_n dX8_part_5 (pc' := 6) rfl rfl ?_
  refine J_iload_n dX8_part_6 (pc' := 7) rfl rfl ?_
  refine J_v1 (As := [.int x]) (rest := []) (qX8_isThing _ _ _) vX8_isThing mX8_159 kd_516 dX8_part_7 (pc' := 10) rfl rfl (Nat.le_of_ble_eq_true rfl) (by decide) ?_
  refine J_bne dX8_part_10 (pt := 15) (by decide) (pc' := 13) rfl (fun c10 => ?_) (fun c10 => ?_)
  · exact absurd c10 (by rw [hx]; decide)
  · refine J_iconst dX8_part_13 (pc' := 14) rfl (v := (-1)) ic_m1 ?_
    refine J_iret dX8_part_14 rfl (dv_r1 _) ?_
    exact ⟨rfl, rfl⟩
set_option maxRecDepth 100000 in
set_option maxHeartbeats 400000 in
theorem qX8_partO (d : Nat) (S : dv_S) (S1 : dv_S) (C : dv_S) (n w : Nat) (wl : Nat → Nat → Int32) (wm : Nat → Nat) (t : Nat) (y : Int32) (h0 : rS S = S1) (hX : RX S1 C n w wl wm) (ht : t < n) (hy : decide (0 ≤ y ∧ y < nI (pnS C t)) = false)  : dv_M yX8_part cX8_part 3 (some .int) (dv_rm (d + 3)) [.ref 516, .int (nI t), .int y] S (fun r S' => r = some (.int (-1)) ∧ rcF S1 S') := by
  have h80 := hX.1.2
  have hm24 := (hX.2.2.1 t ht).2.1
  have hc24 : pnS C t ≤ nlS C t := cu_le _ _ _
  refine dv_M_of [some (.ref 516), some (.int (nI t)), some (.int y)] (by decide) (fun _ _ => Nat.le_of_ble_eq_true rfl) (fun _ _ => rfl) ?_
  refine J_aload_n dX8_part_0 (pc' := 1) rfl rfl ?_
  refine J_iconst dX8_part_1 (pc' := 2) rfl (v := 0) ic_0 ?_
  refine J_puti fX8_1 kd_516 rf_516_0 dX8_part_2 (pc' := 5) rfl ?_
  refine J_sto (S' := S1) (h0) ?_
  refine J_aload_n dX8_part_5 (pc' := 6) rfl rfl ?_
  refine J_iload_n dX8_part_6 (pc' := 7) rfl rfl ?_
  refine J_v1 (As := [.int (nI t)]) (rest := []) (qX8_isThing _ _ _) vX8_isThing mX8_159 kd_516 dX8_part_7 (pc' := 10) rfl rfl (Nat.le_of_ble_eq_true rfl) (by decide) ?_
  refine J_bne dX8_part_10 (pt := 15) (by decide) (pc' := 13) rfl (fun c10 => ?_) (fun c10 => ?_)
  · refine J_aload_n dX8_part_15 (pc' := 16) rfl rfl ?_
    refine J_iload_n dX8_part_16 (pc' := 17) rfl rfl ?_
    refine J_vq (As := [.int (nI t)]) (rest := []) (qX8_cuts _ S1 C n w wl wm t hX ht) vX8_cuts mX8_181 kd_516 dX8_part_17 (pc' := 20) rfl rfl (Nat.le_of_ble_eq_true rfl) (by decide) ?_
    rintro r S2 ⟨rfl, hcu⟩
    have hX2 := RX_fr hcu.1 hX (by decide) (by decide)
    have hF : rcF S1 S2 := hcu.1.mono (by decide) (by decide)
    show dv_J yX8_part cX8_part 3 (some .int) (dv_rm (d + 3)) 0 0 20 [some (.ref 516), some (.int (nI t)), some (.int y)] [] S2 (fun r S' => r = some (.int (-1)) ∧ rcF S1 S')
    refine J_iload_n dX8_part_20 (pc' := 21) rfl rfl ?_
    refine J_if_lt dX8_part_21 (pt := 41) (by decide) (pc' := 24) rfl (fun c21 => ?_) (fun c21 => ?_)
    · refine J_iconst dX8_part_41 (pc' := 42) rfl (v := (-1)) ic_m1 ?_
      refine J_iret dX8_part_42 rfl (dv_r1 _) ?_
      exact ⟨rfl, hF⟩
    · refine J_iload_n dX8_part_24 (pc' := 25) rfl rfl ?_
      refine J_aload_n dX8_part_25 (pc' := 26) rfl rfl ?_
      refine J_geti fX8_162 kd_516 rf_516_16 dX8_part_26 (pc' := 29) rfl ?_
      refine J_icmp_ge dX8_part_29 (pt := 41) (by decide) (pc' := 32) rfl (fun c29 => ?_) (fun c29 => ?_)
      · refine J_iconst dX8_part_41 (pc' := 42) rfl (v := (-1)) ic_m1 ?_
        refine J_iret dX8_part_42 rfl (dv_r1 _) ?_
        exact ⟨rfl, hF⟩
      · rw [hcu.2.1] at c29
        exact absurd ⟨Int32.not_lt.mp c21, Int32.not_le.mp c29⟩ (of_decide_eq_false hy)
  · exact absurd (dv_has ht hX.1.1 (by omega)) (by rw [c10]; decide)
set_option maxRecDepth 100000 in
set_option maxHeartbeats 400000 in
theorem qX8_partY (d : Nat) (S : dv_S) (S1 : dv_S) (C : dv_S) (n w : Nat) (wl : Nat → Nat → Int32) (wm : Nat → Nat) (t i : Nat) (h0 : rS S = S1) (hX : RX S1 C n w wl wm) (ht : t < n) (hi : i < pnS C t)  : dv_M yX8_part cX8_part 3 (some .int) (dv_rm (d + 3)) [.ref 516, .int (nI t), .int (nI i)] S (fun r S' => r = some (.int (dv_oi (pk_w C w (nfS C t) (nlS C t) i))) ∧ rcF S1 S') := by
  have h80 := hX.1.2
  have hm24 := (hX.2.2.1 t ht).2.1
  have hc24 : pnS C t ≤ nlS C t := cu_le _ _ _
  refine dv_M_of [some (.ref 516), some (.int (nI t)), some (.int (nI i))] (by decide) (fun _ _ => Nat.le_of_ble_eq_true rfl) (fun _ _ => rfl) ?_
  refine J_aload_n dX8_part_0 (pc' := 1) rfl rfl ?_
  refine J_iconst dX8_part_1 (pc' := 2) rfl (v := 0) ic_0 ?_
  refine J_puti fX8_1 kd_516 rf_516_0 dX8_part_2 (pc' := 5) rfl ?_
  refine J_sto (S' := S1) (h0) ?_
  refine J_aload_n dX8_part_5 (pc' := 6) rfl rfl ?_
  refine J_iload_n dX8_part_6 (pc' := 7) rfl rfl ?_
  refine J_v1 (As := [.int (nI t)]) (rest := []) (qX8_isThing _ _ _) vX8_isThing mX8_159 kd_516 dX8_part_7 (pc' := 10) rfl rfl (Nat.le_of_ble_eq_true rfl) (by decide) ?_
  refine J_bne dX8_part_10 (pt := 15) (by decide) (pc' := 13) rfl (fun c10 => ?_) (fun c10 => ?_)
  · refine J_aload_n dX8_part_15 (pc' := 16) rfl rfl ?_
    refine J_iload_n dX8_part_16 (pc' := 17) rfl rfl ?_
    refine J_vq (As := [.int (nI t)]) (rest := []) (qX8_cuts _ S1 C n w wl wm t hX ht) vX8_cuts mX8_181 kd_516 dX8_part_17 (pc' := 20) rfl rfl (Nat.le_of_ble_eq_true rfl) (by decide) ?_
    rintro r S2 ⟨rfl, hcu⟩
    have hX2 := RX_fr hcu.1 hX (by decide) (by decide)
    have hF : rcF S1 S2 := hcu.1.mono (by decide) (by decide)
    show dv_J yX8_part cX8_part 3 (some .int) (dv_rm (d + 3)) 0 0 20 [some (.ref 516), some (.int (nI t)), some (.int (nI i))] [] S2 (fun r S' => r = some (.int (dv_oi (pk_w C w (nfS C t) (nlS C t) i))) ∧ rcF S1 S')
    refine J_iload_n dX8_part_20 (pc' := 21) rfl rfl ?_
    refine J_if_lt dX8_part_21 (pt := 41) (by decide) (pc' := 24) rfl (fun c21 => ?_) (fun c21 => ?_)
    · exact absurd c21 (nI_pos (by omega))
    · refine J_iload_n dX8_part_24 (pc' := 25) rfl rfl ?_
      refine J_aload_n dX8_part_25 (pc' := 26) rfl rfl ?_
      refine J_geti fX8_162 kd_516 rf_516_16 dX8_part_26 (pc' := 29) rfl ?_
      refine J_icmp_ge dX8_part_29 (pt := 41) (by decide) (pc' := 32) rfl (fun c29 => ?_) (fun c29 => ?_)
      · rw [hcu.2.1] at c29
        exact absurd c29 (nI_ge hi (by have := cu_le (nfS C t) (nlS C t) (nlS C t); omega))
      · refine J_aload_n dX8_part_32 (pc' := 33) rfl rfl ?_
        refine J_iload_n dX8_part_33 (pc' := 34) rfl rfl ?_
        refine J_iload_n dX8_part_34 (pc' := 35) rfl rfl ?_
        refine J_v1 (As := [.int (nI t), .int (nI i)]) (rest := []) (qX8_wordOf _ S2 C n w wl wm t i hX2 ht hcu.2 hi) vX8_wordOf mX8_185 kd_516 dX8_part_35 (pc' := 38) rfl rfl (Nat.le_of_ble_eq_true rfl) (by decide) ?_
        refine J_goto dX8_part_38 (pc' := 42) (by decide) ?_
        refine J_iret dX8_part_42 rfl (dv_r1 _) ?_
        exact ⟨rfl, hF⟩
  · exact absurd (dv_has ht hX.1.1 (by omega)) (by rw [c10]; decide)
set_option maxRecDepth 100000 in
set_option maxHeartbeats 400000 in
theorem qX8_aboutN (d : Nat) (S : dv_S) (S1 : dv_S) (x y : Int32) (h0 : rS S = S1) (hx : decide (0 ≤ x ∧ x < S1.1 516 5) = false)  : dv_M yX8_about cX8_about 5 (some .int) (dv_rm (d + 4)) [.ref 516, .int x, .int y] S (fun r S' => r = some (.int (-1)) ∧ S' = S1) := by
  refine dv_M_of [some (.ref 516), some (.int x), some (.int y), none, none] (by decide) (fun _ _ => Nat.le_of_ble_eq_true rfl) (fun _ _ => rfl) ?_
  refine J_aload_n dX8_about_0 (pc' := 1) rfl rfl ?_
  refine J_iconst dX8_about_1 (pc' := 2) rfl (v := 0) ic_0 ?_
  refine J_puti fX8_1 kd_516 rf_516_0 dX8_about_2 (pc' := 5) rfl ?_
  refine J_sto (S' := S1) (h0) ?_
  refine J_aload_n dX8_about_5 (pc' := 6) rfl rfl ?_
  refine J_iload_n dX8_about_6 (pc' := 7) rfl rfl ?_
  refine J_v1 (As := [.int x]) (rest := []) (qX8_isThing _ _ _) vX8_isThing mX8_159 kd_516 dX8_about_7 (pc' := 10) rfl rfl (Nat.le_of_ble_eq_true rfl) (by decide) ?_
  refine J_bne dX8_about_10 (pt := 15) (by decide) (pc' := 13) rfl (fun c10 => ?_) (fun c10 => ?_)
  · exact absurd c10 (by rw [hx]; decide)
  · refine J_iconst dX8_about_13 (pc' := 14) rfl (v := (-1)) ic_m1 ?_
    refine J_iret dX8_about_14 rfl (dv_r1 _) ?_
    exact ⟨rfl, rfl⟩
set_option maxRecDepth 100000 in
set_option maxHeartbeats 400000 in
theorem qX8_about0 (d : Nat) (S : dv_S) (S1 : dv_S) (C : dv_S) (n w : Nat) (wl : Nat → Nat → Int32) (wm : Nat → Nat) (t : Nat) (h0 : rS S = S1) (hX : RX S1 C n w wl wm) (ht : t < n)  : dv_M yX8_about cX8_about 5 (some .int) (dv_rm (d + 4)) [.ref 516, .int (nI t), .int (nI 0)] S (fun r S' => r = some (.int (S1.2.1 519 t)) ∧ rcF S1 S') := by
  have h80 := hX.1.2
  have hm24 := (hX.2.2.1 t ht).2.1
  have hc24 : pnS C t ≤ nlS C t := cu_le _ _ _
  refine dv_M_of [some (.ref 516), some (.int (nI t)), some (.int (nI 0)), none, none] (by decide) (fun _ _ => Nat.le_of_ble_eq_true rfl) (fun _ _ => rfl) ?_
  refine J_aload_n dX8_about_0 (pc' := 1) rfl rfl ?_
  refine J_iconst dX8_about_1 (pc' := 2) rfl (v := 0) ic_0 ?_
  refine J_puti fX8_1 kd_516 rf_516_0 dX8_about_2 (pc' := 5) rfl ?_
  refine J_sto (S' := S1) (h0) ?_
  refine J_aload_n dX8_about_5 (pc' := 6) rfl rfl ?_
  refine J_iload_n dX8_about_6 (pc' := 7) rfl rfl ?_
  refine J_v1 (As := [.int (nI t)]) (rest := []) (qX8_isThing _ _ _) vX8_isThing mX8_159 kd_516 dX8_about_7 (pc' := 10) rfl rfl (Nat.le_of_ble_eq_true rfl) (by decide) ?_
  refine J_bne dX8_about_10 (pt := 15) (by decide) (pc' := 13) rfl (fun c10 => ?_) (fun c10 => ?_)
  · refine J_aload_n dX8_about_15 (pc' := 16) rfl rfl ?_
    refine J_iload_n dX8_about_16 (pc' := 17) rfl rfl ?_
    refine J_vq (As := [.int (nI t)]) (rest := []) (qX8_cuts _ S1 C n w wl wm t hX ht) vX8_cuts mX8_181 kd_516 dX8_about_17 (pc' := 20) rfl rfl (Nat.le_of_ble_eq_true rfl) (by decide) ?_
    rintro r S2 ⟨rfl, hcu⟩
    have hX2 := RX_fr hcu.1 hX (by decide) (by decide)
    have hF : rcF S1 S2 := hcu.1.mono (by decide) (by decide)
    show dv_J yX8_about cX8_about 5 (some .int) (dv_rm (d + 4)) 0 0 20 [some (.ref 516), some (.int (nI t)), some (.int (nI 0)), none, none] [] S2 (fun r S' => r = some (.int (S1.2.1 519 t)) ∧ rcF S1 S')
    refine J_iload_n dX8_about_20 (pc' := 21) rfl rfl ?_
    refine J_tswi (off := 43) (pt := 64) dX8_about_21 (by decide) (by decide) (by decide) (by decide) ?_
    refine J_aload_n dX8_about_64 (pc' := 65) rfl rfl ?_
    refine J_getr fX8_47 kd_516 rf_516_8 dX8_about_65 (pc' := 68) rfl ?_
    refine J_iload_n dX8_about_68 (pc' := 69) rfl rfl ?_
    refine J_iald (j := t) kd_519 (rfl) (by rw [ln_519]; omega) dX8_about_69 (pc' := 70) rfl ?_
    refine J_iret dX8_about_70 rfl (dv_r1 _) ?_
    exact ⟨by rw [hF.2.1 519 (by decide)], hF⟩
  · exact absurd (dv_has ht hX.1.1 (by omega)) (by rw [c10]; decide)
set_option maxRecDepth 100000 in
set_option maxHeartbeats 400000 in
theorem qX8_about1 (d : Nat) (S : dv_S) (S1 : dv_S) (C : dv_S) (n w : Nat) (wl : Nat → Nat → Int32) (wm : Nat → Nat) (t : Nat) (h0 : rS S = S1) (hX : RX S1 C n w wl wm) (ht : t < n)  : dv_M yX8_about cX8_about 5 (some .int) (dv_rm (d + 4)) [.ref 516, .int (nI t), .int (nI 1)] S (fun r S' => r = some (.int (C.2.1 23 t)) ∧ rcF S1 S') := by
  have h80 := hX.1.2
  have hm24 := (hX.2.2.1 t ht).2.1
  have hc24 : pnS C t ≤ nlS C t := cu_le _ _ _
  refine dv_M_of [some (.ref 516), some (.int (nI t)), some (.int (nI 1)), none, none] (by decide) (fun _ _ => Nat.le_of_ble_eq_true rfl) (fun _ _ => rfl) ?_
  refine J_aload_n dX8_about_0 (pc' := 1) rfl rfl ?_
  refine J_iconst dX8_about_1 (pc' := 2) rfl (v := 0) ic_0 ?_
  refine J_puti fX8_1 kd_516 rf_516_0 dX8_about_2 (pc' := 5) rfl ?_
  refine J_sto (S' := S1) (h0) ?_
  refine J_aload_n dX8_about_5 (pc' := 6) rfl rfl ?_
  refine J_iload_n dX8_about_6 (pc' := 7) rfl rfl ?_
  refine J_v1 (As := [.int (nI t)]) (rest := []) (qX8_isThing _ _ _) vX8_isThing mX8_159 kd_516 dX8_about_7 (pc' := 10) rfl rfl (Nat.le_of_ble_eq_true rfl) (by decide) ?_
  refine J_bne dX8_about_10 (pt := 15) (by decide) (pc' := 13) rfl (fun c10 => ?_) (fun c10 => ?_)
  · refine J_aload_n dX8_about_15 (pc' := 16) rfl rfl ?_
    refine J_iload_n dX8_about_16 (pc' := 17) rfl rfl ?_
    refine J_vq (As := [.int (nI t)]) (rest := []) (qX8_cuts _ S1 C n w wl wm t hX ht) vX8_cuts mX8_181 kd_516 dX8_about_17 (pc' := 20) rfl rfl (Nat.le_of_ble_eq_true rfl) (by decide) ?_
    rintro r S2 ⟨rfl, hcu⟩
    have hX2 := RX_fr hcu.1 hX (by decide) (by decide)
    have hF : rcF S1 S2 := hcu.1.mono (by decide) (by decide)
    show dv_J yX8_about cX8_about 5 (some .int) (dv_rm (d + 4)) 0 0 20 [some (.ref 516), some (.int (nI t)), some (.int (nI 1)), none, none] [] S2 (fun r S' => r = some (.int (C.2.1 23 t)) ∧ rcF S1 S')
    refine J_iload_n dX8_about_20 (pc' := 21) rfl rfl ?_
    refine J_tswi (off := 50) (pt := 71) dX8_about_21 (by decide) (by decide) (by decide) (by decide) ?_
    refine J_aload_n dX8_about_71 (pc' := 72) rfl rfl ?_
    refine J_getr fX8_50 kd_516 rf_516_9 dX8_about_72 (pc' := 75) rfl ?_
    refine J_iload_n dX8_about_75 (pc' := 76) rfl rfl ?_
    refine J_iald (j := t) kd_520 (rfl) (by rw [ln_520]; omega) dX8_about_76 (pc' := 77) rfl ?_
    refine J_iret dX8_about_77 rfl (dv_r1 _) ?_
    exact ⟨by rw [(hX2.2.2.1 t ht).2.2.2], hF⟩
  · exact absurd (dv_has ht hX.1.1 (by omega)) (by rw [c10]; decide)
set_option maxRecDepth 100000 in
set_option maxHeartbeats 400000 in
theorem qX8_about2 (d : Nat) (S : dv_S) (S1 : dv_S) (C : dv_S) (n w : Nat) (wl : Nat → Nat → Int32) (wm : Nat → Nat) (t : Nat) (h0 : rS S = S1) (hX : RX S1 C n w wl wm) (ht : t < n)  : dv_M yX8_about cX8_about 5 (some .int) (dv_rm (d + 4)) [.ref 516, .int (nI t), .int (nI 2)] S (fun r S' => r = some (.int (nI (nlS C t))) ∧ rcF S1 S') := by
  have h80 := hX.1.2
  have hm24 := (hX.2.2.1 t ht).2.1
  have hc24 : pnS C t ≤ nlS C t := cu_le _ _ _
  refine dv_M_of [some (.ref 516), some (.int (nI t)), some (.int (nI 2)), none, none] (by decide) (fun _ _ => Nat.le_of_ble_eq_true rfl) (fun _ _ => rfl) ?_
  refine J_aload_n dX8_about_0 (pc' := 1) rfl rfl ?_
  refine J_iconst dX8_about_1 (pc' := 2) rfl (v := 0) ic_0 ?_
  refine J_puti fX8_1 kd_516 rf_516_0 dX8_about_2 (pc' := 5) rfl ?_
  refine J_sto (S' := S1) (h0) ?_
  refine J_aload_n dX8_about_5 (pc' := 6) rfl rfl ?_
  refine J_iload_n dX8_about_6 (pc' := 7) rfl rfl ?_
  refine J_v1 (As := [.int (nI t)]) (rest := []) (qX8_isThing _ _ _) vX8_isThing mX8_159 kd_516 dX8_about_7 (pc' := 10) rfl rfl (Nat.le_of_ble_eq_true rfl) (by decide) ?_
  refine J_bne dX8_about_10 (pt := 15) (by decide) (pc' := 13) rfl (fun c10 => ?_) (fun c10 => ?_)
  · refine J_aload_n dX8_about_15 (pc' := 16) rfl rfl ?_
    refine J_iload_n dX8_about_16 (pc' := 17) rfl rfl ?_
    refine J_vq (As := [.int (nI t)]) (rest := []) (qX8_cuts _ S1 C n w wl wm t hX ht) vX8_cuts mX8_181 kd_516 dX8_about_17 (pc' := 20) rfl rfl (Nat.le_of_ble_eq_true rfl) (by decide) ?_
    rintro r S2 ⟨rfl, hcu⟩
    have hX2 := RX_fr hcu.1 hX (by decide) (by decide)
    have hF : rcF S1 S2 := hcu.1.mono (by decide) (by decide)
    show dv_J yX8_about cX8_about 5 (some .int) (dv_rm (d + 4)) 0 0 20 [some (.ref 516), some (.int (nI t)), some (.int (nI 2)), none, none] [] S2 (fun r S' => r = some (.int (nI (nlS C t))) ∧ rcF S1 S')
    refine J_iload_n dX8_about_20 (pc' := 21) rfl rfl ?_
    refine J_tswi (off := 57) (pt := 78) dX8_about_21 (by decide) (by decide) (by decide) (by decide) ?_
    refine J_aload_n dX8_about_78 (pc' := 79) rfl rfl ?_
    refine J_getr fX8_53 kd_516 rf_516_10 dX8_about_79 (pc' := 82) rfl ?_
    refine J_iload_n dX8_about_82 (pc' := 83) rfl rfl ?_
    refine J_iald (j := t) kd_521 (rfl) (by rw [ln_521]; omega) dX8_about_83 (pc' := 84) rfl ?_
    refine J_iret dX8_about_84 rfl (dv_r1 _) ?_
    exact ⟨by rw [(hX2.2.2.1 t ht).1], hF⟩
  · exact absurd (dv_has ht hX.1.1 (by omega)) (by rw [c10]; decide)
set_option maxRecDepth 100000 in
set_option maxHeartbeats 400000 in
theorem qX8_about3 (d : Nat) (S : dv_S) (S1 : dv_S) (C : dv_S) (n w : Nat) (wl : Nat → Nat → Int32) (wm : Nat → Nat) (t : Nat) (h0 : rS S = S1) (hX : RX S1 C n w wl wm) (ht : t < n)  : dv_M yX8_about cX8_about 5 (some .int) (dv_rm (d + 4)) [.ref 516, .int (nI t), .int (nI 3)] S (fun r S' => r = some (.int (nI (pnS C t))) ∧ rcF S1 S') := by
  have h80 := hX.1.2
  have hm24 := (hX.2.2.1 t ht).2.1
  have hc24 : pnS C t ≤ nlS C t := cu_le _ _ _
  refine dv_M_of [some (.ref 516), some (.int (nI t)), some (.int (nI 3)), none, none] (by decide) (fun _ _ => Nat.le_of_ble_eq_true rfl) (fun _ _ => rfl) ?_
  refine J_aload_n dX8_about_0 (pc' := 1) rfl rfl ?_
  refine J_iconst dX8_about_1 (pc' := 2) rfl (v := 0) ic_0 ?_
  refine J_puti fX8_1 kd_516 rf_516_0 dX8_about_2 (pc' := 5) rfl ?_
  refine J_sto (S' := S1) (h0) ?_
  refine J_aload_n dX8_about_5 (pc' := 6) rfl rfl ?_
  refine J_iload_n dX8_about_6 (pc' := 7) rfl rfl ?_
  refine J_v1 (As := [.int (nI t)]) (rest := []) (qX8_isThing _ _ _) vX8_isThing mX8_159 kd_516 dX8_about_7 (pc' := 10) rfl rfl (Nat.le_of_ble_eq_true rfl) (by decide) ?_
  refine J_bne dX8_about_10 (pt := 15) (by decide) (pc' := 13) rfl (fun c10 => ?_) (fun c10 => ?_)
  · refine J_aload_n dX8_about_15 (pc' := 16) rfl rfl ?_
    refine J_iload_n dX8_about_16 (pc' := 17) rfl rfl ?_
    refine J_vq (As := [.int (nI t)]) (rest := []) (qX8_cuts _ S1 C n w wl wm t hX ht) vX8_cuts mX8_181 kd_516 dX8_about_17 (pc' := 20) rfl rfl (Nat.le_of_ble_eq_true rfl) (by decide) ?_
    rintro r S2 ⟨rfl, hcu⟩
    have hX2 := RX_fr hcu.1 hX (by decide) (by decide)
    have hF : rcF S1 S2 := hcu.1.mono (by decide) (by decide)
    show dv_J yX8_about cX8_about 5 (some .int) (dv_rm (d + 4)) 0 0 20 [some (.ref 516), some (.int (nI t)), some (.int (nI 3)), none, none] [] S2 (fun r S' => r = some (.int (nI (pnS C t))) ∧ rcF S1 S')
    refine J_iload_n dX8_about_20 (pc' := 21) rfl rfl ?_
    refine J_tswi (off := 64) (pt := 85) dX8_about_21 (by decide) (by decide) (by decide) (by decide) ?_
    refine J_aload_n dX8_about_85 (pc' := 86) rfl rfl ?_
    refine J_geti fX8_162 kd_516 rf_516_16 dX8_about_86 (pc' := 89) rfl ?_
    refine J_iret dX8_about_89 rfl (dv_r1 _) ?_
    exact ⟨by rw [hcu.2.1], hF⟩
  · exact absurd (dv_has ht hX.1.1 (by omega)) (by rw [c10]; decide)
set_option maxRecDepth 100000 in
set_option maxHeartbeats 400000 in
theorem qX8_about4 (d : Nat) (S : dv_S) (S1 : dv_S) (C : dv_S) (n w : Nat) (wl : Nat → Nat → Int32) (wm : Nat → Nat) (t : Nat) (h0 : rS S = S1) (hX : RX S1 C n w wl wm) (ht : t < n)  : dv_M yX8_about cX8_about 5 (some .int) (dv_rm (d + 4)) [.ref 516, .int (nI t), .int (nI 4)] S (fun r S' => r = some (.int (stS C t)) ∧ rcF S1 S') := by
  have h80 := hX.1.2
  have hm24 := (hX.2.2.1 t ht).2.1
  have hc24 : pnS C t ≤ nlS C t := cu_le _ _ _
  refine dv_M_of [some (.ref 516), some (.int (nI t)), some (.int (nI 4)), none, none] (by decide) (fun _ _ => Nat.le_of_ble_eq_true rfl) (fun _ _ => rfl) ?_
  refine J_aload_n dX8_about_0 (pc' := 1) rfl rfl ?_
  refine J_iconst dX8_about_1 (pc' := 2) rfl (v := 0) ic_0 ?_
  refine J_puti fX8_1 kd_516 rf_516_0 dX8_about_2 (pc' := 5) rfl ?_
  refine J_sto (S' := S1) (h0) ?_
  refine J_aload_n dX8_about_5 (pc' := 6) rfl rfl ?_
  refine J_iload_n dX8_about_6 (pc' := 7) rfl rfl ?_
  refine J_v1 (As := [.int (nI t)]) (rest := []) (qX8_isThing _ _ _) vX8_isThing mX8_159 kd_516 dX8_about_7 (pc' := 10) rfl rfl (Nat.le_of_ble_eq_true rfl) (by decide) ?_
  refine J_bne dX8_about_10 (pt := 15) (by decide) (pc' := 13) rfl (fun c10 => ?_) (fun c10 => ?_)
  · refine J_aload_n dX8_about_15 (pc' := 16) rfl rfl ?_
    refine J_iload_n dX8_about_16 (pc' := 17) rfl rfl ?_
    refine J_vq (As := [.int (nI t)]) (rest := []) (qX8_cuts _ S1 C n w wl wm t hX ht) vX8_cuts mX8_181 kd_516 dX8_about_17 (pc' := 20) rfl rfl (Nat.le_of_ble_eq_true rfl) (by decide) ?_
    rintro r S2 ⟨rfl, hcu⟩
    have hX2 := RX_fr hcu.1 hX (by decide) (by decide)
    have hF : rcF S1 S2 := hcu.1.mono (by decide) (by decide)
    show dv_J yX8_about cX8_about 5 (some .int) (dv_rm (d + 4)) 0 0 20 [some (.ref 516), some (.int (nI t)), some (.int (nI 4)), none, none] [] S2 (fun r S' => r = some (.int (stS C t)) ∧ rcF S1 S')
    refine J_iload_n dX8_about_20 (pc' := 21) rfl rfl ?_
    refine J_tswi (off := 69) (pt := 90) dX8_about_21 (by decide) (by decide) (by decide) (by decide) ?_
    refine J_aload_n dX8_about_90 (pc' := 91) rfl rfl ?_
    refine J_iload_n dX8_about_91 (pc' := 92) rfl rfl ?_
    refine J_v1 (As := [.int (nI t)]) (rest := []) (qX8_styleOf _ S2 C n w wl wm t hX2 ht) vX8_styleOf mX8_201 kd_516 dX8_about_92 (pc' := 95) rfl rfl (Nat.le_of_ble_eq_true rfl) (by decide) ?_
    refine J_iret dX8_about_95 rfl (dv_r1 _) ?_
    exact ⟨rfl, hF⟩
  · exact absurd (dv_has ht hX.1.1 (by omega)) (by rw [c10]; decide)
set_option maxRecDepth 100000 in
set_option maxHeartbeats 400000 in
theorem qX8_about5 (d : Nat) (S : dv_S) (S1 : dv_S) (C : dv_S) (n w : Nat) (wl : Nat → Nat → Int32) (wm : Nat → Nat) (t : Nat) (h0 : rS S = S1) (hX : RX S1 C n w wl wm) (ht : t < n)  : dv_M yX8_about cX8_about 5 (some .int) (dv_rm (d + 4)) [.ref 516, .int (nI t), .int (nI 5)] S (fun r S' => r = some (.int (ptS C w t)) ∧ rcF S1 S') := by
  have h80 := hX.1.2
  have hm24 := (hX.2.2.1 t ht).2.1
  have hc24 : pnS C t ≤ nlS C t := cu_le _ _ _
  refine dv_M_of [some (.ref 516), some (.int (nI t)), some (.int (nI 5)), none, none] (by decide) (fun _ _ => Nat.le_of_ble_eq_true rfl) (fun _ _ => rfl) ?_
  refine J_aload_n dX8_about_0 (pc' := 1) rfl rfl ?_
  refine J_iconst dX8_about_1 (pc' := 2) rfl (v := 0) ic_0 ?_
  refine J_puti fX8_1 kd_516 rf_516_0 dX8_about_2 (pc' := 5) rfl ?_
  refine J_sto (S' := S1) (h0) ?_
  refine J_aload_n dX8_about_5 (pc' := 6) rfl rfl ?_
  refine J_iload_n dX8_about_6 (pc' := 7) rfl rfl ?_
  refine J_v1 (As := [.int (nI t)]) (rest := []) (qX8_isThing _ _ _) vX8_isThing mX8_159 kd_516 dX8_about_7 (pc' := 10) rfl rfl (Nat.le_of_ble_eq_true rfl) (by decide) ?_
  refine J_bne dX8_about_10 (pt := 15) (by decide) (pc' := 13) rfl (fun c10 => ?_) (fun c10 => ?_)
  · refine J_aload_n dX8_about_15 (pc' := 16) rfl rfl ?_
    refine J_iload_n dX8_about_16 (pc' := 17) rfl rfl ?_
    refine J_vq (As := [.int (nI t)]) (rest := []) (qX8_cuts _ S1 C n w wl wm t hX ht) vX8_cuts mX8_181 kd_516 dX8_about_17 (pc' := 20) rfl rfl (Nat.le_of_ble_eq_true rfl) (by decide) ?_
    rintro r S2 ⟨rfl, hcu⟩
    have hX2 := RX_fr hcu.1 hX (by decide) (by decide)
    have hF : rcF S1 S2 := hcu.1.mono (by decide) (by decide)
    show dv_J yX8_about cX8_about 5 (some .int) (dv_rm (d + 4)) 0 0 20 [some (.ref 516), some (.int (nI t)), some (.int (nI 5)), none, none] [] S2 (fun r S' => r = some (.int (ptS C w t)) ∧ rcF S1 S')
    refine J_iload_n dX8_about_20 (pc' := 21) rfl rfl ?_
    refine J_tswi (off := 75) (pt := 96) dX8_about_21 (by decide) (by decide) (by decide) (by decide) ?_
    refine J_aload_n dX8_about_96 (pc' := 97) rfl rfl ?_
    refine J_iload_n dX8_about_97 (pc' := 98) rfl rfl ?_
    refine J_vq (As := [.int (nI t)]) (rest := []) (qX8_patternOf _ S2 C n w wl wm t hX2 ht) vX8_patternOf mX8_204 kd_516 dX8_about_98 (pc' := 101) rfl rfl (Nat.le_of_ble_eq_true rfl) (by decide) ?_
    rintro r S3 ⟨rfl, hp⟩
    show dv_J yX8_about cX8_about 5 (some .int) (dv_rm (d + 4)) 0 0 101 [some (.ref 516), some (.int (nI t)), some (.int (nI 5)), none, none] [.int (ptS C w t)] S3 (fun r S' => r = some (.int (ptS C w t)) ∧ rcF S1 S')
    refine J_iret dX8_about_101 rfl (dv_r1 _) ?_
    exact ⟨rfl, hF.tr (hp.mono (by decide) (by decide))⟩
  · exact absurd (dv_has ht hX.1.1 (by omega)) (by rw [c10]; decide)
set_option maxRecDepth 100000 in
set_option maxHeartbeats 400000 in
theorem qX8_about6 (d : Nat) (S : dv_S) (S1 : dv_S) (C : dv_S) (n w : Nat) (wl : Nat → Nat → Int32) (wm : Nat → Nat) (t un : Nat) (h0 : rS S = S1) (hX : RX S1 C n w wl wm) (ht : t < n) (hu : S1.1 516 6 = nI un) (hu150 : un ≤ 150)  : dv_M yX8_about cX8_about 5 (some .int) (dv_rm (d + 4)) [.ref 516, .int (nI t), .int (nI 6)] S (fun r S' => r = some (.int (nI (dv_ct (fun u => decide (S1.2.1 523 u = nI t)) un))) ∧ rcF S1 S') := by
  have h80 := hX.1.2
  have hm24 := (hX.2.2.1 t ht).2.1
  have hc24 : pnS C t ≤ nlS C t := cu_le _ _ _
  refine dv_M_of [some (.ref 516), some (.int (nI t)), some (.int (nI 6)), none, none] (by decide) (fun _ _ => Nat.le_of_ble_eq_true rfl) (fun _ _ => rfl) ?_
  refine J_aload_n dX8_about_0 (pc' := 1) rfl rfl ?_
  refine J_iconst dX8_about_1 (pc' := 2) rfl (v := 0) ic_0 ?_
  refine J_puti fX8_1 kd_516 rf_516_0 dX8_about_2 (pc' := 5) rfl ?_
  refine J_sto (S' := S1) (h0) ?_
  refine J_aload_n dX8_about_5 (pc' := 6) rfl rfl ?_
  refine J_iload_n dX8_about_6 (pc' := 7) rfl rfl ?_
  refine J_v1 (As := [.int (nI t)]) (rest := []) (qX8_isThing _ _ _) vX8_isThing mX8_159 kd_516 dX8_about_7 (pc' := 10) rfl rfl (Nat.le_of_ble_eq_true rfl) (by decide) ?_
  refine J_bne dX8_about_10 (pt := 15) (by decide) (pc' := 13) rfl (fun c10 => ?_) (fun c10 => ?_)
  · refine J_aload_n dX8_about_15 (pc' := 16) rfl rfl ?_
    refine J_iload_n dX8_about_16 (pc' := 17) rfl rfl ?_
    refine J_vq (As := [.int (nI t)]) (rest := []) (qX8_cuts _ S1 C n w wl wm t hX ht) vX8_cuts mX8_181 kd_516 dX8_about_17 (pc' := 20) rfl rfl (Nat.le_of_ble_eq_true rfl) (by decide) ?_
    rintro r S2 ⟨rfl, hcu⟩
    have hX2 := RX_fr hcu.1 hX (by decide) (by decide)
    have hF : rcF S1 S2 := hcu.1.mono (by decide) (by decide)
    show dv_J yX8_about cX8_about 5 (some .int) (dv_rm (d + 4)) 0 0 20 [some (.ref 516), some (.int (nI t)), some (.int (nI 6)), none, none] [] S2 (fun r S' => r = some (.int (nI (dv_ct (fun u => decide (S1.2.1 523 u = nI t)) un))) ∧ rcF S1 S')
    refine J_iload_n dX8_about_20 (pc' := 21) rfl rfl ?_
    refine J_tswi (off := 81) (pt := 102) dX8_about_21 (by decide) (by decide) (by decide) (by decide) ?_
    refine J_iconst dX8_about_102 (pc' := 103) rfl (v := 0) ic_0 ?_
    refine J_istore_n dX8_about_103 (pc' := 104) rfl rfl (by decide) rfl (l' := [some (.ref 516), some (.int (nI t)), some (.int (nI 6)), some (.int 0), none]) rfl ?_
    refine J_iconst dX8_about_104 (pc' := 105) rfl (v := 0) ic_0 ?_
    refine J_istore dX8_about_105 (pc' := 107) rfl (by decide) rfl (l' := [some (.ref 516), some (.int (nI t)), some (.int (nI 6)), some (.int 0), some (.int 0)]) rfl ?_
    have hlp107 : ∀ i, i ≤ un → dv_J yX8_about cX8_about 5 (some .int) (dv_rm (d + 4)) 0 0 107 [some (.ref 516), some (.int (nI t)), some (.int (nI 6)), some (.int (nI (dv_ct (fun u => decide (S1.2.1 523 u = nI t)) i))), some (.int (nI i))] [] S2 (fun r S' => r = some (.int (nI (dv_ct (fun u => decide (S1.2.1 523 u = nI t)) un))) ∧ rcF S1 S') := by
      refine dv_up (P := fun i => dv_J yX8_about cX8_about 5 (some .int) (dv_rm (d + 4)) 0 0 107 [some (.ref 516), some (.int (nI t)), some (.int (nI 6)), some (.int (nI (dv_ct (fun u => decide (S1.2.1 523 u = nI t)) i))), some (.int (nI i))] [] S2 (fun r S' => r = some (.int (nI (dv_ct (fun u => decide (S1.2.1 523 u = nI t)) un))) ∧ rcF S1 S')) ?_
      intro i hi107 ih107 
      refine J_iload dX8_about_107 (pc' := 109) rfl rfl ?_
      refine J_aload_n dX8_about_109 (pc' := 110) rfl rfl ?_
      refine J_geti fX8_137 kd_516 rf_516_6 dX8_about_110 (pc' := 113) rfl ?_
      refine J_top (w := .int (nI un)) (by rw [hF.1 516 6 (by decide), hu]) ?_
      refine J_icmp_ge dX8_about_113 (pt := 141) (by decide) (pc' := 116) rfl (fun c113 => ?_) (fun c113 => ?_)
      · have hx := dv_ge hi107 (by omega) c113
        refine J_iload_n dX8_about_141 (pc' := 142) rfl rfl ?_
        refine J_iret dX8_about_142 rfl (dv_r1 _) ?_
        exact ⟨by rw [hx], hF⟩
      · have hx := dv_nge hi107 (by omega) c113
        refine J_iload_n dX8_about_116 (pc' := 117) rfl rfl ?_
        have hj133 : ∀ jv : Int32, (dv_b (decide (S1.2.1 523 i = nI t))) = jv → dv_J yX8_about cX8_about 5 (some .int) (dv_rm (d + 4)) 0 0 133 [some (.ref 516), some (.int (nI t)), some (.int (nI 6)), some (.int (nI (dv_ct (fun u => decide (S1.2.1 523 u = nI t)) i))), some (.int (nI i))] [.int jv, .int (nI (dv_ct (fun u => decide (S1.2.1 523 u = nI t)) i))] S2 (fun r S' => r = some (.int (nI (dv_ct (fun u => decide (S1.2.1 523 u = nI t)) un))) ∧ rcF S1 S') := by
          intro jv hjv
          subst hjv
          refine J_iadd dX8_about_133 (pc' := 134) rfl ?_
          refine J_top (w := .int (nI (dv_ct (fun u => decide (S1.2.1 523 u = nI t)) (i + 1)))) (by rw [← ct_b]) ?_
          refine J_istore_n dX8_about_134 (pc' := 135) rfl rfl (by decide) rfl (l' := [some (.ref 516), some (.int (nI t)), some (.int (nI 6)), some (.int (nI (dv_ct (fun u => decide (S1.2.1 523 u = nI t)) (i + 1)))), some (.int (nI i))]) rfl ?_
          refine J_iinc dX8_about_135 (pc' := 138) rfl rfl (v := nI (i + 1)) (nI_1 i) (by decide) rfl (l' := [some (.ref 516), some (.int (nI t)), some (.int (nI 6)), some (.int (nI (dv_ct (fun u => decide (S1.2.1 523 u = nI t)) (i + 1)))), some (.int (nI (i + 1)))]) rfl ?_
          refine J_goto dX8_about_138 (pc' := 107) (by decide) ?_
          exact ih107 (i + 1) (by omega) (by omega)
        refine J_aload_n dX8_about_117 (pc' := 118) rfl rfl ?_
        refine J_getr fX8_59 kd_516 rf_516_12 dX8_about_118 (pc' := 121) rfl ?_
        refine J_iload dX8_about_121 (pc' := 123) rfl rfl ?_
        refine J_iald (j := i) kd_523 (rfl) (by rw [ln_523]; omega) dX8_about_123 (pc' := 124) rfl ?_
        refine J_top (w := .int (S1.2.1 523 i)) (by rw [hF.2.1 523 (by decide)]) ?_
        refine J_iload_n dX8_about_124 (pc' := 125) rfl rfl ?_
        refine J_icmp_ne dX8_about_125 (pt := 132) (by decide) (pc' := 128) rfl (fun c125 => ?_) (fun c125 => ?_)
        · refine J_iconst dX8_about_132 (pc' := 133) rfl (v := 0) ic_0 ?_
          exact hj133 _ (by simp [dv_b, c125])
        · refine J_iconst dX8_about_128 (pc' := 129) rfl (v := 1) ic_1 ?_
          refine J_goto dX8_about_129 (pc' := 133) (by decide) ?_
          exact hj133 _ (by simp [dv_b, c125])
    refine J_loc (l' := [some (.ref 516), some (.int (nI t)), some (.int (nI 6)), some (.int (nI (dv_ct (fun u => decide (S1.2.1 523 u = nI t)) 0))), some (.int (nI 0))]) (by simp only [nI_0, dv_ct]) ?_
    exact hlp107 0 (Nat.zero_le _) 
  · exact absurd (dv_has ht hX.1.1 (by omega)) (by rw [c10]; decide)
set_option maxRecDepth 100000 in
set_option maxHeartbeats 400000 in
theorem qX8_aboutO (d : Nat) (S : dv_S) (S1 : dv_S) (C : dv_S) (n w : Nat) (wl : Nat → Nat → Int32) (wm : Nat → Nat) (t : Nat) (y : Int32) (h0 : rS S = S1) (hX : RX S1 C n w wl wm) (ht : t < n) (ho : y.toInt < 0 ∨ 7 ≤ y.toInt)  : dv_M yX8_about cX8_about 5 (some .int) (dv_rm (d + 4)) [.ref 516, .int (nI t), .int y] S (fun r S' => r = some (.int (-1)) ∧ rcF S1 S') := by
  have h80 := hX.1.2
  have hm24 := (hX.2.2.1 t ht).2.1
  have hc24 : pnS C t ≤ nlS C t := cu_le _ _ _
  refine dv_M_of [some (.ref 516), some (.int (nI t)), some (.int y), none, none] (by decide) (fun _ _ => Nat.le_of_ble_eq_true rfl) (fun _ _ => rfl) ?_
  refine J_aload_n dX8_about_0 (pc' := 1) rfl rfl ?_
  refine J_iconst dX8_about_1 (pc' := 2) rfl (v := 0) ic_0 ?_
  refine J_puti fX8_1 kd_516 rf_516_0 dX8_about_2 (pc' := 5) rfl ?_
  refine J_sto (S' := S1) (h0) ?_
  refine J_aload_n dX8_about_5 (pc' := 6) rfl rfl ?_
  refine J_iload_n dX8_about_6 (pc' := 7) rfl rfl ?_
  refine J_v1 (As := [.int (nI t)]) (rest := []) (qX8_isThing _ _ _) vX8_isThing mX8_159 kd_516 dX8_about_7 (pc' := 10) rfl rfl (Nat.le_of_ble_eq_true rfl) (by decide) ?_
  refine J_bne dX8_about_10 (pt := 15) (by decide) (pc' := 13) rfl (fun c10 => ?_) (fun c10 => ?_)
  · refine J_aload_n dX8_about_15 (pc' := 16) rfl rfl ?_
    refine J_iload_n dX8_about_16 (pc' := 17) rfl rfl ?_
    refine J_vq (As := [.int (nI t)]) (rest := []) (qX8_cuts _ S1 C n w wl wm t hX ht) vX8_cuts mX8_181 kd_516 dX8_about_17 (pc' := 20) rfl rfl (Nat.le_of_ble_eq_true rfl) (by decide) ?_
    rintro r S2 ⟨rfl, hcu⟩
    have hX2 := RX_fr hcu.1 hX (by decide) (by decide)
    have hF : rcF S1 S2 := hcu.1.mono (by decide) (by decide)
    show dv_J yX8_about cX8_about 5 (some .int) (dv_rm (d + 4)) 0 0 20 [some (.ref 516), some (.int (nI t)), some (.int y), none, none] [] S2 (fun r S' => r = some (.int (-1)) ∧ rcF S1 S')
    refine J_iload_n dX8_about_20 (pc' := 21) rfl rfl ?_
    refine J_tswo (pt := 143) dX8_about_21 (ho.imp id (fun q => by omega)) (by decide) ?_
    refine J_iconst dX8_about_143 (pc' := 144) rfl (v := (-1)) ic_m1 ?_
    refine J_iret dX8_about_144 rfl (dv_r1 _) ?_
    exact ⟨rfl, hF⟩
  · exact absurd (dv_has ht hX.1.1 (by omega)) (by rw [c10]; decide)
