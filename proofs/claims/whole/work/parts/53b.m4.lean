set_option maxRecDepth 100000 in
set_option maxHeartbeats 400000 in
theorem qX8_wordN1 (d : Nat) (S : dv_S) (S1 : dv_S) (x z : Int32) (h0 : rS S = S1) (hr : decide (0 ≤ x ∧ x ≤ 15) = false)  : dv_M yX8_word cX8_word 6 (some .int) (dv_rm (d + 1)) [.ref 516, .int x, .int z] S (fun r S' => r = some (.int (-1)) ∧ S' = (rT S1 2)) := by
  refine dv_M_of [some (.ref 516), some (.int x), some (.int z), none, none, none] (by decide) (fun _ _ => Nat.le_of_ble_eq_true rfl) (fun _ _ => rfl) ?_
  refine J_aload_n dX8_word_0 (pc' := 1) rfl rfl ?_
  refine J_iconst dX8_word_1 (pc' := 2) rfl (v := 0) ic_0 ?_
  refine J_puti fX8_1 kd_516 rf_516_0 dX8_word_2 (pc' := 5) rfl ?_
  refine J_sto (S' := S1) (h0) ?_
  refine J_iload_n dX8_word_5 (pc' := 6) rfl rfl ?_
  refine J_iconst dX8_word_6 (pc' := 7) rfl (v := 0) ic_0 ?_
  refine J_bipush dX8_word_7 (pc' := 9) rfl (v := 15) bp_15 ?_
  refine J_s1 (As := [.int x, .int 0, .int 15]) (rest := []) (qX8_in _ _ _ _ _) vX8_in mX8_24 dX8_word_9 (pc' := 12) rfl rfl (Nat.le_of_ble_eq_true rfl) (by decide) ?_
  refine J_beq dX8_word_12 (pt := 23) (by decide) (pc' := 15) rfl (fun c12 => ?_) (fun c12 => ?_)
  · refine J_aload_n dX8_word_23 (pc' := 24) rfl rfl ?_
    refine J_iconst dX8_word_24 (pc' := 25) rfl (v := 2) ic_2 ?_
    refine J_v1 (As := [.int 2]) (rest := []) (qX8_refused _ _ _) vX8_refused mX8_126 kd_516 dX8_word_25 (pc' := 28) rfl rfl (Nat.le_of_ble_eq_true rfl) (by decide) ?_
    refine J_iret dX8_word_28 rfl (dv_r1 _) ?_
    exact ⟨rfl, rfl⟩
  · exact absurd c12 (by rw [hr]; decide)
set_option maxRecDepth 100000 in
set_option maxHeartbeats 400000 in
theorem qX8_wordN2 (d : Nat) (S : dv_S) (S1 : dv_S) (x z : Int32) (h0 : rS S = S1) (hz : decide (0 ≤ z ∧ z ≤ S1.1 516 3) = false)  : dv_M yX8_word cX8_word 6 (some .int) (dv_rm (d + 1)) [.ref 516, .int x, .int z] S (fun r S' => r = some (.int (-1)) ∧ S' = (rT S1 2)) := by
  refine dv_M_of [some (.ref 516), some (.int x), some (.int z), none, none, none] (by decide) (fun _ _ => Nat.le_of_ble_eq_true rfl) (fun _ _ => rfl) ?_
  refine J_aload_n dX8_word_0 (pc' := 1) rfl rfl ?_
  refine J_iconst dX8_word_1 (pc' := 2) rfl (v := 0) ic_0 ?_
  refine J_puti fX8_1 kd_516 rf_516_0 dX8_word_2 (pc' := 5) rfl ?_
  refine J_sto (S' := S1) (h0) ?_
  refine J_iload_n dX8_word_5 (pc' := 6) rfl rfl ?_
  refine J_iconst dX8_word_6 (pc' := 7) rfl (v := 0) ic_0 ?_
  refine J_bipush dX8_word_7 (pc' := 9) rfl (v := 15) bp_15 ?_
  refine J_s1 (As := [.int x, .int 0, .int 15]) (rest := []) (qX8_in _ _ _ _ _) vX8_in mX8_24 dX8_word_9 (pc' := 12) rfl rfl (Nat.le_of_ble_eq_true rfl) (by decide) ?_
  refine J_beq dX8_word_12 (pt := 23) (by decide) (pc' := 15) rfl (fun c12 => ?_) (fun c12 => ?_)
  · refine J_aload_n dX8_word_23 (pc' := 24) rfl rfl ?_
    refine J_iconst dX8_word_24 (pc' := 25) rfl (v := 2) ic_2 ?_
    refine J_v1 (As := [.int 2]) (rest := []) (qX8_refused _ _ _) vX8_refused mX8_126 kd_516 dX8_word_25 (pc' := 28) rfl rfl (Nat.le_of_ble_eq_true rfl) (by decide) ?_
    refine J_iret dX8_word_28 rfl (dv_r1 _) ?_
    exact ⟨rfl, rfl⟩
  · refine J_aload_n dX8_word_15 (pc' := 16) rfl rfl ?_
    refine J_iload_n dX8_word_16 (pc' := 17) rfl rfl ?_
    refine J_v1 (As := [.int z]) (rest := []) (qX8_isTaped _ _ _) vX8_isTaped mX8_140 kd_516 dX8_word_17 (pc' := 20) rfl rfl (Nat.le_of_ble_eq_true rfl) (by decide) ?_
    refine J_bne dX8_word_20 (pt := 29) (by decide) (pc' := 23) rfl (fun c20 => ?_) (fun c20 => ?_)
    · exact absurd c20 (by rw [hz]; decide)
    · refine J_aload_n dX8_word_23 (pc' := 24) rfl rfl ?_
      refine J_iconst dX8_word_24 (pc' := 25) rfl (v := 2) ic_2 ?_
      refine J_v1 (As := [.int 2]) (rest := []) (qX8_refused _ _ _) vX8_refused mX8_126 kd_516 dX8_word_25 (pc' := 28) rfl rfl (Nat.le_of_ble_eq_true rfl) (by decide) ?_
      refine J_iret dX8_word_28 rfl (dv_r1 _) ?_
      exact ⟨rfl, rfl⟩
set_option maxRecDepth 100000 in
set_option maxHeartbeats 400000 in
theorem qX8_wordN3 (d : Nat) (S : dv_S) (S1 : dv_S) (x : Int32) (k tn : Nat) (h0 : rS S = S1) (hr : decide (0 ≤ x ∧ x ≤ 15) = true) (htn : S1.1 516 3 = nI tn) (hk : k ≤ tn) (h200 : tn ≤ 200) (hc : wd_ok (dv_rd (S1.2.1 517) k) = false)  : dv_M yX8_word cX8_word 6 (some .int) (dv_rm (d + 1)) [.ref 516, .int x, .int (nI k)] S (fun r S' => r = some (.int (-1)) ∧ S' = (rT (rK S1) 2)) := by
  refine dv_M_of [some (.ref 516), some (.int x), some (.int (nI k)), none, none, none] (by decide) (fun _ _ => Nat.le_of_ble_eq_true rfl) (fun _ _ => rfl) ?_
  refine J_aload_n dX8_word_0 (pc' := 1) rfl rfl ?_
  refine J_iconst dX8_word_1 (pc' := 2) rfl (v := 0) ic_0 ?_
  refine J_puti fX8_1 kd_516 rf_516_0 dX8_word_2 (pc' := 5) rfl ?_
  refine J_sto (S' := S1) (h0) ?_
  refine J_iload_n dX8_word_5 (pc' := 6) rfl rfl ?_
  refine J_iconst dX8_word_6 (pc' := 7) rfl (v := 0) ic_0 ?_
  refine J_bipush dX8_word_7 (pc' := 9) rfl (v := 15) bp_15 ?_
  refine J_s1 (As := [.int x, .int 0, .int 15]) (rest := []) (qX8_in _ _ _ _ _) vX8_in mX8_24 dX8_word_9 (pc' := 12) rfl rfl (Nat.le_of_ble_eq_true rfl) (by decide) ?_
  refine J_beq dX8_word_12 (pt := 23) (by decide) (pc' := 15) rfl (fun c12 => ?_) (fun c12 => ?_)
  · exact absurd c12 (by rw [hr]; decide)
  · refine J_aload_n dX8_word_15 (pc' := 16) rfl rfl ?_
    refine J_iload_n dX8_word_16 (pc' := 17) rfl rfl ?_
    refine J_v1 (As := [.int (nI k)]) (rest := []) (qX8_isTaped _ _ _) vX8_isTaped mX8_140 kd_516 dX8_word_17 (pc' := 20) rfl rfl (Nat.le_of_ble_eq_true rfl) (by decide) ?_
    refine J_bne dX8_word_20 (pt := 29) (by decide) (pc' := 23) rfl (fun c20 => ?_) (fun c20 => ?_)
    · refine J_aload_n dX8_word_29 (pc' := 30) rfl rfl ?_
      refine J_iconst dX8_word_30 (pc' := 31) rfl (v := 0) ic_0 ?_
      refine J_puti fX8_10 kd_516 rf_516_3 dX8_word_31 (pc' := 34) rfl ?_
      refine J_iload_n dX8_word_34 (pc' := 35) rfl rfl ?_
      refine J_iconst dX8_word_35 (pc' := 36) rfl (v := 1) ic_1 ?_
      refine J_bipush dX8_word_36 (pc' := 38) rfl (v := 12) bp_12 ?_
      refine J_s1 (As := [.int (nI k), .int 1, .int 12]) (rest := []) (qX8_in _ _ _ _ _) vX8_in mX8_24 dX8_word_38 (pc' := 41) rfl rfl (Nat.le_of_ble_eq_true rfl) (by decide) ?_
      refine J_top (w := .int (dv_b ((decide (1 ≤ k ∧ k ≤ 12) && (dv_rd (S1.2.1 517) 0).all ch_s)))) (by
        rw [dv_rd_0, List.all_nil, Bool.and_true, dv_n1, dv_n12]
        congr 2
        rw [decide_eq_decide, nI_leI (by omega) (by omega), nI_leI (by omega) (by omega)]) ?_
      refine J_istore_n dX8_word_41 (pc' := 42) rfl rfl (by decide) rfl (l' := [some (.ref 516), some (.int x), some (.int (nI k)), some (.int (dv_b ((decide (1 ≤ k ∧ k ≤ 12) && (dv_rd (S1.2.1 517) 0).all ch_s)))), none, none]) rfl ?_
      have hg72 : ∀ (jb : Bool), jb = wd_ok (dv_rd (S1.2.1 517) k) → dv_J yX8_word cX8_word 6 (some .int) (dv_rm (d + 1)) 0 0 72 [some (.ref 516), some (.int x), some (.int (nI k)), some (.int (dv_b jb)), none, none] [] (dv_u S1.1 516 3 0, S1.2) (fun r S' => r = some (.int (-1)) ∧ S' = (rT (rK S1) 2)) := by
        intro jb hjb
        refine J_iload_n dX8_word_72 (pc' := 73) rfl rfl ?_
        refine J_bne dX8_word_73 (pt := 82) (by decide) (pc' := 76) rfl (fun c73 => ?_) (fun c73 => ?_)
        · exact absurd c73 (by rw [hjb, hc]; decide)
        · refine J_aload_n dX8_word_76 (pc' := 77) rfl rfl ?_
          refine J_iconst dX8_word_77 (pc' := 78) rfl (v := 2) ic_2 ?_
          refine J_v1 (As := [.int 2]) (rest := []) (qX8_refused _ _ _) vX8_refused mX8_126 kd_516 dX8_word_78 (pc' := 81) rfl rfl (Nat.le_of_ble_eq_true rfl) (by decide) ?_
          refine J_iret dX8_word_81 rfl (dv_r1 _) ?_
          exact ⟨rfl, rfl⟩
      refine J_iconst dX8_word_42 (pc' := 43) rfl (v := 0) ic_0 ?_
      refine J_istore dX8_word_43 (pc' := 45) rfl (by decide) rfl (l' := [some (.ref 516), some (.int x), some (.int (nI k)), some (.int (dv_b ((decide (1 ≤ k ∧ k ≤ 12) && (dv_rd (S1.2.1 517) 0).all ch_s)))), some (.int 0), none]) rfl ?_
      have hlp45 : ∀ i, i ≤ k → dv_J yX8_word cX8_word 6 (some .int) (dv_rm (d + 1)) 0 0 45 [some (.ref 516), some (.int x), some (.int (nI k)), some (.int (dv_b ((decide (1 ≤ k ∧ k ≤ 12) && (dv_rd (S1.2.1 517) i).all ch_s)))), some (.int (nI i)), none] [] (dv_u S1.1 516 3 0, S1.2) (fun r S' => r = some (.int (-1)) ∧ S' = (rT (rK S1) 2)) := by
        refine dv_up (P := fun i => dv_J yX8_word cX8_word 6 (some .int) (dv_rm (d + 1)) 0 0 45 [some (.ref 516), some (.int x), some (.int (nI k)), some (.int (dv_b ((decide (1 ≤ k ∧ k ≤ 12) && (dv_rd (S1.2.1 517) i).all ch_s)))), some (.int (nI i)), none] [] (dv_u S1.1 516 3 0, S1.2) (fun r S' => r = some (.int (-1)) ∧ S' = (rT (rK S1) 2))) ?_
        intro i hi45 ih45 
        refine J_iload dX8_word_45 (pc' := 47) rfl rfl ?_
        refine J_iload_n dX8_word_47 (pc' := 48) rfl rfl ?_
        refine J_icmp_ge dX8_word_48 (pt := 72) (by decide) (pc' := 51) rfl (fun c48 => ?_) (fun c48 => ?_)
        · have hx := dv_ge hi45 (by omega) c48
          refine J_drop 4 (l' := [some (.ref 516), some (.int x), some (.int (nI k)), some (.int (dv_b ((decide (1 ≤ k ∧ k ≤ 12) && (dv_rd (S1.2.1 517) i).all ch_s)))), none, none]) rfl ?_
          exact hg72 _ (by first | (rw [hx]; exact wi_ok _ _) | exact wi_no (by omega) c52)
        · have hx := dv_nge hi45 (by omega) c48
          refine J_iload_n dX8_word_51 (pc' := 52) rfl rfl ?_
          refine J_beq dX8_word_52 (pt := 72) (by decide) (pc' := 55) rfl (fun c52 => ?_) (fun c52 => ?_)
          · refine J_drop 4 (l' := [some (.ref 516), some (.int x), some (.int (nI k)), some (.int (dv_b ((decide (1 ≤ k ∧ k ≤ 12) && (dv_rd (S1.2.1 517) i).all ch_s)))), none, none]) rfl ?_
            exact hg72 _ (by first | (rw [hx]; exact wi_ok _ _) | exact wi_no (by omega) c52)
          · refine J_aload_n dX8_word_55 (pc' := 56) rfl rfl ?_
            refine J_getr fX8_13 kd_516 rf_516_2 dX8_word_56 (pc' := 59) rfl ?_
            refine J_iload dX8_word_59 (pc' := 61) rfl rfl ?_
            refine J_bald (j := i) kd_517 (rfl) (by rw [ln_517]; omega) dX8_word_61 (pc' := 62) rfl ?_
            refine J_s1 (As := [.int ((dv_u S1.1 516 3 0, S1.2).2.1 517 i)]) (rest := []) (qX8_isSmall _ _ _) vX8_isSmall mX8_17 dX8_word_62 (pc' := 65) rfl rfl (Nat.le_of_ble_eq_true rfl) (by decide) ?_
            refine J_istore_n dX8_word_65 (pc' := 66) rfl rfl (by decide) rfl (l' := [some (.ref 516), some (.int x), some (.int (nI k)), some (.int (dv_b (ch_s ((dv_u S1.1 516 3 0, S1.2).2.1 517 i)))), some (.int (nI i)), none]) rfl ?_
            refine J_iinc dX8_word_66 (pc' := 69) rfl rfl (v := nI (i + 1)) (nI_1 i) (by decide) rfl (l' := [some (.ref 516), some (.int x), some (.int (nI k)), some (.int (dv_b (ch_s ((dv_u S1.1 516 3 0, S1.2).2.1 517 i)))), some (.int (nI (i + 1))), none]) rfl ?_
            refine J_goto dX8_word_69 (pc' := 45) (by decide) ?_
            refine J_loc ?_ (ih45 (i + 1) (by omega) (by omega))
            clear ih45
            rw [Bool.and_eq_true] at c52
            rw [dv_all_s, c52.1, c52.2]
            rfl
      refine J_loc (l' := [some (.ref 516), some (.int x), some (.int (nI k)), some (.int (dv_b ((decide (1 ≤ k ∧ k ≤ 12) && (dv_rd (S1.2.1 517) 0).all ch_s)))), some (.int (nI 0)), none]) (by simp only [nI_0, dv_b_f, dv_b_t]) ?_
      exact hlp45 0 (Nat.zero_le _) 
    · rw [htn] at c20
      exact absurd (show 0 ≤ nI k ∧ nI k ≤ nI tn from ⟨nI_pos' (by omega), nI_le hk (by omega)⟩) (of_decide_eq_false c20)
set_option maxRecDepth 100000 in
set_option maxHeartbeats 400000 in
theorem qX8_wordN4 (d : Nat) (S : dv_S) (S1 : dv_S) (x : Int32) (k tn : Nat) (C : dv_S) (n w : Nat) (wl : Nat → Nat → Int32) (wm : Nat → Nat) (h0 : rS S = S1) (hr : decide (0 ≤ x ∧ x ≤ 15) = true) (htn : S1.1 516 3 = nI tn) (hk : k ≤ tn) (h200 : tn ≤ 200) (hX : RX (rK S1) C n w wl wm) (hc : wd_ok (dv_rd (S1.2.1 517) k) = true) (hno : (dv_fo (fun v => decide (C.2.2 14 v = cu_k (S1.2.1 517) k)) w).isSome = true)  : dv_M yX8_word cX8_word 6 (some .int) (dv_rm (d + 1)) [.ref 516, .int x, .int (nI k)] S (fun r S' => r = some (.int (-1)) ∧ S' = (rT (rK S1) 4)) := by
  obtain ⟨hk1, hk12, hks⟩ := wd_rd hc
  have h60 := hX.2.1.2
  have hX17 : S1.1 516 17 = nI w := hX.2.1.1
  refine dv_M_of [some (.ref 516), some (.int x), some (.int (nI k)), none, none, none] (by decide) (fun _ _ => Nat.le_of_ble_eq_true rfl) (fun _ _ => rfl) ?_
  refine J_aload_n dX8_word_0 (pc' := 1) rfl rfl ?_
  refine J_iconst dX8_word_1 (pc' := 2) rfl (v := 0) ic_0 ?_
  refine J_puti fX8_1 kd_516 rf_516_0 dX8_word_2 (pc' := 5) rfl ?_
  refine J_sto (S' := S1) (h0) ?_
  refine J_iload_n dX8_word_5 (pc' := 6) rfl rfl ?_
  refine J_iconst dX8_word_6 (pc' := 7) rfl (v := 0) ic_0 ?_
  refine J_bipush dX8_word_7 (pc' := 9) rfl (v := 15) bp_15 ?_
  refine J_s1 (As := [.int x, .int 0, .int 15]) (rest := []) (qX8_in _ _ _ _ _) vX8_in mX8_24 dX8_word_9 (pc' := 12) rfl rfl (Nat.le_of_ble_eq_true rfl) (by decide) ?_
  refine J_beq dX8_word_12 (pt := 23) (by decide) (pc' := 15) rfl (fun c12 => ?_) (fun c12 => ?_)
  · exact absurd c12 (by rw [hr]; decide)
  · refine J_aload_n dX8_word_15 (pc' := 16) rfl rfl ?_
    refine J_iload_n dX8_word_16 (pc' := 17) rfl rfl ?_
    refine J_v1 (As := [.int (nI k)]) (rest := []) (qX8_isTaped _ _ _) vX8_isTaped mX8_140 kd_516 dX8_word_17 (pc' := 20) rfl rfl (Nat.le_of_ble_eq_true rfl) (by decide) ?_
    refine J_bne dX8_word_20 (pt := 29) (by decide) (pc' := 23) rfl (fun c20 => ?_) (fun c20 => ?_)
    · refine J_aload_n dX8_word_29 (pc' := 30) rfl rfl ?_
      refine J_iconst dX8_word_30 (pc' := 31) rfl (v := 0) ic_0 ?_
      refine J_puti fX8_10 kd_516 rf_516_3 dX8_word_31 (pc' := 34) rfl ?_
      refine J_iload_n dX8_word_34 (pc' := 35) rfl rfl ?_
      refine J_iconst dX8_word_35 (pc' := 36) rfl (v := 1) ic_1 ?_
      refine J_bipush dX8_word_36 (pc' := 38) rfl (v := 12) bp_12 ?_
      refine J_s1 (As := [.int (nI k), .int 1, .int 12]) (rest := []) (qX8_in _ _ _ _ _) vX8_in mX8_24 dX8_word_38 (pc' := 41) rfl rfl (Nat.le_of_ble_eq_true rfl) (by decide) ?_
      refine J_top (w := .int (dv_b ((decide (1 ≤ k ∧ k ≤ 12) && (dv_rd (S1.2.1 517) 0).all ch_s)))) (by
        rw [dv_rd_0, List.all_nil, Bool.and_true, dv_n1, dv_n12]
        congr 2
        rw [decide_eq_decide, nI_leI (by omega) (by omega), nI_leI (by omega) (by omega)]) ?_
      refine J_istore_n dX8_word_41 (pc' := 42) rfl rfl (by decide) rfl (l' := [some (.ref 516), some (.int x), some (.int (nI k)), some (.int (dv_b ((decide (1 ≤ k ∧ k ≤ 12) && (dv_rd (S1.2.1 517) 0).all ch_s)))), none, none]) rfl ?_
      have hg72 : ∀ (jb : Bool), jb = wd_ok (dv_rd (S1.2.1 517) k) → dv_J yX8_word cX8_word 6 (some .int) (dv_rm (d + 1)) 0 0 72 [some (.ref 516), some (.int x), some (.int (nI k)), some (.int (dv_b jb)), none, none] [] (dv_u S1.1 516 3 0, S1.2) (fun r S' => r = some (.int (-1)) ∧ S' = (rT (rK S1) 4)) := by
        intro jb hjb
        refine J_iload_n dX8_word_72 (pc' := 73) rfl rfl ?_
        refine J_bne dX8_word_73 (pt := 82) (by decide) (pc' := 76) rfl (fun c73 => ?_) (fun c73 => ?_)
        · refine J_iconst dX8_word_82 (pc' := 83) rfl (v := 0) ic_0 ?_
          refine J_istore dX8_word_83 (pc' := 85) rfl (by decide) rfl (l' := [some (.ref 516), some (.int x), some (.int (nI k)), some (.int (dv_b jb)), some (.int 0), none]) rfl ?_
          refine J_iconst dX8_word_85 (pc' := 86) rfl (v := 0) ic_0 ?_
          refine J_istore dX8_word_86 (pc' := 88) rfl (by decide) rfl (l' := [some (.ref 516), some (.int x), some (.int (nI k)), some (.int (dv_b jb)), some (.int 0), some (.int 0)]) rfl ?_
          have hlp88 : ∀ v, v ≤ w → dv_J yX8_word cX8_word 6 (some .int) (dv_rm (d + 1)) 0 0 88 [some (.ref 516), some (.int x), some (.int (nI k)), some (.int (dv_b jb)), some (.int (dv_b (dv_ex (fun i => decide (C.2.2 14 i = cu_k (S1.2.1 517) k)) v))), some (.int (nI v))] [] (dv_u S1.1 516 3 0, S1.2) (fun r S' => r = some (.int (-1)) ∧ S' = (rT (rK S1) 4)) := by
            refine dv_up (P := fun v => dv_J yX8_word cX8_word 6 (some .int) (dv_rm (d + 1)) 0 0 88 [some (.ref 516), some (.int x), some (.int (nI k)), some (.int (dv_b jb)), some (.int (dv_b (dv_ex (fun i => decide (C.2.2 14 i = cu_k (S1.2.1 517) k)) v))), some (.int (nI v))] [] (dv_u S1.1 516 3 0, S1.2) (fun r S' => r = some (.int (-1)) ∧ S' = (rT (rK S1) 4))) ?_
            intro v hi88 ih88 
            refine J_iload dX8_word_88 (pc' := 90) rfl rfl ?_
            refine J_aload_n dX8_word_90 (pc' := 91) rfl rfl ?_
            refine J_geti fX8_165 kd_516 rf_516_17 dX8_word_91 (pc' := 94) rfl ?_
            refine J_top (w := .int (nI w)) (by rw [hX.2.1.1]) ?_
            refine J_icmp_ge dX8_word_94 (pt := 143) (by decide) (pc' := 97) rfl (fun c94 => ?_) (fun c94 => ?_)
            · have hv := dv_ge hi88 (by omega) c94
              refine J_iload dX8_word_143 (pc' := 145) rfl rfl ?_
              refine J_beq dX8_word_145 (pt := 154) (by decide) (pc' := 148) rfl (fun c145 => ?_) (fun c145 => ?_)
              · rw [hv, dv_ex_fo] at c145
                exact absurd c145 (by rw [hno]; decide)
              · refine J_aload_n dX8_word_148 (pc' := 149) rfl rfl ?_
                refine J_iconst dX8_word_149 (pc' := 150) rfl (v := 4) ic_4 ?_
                refine J_v1 (As := [.int 4]) (rest := []) (qX8_refused _ _ _) vX8_refused mX8_126 kd_516 dX8_word_150 (pc' := 153) rfl rfl (Nat.le_of_ble_eq_true rfl) (by decide) ?_
                refine J_iret dX8_word_153 rfl (dv_r1 _) ?_
                exact ⟨rfl, rfl⟩
            · have hv := dv_nge hi88 (by omega) c94
              have hj135 : ∀ jv : Int32, (dv_b (dv_ex (fun v => decide (C.2.2 14 v = cu_k (S1.2.1 517) k)) v || decide (C.2.2 14 v = cu_k (S1.2.1 517) k))) = jv → dv_J yX8_word cX8_word 6 (some .int) (dv_rm (d + 1)) 0 0 135 [some (.ref 516), some (.int x), some (.int (nI k)), some (.int (dv_b jb)), some (.int (dv_b (dv_ex (fun i => decide (C.2.2 14 i = cu_k (S1.2.1 517) k)) v))), some (.int (nI v))] [.int jv] (dv_u S1.1 516 3 0, S1.2) (fun r S' => r = some (.int (-1)) ∧ S' = (rT (rK S1) 4)) := by
                intro jv hjv
                subst hjv
                refine J_istore dX8_word_135 (pc' := 137) rfl (by decide) rfl (l' := [some (.ref 516), some (.int x), some (.int (nI k)), some (.int (dv_b jb)), some (.int (dv_b (dv_ex (fun v => decide (C.2.2 14 v = cu_k (S1.2.1 517) k)) v || decide (C.2.2 14 v = cu_k (S1.2.1 517) k)))), some (.int (nI v))]) rfl ?_
                refine J_iinc dX8_word_137 (pc' := 140) rfl rfl (v := nI (v + 1)) (nI_1 v) (by decide) rfl (l' := [some (.ref 516), some (.int x), some (.int (nI k)), some (.int (dv_b jb)), some (.int (dv_b (dv_ex (fun v => decide (C.2.2 14 v = cu_k (S1.2.1 517) k)) v || decide (C.2.2 14 v = cu_k (S1.2.1 517) k)))), some (.int (nI (v + 1)))]) rfl ?_
                refine J_goto dX8_word_140 (pc' := 88) (by decide) ?_
                exact ih88 (v + 1) (by omega) (by omega)
              refine J_iload dX8_word_97 (pc' := 99) rfl rfl ?_
              refine J_bne dX8_word_99 (pt := 130) (by decide) (pc' := 102) rfl (fun c99 => ?_) (fun c99 => ?_)
              · refine J_iconst dX8_word_130 (pc' := 131) rfl (v := 1) ic_1 ?_
                refine J_goto dX8_word_131 (pc' := 135) (by decide) ?_
                exact hj135 _ (by first | (simp only [dv_b, c99, Bool.true_or]; rfl) | (simp only [dv_b, c99, c127]; rfl))
              · refine J_aload_n dX8_word_102 (pc' := 103) rfl rfl ?_
                refine J_getr fX8_71 kd_516 rf_516_18 dX8_word_103 (pc' := 106) rfl ?_
                refine J_bipush dX8_word_106 (pc' := 108) rfl (v := 12) bp_12 ?_
                refine J_iload dX8_word_108 (pc' := 110) rfl rfl ?_
                refine J_imul dX8_word_110 (pc' := 111) rfl ?_
                refine J_top (w := .int (nI (12 * v))) (by rw [dv_n12, pk_mul]) ?_
                refine J_aload_n dX8_word_111 (pc' := 112) rfl rfl ?_
                refine J_getr fX8_74 kd_516 rf_516_19 dX8_word_112 (pc' := 115) rfl ?_
                refine J_iload dX8_word_115 (pc' := 117) rfl rfl ?_
                refine J_iald (j := v) kd_528 (rfl) (by rw [ln_528]; omega) dX8_word_117 (pc' := 118) rfl ?_
                refine J_top (w := .int (nI (wm v))) (by rw [show S1.2.1 528 v = nI (wm v) from (hX.2.2.2 v hv).1]) ?_
                refine J_aload_n dX8_word_118 (pc' := 119) rfl rfl ?_
                refine J_getr fX8_13 kd_516 rf_516_2 dX8_word_119 (pc' := 122) rfl ?_
                refine J_iconst dX8_word_122 (pc' := 123) rfl (v := 0) ic_0 ?_
                refine J_top (w := .int (nI 0)) (by rw [nI_0]) ?_
                refine J_iload_n dX8_word_123 (pc' := 124) rfl rfl ?_
                refine J_s1 (As := [.ref 527, .int (nI (12 * v)), .int (nI (wm v)), .ref 517, .int (nI 0), .int (nI k)]) (rest := []) (qX8_isSame _ (rK S1) 527 (12 * v) (wm v) 517 0 k kd_527 kd_517 (by rw [ln_527]; have := (hX.2.2.2 v hv).2.2.1; omega) (by rw [ln_517]; omega)) vX8_isSame mX8_133 dX8_word_124 (pc' := 127) rfl rfl (Nat.le_of_ble_eq_true rfl) (by decide) ?_
                refine J_top (w := .int (dv_b (decide (C.2.2 14 v = cu_k (S1.2.1 517) k)))) (congrArg (fun z => Value.int (dv_b z)) ((by rw [show (fun z => S1.2.1 517 (0 + z)) = S1.2.1 517 by funext z; rw [Nat.zero_add]] : decide (dv_rd (fun z => S1.2.1 527 (12 * v + z)) (wm v) = dv_rd (fun z => S1.2.1 517 (0 + z)) k) = decide (dv_rd (fun z => S1.2.1 527 (12 * v + z)) (wm v) = dv_rd (S1.2.1 517) k)).trans (RX_ky hX hv hks hk12))) ?_
                refine J_beq dX8_word_127 (pt := 134) (by decide) (pc' := 130) rfl (fun c127 => ?_) (fun c127 => ?_)
                · refine J_iconst dX8_word_134 (pc' := 135) rfl (v := 0) ic_0 ?_
                  exact hj135 _ (by first | (simp only [dv_b, c99, Bool.true_or]; rfl) | (simp only [dv_b, c99, c127]; rfl))
                · refine J_iconst dX8_word_130 (pc' := 131) rfl (v := 1) ic_1 ?_
                  refine J_goto dX8_word_131 (pc' := 135) (by decide) ?_
                  exact hj135 _ (by first | (simp only [dv_b, c99, Bool.true_or]; rfl) | (simp only [dv_b, c99, c127]; rfl))
          refine J_loc (l' := [some (.ref 516), some (.int x), some (.int (nI k)), some (.int (dv_b jb)), some (.int (dv_b (dv_ex (fun i => decide (C.2.2 14 i = cu_k (S1.2.1 517) k)) 0))), some (.int (nI 0))]) (by simp only [nI_0, dv_ex, dv_b_f]) ?_
          exact hlp88 0 (Nat.zero_le _) 
        · exact absurd c73 (by rw [hjb, hc]; decide)
      refine J_iconst dX8_word_42 (pc' := 43) rfl (v := 0) ic_0 ?_
      refine J_istore dX8_word_43 (pc' := 45) rfl (by decide) rfl (l' := [some (.ref 516), some (.int x), some (.int (nI k)), some (.int (dv_b ((decide (1 ≤ k ∧ k ≤ 12) && (dv_rd (S1.2.1 517) 0).all ch_s)))), some (.int 0), none]) rfl ?_
      have hlp45 : ∀ i, i ≤ k → dv_J yX8_word cX8_word 6 (some .int) (dv_rm (d + 1)) 0 0 45 [some (.ref 516), some (.int x), some (.int (nI k)), some (.int (dv_b ((decide (1 ≤ k ∧ k ≤ 12) && (dv_rd (S1.2.1 517) i).all ch_s)))), some (.int (nI i)), none] [] (dv_u S1.1 516 3 0, S1.2) (fun r S' => r = some (.int (-1)) ∧ S' = (rT (rK S1) 4)) := by
        refine dv_up (P := fun i => dv_J yX8_word cX8_word 6 (some .int) (dv_rm (d + 1)) 0 0 45 [some (.ref 516), some (.int x), some (.int (nI k)), some (.int (dv_b ((decide (1 ≤ k ∧ k ≤ 12) && (dv_rd (S1.2.1 517) i).all ch_s)))), some (.int (nI i)), none] [] (dv_u S1.1 516 3 0, S1.2) (fun r S' => r = some (.int (-1)) ∧ S' = (rT (rK S1) 4))) ?_
        intro i hi45 ih45 
        refine J_iload dX8_word_45 (pc' := 47) rfl rfl ?_
        refine J_iload_n dX8_word_47 (pc' := 48) rfl rfl ?_
        refine J_icmp_ge dX8_word_48 (pt := 72) (by decide) (pc' := 51) rfl (fun c48 => ?_) (fun c48 => ?_)
        · have hx := dv_ge hi45 (by omega) c48
          refine J_drop 4 (l' := [some (.ref 516), some (.int x), some (.int (nI k)), some (.int (dv_b ((decide (1 ≤ k ∧ k ≤ 12) && (dv_rd (S1.2.1 517) i).all ch_s)))), none, none]) rfl ?_
          exact hg72 _ (by first | (rw [hx]; exact wi_ok _ _) | exact wi_no (by omega) c52)
        · have hx := dv_nge hi45 (by omega) c48
          refine J_iload_n dX8_word_51 (pc' := 52) rfl rfl ?_
          refine J_beq dX8_word_52 (pt := 72) (by decide) (pc' := 55) rfl (fun c52 => ?_) (fun c52 => ?_)
          · refine J_drop 4 (l' := [some (.ref 516), some (.int x), some (.int (nI k)), some (.int (dv_b ((decide (1 ≤ k ∧ k ≤ 12) && (dv_rd (S1.2.1 517) i).all ch_s)))), none, none]) rfl ?_
            exact hg72 _ (by first | (rw [hx]; exact wi_ok _ _) | exact wi_no (by omega) c52)
          · refine J_aload_n dX8_word_55 (pc' := 56) rfl rfl ?_
            refine J_getr fX8_13 kd_516 rf_516_2 dX8_word_56 (pc' := 59) rfl ?_
            refine J_iload dX8_word_59 (pc' := 61) rfl rfl ?_
            refine J_bald (j := i) kd_517 (rfl) (by rw [ln_517]; omega) dX8_word_61 (pc' := 62) rfl ?_
            refine J_s1 (As := [.int ((dv_u S1.1 516 3 0, S1.2).2.1 517 i)]) (rest := []) (qX8_isSmall _ _ _) vX8_isSmall mX8_17 dX8_word_62 (pc' := 65) rfl rfl (Nat.le_of_ble_eq_true rfl) (by decide) ?_
            refine J_istore_n dX8_word_65 (pc' := 66) rfl rfl (by decide) rfl (l' := [some (.ref 516), some (.int x), some (.int (nI k)), some (.int (dv_b (ch_s ((dv_u S1.1 516 3 0, S1.2).2.1 517 i)))), some (.int (nI i)), none]) rfl ?_
            refine J_iinc dX8_word_66 (pc' := 69) rfl rfl (v := nI (i + 1)) (nI_1 i) (by decide) rfl (l' := [some (.ref 516), some (.int x), some (.int (nI k)), some (.int (dv_b (ch_s ((dv_u S1.1 516 3 0, S1.2).2.1 517 i)))), some (.int (nI (i + 1))), none]) rfl ?_
            refine J_goto dX8_word_69 (pc' := 45) (by decide) ?_
            refine J_loc ?_ (ih45 (i + 1) (by omega) (by omega))
            clear ih45
            rw [Bool.and_eq_true] at c52
            rw [dv_all_s, c52.1, c52.2]
            rfl
      refine J_loc (l' := [some (.ref 516), some (.int x), some (.int (nI k)), some (.int (dv_b ((decide (1 ≤ k ∧ k ≤ 12) && (dv_rd (S1.2.1 517) 0).all ch_s)))), some (.int (nI 0)), none]) (by simp only [nI_0, dv_b_f, dv_b_t]) ?_
      exact hlp45 0 (Nat.zero_le _) 
    · rw [htn] at c20
      exact absurd (show 0 ≤ nI k ∧ nI k ≤ nI tn from ⟨nI_pos' (by omega), nI_le hk (by omega)⟩) (of_decide_eq_false c20)
set_option maxRecDepth 100000 in
set_option maxHeartbeats 400000 in
theorem qX8_wordN5 (d : Nat) (S : dv_S) (S1 : dv_S) (x : Int32) (k tn : Nat) (C : dv_S) (n w : Nat) (wl : Nat → Nat → Int32) (wm : Nat → Nat) (h0 : rS S = S1) (hr : decide (0 ≤ x ∧ x ≤ 15) = true) (htn : S1.1 516 3 = nI tn) (hk : k ≤ tn) (h200 : tn ≤ 200) (hX : RX (rK S1) C n w wl wm) (hc : wd_ok (dv_rd (S1.2.1 517) k) = true) (hno : (dv_fo (fun v => decide (C.2.2 14 v = cu_k (S1.2.1 517) k)) w).isSome = false) (hw : w = 60)  : dv_M yX8_word cX8_word 6 (some .int) (dv_rm (d + 1)) [.ref 516, .int x, .int (nI k)] S (fun r S' => r = some (.int (-1)) ∧ S' = (rT (rK S1) 3)) := by
  obtain ⟨hk1, hk12, hks⟩ := wd_rd hc
  have h60 := hX.2.1.2
  have hX17 : S1.1 516 17 = nI w := hX.2.1.1
  refine dv_M_of [some (.ref 516), some (.int x), some (.int (nI k)), none, none, none] (by decide) (fun _ _ => Nat.le_of_ble_eq_true rfl) (fun _ _ => rfl) ?_
  refine J_aload_n dX8_word_0 (pc' := 1) rfl rfl ?_
  refine J_iconst dX8_word_1 (pc' := 2) rfl (v := 0) ic_0 ?_
  refine J_puti fX8_1 kd_516 rf_516_0 dX8_word_2 (pc' := 5) rfl ?_
  refine J_sto (S' := S1) (h0) ?_
  refine J_iload_n dX8_word_5 (pc' := 6) rfl rfl ?_
  refine J_iconst dX8_word_6 (pc' := 7) rfl (v := 0) ic_0 ?_
  refine J_bipush dX8_word_7 (pc' := 9) rfl (v := 15) bp_15 ?_
  refine J_s1 (As := [.int x, .int 0, .int 15]) (rest := []) (qX8_in _ _ _ _ _) vX8_in mX8_24 dX8_word_9 (pc' := 12) rfl rfl (Nat.le_of_ble_eq_true rfl) (by decide) ?_
  refine J_beq dX8_word_12 (pt := 23) (by decide) (pc' := 15) rfl (fun c12 => ?_) (fun c12 => ?_)
  · exact absurd c12 (by rw [hr]; decide)
  · refine J_aload_n dX8_word_15 (pc' := 16) rfl rfl ?_
    refine J_iload_n dX8_word_16 (pc' := 17) rfl rfl ?_
    refine J_v1 (As := [.int (nI k)]) (rest := []) (qX8_isTaped _ _ _) vX8_isTaped mX8_140 kd_516 dX8_word_17 (pc' := 20) rfl rfl (Nat.le_of_ble_eq_true rfl) (by decide) ?_
    refine J_bne dX8_word_20 (pt := 29) (by decide) (pc' := 23) rfl (fun c20 => ?_) (fun c20 => ?_)
    · refine J_aload_n dX8_word_29 (pc' := 30) rfl rfl ?_
      refine J_iconst dX8_word_30 (pc' := 31) rfl (v := 0) ic_0 ?_
      refine J_puti fX8_10 kd_516 rf_516_3 dX8_word_31 (pc' := 34) rfl ?_
      refine J_iload_n dX8_word_34 (pc' := 35) rfl rfl ?_
      refine J_iconst dX8_word_35 (pc' := 36) rfl (v := 1) ic_1 ?_
      refine J_bipush dX8_word_36 (pc' := 38) rfl (v := 12) bp_12 ?_
      refine J_s1 (As := [.int (nI k), .int 1, .int 12]) (rest := []) (qX8_in _ _ _ _ _) vX8_in mX8_24 dX8_word_38 (pc' := 41) rfl rfl (Nat.le_of_ble_eq_true rfl) (by decide) ?_
      refine J_top (w := .int (dv_b ((decide (1 ≤ k ∧ k ≤ 12) && (dv_rd (S1.2.1 517) 0).all ch_s)))) (by
        rw [dv_rd_0, List.all_nil, Bool.and_true, dv_n1, dv_n12]
        congr 2
        rw [decide_eq_decide, nI_leI (by omega) (by omega), nI_leI (by omega) (by omega)]) ?_
      refine J_istore_n dX8_word_41 (pc' := 42) rfl rfl (by decide) rfl (l' := [some (.ref 516), some (.int x), some (.int (nI k)), some (.int (dv_b ((decide (1 ≤ k ∧ k ≤ 12) && (dv_rd (S1.2.1 517) 0).all ch_s)))), none, none]) rfl ?_
      have hg72 : ∀ (jb : Bool), jb = wd_ok (dv_rd (S1.2.1 517) k) → dv_J yX8_word cX8_word 6 (some .int) (dv_rm (d + 1)) 0 0 72 [some (.ref 516), some (.int x), some (.int (nI k)), some (.int (dv_b jb)), none, none] [] (dv_u S1.1 516 3 0, S1.2) (fun r S' => r = some (.int (-1)) ∧ S' = (rT (rK S1) 3)) := by
        intro jb hjb
        refine J_iload_n dX8_word_72 (pc' := 73) rfl rfl ?_
        refine J_bne dX8_word_73 (pt := 82) (by decide) (pc' := 76) rfl (fun c73 => ?_) (fun c73 => ?_)
        · refine J_iconst dX8_word_82 (pc' := 83) rfl (v := 0) ic_0 ?_
          refine J_istore dX8_word_83 (pc' := 85) rfl (by decide) rfl (l' := [some (.ref 516), some (.int x), some (.int (nI k)), some (.int (dv_b jb)), some (.int 0), none]) rfl ?_
          refine J_iconst dX8_word_85 (pc' := 86) rfl (v := 0) ic_0 ?_
          refine J_istore dX8_word_86 (pc' := 88) rfl (by decide) rfl (l' := [some (.ref 516), some (.int x), some (.int (nI k)), some (.int (dv_b jb)), some (.int 0), some (.int 0)]) rfl ?_
          have hlp88 : ∀ v, v ≤ w → dv_J yX8_word cX8_word 6 (some .int) (dv_rm (d + 1)) 0 0 88 [some (.ref 516), some (.int x), some (.int (nI k)), some (.int (dv_b jb)), some (.int (dv_b (dv_ex (fun i => decide (C.2.2 14 i = cu_k (S1.2.1 517) k)) v))), some (.int (nI v))] [] (dv_u S1.1 516 3 0, S1.2) (fun r S' => r = some (.int (-1)) ∧ S' = (rT (rK S1) 3)) := by
            refine dv_up (P := fun v => dv_J yX8_word cX8_word 6 (some .int) (dv_rm (d + 1)) 0 0 88 [some (.ref 516), some (.int x), some (.int (nI k)), some (.int (dv_b jb)), some (.int (dv_b (dv_ex (fun i => decide (C.2.2 14 i = cu_k (S1.2.1 517) k)) v))), some (.int (nI v))] [] (dv_u S1.1 516 3 0, S1.2) (fun r S' => r = some (.int (-1)) ∧ S' = (rT (rK S1) 3))) ?_
            intro v hi88 ih88 
            refine J_iload dX8_word_88 (pc' := 90) rfl rfl ?_
            refine J_aload_n dX8_word_90 (pc' := 91) rfl rfl ?_
            refine J_geti fX8_165 kd_516 rf_516_17 dX8_word_91 (pc' := 94) rfl ?_
            refine J_top (w := .int (nI w)) (by rw [hX.2.1.1]) ?_
            refine J_icmp_ge dX8_word_94 (pt := 143) (by decide) (pc' := 97) rfl (fun c94 => ?_) (fun c94 => ?_)
            · have hv := dv_ge hi88 (by omega) c94
              refine J_iload dX8_word_143 (pc' := 145) rfl rfl ?_
              refine J_beq dX8_word_145 (pt := 154) (by decide) (pc' := 148) rfl (fun c145 => ?_) (fun c145 => ?_)
              · refine J_aload_n dX8_word_154 (pc' := 155) rfl rfl ?_
                refine J_geti fX8_165 kd_516 rf_516_17 dX8_word_155 (pc' := 158) rfl ?_
                refine J_bipush dX8_word_158 (pc' := 160) rfl (v := 60) bp_60 ?_
                refine J_icmp_ne dX8_word_160 (pt := 169) (by decide) (pc' := 163) rfl (fun c160 => ?_) (fun c160 => ?_)
                · rw [show (rK S1).1 516 17 = nI 60 by rw [hX.2.1.1, hw]] at c160
                  exact absurd (by decide) c160
                · refine J_aload_n dX8_word_163 (pc' := 164) rfl rfl ?_
                  refine J_iconst dX8_word_164 (pc' := 165) rfl (v := 3) ic_3 ?_
                  refine J_v1 (As := [.int 3]) (rest := []) (qX8_refused _ _ _) vX8_refused mX8_126 kd_516 dX8_word_165 (pc' := 168) rfl rfl (Nat.le_of_ble_eq_true rfl) (by decide) ?_
                  refine J_iret dX8_word_168 rfl (dv_r1 _) ?_
                  exact ⟨rfl, rfl⟩
              · rw [hv, dv_ex_fo] at c145
                exact absurd c145 (by rw [hno]; decide)
            · have hv := dv_nge hi88 (by omega) c94
              have hj135 : ∀ jv : Int32, (dv_b (dv_ex (fun v => decide (C.2.2 14 v = cu_k (S1.2.1 517) k)) v || decide (C.2.2 14 v = cu_k (S1.2.1 517) k))) = jv → dv_J yX8_word cX8_word 6 (some .int) (dv_rm (d + 1)) 0 0 135 [some (.ref 516), some (.int x), some (.int (nI k)), some (.int (dv_b jb)), some (.int (dv_b (dv_ex (fun i => decide (C.2.2 14 i = cu_k (S1.2.1 517) k)) v))), some (.int (nI v))] [.int jv] (dv_u S1.1 516 3 0, S1.2) (fun r S' => r = some (.int (-1)) ∧ S' = (rT (rK S1) 3)) := by
                intro jv hjv
                subst hjv
                refine J_istore dX8_word_135 (pc' := 137) rfl (by decide) rfl (l' := [some (.ref 516), some (.int x), some (.int (nI k)), some (.int (dv_b jb)), some (.int (dv_b (dv_ex (fun v => decide (C.2.2 14 v = cu_k (S1.2.1 517) k)) v || decide (C.2.2 14 v = cu_k (S1.2.1 517) k)))), some (.int (nI v))]) rfl ?_
                refine J_iinc dX8_word_137 (pc' := 140) rfl rfl (v := nI (v + 1)) (nI_1 v) (by decide) rfl (l' := [some (.ref 516), some (.int x), some (.int (nI k)), some (.int (dv_b jb)), some (.int (dv_b (dv_ex (fun v => decide (C.2.2 14 v = cu_k (S1.2.1 517) k)) v || decide (C.2.2 14 v = cu_k (S1.2.1 517) k)))), some (.int (nI (v + 1)))]) rfl ?_
                refine J_goto dX8_word_140 (pc' := 88) (by decide) ?_
                exact ih88 (v + 1) (by omega) (by omega)
              refine J_iload dX8_word_97 (pc' := 99) rfl rfl ?_
              refine J_bne dX8_word_99 (pt := 130) (by decide) (pc' := 102) rfl (fun c99 => ?_) (fun c99 => ?_)
              · refine J_iconst dX8_word_130 (pc' := 131) rfl (v := 1) ic_1 ?_
                refine J_goto dX8_word_131 (pc' := 135) (by decide) ?_
                exact hj135 _ (by first | (simp only [dv_b, c99, Bool.true_or]; rfl) | (simp only [dv_b, c99, c127]; rfl))
              · refine J_aload_n dX8_word_102 (pc' := 103) rfl rfl ?_
                refine J_getr fX8_71 kd_516 rf_516_18 dX8_word_103 (pc' := 106) rfl ?_
                refine J_bipush dX8_word_106 (pc' := 108) rfl (v := 12) bp_12 ?_
                refine J_iload dX8_word_108 (pc' := 110) rfl rfl ?_
                refine J_imul dX8_word_110 (pc' := 111) rfl ?_
                refine J_top (w := .int (nI (12 * v))) (by rw [dv_n12, pk_mul]) ?_
                refine J_aload_n dX8_word_111 (pc' := 112) rfl rfl ?_
                refine J_getr fX8_74 kd_516 rf_516_19 dX8_word_112 (pc' := 115) rfl ?_
                refine J_iload dX8_word_115 (pc' := 117) rfl rfl ?_
                refine J_iald (j := v) kd_528 (rfl) (by rw [ln_528]; omega) dX8_word_117 (pc' := 118) rfl ?_
                refine J_top (w := .int (nI (wm v))) (by rw [show S1.2.1 528 v = nI (wm v) from (hX.2.2.2 v hv).1]) ?_
                refine J_aload_n dX8_word_118 (pc' := 119) rfl rfl ?_
                refine J_getr fX8_13 kd_516 rf_516_2 dX8_word_119 (pc' := 122) rfl ?_
                refine J_iconst dX8_word_122 (pc' := 123) rfl (v := 0) ic_0 ?_
                refine J_top (w := .int (nI 0)) (by rw [nI_0]) ?_
                refine J_iload_n dX8_word_123 (pc' := 124) rfl rfl ?_
                refine J_s1 (As := [.ref 527, .int (nI (12 * v)), .int (nI (wm v)), .ref 517, .int (nI 0), .int (nI k)]) (rest := []) (qX8_isSame _ (rK S1) 527 (12 * v) (wm v) 517 0 k kd_527 kd_517 (by rw [ln_527]; have := (hX.2.2.2 v hv).2.2.1; omega) (by rw [ln_517]; omega)) vX8_isSame mX8_133 dX8_word_124 (pc' := 127) rfl rfl (Nat.le_of_ble_eq_true rfl) (by decide) ?_
                refine J_top (w := .int (dv_b (decide (C.2.2 14 v = cu_k (S1.2.1 517) k)))) (congrArg (fun z => Value.int (dv_b z)) ((by rw [show (fun z => S1.2.1 517 (0 + z)) = S1.2.1 517 by funext z; rw [Nat.zero_add]] : decide (dv_rd (fun z => S1.2.1 527 (12 * v + z)) (wm v) = dv_rd (fun z => S1.2.1 517 (0 + z)) k) = decide (dv_rd (fun z => S1.2.1 527 (12 * v + z)) (wm v) = dv_rd (S1.2.1 517) k)).trans (RX_ky hX hv hks hk12))) ?_
                refine J_beq dX8_word_127 (pt := 134) (by decide) (pc' := 130) rfl (fun c127 => ?_) (fun c127 => ?_)
                · refine J_iconst dX8_word_134 (pc' := 135) rfl (v := 0) ic_0 ?_
                  exact hj135 _ (by first | (simp only [dv_b, c99, Bool.true_or]; rfl) | (simp only [dv_b, c99, c127]; rfl))
                · refine J_iconst dX8_word_130 (pc' := 131) rfl (v := 1) ic_1 ?_
                  refine J_goto dX8_word_131 (pc' := 135) (by decide) ?_
                  exact hj135 _ (by first | (simp only [dv_b, c99, Bool.true_or]; rfl) | (simp only [dv_b, c99, c127]; rfl))
          refine J_loc (l' := [some (.ref 516), some (.int x), some (.int (nI k)), some (.int (dv_b jb)), some (.int (dv_b (dv_ex (fun i => decide (C.2.2 14 i = cu_k (S1.2.1 517) k)) 0))), some (.int (nI 0))]) (by simp only [nI_0, dv_ex, dv_b_f]) ?_
          exact hlp88 0 (Nat.zero_le _) 
        · exact absurd c73 (by rw [hjb, hc]; decide)
      refine J_iconst dX8_word_42 (pc' := 43) rfl (v := 0) ic_0 ?_
      refine J_istore dX8_word_43 (pc' := 45) rfl (by decide) rfl (l' := [some (.ref 516), some (.int x), some (.int (nI k)), some (.int (dv_b ((decide (1 ≤ k ∧ k ≤ 12) && (dv_rd (S1.2.1 517) 0).all ch_s)))), some (.int 0), none]) rfl ?_
      have hlp45 : ∀ i, i ≤ k → dv_J yX8_word cX8_word 6 (some .int) (dv_rm (d + 1)) 0 0 45 [some (.ref 516), some (.int x), some (.int (nI k)), some (.int (dv_b ((decide (1 ≤ k ∧ k ≤ 12) && (dv_rd (S1.2.1 517) i).all ch_s)))), some (.int (nI i)), none] [] (dv_u S1.1 516 3 0, S1.2) (fun r S' => r = some (.int (-1)) ∧ S' = (rT (rK S1) 3)) := by
        refine dv_up (P := fun i => dv_J yX8_word cX8_word 6 (some .int) (dv_rm (d + 1)) 0 0 45 [some (.ref 516), some (.int x), some (.int (nI k)), some (.int (dv_b ((decide (1 ≤ k ∧ k ≤ 12) && (dv_rd (S1.2.1 517) i).all ch_s)))), some (.int (nI i)), none] [] (dv_u S1.1 516 3 0, S1.2) (fun r S' => r = some (.int (-1)) ∧ S' = (rT (rK S1) 3))) ?_
        intro i hi45 ih45 
        refine J_iload dX8_word_45 (pc' := 47) rfl rfl ?_
        refine J_iload_n dX8_word_47 (pc' := 48) rfl rfl ?_
        refine J_icmp_ge dX8_word_48 (pt := 72) (by decide) (pc' := 51) rfl (fun c48 => ?_) (fun c48 => ?_)
        · have hx := dv_ge hi45 (by omega) c48
          refine J_drop 4 (l' := [some (.ref 516), some (.int x), some (.int (nI k)), some (.int (dv_b ((decide (1 ≤ k ∧ k ≤ 12) && (dv_rd (S1.2.1 517) i).all ch_s)))), none, none]) rfl ?_
          exact hg72 _ (by first | (rw [hx]; exact wi_ok _ _) | exact wi_no (by omega) c52)
        · have hx := dv_nge hi45 (by omega) c48
          refine J_iload_n dX8_word_51 (pc' := 52) rfl rfl ?_
          refine J_beq dX8_word_52 (pt := 72) (by decide) (pc' := 55) rfl (fun c52 => ?_) (fun c52 => ?_)
          · refine J_drop 4 (l' := [some (.ref 516), some (.int x), some (.int (nI k)), some (.int (dv_b ((decide (1 ≤ k ∧ k ≤ 12) && (dv_rd (S1.2.1 517) i).all ch_s)))), none, none]) rfl ?_
            exact hg72 _ (by first | (rw [hx]; exact wi_ok _ _) | exact wi_no (by omega) c52)
          · refine J_aload_n dX8_word_55 (pc' := 56) rfl rfl ?_
            refine J_getr fX8_13 kd_516 rf_516_2 dX8_word_56 (pc' := 59) rfl ?_
            refine J_iload dX8_word_59 (pc' := 61) rfl rfl ?_
            refine J_bald (j := i) kd_517 (rfl) (by rw [ln_517]; omega) dX8_word_61 (pc' := 62) rfl ?_
            refine J_s1 (As := [.int ((dv_u S1.1 516 3 0, S1.2).2.1 517 i)]) (rest := []) (qX8_isSmall _ _ _) vX8_isSmall mX8_17 dX8_word_62 (pc' := 65) rfl rfl (Nat.le_of_ble_eq_true rfl) (by decide) ?_
            refine J_istore_n dX8_word_65 (pc' := 66) rfl rfl (by decide) rfl (l' := [some (.ref 516), some (.int x), some (.int (nI k)), some (.int (dv_b (ch_s ((dv_u S1.1 516 3 0, S1.2).2.1 517 i)))), some (.int (nI i)), none]) rfl ?_
            refine J_iinc dX8_word_66 (pc' := 69) rfl rfl (v := nI (i + 1)) (nI_1 i) (by decide) rfl (l' := [some (.ref 516), some (.int x), some (.int (nI k)), some (.int (dv_b (ch_s ((dv_u S1.1 516 3 0, S1.2).2.1 517 i)))), some (.int (nI (i + 1))), none]) rfl ?_
            refine J_goto dX8_word_69 (pc' := 45) (by decide) ?_
            refine J_loc ?_ (ih45 (i + 1) (by omega) (by omega))
            clear ih45
            rw [Bool.and_eq_true] at c52
            rw [dv_all_s, c52.1, c52.2]
            rfl
      refine J_loc (l' := [some (.ref 516), some (.int x), some (.int (nI k)), some (.int (dv_b ((decide (1 ≤ k ∧ k ≤ 12) && (dv_rd (S1.2.1 517) 0).all ch_s)))), some (.int (nI 0)), none]) (by simp only [nI_0, dv_b_f, dv_b_t]) ?_
      exact hlp45 0 (Nat.zero_le _) 
    · rw [htn] at c20
      exact absurd (show 0 ≤ nI k ∧ nI k ≤ nI tn from ⟨nI_pos' (by omega), nI_le hk (by omega)⟩) (of_decide_eq_false c20)
set_option maxRecDepth 100000 in
set_option maxHeartbeats 400000 in
theorem qX8_wordY (d : Nat) (S : dv_S) (S1 : dv_S) (x : Int32) (k tn : Nat) (C : dv_S) (n w : Nat) (wl : Nat → Nat → Int32) (wm : Nat → Nat) (h0 : rS S = S1) (hr : decide (0 ≤ x ∧ x ≤ 15) = true) (htn : S1.1 516 3 = nI tn) (hk : k ≤ tn) (h200 : tn ≤ 200) (hX : RX (rK S1) C n w wl wm) (hc : wd_ok (dv_rd (S1.2.1 517) k) = true) (hno : (dv_fo (fun v => decide (C.2.2 14 v = cu_k (S1.2.1 517) k)) w).isSome = false) (hw : w < 60)  : dv_M yX8_word cX8_word 6 (some .int) (dv_rm (d + 1)) [.ref 516, .int x, .int (nI k)] S (fun r S' => r = some (.int (nI w)) ∧ S' = (rT (rWdE (rK S1) w k x) 0)) := by
  obtain ⟨hk1, hk12, hks⟩ := wd_rd hc
  have h60 := hX.2.1.2
  have hX17 : S1.1 516 17 = nI w := hX.2.1.1
  refine dv_M_of [some (.ref 516), some (.int x), some (.int (nI k)), none, none, none] (by decide) (fun _ _ => Nat.le_of_ble_eq_true rfl) (fun _ _ => rfl) ?_
  refine J_aload_n dX8_word_0 (pc' := 1) rfl rfl ?_
  refine J_iconst dX8_word_1 (pc' := 2) rfl (v := 0) ic_0 ?_
  refine J_puti fX8_1 kd_516 rf_516_0 dX8_word_2 (pc' := 5) rfl ?_
  refine J_sto (S' := S1) (h0) ?_
  refine J_iload_n dX8_word_5 (pc' := 6) rfl rfl ?_
  refine J_iconst dX8_word_6 (pc' := 7) rfl (v := 0) ic_0 ?_
  refine J_bipush dX8_word_7 (pc' := 9) rfl (v := 15) bp_15 ?_
  refine J_s1 (As := [.int x, .int 0, .int 15]) (rest := []) (qX8_in _ _ _ _ _) vX8_in mX8_24 dX8_word_9 (pc' := 12) rfl rfl (Nat.le_of_ble_eq_true rfl) (by decide) ?_
  refine J_beq dX8_word_12 (pt := 23) (by decide) (pc' := 15) rfl (fun c12 => ?_) (fun c12 => ?_)
  · exact absurd c12 (by rw [hr]; decide)
  · refine J_aload_n dX8_word_15 (pc' := 16) rfl rfl ?_
    refine J_iload_n dX8_word_16 (pc' := 17) rfl rfl ?_
    refine J_v1 (As := [.int (nI k)]) (rest := []) (qX8_isTaped _ _ _) vX8_isTaped mX8_140 kd_516 dX8_word_17 (pc' := 20) rfl rfl (Nat.le_of_ble_eq_true rfl) (by decide) ?_
    refine J_bne dX8_word_20 (pt := 29) (by decide) (pc' := 23) rfl (fun c20 => ?_) (fun c20 => ?_)
    · refine J_aload_n dX8_word_29 (pc' := 30) rfl rfl ?_
      refine J_iconst dX8_word_30 (pc' := 31) rfl (v := 0) ic_0 ?_
      refine J_puti fX8_10 kd_516 rf_516_3 dX8_word_31 (pc' := 34) rfl ?_
      refine J_iload_n dX8_word_34 (pc' := 35) rfl rfl ?_
      refine J_iconst dX8_word_35 (pc' := 36) rfl (v := 1) ic_1 ?_
      refine J_bipush dX8_word_36 (pc' := 38) rfl (v := 12) bp_12 ?_
      refine J_s1 (As := [.int (nI k), .int 1, .int 12]) (rest := []) (qX8_in _ _ _ _ _) vX8_in mX8_24 dX8_word_38 (pc' := 41) rfl rfl (Nat.le_of_ble_eq_true rfl) (by decide) ?_
      refine J_top (w := .int (dv_b ((decide (1 ≤ k ∧ k ≤ 12) && (dv_rd (S1.2.1 517) 0).all ch_s)))) (by
        rw [dv_rd_0, List.all_nil, Bool.and_true, dv_n1, dv_n12]
        congr 2
        rw [decide_eq_decide, nI_leI (by omega) (by omega), nI_leI (by omega) (by omega)]) ?_
      refine J_istore_n dX8_word_41 (pc' := 42) rfl rfl (by decide) rfl (l' := [some (.ref 516), some (.int x), some (.int (nI k)), some (.int (dv_b ((decide (1 ≤ k ∧ k ≤ 12) && (dv_rd (S1.2.1 517) 0).all ch_s)))), none, none]) rfl ?_
      have hg72 : ∀ (jb : Bool), jb = wd_ok (dv_rd (S1.2.1 517) k) → dv_J yX8_word cX8_word 6 (some .int) (dv_rm (d + 1)) 0 0 72 [some (.ref 516), some (.int x), some (.int (nI k)), some (.int (dv_b jb)), none, none] [] (dv_u S1.1 516 3 0, S1.2) (fun r S' => r = some (.int (nI w)) ∧ S' = (rT (rWdE (rK S1) w k x) 0)) := by
        intro jb hjb
        refine J_iload_n dX8_word_72 (pc' := 73) rfl rfl ?_
        refine J_bne dX8_word_73 (pt := 82) (by decide) (pc' := 76) rfl (fun c73 => ?_) (fun c73 => ?_)
        · refine J_iconst dX8_word_82 (pc' := 83) rfl (v := 0) ic_0 ?_
          refine J_istore dX8_word_83 (pc' := 85) rfl (by decide) rfl (l' := [some (.ref 516), some (.int x), some (.int (nI k)), some (.int (dv_b jb)), some (.int 0), none]) rfl ?_
          refine J_iconst dX8_word_85 (pc' := 86) rfl (v := 0) ic_0 ?_
          refine J_istore dX8_word_86 (pc' := 88) rfl (by decide) rfl (l' := [some (.ref 516), some (.int x), some (.int (nI k)), some (.int (dv_b jb)), some (.int 0), some (.int 0)]) rfl ?_
          have hlp88 : ∀ v, v ≤ w → dv_J yX8_word cX8_word 6 (some .int) (dv_rm (d + 1)) 0 0 88 [some (.ref 516), some (.int x), some (.int (nI k)), some (.int (dv_b jb)), some (.int (dv_b (dv_ex (fun i => decide (C.2.2 14 i = cu_k (S1.2.1 517) k)) v))), some (.int (nI v))] [] (dv_u S1.1 516 3 0, S1.2) (fun r S' => r = some (.int (nI w)) ∧ S' = (rT (rWdE (rK S1) w k x) 0)) := by
            refine dv_up (P := fun v => dv_J yX8_word cX8_word 6 (some .int) (dv_rm (d + 1)) 0 0 88 [some (.ref 516), some (.int x), some (.int (nI k)), some (.int (dv_b jb)), some (.int (dv_b (dv_ex (fun i => decide (C.2.2 14 i = cu_k (S1.2.1 517) k)) v))), some (.int (nI v))] [] (dv_u S1.1 516 3 0, S1.2) (fun r S' => r = some (.int (nI w)) ∧ S' = (rT (rWdE (rK S1) w k x) 0))) ?_
            intro v hi88 ih88 
            refine J_iload dX8_word_88 (pc' := 90) rfl rfl ?_
            refine J_aload_n dX8_word_90 (pc' := 91) rfl rfl ?_
            refine J_geti fX8_165 kd_516 rf_516_17 dX8_word_91 (pc' := 94) rfl ?_
            refine J_top (w := .int (nI w)) (by rw [hX.2.1.1]) ?_
            refine J_icmp_ge dX8_word_94 (pt := 143) (by decide) (pc' := 97) rfl (fun c94 => ?_) (fun c94 => ?_)
            · have hv := dv_ge hi88 (by omega) c94
              refine J_iload dX8_word_143 (pc' := 145) rfl rfl ?_
              refine J_beq dX8_word_145 (pt := 154) (by decide) (pc' := 148) rfl (fun c145 => ?_) (fun c145 => ?_)
              · refine J_aload_n dX8_word_154 (pc' := 155) rfl rfl ?_
                refine J_geti fX8_165 kd_516 rf_516_17 dX8_word_155 (pc' := 158) rfl ?_
                refine J_bipush dX8_word_158 (pc' := 160) rfl (v := 60) bp_60 ?_
                refine J_icmp_ne dX8_word_160 (pt := 169) (by decide) (pc' := 163) rfl (fun c160 => ?_) (fun c160 => ?_)
                · refine J_iconst dX8_word_169 (pc' := 170) rfl (v := 0) ic_0 ?_
                  refine J_istore dX8_word_170 (pc' := 172) rfl (by decide) rfl (l' := [some (.ref 516), some (.int x), some (.int (nI k)), some (.int (dv_b jb)), some (.int (dv_b (dv_ex (fun i => decide (C.2.2 14 i = cu_k (S1.2.1 517) k)) v))), some (.int 0)]) rfl ?_
                  have hlp172 : ∀ j, j ≤ k → dv_J yX8_word cX8_word 6 (some .int) (dv_rm (d + 1)) 0 0 172 [some (.ref 516), some (.int x), some (.int (nI k)), some (.int (dv_b jb)), some (.int (dv_b (dv_ex (fun i => decide (C.2.2 14 i = cu_k (S1.2.1 517) k)) v))), some (.int (nI j))] [] (rWd (rK S1) w k j) (fun r S' => r = some (.int (nI w)) ∧ S' = (rT (rWdE (rK S1) w k x) 0)) := by
                    refine dv_up (P := fun j => dv_J yX8_word cX8_word 6 (some .int) (dv_rm (d + 1)) 0 0 172 [some (.ref 516), some (.int x), some (.int (nI k)), some (.int (dv_b jb)), some (.int (dv_b (dv_ex (fun i => decide (C.2.2 14 i = cu_k (S1.2.1 517) k)) v))), some (.int (nI j))] [] (rWd (rK S1) w k j) (fun r S' => r = some (.int (nI w)) ∧ S' = (rT (rWdE (rK S1) w k x) 0))) ?_
                    intro j hi172 ih172 
                    refine J_iload dX8_word_172 (pc' := 174) rfl rfl ?_
                    refine J_iload_n dX8_word_174 (pc' := 175) rfl rfl ?_
                    refine J_icmp_ge dX8_word_175 (pt := 206) (by decide) (pc' := 178) rfl (fun c175 => ?_) (fun c175 => ?_)
                    · have hj := dv_ge hi172 (by omega) c175
                      refine J_aload_n dX8_word_206 (pc' := 207) rfl rfl ?_
                      refine J_getr fX8_74 kd_516 rf_516_19 dX8_word_207 (pc' := 210) rfl ?_
                      refine J_aload_n dX8_word_210 (pc' := 211) rfl rfl ?_
                      refine J_geti fX8_165 kd_516 rf_516_17 dX8_word_211 (pc' := 214) rfl ?_
                      refine J_iload_n dX8_word_214 (pc' := 215) rfl rfl ?_
                      refine J_iast (j := w) kd_528 (hX17) (by rw [ln_528]; omega) dX8_word_215 (pc' := 216) rfl ?_
                      refine J_aload_n dX8_word_216 (pc' := 217) rfl rfl ?_
                      refine J_getr fX8_77 kd_516 rf_516_20 dX8_word_217 (pc' := 220) rfl ?_
                      refine J_aload_n dX8_word_220 (pc' := 221) rfl rfl ?_
                      refine J_geti fX8_165 kd_516 rf_516_17 dX8_word_221 (pc' := 224) rfl ?_
                      refine J_iload_n dX8_word_224 (pc' := 225) rfl rfl ?_
                      refine J_iast (j := w) kd_529 (hX17) (by rw [ln_529]; omega) dX8_word_225 (pc' := 226) rfl ?_
                      refine J_aload_n dX8_word_226 (pc' := 227) rfl rfl ?_
                      refine J_getr fX8_80 kd_516 rf_516_21 dX8_word_227 (pc' := 230) rfl ?_
                      refine J_aload_n dX8_word_230 (pc' := 231) rfl rfl ?_
                      refine J_geti fX8_165 kd_516 rf_516_17 dX8_word_231 (pc' := 234) rfl ?_
                      refine J_iconst dX8_word_234 (pc' := 235) rfl (v := (-1)) ic_m1 ?_
                      refine J_iast (j := w) kd_530 (hX17) (by rw [ln_530]; omega) dX8_word_235 (pc' := 236) rfl ?_
                      refine J_aload_n dX8_word_236 (pc' := 237) rfl rfl ?_
                      refine J_getr fX8_83 kd_516 rf_516_22 dX8_word_237 (pc' := 240) rfl ?_
                      refine J_aload_n dX8_word_240 (pc' := 241) rfl rfl ?_
                      refine J_geti fX8_165 kd_516 rf_516_17 dX8_word_241 (pc' := 244) rfl ?_
                      refine J_aload_n dX8_word_244 (pc' := 245) rfl rfl ?_
                      refine J_geti fX8_165 kd_516 rf_516_17 dX8_word_245 (pc' := 248) rfl ?_
                      refine J_top (w := .int (nI w)) (by show Value.int (S1.1 516 17) = _; rw [hX17]) ?_
                      refine J_iast (j := w) kd_531 (hX17) (by rw [ln_531]; omega) dX8_word_248 (pc' := 249) rfl ?_
                      refine J_aload_n dX8_word_249 (pc' := 250) rfl rfl ?_
                      refine J_dup dX8_word_250 (pc' := 251) rfl rfl ?_
                      refine J_geti fX8_165 kd_516 rf_516_17 dX8_word_251 (pc' := 254) rfl ?_
                      refine J_iconst dX8_word_254 (pc' := 255) rfl (v := 1) ic_1 ?_
                      refine J_iadd dX8_word_255 (pc' := 256) rfl ?_
                      refine J_top (w := .int (nI (w + 1))) (by show Value.int (S1.1 516 17 + 1) = _; rw [hX17, nI_1]) ?_
                      refine J_puti fX8_165 kd_516 rf_516_17 dX8_word_256 (pc' := 259) rfl ?_
                      refine J_aload_n dX8_word_259 (pc' := 260) rfl rfl ?_
                      refine J_aload_n dX8_word_260 (pc' := 261) rfl rfl ?_
                      refine J_geti fX8_165 kd_516 rf_516_17 dX8_word_261 (pc' := 264) rfl ?_
                      refine J_top (w := .int (nI (w + 1))) (by show Value.int (dv_u (rK S1).1 516 17 (nI (w + 1)) 516 17) = _; rw [dv_u_eq]) ?_
                      refine J_iconst dX8_word_264 (pc' := 265) rfl (v := 1) ic_1 ?_
                      refine J_isub dX8_word_265 (pc' := 266) rfl ?_
                      refine J_top (w := .int (nI w)) (by rw [nI_pred]) ?_
                      refine J_v1 (As := [.int (nI w)]) (rest := []) (qX8_done _ _ _) vX8_done mX8_130 kd_516 dX8_word_266 (pc' := 269) rfl rfl (Nat.le_of_ble_eq_true rfl) (by decide) ?_
                      refine J_iret dX8_word_269 rfl (dv_r1 _) ?_
                      exact ⟨rfl, by rw [hj]; rfl⟩
                    · have hj := dv_nge hi172 (by omega) c175
                      refine J_aload_n dX8_word_178 (pc' := 179) rfl rfl ?_
                      refine J_getr fX8_71 kd_516 rf_516_18 dX8_word_179 (pc' := 182) rfl ?_
                      refine J_bipush dX8_word_182 (pc' := 184) rfl (v := 12) bp_12 ?_
                      refine J_aload_n dX8_word_184 (pc' := 185) rfl rfl ?_
                      refine J_geti fX8_165 kd_516 rf_516_17 dX8_word_185 (pc' := 188) rfl ?_
                      refine J_top (w := .int (nI w)) (by show Value.int (S1.1 516 17) = _; rw [hX17]) ?_
                      refine J_imul dX8_word_188 (pc' := 189) rfl ?_
                      refine J_top (w := .int (nI (12 * w))) (by rw [dv_n12, pk_mul]) ?_
                      refine J_iload dX8_word_189 (pc' := 191) rfl rfl ?_
                      refine J_iadd dX8_word_191 (pc' := 192) rfl ?_
                      refine J_top (w := .int (nI (12 * w + j))) (by rw [nI_add]) ?_
                      refine J_aload_n dX8_word_192 (pc' := 193) rfl rfl ?_
                      refine J_getr fX8_13 kd_516 rf_516_2 dX8_word_193 (pc' := 196) rfl ?_
                      refine J_iload dX8_word_196 (pc' := 198) rfl rfl ?_
                      refine J_bald (j := j) kd_517 (rfl) (by rw [ln_517]; omega) dX8_word_198 (pc' := 199) rfl ?_
                      refine J_top (w := .int (S1.2.1 517 j)) (by rw [rWd_row _ _ _ _ (by decide)]) ?_
                      refine J_bast (j := 12 * w + j) kd_527 (rfl) (by rw [ln_527]; omega) dX8_word_199 (pc' := 200) rfl ?_
                      refine J_iinc dX8_word_200 (pc' := 203) rfl rfl (v := nI (j + 1)) (nI_1 j) (by decide) rfl (l' := [some (.ref 516), some (.int x), some (.int (nI k)), some (.int (dv_b jb)), some (.int (dv_b (dv_ex (fun i => decide (C.2.2 14 i = cu_k (S1.2.1 517) k)) v))), some (.int (nI (j + 1)))]) rfl ?_
                      refine J_goto dX8_word_203 (pc' := 172) (by decide) ?_
                      refine J_sto (S' := (rWd (rK S1) w k (j + 1))) ?_ (ih172 (j + 1) (by omega) (by omega))
                      clear ih172
                      simp only [rWd]
                      rw [← dv_ro_s]
                  refine J_loc (l' := [some (.ref 516), some (.int x), some (.int (nI k)), some (.int (dv_b jb)), some (.int (dv_b (dv_ex (fun i => decide (C.2.2 14 i = cu_k (S1.2.1 517) k)) v))), some (.int (nI 0))]) (by simp only [nI_0, dv_b_f, dv_b_t]) ?_
                  refine J_sto (S' := (rWd (rK S1) w k 0)) (by simp only [rWd, dv_ro_0]) ?_
                  exact hlp172 0 (Nat.zero_le _) 
                · rw [hX.2.1.1, show (60 : Int32) = nI 60 by decide, nI_eq (by omega) (by omega)] at c160
                  omega
              · rw [hv, dv_ex_fo] at c145
                exact absurd c145 (by rw [hno]; decide)
            · have hv := dv_nge hi88 (by omega) c94
              have hj135 : ∀ jv : Int32, (dv_b (dv_ex (fun v => decide (C.2.2 14 v = cu_k (S1.2.1 517) k)) v || decide (C.2.2 14 v = cu_k (S1.2.1 517) k))) = jv → dv_J yX8_word cX8_word 6 (some .int) (dv_rm (d + 1)) 0 0 135 [some (.ref 516), some (.int x), some (.int (nI k)), some (.int (dv_b jb)), some (.int (dv_b (dv_ex (fun i => decide (C.2.2 14 i = cu_k (S1.2.1 517) k)) v))), some (.int (nI v))] [.int jv] (dv_u S1.1 516 3 0, S1.2) (fun r S' => r = some (.int (nI w)) ∧ S' = (rT (rWdE (rK S1) w k x) 0)) := by
                intro jv hjv
                subst hjv
                refine J_istore dX8_word_135 (pc' := 137) rfl (by decide) rfl (l' := [some (.ref 516), some (.int x), some (.int (nI k)), some (.int (dv_b jb)), some (.int (dv_b (dv_ex (fun v => decide (C.2.2 14 v = cu_k (S1.2.1 517) k)) v || decide (C.2.2 14 v = cu_k (S1.2.1 517) k)))), some (.int (nI v))]) rfl ?_
                refine J_iinc dX8_word_137 (pc' := 140) rfl rfl (v := nI (v + 1)) (nI_1 v) (by decide) rfl (l' := [some (.ref 516), some (.int x), some (.int (nI k)), some (.int (dv_b jb)), some (.int (dv_b (dv_ex (fun v => decide (C.2.2 14 v = cu_k (S1.2.1 517) k)) v || decide (C.2.2 14 v = cu_k (S1.2.1 517) k)))), some (.int (nI (v + 1)))]) rfl ?_
                refine J_goto dX8_word_140 (pc' := 88) (by decide) ?_
                exact ih88 (v + 1) (by omega) (by omega)
              refine J_iload dX8_word_97 (pc' := 99) rfl rfl ?_
              refine J_bne dX8_word_99 (pt := 130) (by decide) (pc' := 102) rfl (fun c99 => ?_) (fun c99 => ?_)
              · refine J_iconst dX8_word_130 (pc' := 131) rfl (v := 1) ic_1 ?_
                refine J_goto dX8_word_131 (pc' := 135) (by decide) ?_
                exact hj135 _ (by first | (simp only [dv_b, c99, Bool.true_or]; rfl) | (simp only [dv_b, c99, c127]; rfl))
              · refine J_aload_n dX8_word_102 (pc' := 103) rfl rfl ?_
                refine J_getr fX8_71 kd_516 rf_516_18 dX8_word_103 (pc' := 106) rfl ?_
                refine J_bipush dX8_word_106 (pc' := 108) rfl (v := 12) bp_12 ?_
                refine J_iload dX8_word_108 (pc' := 110) rfl rfl ?_
                refine J_imul dX8_word_110 (pc' := 111) rfl ?_
                refine J_top (w := .int (nI (12 * v))) (by rw [dv_n12, pk_mul]) ?_
                refine J_aload_n dX8_word_111 (pc' := 112) rfl rfl ?_
                refine J_getr fX8_74 kd_516 rf_516_19 dX8_word_112 (pc' := 115) rfl ?_
                refine J_iload dX8_word_115 (pc' := 117) rfl rfl ?_
                refine J_iald (j := v) kd_528 (rfl) (by rw [ln_528]; omega) dX8_word_117 (pc' := 118) rfl ?_
                refine J_top (w := .int (nI (wm v))) (by rw [show S1.2.1 528 v = nI (wm v) from (hX.2.2.2 v hv).1]) ?_
                refine J_aload_n dX8_word_118 (pc' := 119) rfl rfl ?_
                refine J_getr fX8_13 kd_516 rf_516_2 dX8_word_119 (pc' := 122) rfl ?_
                refine J_iconst dX8_word_122 (pc' := 123) rfl (v := 0) ic_0 ?_
                refine J_top (w := .int (nI 0)) (by rw [nI_0]) ?_
                refine J_iload_n dX8_word_123 (pc' := 124) rfl rfl ?_
                refine J_s1 (As := [.ref 527, .int (nI (12 * v)), .int (nI (wm v)), .ref 517, .int (nI 0), .int (nI k)]) (rest := []) (qX8_isSame _ (rK S1) 527 (12 * v) (wm v) 517 0 k kd_527 kd_517 (by rw [ln_527]; have := (hX.2.2.2 v hv).2.2.1; omega) (by rw [ln_517]; omega)) vX8_isSame mX8_133 dX8_word_124 (pc' := 127) rfl rfl (Nat.le_of_ble_eq_true rfl) (by decide) ?_
                refine J_top (w := .int (dv_b (decide (C.2.2 14 v = cu_k (S1.2.1 517) k)))) (congrArg (fun z => Value.int (dv_b z)) ((by rw [show (fun z => S1.2.1 517 (0 + z)) = S1.2.1 517 by funext z; rw [Nat.zero_add]] : decide (dv_rd (fun z => S1.2.1 527 (12 * v + z)) (wm v) = dv_rd (fun z => S1.2.1 517 (0 + z)) k) = decide (dv_rd (fun z => S1.2.1 527 (12 * v + z)) (wm v) = dv_rd (S1.2.1 517) k)).trans (RX_ky hX hv hks hk12))) ?_
                refine J_beq dX8_word_127 (pt := 134) (by decide) (pc' := 130) rfl (fun c127 => ?_) (fun c127 => ?_)
                · refine J_iconst dX8_word_134 (pc' := 135) rfl (v := 0) ic_0 ?_
                  exact hj135 _ (by first | (simp only [dv_b, c99, Bool.true_or]; rfl) | (simp only [dv_b, c99, c127]; rfl))
                · refine J_iconst dX8_word_130 (pc' := 131) rfl (v := 1) ic_1 ?_
                  refine J_goto dX8_word_131 (pc' := 135) (by decide) ?_
                  exact hj135 _ (by first | (simp only [dv_b, c99, Bool.true_or]; rfl) | (simp only [dv_b, c99, c127]; rfl))
          refine J_loc (l' := [some (.ref 516), some (.int x), some (.int (nI k)), some (.int (dv_b jb)), some (.int (dv_b (dv_ex (fun i => decide (C.2.2 14 i = cu_k (S1.2.1 517) k)) 0))), some (.int (nI 0))]) (by simp only [nI_0, dv_ex, dv_b_f]) ?_
          exact hlp88 0 (Nat.zero_le _) 
        · exact absurd c73 (by rw [hjb, hc]; decide)
      refine J_iconst dX8_word_42 (pc' := 43) rfl (v := 0) ic_0 ?_
      refine J_istore dX8_word_43 (pc' := 45) rfl (by decide) rfl (l' := [some (.ref 516), some (.int x), some (.int (nI k)), some (.int (dv_b ((decide (1 ≤ k ∧ k ≤ 12) && (dv_rd (S1.2.1 517) 0).all ch_s)))), some (.int 0), none]) rfl ?_
      have hlp45 : ∀ i, i ≤ k → dv_J yX8_word cX8_word 6 (some .int) (dv_rm (d + 1)) 0 0 45 [some (.ref 516), some (.int x), some (.int (nI k)), some (.int (dv_b ((decide (1 ≤ k ∧ k ≤ 12) && (dv_rd (S1.2.1 517) i).all ch_s)))), some (.int (nI i)), none] [] (dv_u S1.1 516 3 0, S1.2) (fun r S' => r = some (.int (nI w)) ∧ S' = (rT (rWdE (rK S1) w k x) 0)) := by
        refine dv_up (P := fun i => dv_J yX8_word cX8_word 6 (some .int) (dv_rm (d + 1)) 0 0 45 [some (.ref 516), some (.int x), some (.int (nI k)), some (.int (dv_b ((decide (1 ≤ k ∧ k ≤ 12) && (dv_rd (S1.2.1 517) i).all ch_s)))), some (.int (nI i)), none] [] (dv_u S1.1 516 3 0, S1.2) (fun r S' => r = some (.int (nI w)) ∧ S' = (rT (rWdE (rK S1) w k x) 0))) ?_
        intro i hi45 ih45 
        refine J_iload dX8_word_45 (pc' := 47) rfl rfl ?_
        refine J_iload_n dX8_word_47 (pc' := 48) rfl rfl ?_
        refine J_icmp_ge dX8_word_48 (pt := 72) (by decide) (pc' := 51) rfl (fun c48 => ?_) (fun c48 => ?_)
        · have hx := dv_ge hi45 (by omega) c48
          refine J_drop 4 (l' := [some (.ref 516), some (.int x), some (.int (nI k)), some (.int (dv_b ((decide (1 ≤ k ∧ k ≤ 12) && (dv_rd (S1.2.1 517) i).all ch_s)))), none, none]) rfl ?_
          exact hg72 _ (by first | (rw [hx]; exact wi_ok _ _) | exact wi_no (by omega) c52)
        · have hx := dv_nge hi45 (by omega) c48
          refine J_iload_n dX8_word_51 (pc' := 52) rfl rfl ?_
          refine J_beq dX8_word_52 (pt := 72) (by decide) (pc' := 55) rfl (fun c52 => ?_) (fun c52 => ?_)
          · refine J_drop 4 (l' := [some (.ref 516), some (.int x), some (.int (nI k)), some (.int (dv_b ((decide (1 ≤ k ∧ k ≤ 12) && (dv_rd (S1.2.1 517) i).all ch_s)))), none, none]) rfl ?_
            exact hg72 _ (by first | (rw [hx]; exact wi_ok _ _) | exact wi_no (by omega) c52)
          · refine J_aload_n dX8_word_55 (pc' := 56) rfl rfl ?_
            refine J_getr fX8_13 kd_516 rf_516_2 dX8_word_56 (pc' := 59) rfl ?_
            refine J_iload dX8_word_59 (pc' := 61) rfl rfl ?_
            refine J_bald (j := i) kd_517 (rfl) (by rw [ln_517]; omega) dX8_word_61 (pc' := 62) rfl ?_
            refine J_s1 (As := [.int ((dv_u S1.1 516 3 0, S1.2).2.1 517 i)]) (rest := []) (qX8_isSmall _ _ _) vX8_isSmall mX8_17 dX8_word_62 (pc' := 65) rfl rfl (Nat.le_of_ble_eq_true rfl) (by decide) ?_
            refine J_istore_n dX8_word_65 (pc' := 66) rfl rfl (by decide) rfl (l' := [some (.ref 516), some (.int x), some (.int (nI k)), some (.int (dv_b (ch_s ((dv_u S1.1 516 3 0, S1.2).2.1 517 i)))), some (.int (nI i)), none]) rfl ?_
            refine J_iinc dX8_word_66 (pc' := 69) rfl rfl (v := nI (i + 1)) (nI_1 i) (by decide) rfl (l' := [some (.ref 516), some (.int x), some (.int (nI k)), some (.int (dv_b (ch_s ((dv_u S1.1 516 3 0, S1.2).2.1 517 i)))), some (.int (nI (i + 1))), none]) rfl ?_
            refine J_goto dX8_word_69 (pc' := 45) (by decide) ?_
            refine J_loc ?_ (ih45 (i + 1) (by omega) (by omega))
            clear ih45
            rw [Bool.and_eq_true] at c52
            rw [dv_all_s, c52.1, c52.2]
            rfl
      refine J_loc (l' := [some (.ref 516), some (.int x), some (.int (nI k)), some (.int (dv_b ((decide (1 ≤ k ∧ k ≤ 12) && (dv_rd (S1.2.1 517) 0).all ch_s)))), some (.int (nI 0)), none]) (by simp only [nI_0, dv_b_f, dv_b_t]) ?_
      exact hlp45 0 (Nat.zero_le _) 
    · rw [htn] at c20
      exact absurd (show 0 ≤ nI k ∧ nI k ≤ nI tn from ⟨nI_pos' (by omega), nI_le hk (by omega)⟩) (of_decide_eq_false c20)
