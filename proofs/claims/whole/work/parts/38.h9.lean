set_option maxRecDepth 100000 in
set_option maxHeartbeats 400000 in
theorem qX7_writePartN (d : Nat) (S : dv_S) (w : Nat) (wl : Nat → Nat → Int32) (wm : Nat → Nat) (f : Nat → Int32) (m i : Nat) (l : List Int32) (gf ga : Bool) (hc : csp S f m) (hm : m ≤ 24) (hi : i < (cu f m m).1) (hB : cw_B S w wl wm) (hl : dt S l) (hH : hdo (S.2.1 17) (S.2.1 18) w (opS S w (pk_w S w f m i)) = none) : dv_M yX7_writePart cX7_writePart 8 none (dv_rm (d + 5)) [.ref 0, .int (nI i), .int (dv_b gf), .int (dv_b ga)] S (fun r S' => r = none ∧ wpI S l (ofc ga gf (fun k => ch_lo (f ((cu f m m).2.1 i + k)))) ((cu f m m).2.2 i - (cu f m m).2.1 i) S') := by
  have hft := cu_ft f m m i hi
  refine dv_M_of [some (.ref 0), some (.int (nI i)), some (.int (dv_b gf)), some (.int (dv_b ga)), none, none, none, none] (by decide) (fun _ _ => Nat.le_of_ble_eq_true rfl) (fun _ _ => rfl) ?_
  refine J_aload_n dX7_writePart_0 (pc' := 1) rfl rfl ?_
  refine J_getr fX7_37 kd_0 rf_0_5 dX7_writePart_1 (pc' := 4) rfl ?_
  refine J_aload_n dX7_writePart_4 (pc' := 5) rfl rfl ?_
  refine J_getr fX7_37 kd_0 rf_0_5 dX7_writePart_5 (pc' := 8) rfl ?_
  refine J_aload_n dX7_writePart_8 (pc' := 9) rfl rfl ?_
  refine J_getr fX7_37 kd_0 rf_0_5 dX7_writePart_9 (pc' := 12) rfl ?_
  refine J_aload_n dX7_writePart_12 (pc' := 13) rfl rfl ?_
  refine J_getr fX7_30 kd_0 rf_0_4 dX7_writePart_13 (pc' := 16) rfl ?_
  refine J_iload_n dX7_writePart_16 (pc' := 17) rfl rfl ?_
  refine J_v1 (As := [.int (nI i)]) (rest := [.ref 13, .ref 13, .ref 13]) (qX1_key _ S S f m i hc.spl hm hi) vX1_keyOf mX7_217 kd_9 dX7_writePart_17 (pc' := 20) rfl rfl (Nat.le_of_ble_eq_true rfl) (by decide) ?_
  refine J_v1 (As := [.long (pk_k f m i)]) (rest := [.ref 13, .ref 13]) (qX0_numberOf _ _ _ w hB.1 hB.2.1) vX0_numberOf mX7_221 kd_13 dX7_writePart_20 (pc' := 23) rfl rfl (Nat.le_of_ble_eq_true rfl) (by decide) ?_
  refine J_top (w := .int (dv_oi (pk_w S w f m i))) (rfl) ?_
  refine J_v1 (As := [.int (dv_oi (pk_w S w f m i))]) (rest := [.ref 13]) (qX0_opened _ _ _ w hB.1 hB.2.1) vX0_opened mX7_274 kd_13 dX7_writePart_23 (pc' := 26) rfl rfl (Nat.le_of_ble_eq_true rfl) (by decide) ?_
  refine J_top (w := .int ((opS S w (pk_w S w f m i)))) (rfl) ?_
  refine J_v1 (As := [.int ((opS S w (pk_w S w f m i)))]) (rest := []) (qX0_headOfG _ _ w _ hB.1 hB.2.1) vX0_headOf mX7_249 kd_13 dX7_writePart_26 (pc' := 29) rfl rfl (Nat.le_of_ble_eq_true rfl) (by decide) ?_
  refine J_top (w := .int ((-2))) (by rw [hH]; rfl) ?_
  refine J_istore dX7_writePart_29 (pc' := 31) rfl (by decide) rfl (l' := [some (.ref 0), some (.int (nI i)), some (.int (dv_b gf)), some (.int (dv_b ga)), some (.int ((-2))), none, none, none]) rfl ?_
  refine J_iload dX7_writePart_31 (pc' := 33) rfl rfl ?_
  refine J_bipush dX7_writePart_33 (pc' := 35) rfl (v := (-2)) bp_m2 ?_
  refine J_icmp_ne dX7_writePart_35 (pt := 49) (by decide) (pc' := 38) rfl (fun c35 => ?_) (fun c35 => ?_)
  · exact absurd rfl c35
  · refine J_aload_n dX7_writePart_38 (pc' := 39) rfl rfl ?_
    refine J_getr fX7_30 kd_0 rf_0_4 dX7_writePart_39 (pc' := 42) rfl ?_
    refine J_iload_n dX7_writePart_42 (pc' := 43) rfl rfl ?_
    refine J_v1 (As := [.int (nI i)]) (rest := []) (qX1_lengthOf _ S _ _ _ i (dv_spl_cut hc.spl hm) hi) vX1_lengthOf mX7_315 kd_9 dX7_writePart_43 (pc' := 46) rfl rfl (Nat.le_of_ble_eq_true rfl) (by decide) ?_
    refine J_goto dX7_writePart_46 (pc' := 58) (by decide) ?_
    refine J_istore dX7_writePart_58 (pc' := 60) rfl (by decide) rfl (l' := [some (.ref 0), some (.int (nI i)), some (.int (dv_b gf)), some (.int (dv_b ga)), some (.int ((-2))), some (.int (nI ((cu f m m).2.2 i - (cu f m m).2.1 i))), none, none]) rfl ?_
    refine J_iconst dX7_writePart_60 (pc' := 61) rfl (v := 0) ic_0 ?_
    refine J_istore dX7_writePart_61 (pc' := 63) rfl (by decide) rfl (l' := [some (.ref 0), some (.int (nI i)), some (.int (dv_b gf)), some (.int (dv_b ga)), some (.int ((-2))), some (.int (nI ((cu f m m).2.2 i - (cu f m m).2.1 i))), some (.int 0), none]) rfl ?_
    have hlp63 : ∀ k, k ≤ ((cu f m m).2.2 i - (cu f m m).2.1 i) → ∀ (S1 : dv_S), wpI S l (ofc ga gf (fun k => ch_lo (f ((cu f m m).2.1 i + k)))) k S1 → dv_J yX7_writePart cX7_writePart 8 none (dv_rm (d + 5)) 0 0 63 [some (.ref 0), some (.int (nI i)), some (.int (dv_b gf)), some (.int (dv_b ga)), some (.int ((-2))), some (.int (nI ((cu f m m).2.2 i - (cu f m m).2.1 i))), some (.int (nI k)), none] [] S1 (fun r S' => r = none ∧ wpI S l (ofc ga gf (fun k => ch_lo (f ((cu f m m).2.1 i + k)))) ((cu f m m).2.2 i - (cu f m m).2.1 i) S') := by
      refine dv_up (P := fun k => ∀ (S1 : dv_S), wpI S l (ofc ga gf (fun k => ch_lo (f ((cu f m m).2.1 i + k)))) k S1 → dv_J yX7_writePart cX7_writePart 8 none (dv_rm (d + 5)) 0 0 63 [some (.ref 0), some (.int (nI i)), some (.int (dv_b gf)), some (.int (dv_b ga)), some (.int ((-2))), some (.int (nI ((cu f m m).2.2 i - (cu f m m).2.1 i))), some (.int (nI k)), none] [] S1 (fun r S' => r = none ∧ wpI S l (ofc ga gf (fun k => ch_lo (f ((cu f m m).2.1 i + k)))) ((cu f m m).2.2 i - (cu f m m).2.1 i) S')) ?_
      intro k hi63 ih63 S1 hI
      have hB1 := hI.1.B (by decide) hB
      refine J_iload dX7_writePart_63 (pc' := 65) rfl rfl ?_
      refine J_iload dX7_writePart_65 (pc' := 67) rfl rfl ?_
      refine J_icmp_ge dX7_writePart_67 (pt := 139) (by decide) (pc' := 70) rfl (fun c67 => ?_) (fun c67 => ?_)
      · have hk := dv_ge hi63 (by omega) c67
        refine J_vret dX7_writePart_139 rfl (dv_r1 _) ?_
        exact ⟨rfl, by rw [hk] at hI; exact hI⟩
      · have hk := dv_nge hi63 (by omega) c67
        refine J_iload dX7_writePart_70 (pc' := 72) rfl rfl ?_
        refine J_bipush dX7_writePart_72 (pc' := 74) rfl (v := (-2)) bp_m2 ?_
        refine J_icmp_ne dX7_writePart_74 (pt := 90) (by decide) (pc' := 77) rfl (fun c74 => ?_) (fun c74 => ?_)
        · exact absurd rfl c74
        · refine J_aload_n dX7_writePart_77 (pc' := 78) rfl rfl ?_
          refine J_getr fX7_30 kd_0 rf_0_4 dX7_writePart_78 (pc' := 81) rfl ?_
          refine J_iload_n dX7_writePart_81 (pc' := 82) rfl rfl ?_
          refine J_iload dX7_writePart_82 (pc' := 84) rfl rfl ?_
          refine J_v1 (As := [.int (nI i), .int (nI k)]) (rest := []) (qX1_at _ S1 _ _ _ i k (dv_spl_cut (dd.csp hI.1 hc).spl hm) hi hk) vX1_at mX7_319 kd_9 dX7_writePart_84 (pc' := 87) rfl rfl (Nat.le_of_ble_eq_true rfl) (by decide) ?_
          refine J_goto dX7_writePart_87 (pc' := 101) (by decide) ?_
          refine J_top (w := .int (ch_lo (f ((cu f m m).2.1 i + k)))) (congrArg Value.int ((dd.csp hI.1 hc).2.1 _ (by omega))) ?_
          refine J_istore dX7_writePart_101 (pc' := 103) rfl (by decide) rfl (l' := [some (.ref 0), some (.int (nI i)), some (.int (dv_b gf)), some (.int (dv_b ga)), some (.int ((-2))), some (.int (nI ((cu f m m).2.2 i - (cu f m m).2.1 i))), some (.int (nI k)), some (.int (ch_lo (f ((cu f m m).2.1 i + k))))]) rfl ?_
          refine J_aload_n dX7_writePart_103 (pc' := 104) rfl rfl ?_
          refine J_getr fX7_21 kd_0 rf_0_2 dX7_writePart_104 (pc' := 107) rfl ?_
          refine J_iload_n dX7_writePart_107 (pc' := 108) rfl rfl ?_
          refine J_bne dX7_writePart_108 (pt := 120) (by decide) (pc' := 111) rfl (fun c108 => ?_) (fun c108 => ?_)
          · refine J_iload dX7_writePart_120 (pc' := 122) rfl rfl ?_
            refine J_s1 (As := [.int (ch_lo (f ((cu f m m).2.1 i + k)))]) (rest := [.ref 5]) (qX7_greatOf _ _ _) vX7_greatOf mX7_324 dX7_writePart_122 (pc' := 125) rfl rfl (Nat.le_of_ble_eq_true rfl) (by decide) ?_
            refine J_goto dX7_writePart_125 (pc' := 130) (by decide) ?_
            refine J_v0 (As := [.int (ch_up (ch_lo (f ((cu f m m).2.1 i + k))))]) (rest := []) (qX4_addG _ _ 5 (min (l ++ dv_rd (ofc ga gf (fun k => ch_lo (f ((cu f m m).2.1 i + k)))) k).length 24) _ kd_5 kd_6 hI.2.1 (dt_len hI.2)) vX4_add mX7_102 kd_5 dX7_writePart_130 (pc' := 133) rfl rfl (Nat.le_of_ble_eq_true rfl) (by decide) ?_
            refine J_iinc dX7_writePart_133 (pc' := 136) rfl rfl (v := nI (k + 1)) (nI_1 k) (by decide) rfl (l' := [some (.ref 0), some (.int (nI i)), some (.int (dv_b gf)), some (.int (dv_b ga)), some (.int ((-2))), some (.int (nI ((cu f m m).2.2 i - (cu f m m).2.1 i))), some (.int (nI (k + 1))), some (.int (ch_lo (f ((cu f m m).2.1 i + k))))]) rfl ?_
            refine J_goto dX7_writePart_136 (pc' := 63) (by decide) ?_
            refine J_drop 7 (l' := [some (.ref 0), some (.int (nI i)), some (.int (dv_b gf)), some (.int (dv_b ga)), some (.int ((-2))), some (.int (nI ((cu f m m).2.2 i - (cu f m m).2.1 i))), some (.int (nI (k + 1))), none]) rfl ?_
            refine ih63 (k + 1) (by omega) (by omega) _ (wpI1 hI ?_)
            clear ih63
            first | (simp [ofc, c108]; done) | (simp [ofc, c108, c112, c117]; done) | (simp [ofc, c108, c112]; done)
          · refine J_iload_n dX7_writePart_111 (pc' := 112) rfl rfl ?_
            refine J_beq dX7_writePart_112 (pt := 128) (by decide) (pc' := 115) rfl (fun c112 => ?_) (fun c112 => ?_)
            · refine J_iload dX7_writePart_128 (pc' := 130) rfl rfl ?_
              refine J_v0 (As := [.int (ch_lo (f ((cu f m m).2.1 i + k)))]) (rest := []) (qX4_addG _ _ 5 (min (l ++ dv_rd (ofc ga gf (fun k => ch_lo (f ((cu f m m).2.1 i + k)))) k).length 24) _ kd_5 kd_6 hI.2.1 (dt_len hI.2)) vX4_add mX7_102 kd_5 dX7_writePart_130 (pc' := 133) rfl rfl (Nat.le_of_ble_eq_true rfl) (by decide) ?_
              refine J_iinc dX7_writePart_133 (pc' := 136) rfl rfl (v := nI (k + 1)) (nI_1 k) (by decide) rfl (l' := [some (.ref 0), some (.int (nI i)), some (.int (dv_b gf)), some (.int (dv_b ga)), some (.int ((-2))), some (.int (nI ((cu f m m).2.2 i - (cu f m m).2.1 i))), some (.int (nI (k + 1))), some (.int (ch_lo (f ((cu f m m).2.1 i + k))))]) rfl ?_
              refine J_goto dX7_writePart_136 (pc' := 63) (by decide) ?_
              refine J_drop 7 (l' := [some (.ref 0), some (.int (nI i)), some (.int (dv_b gf)), some (.int (dv_b ga)), some (.int ((-2))), some (.int (nI ((cu f m m).2.2 i - (cu f m m).2.1 i))), some (.int (nI (k + 1))), none]) rfl ?_
              refine ih63 (k + 1) (by omega) (by omega) _ (wpI1 hI ?_)
              clear ih63
              first | (simp [ofc, c108]; done) | (simp [ofc, c108, c112, c117]; done) | (simp [ofc, c108, c112]; done)
            · refine J_iload dX7_writePart_115 (pc' := 117) rfl rfl ?_
              refine J_if_ne dX7_writePart_117 (pt := 128) (by decide) (pc' := 120) rfl (fun c117 => ?_) (fun c117 => ?_)
              · rw [show (0 : Int32) = nI 0 by decide, nI_eq (by omega) (by omega)] at c117
                refine J_iload dX7_writePart_128 (pc' := 130) rfl rfl ?_
                refine J_v0 (As := [.int (ch_lo (f ((cu f m m).2.1 i + k)))]) (rest := []) (qX4_addG _ _ 5 (min (l ++ dv_rd (ofc ga gf (fun k => ch_lo (f ((cu f m m).2.1 i + k)))) k).length 24) _ kd_5 kd_6 hI.2.1 (dt_len hI.2)) vX4_add mX7_102 kd_5 dX7_writePart_130 (pc' := 133) rfl rfl (Nat.le_of_ble_eq_true rfl) (by decide) ?_
                refine J_iinc dX7_writePart_133 (pc' := 136) rfl rfl (v := nI (k + 1)) (nI_1 k) (by decide) rfl (l' := [some (.ref 0), some (.int (nI i)), some (.int (dv_b gf)), some (.int (dv_b ga)), some (.int ((-2))), some (.int (nI ((cu f m m).2.2 i - (cu f m m).2.1 i))), some (.int (nI (k + 1))), some (.int (ch_lo (f ((cu f m m).2.1 i + k))))]) rfl ?_
                refine J_goto dX7_writePart_136 (pc' := 63) (by decide) ?_
                refine J_drop 7 (l' := [some (.ref 0), some (.int (nI i)), some (.int (dv_b gf)), some (.int (dv_b ga)), some (.int ((-2))), some (.int (nI ((cu f m m).2.2 i - (cu f m m).2.1 i))), some (.int (nI (k + 1))), none]) rfl ?_
                refine ih63 (k + 1) (by omega) (by omega) _ (wpI1 hI ?_)
                clear ih63
                first | (simp [ofc, c108]; done) | (simp [ofc, c108, c112, c117]; done) | (simp [ofc, c108, c112]; done)
              · rw [show (0 : Int32) = nI 0 by decide, nI_eq (by omega) (by omega)] at c117
                refine J_iload dX7_writePart_120 (pc' := 122) rfl rfl ?_
                refine J_s1 (As := [.int (ch_lo (f ((cu f m m).2.1 i + k)))]) (rest := [.ref 5]) (qX7_greatOf _ _ _) vX7_greatOf mX7_324 dX7_writePart_122 (pc' := 125) rfl rfl (Nat.le_of_ble_eq_true rfl) (by decide) ?_
                refine J_goto dX7_writePart_125 (pc' := 130) (by decide) ?_
                refine J_v0 (As := [.int (ch_up (ch_lo (f ((cu f m m).2.1 i + k))))]) (rest := []) (qX4_addG _ _ 5 (min (l ++ dv_rd (ofc ga gf (fun k => ch_lo (f ((cu f m m).2.1 i + k)))) k).length 24) _ kd_5 kd_6 hI.2.1 (dt_len hI.2)) vX4_add mX7_102 kd_5 dX7_writePart_130 (pc' := 133) rfl rfl (Nat.le_of_ble_eq_true rfl) (by decide) ?_
                refine J_iinc dX7_writePart_133 (pc' := 136) rfl rfl (v := nI (k + 1)) (nI_1 k) (by decide) rfl (l' := [some (.ref 0), some (.int (nI i)), some (.int (dv_b gf)), some (.int (dv_b ga)), some (.int ((-2))), some (.int (nI ((cu f m m).2.2 i - (cu f m m).2.1 i))), some (.int (nI (k + 1))), some (.int (ch_lo (f ((cu f m m).2.1 i + k))))]) rfl ?_
                refine J_goto dX7_writePart_136 (pc' := 63) (by decide) ?_
                refine J_drop 7 (l' := [some (.ref 0), some (.int (nI i)), some (.int (dv_b gf)), some (.int (dv_b ga)), some (.int ((-2))), some (.int (nI ((cu f m m).2.2 i - (cu f m m).2.1 i))), some (.int (nI (k + 1))), none]) rfl ?_
                refine ih63 (k + 1) (by omega) (by omega) _ (wpI1 hI ?_)
                clear ih63
                first | (simp [ofc, c108]; done) | (simp [ofc, c108, c112, c117]; done) | (simp [ofc, c108, c112]; done)
    refine J_loc (l' := [some (.ref 0), some (.int (nI i)), some (.int (dv_b gf)), some (.int (dv_b ga)), some (.int ((-2))), some (.int (nI ((cu f m m).2.2 i - (cu f m m).2.1 i))), some (.int (nI 0)), none]) (by simp only [nI_0, dv_b_f, dv_b_t]) ?_
    refine J_sto (S' := S) (rfl) ?_
    exact hlp63 0 (Nat.zero_le _) _ (wpI0 _ hl)
set_option maxRecDepth 100000 in
set_option maxHeartbeats 400000 in
theorem qX7_writePartY (d : Nat) (S : dv_S) (w : Nat) (wl : Nat → Nat → Int32) (wm : Nat → Nat) (f : Nat → Int32) (m i : Nat) (l : List Int32) (gf ga : Bool) (h : Nat) (hc : csp S f m) (hm : m ≤ 24) (hi : i < (cu f m m).1) (hB : cw_B S w wl wm) (hl : dt S l) (hh : h < w) (hH : hdo (S.2.1 17) (S.2.1 18) w (opS S w (pk_w S w f m i)) = some h) : dv_M yX7_writePart cX7_writePart 8 none (dv_rm (d + 5)) [.ref 0, .int (nI i), .int (dv_b gf), .int (dv_b ga)] S (fun r S' => r = none ∧ wpI S l (ofc ga gf (wl h)) (wm h) S') := by
  have hwm := (hB.2.2 h hh).2.2.1
  refine dv_M_of [some (.ref 0), some (.int (nI i)), some (.int (dv_b gf)), some (.int (dv_b ga)), none, none, none, none] (by decide) (fun _ _ => Nat.le_of_ble_eq_true rfl) (fun _ _ => rfl) ?_
  refine J_aload_n dX7_writePart_0 (pc' := 1) rfl rfl ?_
  refine J_getr fX7_37 kd_0 rf_0_5 dX7_writePart_1 (pc' := 4) rfl ?_
  refine J_aload_n dX7_writePart_4 (pc' := 5) rfl rfl ?_
  refine J_getr fX7_37 kd_0 rf_0_5 dX7_writePart_5 (pc' := 8) rfl ?_
  refine J_aload_n dX7_writePart_8 (pc' := 9) rfl rfl ?_
  refine J_getr fX7_37 kd_0 rf_0_5 dX7_writePart_9 (pc' := 12) rfl ?_
  refine J_aload_n dX7_writePart_12 (pc' := 13) rfl rfl ?_
  refine J_getr fX7_30 kd_0 rf_0_4 dX7_writePart_13 (pc' := 16) rfl ?_
  refine J_iload_n dX7_writePart_16 (pc' := 17) rfl rfl ?_
  refine J_v1 (As := [.int (nI i)]) (rest := [.ref 13, .ref 13, .ref 13]) (qX1_key _ S S f m i hc.spl hm hi) vX1_keyOf mX7_217 kd_9 dX7_writePart_17 (pc' := 20) rfl rfl (Nat.le_of_ble_eq_true rfl) (by decide) ?_
  refine J_v1 (As := [.long (pk_k f m i)]) (rest := [.ref 13, .ref 13]) (qX0_numberOf _ _ _ w hB.1 hB.2.1) vX0_numberOf mX7_221 kd_13 dX7_writePart_20 (pc' := 23) rfl rfl (Nat.le_of_ble_eq_true rfl) (by decide) ?_
  refine J_top (w := .int (dv_oi (pk_w S w f m i))) (rfl) ?_
  refine J_v1 (As := [.int (dv_oi (pk_w S w f m i))]) (rest := [.ref 13]) (qX0_opened _ _ _ w hB.1 hB.2.1) vX0_opened mX7_274 kd_13 dX7_writePart_23 (pc' := 26) rfl rfl (Nat.le_of_ble_eq_true rfl) (by decide) ?_
  refine J_top (w := .int ((opS S w (pk_w S w f m i)))) (rfl) ?_
  refine J_v1 (As := [.int ((opS S w (pk_w S w f m i)))]) (rest := []) (qX0_headOfG _ _ w _ hB.1 hB.2.1) vX0_headOf mX7_249 kd_13 dX7_writePart_26 (pc' := 29) rfl rfl (Nat.le_of_ble_eq_true rfl) (by decide) ?_
  refine J_top (w := .int (nI h)) (by rw [hH]; rfl) ?_
  refine J_istore dX7_writePart_29 (pc' := 31) rfl (by decide) rfl (l' := [some (.ref 0), some (.int (nI i)), some (.int (dv_b gf)), some (.int (dv_b ga)), some (.int (nI h)), none, none, none]) rfl ?_
  refine J_iload dX7_writePart_31 (pc' := 33) rfl rfl ?_
  refine J_bipush dX7_writePart_33 (pc' := 35) rfl (v := (-2)) bp_m2 ?_
  refine J_icmp_ne dX7_writePart_35 (pt := 49) (by decide) (pc' := 38) rfl (fun c35 => ?_) (fun c35 => ?_)
  · refine J_aload_n dX7_writePart_49 (pc' := 50) rfl rfl ?_
    refine J_getr fX7_37 kd_0 rf_0_5 dX7_writePart_50 (pc' := 53) rfl ?_
    refine J_iload dX7_writePart_53 (pc' := 55) rfl rfl ?_
    refine J_v1 (As := [.int (nI h)]) (rest := []) (qX0_lengthOf _ S h w (wm h) (wl h) hB.1 hh hB.2.1 (hB.2.2 h hh).1 (hB.2.2 h hh).2.2.2 (hB.2.2 h hh).2.2.1) vX0_lengthOf mX7_318 kd_13 dX7_writePart_55 (pc' := 58) rfl rfl (Nat.le_of_ble_eq_true rfl) (by decide) ?_
    refine J_istore dX7_writePart_58 (pc' := 60) rfl (by decide) rfl (l' := [some (.ref 0), some (.int (nI i)), some (.int (dv_b gf)), some (.int (dv_b ga)), some (.int (nI h)), some (.int (nI (wm h))), none, none]) rfl ?_
    refine J_iconst dX7_writePart_60 (pc' := 61) rfl (v := 0) ic_0 ?_
    refine J_istore dX7_writePart_61 (pc' := 63) rfl (by decide) rfl (l' := [some (.ref 0), some (.int (nI i)), some (.int (dv_b gf)), some (.int (dv_b ga)), some (.int (nI h)), some (.int (nI (wm h))), some (.int 0), none]) rfl ?_
    have hlp63 : ∀ k, k ≤ (wm h) → ∀ (S1 : dv_S), wpI S l (ofc ga gf (wl h)) k S1 → dv_J yX7_writePart cX7_writePart 8 none (dv_rm (d + 5)) 0 0 63 [some (.ref 0), some (.int (nI i)), some (.int (dv_b gf)), some (.int (dv_b ga)), some (.int (nI h)), some (.int (nI (wm h))), some (.int (nI k)), none] [] S1 (fun r S' => r = none ∧ wpI S l (ofc ga gf (wl h)) (wm h) S') := by
      refine dv_up (P := fun k => ∀ (S1 : dv_S), wpI S l (ofc ga gf (wl h)) k S1 → dv_J yX7_writePart cX7_writePart 8 none (dv_rm (d + 5)) 0 0 63 [some (.ref 0), some (.int (nI i)), some (.int (dv_b gf)), some (.int (dv_b ga)), some (.int (nI h)), some (.int (nI (wm h))), some (.int (nI k)), none] [] S1 (fun r S' => r = none ∧ wpI S l (ofc ga gf (wl h)) (wm h) S')) ?_
      intro k hi63 ih63 S1 hI
      have hB1 := hI.1.B (by decide) hB
      refine J_iload dX7_writePart_63 (pc' := 65) rfl rfl ?_
      refine J_iload dX7_writePart_65 (pc' := 67) rfl rfl ?_
      refine J_icmp_ge dX7_writePart_67 (pt := 139) (by decide) (pc' := 70) rfl (fun c67 => ?_) (fun c67 => ?_)
      · have hk := dv_ge hi63 (by omega) c67
        refine J_vret dX7_writePart_139 rfl (dv_r1 _) ?_
        exact ⟨rfl, by rw [hk] at hI; exact hI⟩
      · have hk := dv_nge hi63 (by omega) c67
        refine J_iload dX7_writePart_70 (pc' := 72) rfl rfl ?_
        refine J_bipush dX7_writePart_72 (pc' := 74) rfl (v := (-2)) bp_m2 ?_
        refine J_icmp_ne dX7_writePart_74 (pt := 90) (by decide) (pc' := 77) rfl (fun c74 => ?_) (fun c74 => ?_)
        · refine J_aload_n dX7_writePart_90 (pc' := 91) rfl rfl ?_
          refine J_getr fX7_37 kd_0 rf_0_5 dX7_writePart_91 (pc' := 94) rfl ?_
          refine J_iload dX7_writePart_94 (pc' := 96) rfl rfl ?_
          refine J_iload dX7_writePart_96 (pc' := 98) rfl rfl ?_
          refine J_v1 (As := [.int (nI h), .int (nI k)]) (rest := []) (qX0_letterOf _ S1 h w (wm h) (wl h) k hB1.1 hh hB1.2.1 (hB1.2.2 h hh).1 (hB1.2.2 h hh).2.2.2 (hB1.2.2 h hh).2.2.1 hk) vX0_letterOf mX7_321 kd_13 dX7_writePart_98 (pc' := 101) rfl rfl (Nat.le_of_ble_eq_true rfl) (by decide) ?_
          refine J_istore dX7_writePart_101 (pc' := 103) rfl (by decide) rfl (l' := [some (.ref 0), some (.int (nI i)), some (.int (dv_b gf)), some (.int (dv_b ga)), some (.int (nI h)), some (.int (nI (wm h))), some (.int (nI k)), some (.int (wl h k))]) rfl ?_
          refine J_aload_n dX7_writePart_103 (pc' := 104) rfl rfl ?_
          refine J_getr fX7_21 kd_0 rf_0_2 dX7_writePart_104 (pc' := 107) rfl ?_
          refine J_iload_n dX7_writePart_107 (pc' := 108) rfl rfl ?_
          refine J_bne dX7_writePart_108 (pt := 120) (by decide) (pc' := 111) rfl (fun c108 => ?_) (fun c108 => ?_)
          · refine J_iload dX7_writePart_120 (pc' := 122) rfl rfl ?_
            refine J_s1 (As := [.int (wl h k)]) (rest := [.ref 5]) (qX7_greatOf _ _ _) vX7_greatOf mX7_324 dX7_writePart_122 (pc' := 125) rfl rfl (Nat.le_of_ble_eq_true rfl) (by decide) ?_
            refine J_goto dX7_writePart_125 (pc' := 130) (by decide) ?_
            refine J_v0 (As := [.int (ch_up (wl h k))]) (rest := []) (qX4_addG _ _ 5 (min (l ++ dv_rd (ofc ga gf (wl h)) k).length 24) _ kd_5 kd_6 hI.2.1 (dt_len hI.2)) vX4_add mX7_102 kd_5 dX7_writePart_130 (pc' := 133) rfl rfl (Nat.le_of_ble_eq_true rfl) (by decide) ?_
            refine J_iinc dX7_writePart_133 (pc' := 136) rfl rfl (v := nI (k + 1)) (nI_1 k) (by decide) rfl (l' := [some (.ref 0), some (.int (nI i)), some (.int (dv_b gf)), some (.int (dv_b ga)), some (.int (nI h)), some (.int (nI (wm h))), some (.int (nI (k + 1))), some (.int (wl h k))]) rfl ?_
            refine J_goto dX7_writePart_136 (pc' := 63) (by decide) ?_
            refine J_drop 7 (l' := [some (.ref 0), some (.int (nI i)), some (.int (dv_b gf)), some (.int (dv_b ga)), some (.int (nI h)), some (.int (nI (wm h))), some (.int (nI (k + 1))), none]) rfl ?_
            refine ih63 (k + 1) (by omega) (by omega) _ (wpI1 hI ?_)
            clear ih63
            first | (simp [ofc, c108]; done) | (simp [ofc, c108, c112, c117]; done) | (simp [ofc, c108, c112]; done)
          · refine J_iload_n dX7_writePart_111 (pc' := 112) rfl rfl ?_
            refine J_beq dX7_writePart_112 (pt := 128) (by decide) (pc' := 115) rfl (fun c112 => ?_) (fun c112 => ?_)
            · refine J_iload dX7_writePart_128 (pc' := 130) rfl rfl ?_
              refine J_v0 (As := [.int (wl h k)]) (rest := []) (qX4_addG _ _ 5 (min (l ++ dv_rd (ofc ga gf (wl h)) k).length 24) _ kd_5 kd_6 hI.2.1 (dt_len hI.2)) vX4_add mX7_102 kd_5 dX7_writePart_130 (pc' := 133) rfl rfl (Nat.le_of_ble_eq_true rfl) (by decide) ?_
              refine J_iinc dX7_writePart_133 (pc' := 136) rfl rfl (v := nI (k + 1)) (nI_1 k) (by decide) rfl (l' := [some (.ref 0), some (.int (nI i)), some (.int (dv_b gf)), some (.int (dv_b ga)), some (.int (nI h)), some (.int (nI (wm h))), some (.int (nI (k + 1))), some (.int (wl h k))]) rfl ?_
              refine J_goto dX7_writePart_136 (pc' := 63) (by decide) ?_
              refine J_drop 7 (l' := [some (.ref 0), some (.int (nI i)), some (.int (dv_b gf)), some (.int (dv_b ga)), some (.int (nI h)), some (.int (nI (wm h))), some (.int (nI (k + 1))), none]) rfl ?_
              refine ih63 (k + 1) (by omega) (by omega) _ (wpI1 hI ?_)
              clear ih63
              first | (simp [ofc, c108]; done) | (simp [ofc, c108, c112, c117]; done) | (simp [ofc, c108, c112]; done)
            · refine J_iload dX7_writePart_115 (pc' := 117) rfl rfl ?_
              refine J_if_ne dX7_writePart_117 (pt := 128) (by decide) (pc' := 120) rfl (fun c117 => ?_) (fun c117 => ?_)
              · rw [show (0 : Int32) = nI 0 by decide, nI_eq (by omega) (by omega)] at c117
                refine J_iload dX7_writePart_128 (pc' := 130) rfl rfl ?_
                refine J_v0 (As := [.int (wl h k)]) (rest := []) (qX4_addG _ _ 5 (min (l ++ dv_rd (ofc ga gf (wl h)) k).length 24) _ kd_5 kd_6 hI.2.1 (dt_len hI.2)) vX4_add mX7_102 kd_5 dX7_writePart_130 (pc' := 133) rfl rfl (Nat.le_of_ble_eq_true rfl) (by decide) ?_
                refine J_iinc dX7_writePart_133 (pc' := 136) rfl rfl (v := nI (k + 1)) (nI_1 k) (by decide) rfl (l' := [some (.ref 0), some (.int (nI i)), some (.int (dv_b gf)), some (.int (dv_b ga)), some (.int (nI h)), some (.int (nI (wm h))), some (.int (nI (k + 1))), some (.int (wl h k))]) rfl ?_
                refine J_goto dX7_writePart_136 (pc' := 63) (by decide) ?_
                refine J_drop 7 (l' := [some (.ref 0), some (.int (nI i)), some (.int (dv_b gf)), some (.int (dv_b ga)), some (.int (nI h)), some (.int (nI (wm h))), some (.int (nI (k + 1))), none]) rfl ?_
                refine ih63 (k + 1) (by omega) (by omega) _ (wpI1 hI ?_)
                clear ih63
                first | (simp [ofc, c108]; done) | (simp [ofc, c108, c112, c117]; done) | (simp [ofc, c108, c112]; done)
              · rw [show (0 : Int32) = nI 0 by decide, nI_eq (by omega) (by omega)] at c117
                refine J_iload dX7_writePart_120 (pc' := 122) rfl rfl ?_
                refine J_s1 (As := [.int (wl h k)]) (rest := [.ref 5]) (qX7_greatOf _ _ _) vX7_greatOf mX7_324 dX7_writePart_122 (pc' := 125) rfl rfl (Nat.le_of_ble_eq_true rfl) (by decide) ?_
                refine J_goto dX7_writePart_125 (pc' := 130) (by decide) ?_
                refine J_v0 (As := [.int (ch_up (wl h k))]) (rest := []) (qX4_addG _ _ 5 (min (l ++ dv_rd (ofc ga gf (wl h)) k).length 24) _ kd_5 kd_6 hI.2.1 (dt_len hI.2)) vX4_add mX7_102 kd_5 dX7_writePart_130 (pc' := 133) rfl rfl (Nat.le_of_ble_eq_true rfl) (by decide) ?_
                refine J_iinc dX7_writePart_133 (pc' := 136) rfl rfl (v := nI (k + 1)) (nI_1 k) (by decide) rfl (l' := [some (.ref 0), some (.int (nI i)), some (.int (dv_b gf)), some (.int (dv_b ga)), some (.int (nI h)), some (.int (nI (wm h))), some (.int (nI (k + 1))), some (.int (wl h k))]) rfl ?_
                refine J_goto dX7_writePart_136 (pc' := 63) (by decide) ?_
                refine J_drop 7 (l' := [some (.ref 0), some (.int (nI i)), some (.int (dv_b gf)), some (.int (dv_b ga)), some (.int (nI h)), some (.int (nI (wm h))), some (.int (nI (k + 1))), none]) rfl ?_
                refine ih63 (k + 1) (by omega) (by omega) _ (wpI1 hI ?_)
                clear ih63
                first | (simp [ofc, c108]; done) | (simp [ofc, c108, c112, c117]; done) | (simp [ofc, c108, c112]; done)
        · exact absurd c74 (nI_m2 (by have := hB.2.1; omega))
    refine J_loc (l' := [some (.ref 0), some (.int (nI i)), some (.int (dv_b gf)), some (.int (dv_b ga)), some (.int (nI h)), some (.int (nI (wm h))), some (.int (nI 0)), none]) (by simp only [nI_0, dv_b_f, dv_b_t]) ?_
    refine J_sto (S' := S) (rfl) ?_
    exact hlp63 0 (Nat.zero_le _) _ (wpI0 _ hl)
  · exact absurd c35 (nI_m2 (by have := hB.2.1; omega))
theorem qX7_writePart (d : Nat) (S : dv_S) (w : Nat) (wl : Nat → Nat → Int32) (wm : Nat → Nat) (f : Nat → Int32) (m i : Nat) (l : List Int32) (gf ga : Bool) (hc : csp S f m) (hm : m ≤ 24) (hi : i < (cu f m m).1) (hB : cw_B S w wl wm) (hl : dt S l) : dv_M yX7_writePart cX7_writePart 8 none (dv_rm (d + 5)) [.ref 0, .int (nI i), .int (dv_b gf), .int (dv_b ga)] S (fun r S' => r = none ∧ wpI S l (ofc ga gf (ofb S w wl wm (S.2.1 18) f m i).1) (ofb S w wl wm (S.2.1 18) f m i).2 S') := by
  cases hH : hdo (S.2.1 17) (S.2.1 18) w (opS S w (pk_w S w f m i)) with
  | none =>
    have e : ofb S w wl wm (S.2.1 18) f m i = (fun k => ch_lo (f ((cu f m m).2.1 i + k)), (cu f m m).2.2 i - (cu f m m).2.1 i) := by unfold ofb; rw [hH]
    rw [e]; exact qX7_writePartN d S w wl wm f m i l gf ga hc hm hi hB hl hH
  | some h =>
    have e : ofb S w wl wm (S.2.1 18) f m i = (wl h, wm h) := by unfold ofb; rw [hH]
    rw [e]; exact qX7_writePartY d S w wl wm f m i l gf ga h hc hm hi hB hl (hdo_lt hH) hH
set_option maxRecDepth 100000 in
set_option maxHeartbeats 400000 in
theorem qX7_draftsOffer (d : Nat) (S : dv_S) (n w t : Nat) (wl : Nat → Nat → Int32) (wm : Nat → Nat) (hT : cw_T S n) (ht : t < n) (hB : cw_B S w wl wm) : dv_M yX7_draftsOffer cX7_draftsOffer 6 (some .boolean) (dv_rm (d + 6)) [.ref 0, .int (nI t)] S (fun r S' => r = some (.int (dv_b (nm_ok (ofS S w wl wm (S.2.1 18) t (cu (S.2.1 (25 + 2 * t + 1)) (dn (S.1 (25 + 2 * t) 1)) (dn (S.1 (25 + 2 * t) 1))).1) && !decide (ofS S w wl wm (S.2.1 18) t (cu (S.2.1 (25 + 2 * t + 1)) (dn (S.1 (25 + 2 * t) 1)) (dn (S.1 (25 + 2 * t) 1))).1 = tx S (25 + 2 * t))))) ∧ dfI S t (ofS S w wl wm (S.2.1 18) t (cu (S.2.1 (25 + 2 * t + 1)) (dn (S.1 (25 + 2 * t) 1)) (dn (S.1 (25 + 2 * t) 1))).1) S') := by
  have h80 := hT.2.1
  have htl := (hT.2.2 t ht).1
  have hc24 := cu_le (S.2.1 (25 + 2 * t + 1)) (dn (S.1 (25 + 2 * t) 1)) (dn (S.1 (25 + 2 * t) 1))
  have hm24 := htl.2
  refine dv_M_of [some (.ref 0), some (.int (nI t)), none, none, none, none] (by decide) (fun _ _ => Nat.le_of_ble_eq_true rfl) (fun _ _ => rfl) ?_
  refine J_aload_n dX7_draftsOffer_0 (pc' := 1) rfl rfl ?_
  refine J_getr fX7_51 kd_0 rf_0_7 dX7_draftsOffer_1 (pc' := 4) rfl ?_
  refine J_iload_n dX7_draftsOffer_4 (pc' := 5) rfl rfl ?_
  refine J_v1 (As := [.int (nI t)]) (rest := []) (qX5_nameOf _ _ t n hT.1 ht h80) vX5_nameOf mX7_167 kd_21 dX7_draftsOffer_5 (pc' := 8) rfl rfl (Nat.le_of_ble_eq_true rfl) (by decide) ?_
  refine J_astore_n dX7_draftsOffer_8 (pc' := 9) rfl rfl (by decide) rfl (l' := [some (.ref 0), some (.int (nI t)), some (.ref (25 + 2 * t)), none, none, none]) rfl ?_
  refine J_aload_n dX7_draftsOffer_9 (pc' := 10) rfl rfl ?_
  refine J_v1 (As := []) (rest := []) (qX4_style _ _ (25 + 2 * t) (dn (S.1 (25 + 2 * t) 1)) (kd_T (by omega)).1 (kd_T (by omega)).2.1 htl.1 (by rw [(kd_T (by omega)).2.2]; exact htl.2)) vX4_style mX7_176 (kd_T (by omega)).1 dX7_draftsOffer_10 (pc' := 13) rfl rfl (Nat.le_of_ble_eq_true rfl) (by decide) ?_
  refine J_top (w := .int (stS S t)) (rfl) ?_
  refine J_istore_n dX7_draftsOffer_13 (pc' := 14) rfl rfl (by decide) rfl (l' := [some (.ref 0), some (.int (nI t)), some (.ref (25 + 2 * t)), some (.int (stS S t)), none, none]) rfl ?_
  refine J_aload_n dX7_draftsOffer_14 (pc' := 15) rfl rfl ?_
  refine J_getr fX7_21 kd_0 rf_0_2 dX7_draftsOffer_15 (pc' := 18) rfl ?_
  refine J_v0 (As := []) (rest := []) (qX4_clear _ _ 5 kd_5) vX4_clear mX7_95 kd_5 dX7_draftsOffer_18 (pc' := 21) rfl rfl (Nat.le_of_ble_eq_true rfl) (by decide) ?_
  refine J_aload_n dX7_draftsOffer_21 (pc' := 22) rfl rfl ?_
  refine J_getr fX7_30 kd_0 rf_0_4 dX7_draftsOffer_22 (pc' := 25) rfl ?_
  refine J_aload_n dX7_draftsOffer_25 (pc' := 26) rfl rfl ?_
  refine J_vq (As := [.ref (25 + 2 * t)]) (rest := []) (qX1_split _ _ (25 + 2 * t) (dn (S.1 (25 + 2 * t) 1)) (kd_T (by omega)).1 (kd_T (by omega)).2.1 (by show dv_u (dv_u S.1 5 1 0) 5 2 0 (25 + 2 * t) 1 = _; rw [dv_u_ne _ _ (by omega), dv_u_ne _ _ (by omega)]; exact htl.1) (by rw [(kd_T (by omega)).2.2]; exact htl.2) htl.2) vX1_split mX7_171 kd_9 dX7_draftsOffer_26 (pc' := 29) rfl rfl (Nat.le_of_ble_eq_true rfl) (by decide) ?_
  rintro r S2 ⟨rfl, hsp⟩
  have hsp : dv_spl (dv_u (dv_u S.1 5 1 0) 5 2 0, S.2) (S.2.1 (25 + 2 * t + 1)) (dn (S.1 (25 + 2 * t) 1)) S2 := hsp
  show dv_J yX7_draftsOffer cX7_draftsOffer 6 (some .boolean) (dv_rm (d + 6)) 0 0 29 [some (.ref 0), some (.int (nI t)), some (.ref (25 + 2 * t)), some (.int (stS S t)), none, none] [] S2 (fun r S' => r = some (.int (dv_b (nm_ok (ofS S w wl wm (S.2.1 18) t (cu (S.2.1 (25 + 2 * t + 1)) (dn (S.1 (25 + 2 * t) 1)) (dn (S.1 (25 + 2 * t) 1))).1) && !decide (ofS S w wl wm (S.2.1 18) t (cu (S.2.1 (25 + 2 * t + 1)) (dn (S.1 (25 + 2 * t) 1)) (dn (S.1 (25 + 2 * t) 1))).1 = tx S (25 + 2 * t))))) ∧ dfI S t (ofS S w wl wm (S.2.1 18) t (cu (S.2.1 (25 + 2 * t + 1)) (dn (S.1 (25 + 2 * t) 1)) (dn (S.1 (25 + 2 * t) 1))).1) S')
  refine J_iconst dX7_draftsOffer_29 (pc' := 30) rfl (v := 0) ic_0 ?_
  refine J_istore dX7_draftsOffer_30 (pc' := 32) rfl (by decide) rfl (l' := [some (.ref 0), some (.int (nI t)), some (.ref (25 + 2 * t)), some (.int (stS S t)), some (.int 0), none]) rfl ?_
  have hlp32 : ∀ i, i ≤ (cu (S.2.1 (25 + 2 * t + 1)) (dn (S.1 (25 + 2 * t) 1)) (dn (S.1 (25 + 2 * t) 1))).1 → ∀ (S1 : dv_S), dfI S t (ofS S w wl wm (S.2.1 18) t i) S1 → dv_J yX7_draftsOffer cX7_draftsOffer 6 (some .boolean) (dv_rm (d + 6)) 0 0 32 [some (.ref 0), some (.int (nI t)), some (.ref (25 + 2 * t)), some (.int (stS S t)), some (.int (nI i)), none] [] S1 (fun r S' => r = some (.int (dv_b (nm_ok (ofS S w wl wm (S.2.1 18) t (cu (S.2.1 (25 + 2 * t + 1)) (dn (S.1 (25 + 2 * t) 1)) (dn (S.1 (25 + 2 * t) 1))).1) && !decide (ofS S w wl wm (S.2.1 18) t (cu (S.2.1 (25 + 2 * t + 1)) (dn (S.1 (25 + 2 * t) 1)) (dn (S.1 (25 + 2 * t) 1))).1 = tx S (25 + 2 * t))))) ∧ dfI S t (ofS S w wl wm (S.2.1 18) t (cu (S.2.1 (25 + 2 * t + 1)) (dn (S.1 (25 + 2 * t) 1)) (dn (S.1 (25 + 2 * t) 1))).1) S') := by
    refine dv_up (P := fun i => ∀ (S1 : dv_S), dfI S t (ofS S w wl wm (S.2.1 18) t i) S1 → dv_J yX7_draftsOffer cX7_draftsOffer 6 (some .boolean) (dv_rm (d + 6)) 0 0 32 [some (.ref 0), some (.int (nI t)), some (.ref (25 + 2 * t)), some (.int (stS S t)), some (.int (nI i)), none] [] S1 (fun r S' => r = some (.int (dv_b (nm_ok (ofS S w wl wm (S.2.1 18) t (cu (S.2.1 (25 + 2 * t + 1)) (dn (S.1 (25 + 2 * t) 1)) (dn (S.1 (25 + 2 * t) 1))).1) && !decide (ofS S w wl wm (S.2.1 18) t (cu (S.2.1 (25 + 2 * t + 1)) (dn (S.1 (25 + 2 * t) 1)) (dn (S.1 (25 + 2 * t) 1))).1 = tx S (25 + 2 * t))))) ∧ dfI S t (ofS S w wl wm (S.2.1 18) t (cu (S.2.1 (25 + 2 * t + 1)) (dn (S.1 (25 + 2 * t) 1)) (dn (S.1 (25 + 2 * t) 1))).1) S')) ?_
    intro i hi32 ih32 S1 hI
    refine J_iload dX7_draftsOffer_32 (pc' := 34) rfl rfl ?_
    refine J_aload_n dX7_draftsOffer_34 (pc' := 35) rfl rfl ?_
    refine J_getr fX7_30 kd_0 rf_0_4 dX7_draftsOffer_35 (pc' := 38) rfl ?_
    refine J_v1 (As := []) (rest := [.int (nI i)]) (qX1_size _ _) vX1_size mX7_175 kd_9 dX7_draftsOffer_38 (pc' := 41) rfl rfl (Nat.le_of_ble_eq_true rfl) (by decide) ?_
    refine J_top (w := .int (nI ((cu (S.2.1 (25 + 2 * t + 1)) (dn (S.1 (25 + 2 * t) 1)) (dn (S.1 (25 + 2 * t) 1))).1))) (by rw [hI.2.1.1]) ?_
    refine J_icmp_ge dX7_draftsOffer_41 (pt := 113) (by decide) (pc' := 44) rfl (fun c41 => ?_) (fun c41 => ?_)
    · have hx := dv_ge hi32 (by omega) c41
      refine J_aload_n dX7_draftsOffer_113 (pc' := 114) rfl rfl ?_
      refine J_getr fX7_21 kd_0 rf_0_2 dX7_draftsOffer_114 (pc' := 117) rfl ?_
      refine J_v1 (As := []) (rest := []) (qX4_isName _ S1 5 (min (ofS S w wl wm (S.2.1 18) t i).length 24) kd_5 kd_6 hI.2.2.1 (dt_len hI.2.2)) vX4_isName mX7_112 kd_5 dX7_draftsOffer_117 (pc' := 120) rfl rfl (Nat.le_of_ble_eq_true rfl) (by decide) ?_
      refine J_top (w := .int (dv_b (nm_ok (ofS S w wl wm (S.2.1 18) t i)))) (congrArg (fun z => Value.int (dv_b z)) (dt_nm hI.2.2)) ?_
      refine J_beq dX7_draftsOffer_120 (pt := 138) (by decide) (pc' := 123) rfl (fun c120 => ?_) (fun c120 => ?_)
      · refine J_iconst dX7_draftsOffer_138 (pc' := 139) rfl (v := 0) ic_0 ?_
        refine J_zret dX7_draftsOffer_139 rfl (by decide) (dv_r1 _) ?_
        rw [hx] at hI
        refine ⟨?_, hI⟩
        rw [hx] at c120
        first | (simp [dv_b, c120]; done) | (rw [hx] at c131; simp [dv_b, c120, c131]; done) | (rw [hx] at c131; rw [c120, c131]; rfl)
      · refine J_aload_n dX7_draftsOffer_123 (pc' := 124) rfl rfl ?_
        refine J_getr fX7_21 kd_0 rf_0_2 dX7_draftsOffer_124 (pc' := 127) rfl ?_
        refine J_aload_n dX7_draftsOffer_127 (pc' := 128) rfl rfl ?_
        refine J_v1 (As := [.ref (25 + 2 * t)]) (rest := []) (qX4_same _ S1 5 (25 + 2 * t) (min (ofS S w wl wm (S.2.1 18) t i).length 24) (dn (S.1 (25 + 2 * t) 1)) kd_5 kd_6 hI.2.2.1 (dt_len hI.2.2) (kd_T (by omega)).1 (kd_T (by omega)).2.1 (by rw [hI.1.1 (25 + 2 * t) 1 (by simp; omega)]; exact htl.1) (by rw [(kd_T (by omega)).2.2]; exact htl.2)) vX4_same mX7_203 kd_5 dX7_draftsOffer_128 (pc' := 131) rfl rfl (Nat.le_of_ble_eq_true rfl) (by decide) ?_
        refine J_top (w := .int (dv_b (decide (ofS S w wl wm (S.2.1 18) t i = tx S (25 + 2 * t))))) (by rw [dt_rd hI.2.2 (nm_len c120).2, hI.1.2.1 (25 + 2 * t + 1) (by simp; omega)]; rfl) ?_
        refine J_bne dX7_draftsOffer_131 (pt := 138) (by decide) (pc' := 134) rfl (fun c131 => ?_) (fun c131 => ?_)
        · refine J_iconst dX7_draftsOffer_138 (pc' := 139) rfl (v := 0) ic_0 ?_
          refine J_zret dX7_draftsOffer_139 rfl (by decide) (dv_r1 _) ?_
          rw [hx] at hI
          refine ⟨?_, hI⟩
          rw [hx] at c120
          first | (simp [dv_b, c120]; done) | (rw [hx] at c131; simp [dv_b, c120, c131]; done) | (rw [hx] at c131; rw [c120, c131]; rfl)
        · refine J_iconst dX7_draftsOffer_134 (pc' := 135) rfl (v := 1) ic_1 ?_
          refine J_goto dX7_draftsOffer_135 (pc' := 139) (by decide) ?_
          refine J_zret dX7_draftsOffer_139 rfl (by decide) (dv_r1 _) ?_
          rw [hx] at hI
          refine ⟨?_, hI⟩
          rw [hx] at c120
          first | (simp [dv_b, c120]; done) | (rw [hx] at c131; simp [dv_b, c120, c131]; done) | (rw [hx] at c131; rw [c120, c131]; rfl)
    · have hx := dv_nge hi32 (by omega) c41
      have hg68 : ∀ (S4 : dv_S), dfI S t (ofS S w wl wm (S.2.1 18) t i ++ (if 0 < i ∧ (stS S t = 2 ∨ stS S t = 3) then [95] else [])) S4 → dv_J yX7_draftsOffer cX7_draftsOffer 6 (some .boolean) (dv_rm (d + 6)) 0 0 68 [some (.ref 0), some (.int (nI t)), some (.ref (25 + 2 * t)), some (.int (stS S t)), some (.int (nI i)), none] [] S4 (fun r S' => r = some (.int (dv_b (nm_ok (ofS S w wl wm (S.2.1 18) t (cu (S.2.1 (25 + 2 * t + 1)) (dn (S.1 (25 + 2 * t) 1)) (dn (S.1 (25 + 2 * t) 1))).1) && !decide (ofS S w wl wm (S.2.1 18) t (cu (S.2.1 (25 + 2 * t + 1)) (dn (S.1 (25 + 2 * t) 1)) (dn (S.1 (25 + 2 * t) 1))).1 = tx S (25 + 2 * t))))) ∧ dfI S t (ofS S w wl wm (S.2.1 18) t (cu (S.2.1 (25 + 2 * t + 1)) (dn (S.1 (25 + 2 * t) 1)) (dn (S.1 (25 + 2 * t) 1))).1) S') := by
        intro S4 hJ
        have hj87 : ∀ jv : Int32, (dv_b (decide (stS S t = 1 ∨ (stS S t = 0 ∧ 0 < i)))) = jv → dv_J yX7_draftsOffer cX7_draftsOffer 6 (some .boolean) (dv_rm (d + 6)) 0 0 87 [some (.ref 0), some (.int (nI t)), some (.ref (25 + 2 * t)), some (.int (stS S t)), some (.int (nI i)), none] [.int jv] S4 (fun r S' => r = some (.int (dv_b (nm_ok (ofS S w wl wm (S.2.1 18) t (cu (S.2.1 (25 + 2 * t + 1)) (dn (S.1 (25 + 2 * t) 1)) (dn (S.1 (25 + 2 * t) 1))).1) && !decide (ofS S w wl wm (S.2.1 18) t (cu (S.2.1 (25 + 2 * t + 1)) (dn (S.1 (25 + 2 * t) 1)) (dn (S.1 (25 + 2 * t) 1))).1 = tx S (25 + 2 * t))))) ∧ dfI S t (ofS S w wl wm (S.2.1 18) t (cu (S.2.1 (25 + 2 * t + 1)) (dn (S.1 (25 + 2 * t) 1)) (dn (S.1 (25 + 2 * t) 1))).1) S') := by
          intro jv hjv
          subst hjv
          refine J_istore dX7_draftsOffer_87 (pc' := 89) rfl (by decide) rfl (l' := [some (.ref 0), some (.int (nI t)), some (.ref (25 + 2 * t)), some (.int (stS S t)), some (.int (nI i)), some (.int (dv_b (decide (stS S t = 1 ∨ (stS S t = 0 ∧ 0 < i)))))]) rfl ?_
          refine J_aload_n dX7_draftsOffer_89 (pc' := 90) rfl rfl ?_
          refine J_iload dX7_draftsOffer_90 (pc' := 92) rfl rfl ?_
          refine J_iload dX7_draftsOffer_92 (pc' := 94) rfl rfl ?_
          have hj104 : ∀ jv : Int32, (dv_b (decide (stS S t = 3))) = jv → dv_J yX7_draftsOffer cX7_draftsOffer 6 (some .boolean) (dv_rm (d + 6)) 0 0 104 [some (.ref 0), some (.int (nI t)), some (.ref (25 + 2 * t)), some (.int (stS S t)), some (.int (nI i)), some (.int (dv_b (decide (stS S t = 1 ∨ (stS S t = 0 ∧ 0 < i)))))] [.int jv, .int (dv_b (decide (stS S t = 1 ∨ (stS S t = 0 ∧ 0 < i)))), .int (nI i), .ref 0] S4 (fun r S' => r = some (.int (dv_b (nm_ok (ofS S w wl wm (S.2.1 18) t (cu (S.2.1 (25 + 2 * t + 1)) (dn (S.1 (25 + 2 * t) 1)) (dn (S.1 (25 + 2 * t) 1))).1) && !decide (ofS S w wl wm (S.2.1 18) t (cu (S.2.1 (25 + 2 * t + 1)) (dn (S.1 (25 + 2 * t) 1)) (dn (S.1 (25 + 2 * t) 1))).1 = tx S (25 + 2 * t))))) ∧ dfI S t (ofS S w wl wm (S.2.1 18) t (cu (S.2.1 (25 + 2 * t + 1)) (dn (S.1 (25 + 2 * t) 1)) (dn (S.1 (25 + 2 * t) 1))).1) S') := by
            intro jv hjv
            subst hjv
            refine J_vq (As := [.int (nI i), .int (dv_b (decide (stS S t = 1 ∨ (stS S t = 0 ∧ 0 < i)))), .int (dv_b (decide (stS S t = 3)))]) (rest := []) (qX7_writePart _ S4 w wl wm (S.2.1 (25 + 2 * t + 1)) (dn (S.1 (25 + 2 * t) 1)) i (ofS S w wl wm (S.2.1 18) t i ++ (if 0 < i ∧ (stS S t = 2 ∨ stS S t = 3) then [95] else [])) (decide (stS S t = 1 ∨ (stS S t = 0 ∧ 0 < i))) (decide (stS S t = 3)) hJ.2.1 hm24 (by omega) (hJ.1.B (by decide) hB) hJ.2.2) vX7_writePart mX7_311 kd_0 dX7_draftsOffer_104 (pc' := 107) rfl rfl (Nat.le_of_ble_eq_true rfl) (by decide) ?_
            rintro r S5 ⟨rfl, hwp⟩
            show dv_J yX7_draftsOffer cX7_draftsOffer 6 (some .boolean) (dv_rm (d + 6)) 0 0 107 [some (.ref 0), some (.int (nI t)), some (.ref (25 + 2 * t)), some (.int (stS S t)), some (.int (nI i)), some (.int (dv_b (decide (stS S t = 1 ∨ (stS S t = 0 ∧ 0 < i)))))] [] S5 (fun r S' => r = some (.int (dv_b (nm_ok (ofS S w wl wm (S.2.1 18) t (cu (S.2.1 (25 + 2 * t + 1)) (dn (S.1 (25 + 2 * t) 1)) (dn (S.1 (25 + 2 * t) 1))).1) && !decide (ofS S w wl wm (S.2.1 18) t (cu (S.2.1 (25 + 2 * t + 1)) (dn (S.1 (25 + 2 * t) 1)) (dn (S.1 (25 + 2 * t) 1))).1 = tx S (25 + 2 * t))))) ∧ dfI S t (ofS S w wl wm (S.2.1 18) t (cu (S.2.1 (25 + 2 * t + 1)) (dn (S.1 (25 + 2 * t) 1)) (dn (S.1 (25 + 2 * t) 1))).1) S')
            refine J_iinc dX7_draftsOffer_107 (pc' := 110) rfl rfl (v := nI (i + 1)) (nI_1 i) (by decide) rfl (l' := [some (.ref 0), some (.int (nI t)), some (.ref (25 + 2 * t)), some (.int (stS S t)), some (.int (nI (i + 1))), some (.int (dv_b (decide (stS S t = 1 ∨ (stS S t = 0 ∧ 0 < i)))))]) rfl ?_
            refine J_goto dX7_draftsOffer_110 (pc' := 32) (by decide) ?_
            refine J_drop 5 (l' := [some (.ref 0), some (.int (nI t)), some (.ref (25 + 2 * t)), some (.int (stS S t)), some (.int (nI (i + 1))), none]) rfl ?_
            exact ih32 (i + 1) (by omega) (by omega) _ (dfI2 hJ hwp rfl rfl rfl)
          refine J_iload_n dX7_draftsOffer_94 (pc' := 95) rfl rfl ?_
          refine J_iconst dX7_draftsOffer_95 (pc' := 96) rfl (v := 3) ic_3 ?_
          refine J_icmp_ne dX7_draftsOffer_96 (pt := 103) (by decide) (pc' := 99) rfl (fun c96 => ?_) (fun c96 => ?_)
          · refine J_iconst dX7_draftsOffer_103 (pc' := 104) rfl (v := 0) ic_0 ?_
            exact hj104 _ (by simp [dv_b, c96])
          · refine J_iconst dX7_draftsOffer_99 (pc' := 100) rfl (v := 1) ic_1 ?_
            refine J_goto dX7_draftsOffer_100 (pc' := 104) (by decide) ?_
            exact hj104 _ (by simp [dv_b, c96])
        refine J_iload_n dX7_draftsOffer_68 (pc' := 69) rfl rfl ?_
        refine J_iconst dX7_draftsOffer_69 (pc' := 70) rfl (v := 1) ic_1 ?_
        refine J_icmp_eq dX7_draftsOffer_70 (pt := 82) (by decide) (pc' := 73) rfl (fun c70 => ?_) (fun c70 => ?_)
        · refine J_iconst dX7_draftsOffer_82 (pc' := 83) rfl (v := 1) ic_1 ?_
          refine J_goto dX7_draftsOffer_83 (pc' := 87) (by decide) ?_
          exact hj87 _ (by first | (simp [dv_b, c70]; done) | (simp [dv_b, c70, c74]; done) | (simp [dv_b, c70, c74]; omega))
        · refine J_iload_n dX7_draftsOffer_73 (pc' := 74) rfl rfl ?_
          refine J_if_ne dX7_draftsOffer_74 (pt := 86) (by decide) (pc' := 77) rfl (fun c74 => ?_) (fun c74 => ?_)
          · refine J_iconst dX7_draftsOffer_86 (pc' := 87) rfl (v := 0) ic_0 ?_
            exact hj87 _ (by first | (simp [dv_b, c70]; done) | (simp [dv_b, c70, c74]; done) | (simp [dv_b, c70, c74]; omega))
          · refine J_iload dX7_draftsOffer_77 (pc' := 79) rfl rfl ?_
            refine J_if_le dX7_draftsOffer_79 (pt := 86) (by decide) (pc' := 82) rfl (fun c79 => ?_) (fun c79 => ?_)
            · rw [show (0 : Int32) = nI 0 by decide, nI_leI (by omega) (by omega)] at c79
              refine J_iconst dX7_draftsOffer_86 (pc' := 87) rfl (v := 0) ic_0 ?_
              exact hj87 _ (by first | (simp [dv_b, c70]; done) | (simp [dv_b, c70, c74]; done) | (simp [dv_b, c70, c74]; omega))
            · rw [show (0 : Int32) = nI 0 by decide, nI_leI (by omega) (by omega)] at c79
              refine J_iconst dX7_draftsOffer_82 (pc' := 83) rfl (v := 1) ic_1 ?_
              refine J_goto dX7_draftsOffer_83 (pc' := 87) (by decide) ?_
              exact hj87 _ (by first | (simp [dv_b, c70]; done) | (simp [dv_b, c70, c74]; done) | (simp [dv_b, c70, c74]; omega))
      refine J_iload dX7_draftsOffer_44 (pc' := 46) rfl rfl ?_
      refine J_if_le dX7_draftsOffer_46 (pt := 68) (by decide) (pc' := 49) rfl (fun c46 => ?_) (fun c46 => ?_)
      · rw [show (0 : Int32) = nI 0 by decide, nI_leI (by omega) (by omega)] at c46
        refine hg68 _ ?_
        rw [if_neg (by first | (rintro ⟨q, -⟩; omega) | (rintro ⟨-, q⟩; exact q.elim c51 c56)), List.append_nil]
        exact hI
      · rw [show (0 : Int32) = nI 0 by decide, nI_leI (by omega) (by omega)] at c46
        refine J_iload_n dX7_draftsOffer_49 (pc' := 50) rfl rfl ?_
        refine J_iconst dX7_draftsOffer_50 (pc' := 51) rfl (v := 2) ic_2 ?_
        refine J_icmp_eq dX7_draftsOffer_51 (pt := 59) (by decide) (pc' := 54) rfl (fun c51 => ?_) (fun c51 => ?_)
        · refine J_aload_n dX7_draftsOffer_59 (pc' := 60) rfl rfl ?_
          refine J_getr fX7_21 kd_0 rf_0_2 dX7_draftsOffer_60 (pc' := 63) rfl ?_
          refine J_bipush dX7_draftsOffer_63 (pc' := 65) rfl (v := 95) bp_95 ?_
          refine J_v0 (As := [.int 95]) (rest := []) (qX4_addG _ _ 5 (min (ofS S w wl wm (S.2.1 18) t i).length 24) _ kd_5 kd_6 hI.2.2.1 (dt_len hI.2.2)) vX4_add mX7_102 kd_5 dX7_draftsOffer_65 (pc' := 68) rfl rfl (Nat.le_of_ble_eq_true rfl) (by decide) ?_
          refine hg68 _ ?_
          rw [if_pos ⟨by omega, by first | exact Or.inl c51 | exact Or.inr c56⟩]
          exact dfI1 hI 95
        · refine J_iload_n dX7_draftsOffer_54 (pc' := 55) rfl rfl ?_
          refine J_iconst dX7_draftsOffer_55 (pc' := 56) rfl (v := 3) ic_3 ?_
          refine J_icmp_ne dX7_draftsOffer_56 (pt := 68) (by decide) (pc' := 59) rfl (fun c56 => ?_) (fun c56 => ?_)
          · refine hg68 _ ?_
            rw [if_neg (by first | (rintro ⟨q, -⟩; omega) | (rintro ⟨-, q⟩; exact q.elim c51 c56)), List.append_nil]
            exact hI
          · refine J_aload_n dX7_draftsOffer_59 (pc' := 60) rfl rfl ?_
            refine J_getr fX7_21 kd_0 rf_0_2 dX7_draftsOffer_60 (pc' := 63) rfl ?_
            refine J_bipush dX7_draftsOffer_63 (pc' := 65) rfl (v := 95) bp_95 ?_
            refine J_v0 (As := [.int 95]) (rest := []) (qX4_addG _ _ 5 (min (ofS S w wl wm (S.2.1 18) t i).length 24) _ kd_5 kd_6 hI.2.2.1 (dt_len hI.2.2)) vX4_add mX7_102 kd_5 dX7_draftsOffer_65 (pc' := 68) rfl rfl (Nat.le_of_ble_eq_true rfl) (by decide) ?_
            refine hg68 _ ?_
            rw [if_pos ⟨by omega, by first | exact Or.inl c51 | exact Or.inr c56⟩]
            exact dfI1 hI 95
  refine J_loc (l' := [some (.ref 0), some (.int (nI t)), some (.ref (25 + 2 * t)), some (.int (stS S t)), some (.int (nI 0)), none]) (by simp only [nI_0, dv_b_f, dv_b_t]) ?_
  refine J_sto (S' := S2) (rfl) ?_
  exact hlp32 0 (Nat.zero_le _) _ (dfI0 hsp)
