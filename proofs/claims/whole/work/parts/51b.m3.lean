set_option maxRecDepth 100000 in
set_option maxHeartbeats 400000 in
theorem qX8_wordOf (d : Nat) (S : dv_S) (C : dv_S) (n w : Nat) (wl : Nat → Nat → Int32) (wm : Nat → Nat) (t i : Nat) (hX : RX S C n w wl wm) (ht : t < n) (hc : rcu S C t) (hi : i < pnS C t)  : dv_M yX8_wordOf cX8_wordOf 6 (some .int) (dv_rm (d + 2)) [.ref 516, .int (nI t), .int (nI i)] S (fun r S' => r = some (.int (dv_oi (pk_w C w (nfS C t) (nlS C t) i))) ∧ S' = S) := by
  have h80 := hX.1.2
  have h60 := hX.2.1.2
  have hm24 := (hX.2.2.1 t ht).2.1
  have hft := cu_ft (nfS C t) (nlS C t) (nlS C t) i hi
  have hc24 : pnS C t ≤ (nlS C t) := cu_le (nfS C t) (nlS C t) (nlS C t)
  refine dv_M_of [some (.ref 516), some (.int (nI t)), some (.int (nI i)), none, none, none] (by decide) (fun _ _ => Nat.le_of_ble_eq_true rfl) (fun _ _ => rfl) ?_
  refine J_iconst dX8_wordOf_0 (pc' := 1) rfl (v := 0) ic_0 ?_
  refine J_istore_n dX8_wordOf_1 (pc' := 2) rfl rfl (by decide) rfl (l' := [some (.ref 516), some (.int (nI t)), some (.int (nI i)), some (.int 0), none, none]) rfl ?_
  have hlp2 : ∀ v, v ≤ w → (∀ j, j < v → decide (C.2.2 14 j = pk_k (nfS C t) (nlS C t) i) = false) → dv_J yX8_wordOf cX8_wordOf 6 (some .int) (dv_rm (d + 2)) 0 0 2 [some (.ref 516), some (.int (nI t)), some (.int (nI i)), some (.int (nI v)), none, none] [] S (fun r S' => r = some (.int (dv_oi (pk_w C w (nfS C t) (nlS C t) i))) ∧ S' = S) := by
    refine dv_up (P := fun v => (∀ j, j < v → decide (C.2.2 14 j = pk_k (nfS C t) (nlS C t) i) = false) → dv_J yX8_wordOf cX8_wordOf 6 (some .int) (dv_rm (d + 2)) 0 0 2 [some (.ref 516), some (.int (nI t)), some (.int (nI i)), some (.int (nI v)), none, none] [] S (fun r S' => r = some (.int (dv_oi (pk_w C w (nfS C t) (nlS C t) i))) ∧ S' = S)) ?_
    intro v hi2 ih2 hq
    refine J_iload_n dX8_wordOf_2 (pc' := 3) rfl rfl ?_
    refine J_aload_n dX8_wordOf_3 (pc' := 4) rfl rfl ?_
    refine J_geti fX8_165 kd_516 rf_516_17 dX8_wordOf_4 (pc' := 7) rfl ?_
    refine J_top (w := .int (nI w)) (by rw [hX.2.1.1]) ?_
    refine J_icmp_ge dX8_wordOf_7 (pt := 121) (by decide) (pc' := 10) rfl (fun c7 => ?_) (fun c7 => ?_)
    · have hv := dv_ge hi2 (by omega) c7
      refine J_bipush dX8_wordOf_121 (pc' := 123) rfl (v := (-2)) bp_m2 ?_
      refine J_iret dX8_wordOf_123 rfl (dv_r1 _) ?_
      exact ⟨by rw [show pk_w C w (nfS C t) (nlS C t) i = none from dv_fo_none (fun j hj => hq j (by omega))]; rfl, rfl⟩
    · have hv := dv_nge hi2 (by omega) c7
      have hwm := (hX.2.2.2 v hv).2.2.1
      have hj37 : ∀ jv : Int32, (dv_b (decide (wm v = (((cu (nfS C t) (nlS C t) (nlS C t)).2.2 i) - ((cu (nfS C t) (nlS C t) (nlS C t)).2.1 i))))) = jv → dv_J yX8_wordOf cX8_wordOf 6 (some .int) (dv_rm (d + 2)) 0 0 37 [some (.ref 516), some (.int (nI t)), some (.int (nI i)), some (.int (nI v)), none, none] [.int jv] S (fun r S' => r = some (.int (dv_oi (pk_w C w (nfS C t) (nlS C t) i))) ∧ S' = S) := by
        intro jv hjv
        subst hjv
        refine J_istore dX8_wordOf_37 (pc' := 39) rfl (by decide) rfl (l' := [some (.ref 516), some (.int (nI t)), some (.int (nI i)), some (.int (nI v)), some (.int (dv_b (decide (wm v = (((cu (nfS C t) (nlS C t) (nlS C t)).2.2 i) - ((cu (nfS C t) (nlS C t) (nlS C t)).2.1 i)))))), none]) rfl ?_
        refine J_iconst dX8_wordOf_39 (pc' := 40) rfl (v := 0) ic_0 ?_
        refine J_istore dX8_wordOf_40 (pc' := 42) rfl (by decide) rfl (l' := [some (.ref 516), some (.int (nI t)), some (.int (nI i)), some (.int (nI v)), some (.int (dv_b (decide (wm v = (((cu (nfS C t) (nlS C t) (nlS C t)).2.2 i) - ((cu (nfS C t) (nlS C t) (nlS C t)).2.1 i)))))), some (.int 0)]) rfl ?_
        have hlp42 : ∀ k, k ≤ (wm v) → dv_J yX8_wordOf cX8_wordOf 6 (some .int) (dv_rm (d + 2)) 0 0 42 [some (.ref 516), some (.int (nI t)), some (.int (nI i)), some (.int (nI v)), some (.int (dv_b ((decide (wm v = (((cu (nfS C t) (nlS C t) (nlS C t)).2.2 i) - ((cu (nfS C t) (nlS C t) (nlS C t)).2.1 i))) && rsm (fun z => ch_lo ((nfS C t) (((cu (nfS C t) (nlS C t) (nlS C t)).2.1 i) + z))) (wl v) k)))), some (.int (nI k))] [] S (fun r S' => r = some (.int (dv_oi (pk_w C w (nfS C t) (nlS C t) i))) ∧ S' = S) := by
          refine dv_up (P := fun k => dv_J yX8_wordOf cX8_wordOf 6 (some .int) (dv_rm (d + 2)) 0 0 42 [some (.ref 516), some (.int (nI t)), some (.int (nI i)), some (.int (nI v)), some (.int (dv_b ((decide (wm v = (((cu (nfS C t) (nlS C t) (nlS C t)).2.2 i) - ((cu (nfS C t) (nlS C t) (nlS C t)).2.1 i))) && rsm (fun z => ch_lo ((nfS C t) (((cu (nfS C t) (nlS C t) (nlS C t)).2.1 i) + z))) (wl v) k)))), some (.int (nI k))] [] S (fun r S' => r = some (.int (dv_oi (pk_w C w (nfS C t) (nlS C t) i))) ∧ S' = S)) ?_
          intro k hi42 ih42 
          refine J_iload dX8_wordOf_42 (pc' := 44) rfl rfl ?_
          refine J_aload_n dX8_wordOf_44 (pc' := 45) rfl rfl ?_
          refine J_getr fX8_74 kd_516 rf_516_19 dX8_wordOf_45 (pc' := 48) rfl ?_
          refine J_iload_n dX8_wordOf_48 (pc' := 49) rfl rfl ?_
          refine J_iald (j := v) kd_528 (rfl) (by rw [ln_528]; omega) dX8_wordOf_49 (pc' := 50) rfl ?_
          refine J_top (w := .int (nI (wm v))) (by rw [(hX.2.2.2 v hv).1]) ?_
          refine J_icmp_ge dX8_wordOf_50 (pt := 108) (by decide) (pc' := 53) rfl (fun c50 => ?_) (fun c50 => ?_)
          · have hk := dv_ge hi42 (by omega) c50
            refine J_iload dX8_wordOf_108 (pc' := 110) rfl rfl ?_
            refine J_beq dX8_wordOf_110 (pt := 115) (by decide) (pc' := 113) rfl (fun c110 => ?_) (fun c110 => ?_)
            · refine J_iinc dX8_wordOf_115 (pc' := 118) rfl rfl (v := nI (v + 1)) (nI_1 v) (by decide) rfl (l' := [some (.ref 516), some (.int (nI t)), some (.int (nI i)), some (.int (nI (v + 1))), some (.int (dv_b ((decide (wm v = (((cu (nfS C t) (nlS C t) (nlS C t)).2.2 i) - ((cu (nfS C t) (nlS C t) (nlS C t)).2.1 i))) && rsm (fun z => ch_lo ((nfS C t) (((cu (nfS C t) (nlS C t) (nlS C t)).2.1 i) + z))) (wl v) k)))), some (.int (nI k))]) rfl ?_
              refine J_goto dX8_wordOf_118 (pc' := 2) (by decide) ?_
              refine J_drop 4 (l' := [some (.ref 516), some (.int (nI t)), some (.int (nI i)), some (.int (nI (v + 1))), none, some (.int (nI k))]) rfl ?_
              refine J_drop 5 (l' := [some (.ref 516), some (.int (nI t)), some (.int (nI i)), some (.int (nI (v + 1))), none, none]) rfl ?_
              refine ih2 (v + 1) (by omega) (by omega) (lt_s hq ?_)
              clear ih2 hq
              rw [← RX_wk hX ht hi hv]
              first | (rw [hk] at c110; exact c110) | exact rsm_mo (by omega) c55
            · refine J_iload_n dX8_wordOf_113 (pc' := 114) rfl rfl ?_
              refine J_iret dX8_wordOf_114 rfl (dv_r1 _) ?_
              first
                | exact absurd c110 (by rw [c55]; decide)
                | (rw [hk, RX_wk hX ht hi hv] at c110; exact ⟨by rw [show pk_w C w (nfS C t) (nlS C t) i = some v from dv_fo_some hv c110 hq]; rfl, rfl⟩)
          · have hk := dv_nge hi42 (by omega) c50
            refine J_iload dX8_wordOf_53 (pc' := 55) rfl rfl ?_
            refine J_beq dX8_wordOf_55 (pt := 108) (by decide) (pc' := 58) rfl (fun c55 => ?_) (fun c55 => ?_)
            · refine J_iload dX8_wordOf_108 (pc' := 110) rfl rfl ?_
              refine J_beq dX8_wordOf_110 (pt := 115) (by decide) (pc' := 113) rfl (fun c110 => ?_) (fun c110 => ?_)
              · refine J_iinc dX8_wordOf_115 (pc' := 118) rfl rfl (v := nI (v + 1)) (nI_1 v) (by decide) rfl (l' := [some (.ref 516), some (.int (nI t)), some (.int (nI i)), some (.int (nI (v + 1))), some (.int (dv_b ((decide (wm v = (((cu (nfS C t) (nlS C t) (nlS C t)).2.2 i) - ((cu (nfS C t) (nlS C t) (nlS C t)).2.1 i))) && rsm (fun z => ch_lo ((nfS C t) (((cu (nfS C t) (nlS C t) (nlS C t)).2.1 i) + z))) (wl v) k)))), some (.int (nI k))]) rfl ?_
                refine J_goto dX8_wordOf_118 (pc' := 2) (by decide) ?_
                refine J_drop 4 (l' := [some (.ref 516), some (.int (nI t)), some (.int (nI i)), some (.int (nI (v + 1))), none, some (.int (nI k))]) rfl ?_
                refine J_drop 5 (l' := [some (.ref 516), some (.int (nI t)), some (.int (nI i)), some (.int (nI (v + 1))), none, none]) rfl ?_
                refine ih2 (v + 1) (by omega) (by omega) (lt_s hq ?_)
                clear ih2 hq
                rw [← RX_wk hX ht hi hv]
                first | (rw [hk] at c110; exact c110) | exact rsm_mo (by omega) c55
              · refine J_iload_n dX8_wordOf_113 (pc' := 114) rfl rfl ?_
                refine J_iret dX8_wordOf_114 rfl (dv_r1 _) ?_
                first
                  | exact absurd c110 (by rw [c55]; decide)
                  | (rw [hk, RX_wk hX ht hi hv] at c110; exact ⟨by rw [show pk_w C w (nfS C t) (nlS C t) i = some v from dv_fo_some hv c110 hq]; rfl, rfl⟩)
            · have hle : wm v = (((cu (nfS C t) (nlS C t) (nlS C t)).2.2 i) - ((cu (nfS C t) (nlS C t) (nlS C t)).2.1 i)) := by rw [Bool.and_eq_true] at c55; exact of_decide_eq_true c55.1
              have hj100 : ∀ jv : Int32, (dv_b (decide (ch_lo ((nfS C t) (((cu (nfS C t) (nlS C t) (nlS C t)).2.1 i) + k)) = wl v k))) = jv → dv_J yX8_wordOf cX8_wordOf 6 (some .int) (dv_rm (d + 2)) 0 0 100 [some (.ref 516), some (.int (nI t)), some (.int (nI i)), some (.int (nI v)), some (.int (dv_b ((decide (wm v = (((cu (nfS C t) (nlS C t) (nlS C t)).2.2 i) - ((cu (nfS C t) (nlS C t) (nlS C t)).2.1 i))) && rsm (fun z => ch_lo ((nfS C t) (((cu (nfS C t) (nlS C t) (nlS C t)).2.1 i) + z))) (wl v) k)))), some (.int (nI k))] [.int jv] S (fun r S' => r = some (.int (dv_oi (pk_w C w (nfS C t) (nlS C t) i))) ∧ S' = S) := by
                intro jv hjv
                subst hjv
                refine J_istore dX8_wordOf_100 (pc' := 102) rfl (by decide) rfl (l' := [some (.ref 516), some (.int (nI t)), some (.int (nI i)), some (.int (nI v)), some (.int (dv_b (decide (ch_lo ((nfS C t) (((cu (nfS C t) (nlS C t) (nlS C t)).2.1 i) + k)) = wl v k)))), some (.int (nI k))]) rfl ?_
                refine J_iinc dX8_wordOf_102 (pc' := 105) rfl rfl (v := nI (k + 1)) (nI_1 k) (by decide) rfl (l' := [some (.ref 516), some (.int (nI t)), some (.int (nI i)), some (.int (nI v)), some (.int (dv_b (decide (ch_lo ((nfS C t) (((cu (nfS C t) (nlS C t) (nlS C t)).2.1 i) + k)) = wl v k)))), some (.int (nI (k + 1)))]) rfl ?_
                refine J_goto dX8_wordOf_105 (pc' := 42) (by decide) ?_
                refine J_loc ?_ (ih42 (k + 1) (by omega) (by omega))
                clear ih42 ih2
                rw [Bool.and_eq_true] at c55
                simp only [rsm, c55.1, c55.2, Bool.true_and]
              refine J_aload_n dX8_wordOf_58 (pc' := 59) rfl rfl ?_
              refine J_getr fX8_62 kd_516 rf_516_13 dX8_wordOf_59 (pc' := 62) rfl ?_
              refine J_bipush dX8_wordOf_62 (pc' := 64) rfl (v := 24) bp_24 ?_
              refine J_iload_n dX8_wordOf_64 (pc' := 65) rfl rfl ?_
              refine J_imul dX8_wordOf_65 (pc' := 66) rfl ?_
              refine J_top (w := .int (nI (24 * t))) (by rw [dv_n24, pk_mul]) ?_
              refine J_aload_n dX8_wordOf_66 (pc' := 67) rfl rfl ?_
              refine J_getr fX8_65 kd_516 rf_516_14 dX8_wordOf_67 (pc' := 70) rfl ?_
              refine J_iload_n dX8_wordOf_70 (pc' := 71) rfl rfl ?_
              refine J_iald (j := i) kd_525 (rfl) (by rw [ln_525]; omega) dX8_wordOf_71 (pc' := 72) rfl ?_
              refine J_top (w := .int (nI ((cu (nfS C t) (nlS C t) (nlS C t)).2.1 i))) (by rw [(hc.2 i hi).1]) ?_
              refine J_iadd dX8_wordOf_72 (pc' := 73) rfl ?_
              refine J_top (w := .int (nI (24 * t + ((cu (nfS C t) (nlS C t) (nlS C t)).2.1 i)))) (by rw [nI_add]) ?_
              refine J_iload dX8_wordOf_73 (pc' := 75) rfl rfl ?_
              refine J_iadd dX8_wordOf_75 (pc' := 76) rfl ?_
              refine J_bald (j := 24 * t + (((cu (nfS C t) (nlS C t) (nlS C t)).2.1 i) + k)) kd_524 (by rw [nI_add, Nat.add_assoc]) (by rw [ln_524]; omega) dX8_wordOf_76 (pc' := 77) rfl ?_
              refine J_top (w := .int ((nfS C t) (((cu (nfS C t) (nlS C t) (nlS C t)).2.1 i) + k))) (by rw [((hX.2.2.1 t ht).2.2.1 (((cu (nfS C t) (nlS C t) (nlS C t)).2.1 i) + k) (by omega)).1]) ?_
              refine J_s1 (As := [.int ((nfS C t) (((cu (nfS C t) (nlS C t) (nlS C t)).2.1 i) + k))]) (rest := []) (qX8_low _ _ _) vX8_low mX8_178 dX8_wordOf_77 (pc' := 80) rfl rfl (Nat.le_of_ble_eq_true rfl) (by decide) ?_
              refine J_aload_n dX8_wordOf_80 (pc' := 81) rfl rfl ?_
              refine J_getr fX8_71 kd_516 rf_516_18 dX8_wordOf_81 (pc' := 84) rfl ?_
              refine J_bipush dX8_wordOf_84 (pc' := 86) rfl (v := 12) bp_12 ?_
              refine J_iload_n dX8_wordOf_86 (pc' := 87) rfl rfl ?_
              refine J_imul dX8_wordOf_87 (pc' := 88) rfl ?_
              refine J_top (w := .int (nI (12 * v))) (by rw [dv_n12, pk_mul]) ?_
              refine J_iload dX8_wordOf_88 (pc' := 90) rfl rfl ?_
              refine J_iadd dX8_wordOf_90 (pc' := 91) rfl ?_
              refine J_bald (j := 12 * v + k) kd_527 (nI_add _ _) (by rw [ln_527]; omega) dX8_wordOf_91 (pc' := 92) rfl ?_
              refine J_top (w := .int (wl v k)) (by rw [((hX.2.2.2 v hv).2.2.2.1 k hk).1]) ?_
              refine J_icmp_ne dX8_wordOf_92 (pt := 99) (by decide) (pc' := 95) rfl (fun c92 => ?_) (fun c92 => ?_)
              · refine J_iconst dX8_wordOf_99 (pc' := 100) rfl (v := 0) ic_0 ?_
                exact hj100 _ (by simp [dv_b, c92])
              · refine J_iconst dX8_wordOf_95 (pc' := 96) rfl (v := 1) ic_1 ?_
                refine J_goto dX8_wordOf_96 (pc' := 100) (by decide) ?_
                exact hj100 _ (by simp [dv_b, c92])
        refine J_loc (l' := [some (.ref 516), some (.int (nI t)), some (.int (nI i)), some (.int (nI v)), some (.int (dv_b ((decide (wm v = (((cu (nfS C t) (nlS C t) (nlS C t)).2.2 i) - ((cu (nfS C t) (nlS C t) (nlS C t)).2.1 i))) && rsm (fun z => ch_lo ((nfS C t) (((cu (nfS C t) (nlS C t) (nlS C t)).2.1 i) + z))) (wl v) 0)))), some (.int (nI 0))]) (by simp only [nI_0, rsm, Bool.and_true]) ?_
        exact hlp42 0 (Nat.zero_le _) 
      refine J_aload_n dX8_wordOf_10 (pc' := 11) rfl rfl ?_
      refine J_getr fX8_74 kd_516 rf_516_19 dX8_wordOf_11 (pc' := 14) rfl ?_
      refine J_iload_n dX8_wordOf_14 (pc' := 15) rfl rfl ?_
      refine J_iald (j := v) kd_528 (rfl) (by rw [ln_528]; omega) dX8_wordOf_15 (pc' := 16) rfl ?_
      refine J_top (w := .int (nI (wm v))) (by rw [(hX.2.2.2 v hv).1]) ?_
      refine J_aload_n dX8_wordOf_16 (pc' := 17) rfl rfl ?_
      refine J_getr fX8_68 kd_516 rf_516_15 dX8_wordOf_17 (pc' := 20) rfl ?_
      refine J_iload_n dX8_wordOf_20 (pc' := 21) rfl rfl ?_
      refine J_iald (j := i) kd_526 (rfl) (by rw [ln_526]; omega) dX8_wordOf_21 (pc' := 22) rfl ?_
      refine J_top (w := .int (nI ((cu (nfS C t) (nlS C t) (nlS C t)).2.2 i))) (by rw [(hc.2 i hi).2]) ?_
      refine J_aload_n dX8_wordOf_22 (pc' := 23) rfl rfl ?_
      refine J_getr fX8_65 kd_516 rf_516_14 dX8_wordOf_23 (pc' := 26) rfl ?_
      refine J_iload_n dX8_wordOf_26 (pc' := 27) rfl rfl ?_
      refine J_iald (j := i) kd_525 (rfl) (by rw [ln_525]; omega) dX8_wordOf_27 (pc' := 28) rfl ?_
      refine J_top (w := .int (nI ((cu (nfS C t) (nlS C t) (nlS C t)).2.1 i))) (by rw [(hc.2 i hi).1]) ?_
      refine J_isub dX8_wordOf_28 (pc' := 29) rfl ?_
      refine J_top (w := .int (nI (((cu (nfS C t) (nlS C t) (nlS C t)).2.2 i) - ((cu (nfS C t) (nlS C t) (nlS C t)).2.1 i)))) (by rw [pk_sub (by omega)]) ?_
      refine J_icmp_ne dX8_wordOf_29 (pt := 36) (by decide) (pc' := 32) rfl (fun c29 => ?_) (fun c29 => ?_)
      · rw [nI_eq (by omega) (by omega)] at c29
        refine J_iconst dX8_wordOf_36 (pc' := 37) rfl (v := 0) ic_0 ?_
        exact hj37 _ (by simp [dv_b, c29])
      · rw [nI_eq (by omega) (by omega)] at c29
        refine J_iconst dX8_wordOf_32 (pc' := 33) rfl (v := 1) ic_1 ?_
        refine J_goto dX8_wordOf_33 (pc' := 37) (by decide) ?_
        exact hj37 _ (by simp [dv_b, c29])
  refine J_loc (l' := [some (.ref 516), some (.int (nI t)), some (.int (nI i)), some (.int (nI 0)), none, none]) (by simp only [nI_0, dv_b_f, dv_b_t]) ?_
  exact hlp2 0 (Nat.zero_le _) (fun j hj => absurd hj (Nat.not_lt_zero j))
set_option maxRecDepth 100000 in
set_option maxHeartbeats 400000 in
theorem qX8_opened (d : Nat) (S : dv_S) (C : dv_S) (n w : Nat) (wl : Nat → Nat → Int32) (wm : Nat → Nat) (x : Int32) (hX : RX S C n w wl wm) (hr : x = -2 ∨ ∃ j, j < w ∧ x = nI j)  : dv_M yX8_opened cX8_opened 4 (some .int) (dv_rm (d + 0)) [.ref 516, .int x] S (fun r S' => r = some (.int (dv_op (dv_gm (C.2.1 16) w) 60 x)) ∧ S' = S) := by
  have h80 := hX.1.2
  have h60 := hX.2.1.2
  refine dv_M_of [some (.ref 516), some (.int x), none, none] (by decide) (fun _ _ => Nat.le_of_ble_eq_true rfl) (fun _ _ => rfl) ?_
  refine J_iload_n dX8_opened_0 (pc' := 1) rfl rfl ?_
  refine J_istore_n dX8_opened_1 (pc' := 2) rfl rfl (by decide) rfl (l' := [some (.ref 516), some (.int x), some (.int x), none]) rfl ?_
  refine J_iconst dX8_opened_2 (pc' := 3) rfl (v := 0) ic_0 ?_
  refine J_istore_n dX8_opened_3 (pc' := 4) rfl rfl (by decide) rfl (l' := [some (.ref 516), some (.int x), some (.int x), some (.int 0)]) rfl ?_
  have hlp4 : ∀ k, k ≤ 60 → ∀ (v : Int32), ((v = -2 ∨ ∃ j, j < w ∧ v = nI j) ∧ dv_op (dv_gm (C.2.1 16) w) (60 - k) v = dv_op (dv_gm (C.2.1 16) w) 60 x) → dv_J yX8_opened cX8_opened 4 (some .int) (dv_rm (d + 0)) 0 0 4 [some (.ref 516), some (.int x), some (.int v), some (.int (nI k))] [] S (fun r S' => r = some (.int (dv_op (dv_gm (C.2.1 16) w) 60 x)) ∧ S' = S) := by
    refine dv_up (P := fun k => ∀ (v : Int32), ((v = -2 ∨ ∃ j, j < w ∧ v = nI j) ∧ dv_op (dv_gm (C.2.1 16) w) (60 - k) v = dv_op (dv_gm (C.2.1 16) w) 60 x) → dv_J yX8_opened cX8_opened 4 (some .int) (dv_rm (d + 0)) 0 0 4 [some (.ref 516), some (.int x), some (.int v), some (.int (nI k))] [] S (fun r S' => r = some (.int (dv_op (dv_gm (C.2.1 16) w) 60 x)) ∧ S' = S)) ?_
    intro k hi4 ih4 v hv
    refine J_iload_n dX8_opened_4 (pc' := 5) rfl rfl ?_
    refine J_bipush dX8_opened_5 (pc' := 7) rfl (v := 60) bp_60 ?_
    refine J_top (w := .int (nI 60)) (by rw [dv_n60]) ?_
    refine J_icmp_ge dX8_opened_7 (pt := 37) (by decide) (pc' := 10) rfl (fun c7 => ?_) (fun c7 => ?_)
    · have hk := dv_ge hi4 (by decide) c7
      refine J_iload_n dX8_opened_37 (pc' := 38) rfl rfl ?_
      refine J_iret dX8_opened_38 rfl (dv_r1 _) ?_
      first
        | exact ⟨by rw [← hv.2, show 60 - k = 0 by omega, dv_op], rfl⟩
        | exact ⟨by rw [← hv.2, hvj, show 60 - k = (60 - (k + 1)) + 1 by omega, dv_op, dv_gm_in hj (by omega), if_pos c21], rfl⟩
        | (rcases hv.1 with e | ⟨j, hj, e⟩
           · exact ⟨by rw [← hv.2, e, dv_op_m2], rfl⟩
           · exact absurd c11 (by rw [e]; exact nI_pos (by omega)))
    · have hk := dv_nge hi4 (by decide) c7
      refine J_iload_n dX8_opened_10 (pc' := 11) rfl rfl ?_
      refine J_if_lt dX8_opened_11 (pt := 37) (by decide) (pc' := 14) rfl (fun c11 => ?_) (fun c11 => ?_)
      · refine J_iload_n dX8_opened_37 (pc' := 38) rfl rfl ?_
        refine J_iret dX8_opened_38 rfl (dv_r1 _) ?_
        first
          | exact ⟨by rw [← hv.2, show 60 - k = 0 by omega, dv_op], rfl⟩
          | exact ⟨by rw [← hv.2, hvj, show 60 - k = (60 - (k + 1)) + 1 by omega, dv_op, dv_gm_in hj (by omega), if_pos c21], rfl⟩
          | (rcases hv.1 with e | ⟨j, hj, e⟩
             · exact ⟨by rw [← hv.2, e, dv_op_m2], rfl⟩
             · exact absurd c11 (by rw [e]; exact nI_pos (by omega)))
      · have hvr : ∃ j, j < w ∧ v = nI j := hv.1.resolve_left (fun q => c11 (by rw [q]; decide))
        obtain ⟨j, hj, hvj⟩ := hvr
        refine J_aload_n dX8_opened_14 (pc' := 15) rfl rfl ?_
        refine J_getr fX8_80 kd_516 rf_516_21 dX8_opened_15 (pc' := 18) rfl ?_
        refine J_iload_n dX8_opened_18 (pc' := 19) rfl rfl ?_
        refine J_iald (j := j) kd_530 (hvj) (by rw [ln_530]; omega) dX8_opened_19 (pc' := 20) rfl ?_
        refine J_top (w := .int (C.2.1 16 j)) (by rw [(hX.2.2.2 j hj).2.2.2.2.2.2.1]) ?_
        refine J_iconst dX8_opened_20 (pc' := 21) rfl (v := (-1)) ic_m1 ?_
        refine J_icmp_eq dX8_opened_21 (pt := 37) (by decide) (pc' := 24) rfl (fun c21 => ?_) (fun c21 => ?_)
        · refine J_iload_n dX8_opened_37 (pc' := 38) rfl rfl ?_
          refine J_iret dX8_opened_38 rfl (dv_r1 _) ?_
          first
            | exact ⟨by rw [← hv.2, show 60 - k = 0 by omega, dv_op], rfl⟩
            | exact ⟨by rw [← hv.2, hvj, show 60 - k = (60 - (k + 1)) + 1 by omega, dv_op, dv_gm_in hj (by omega), if_pos c21], rfl⟩
            | (rcases hv.1 with e | ⟨j, hj, e⟩
               · exact ⟨by rw [← hv.2, e, dv_op_m2], rfl⟩
               · exact absurd c11 (by rw [e]; exact nI_pos (by omega)))
        · refine J_aload_n dX8_opened_24 (pc' := 25) rfl rfl ?_
          refine J_getr fX8_80 kd_516 rf_516_21 dX8_opened_25 (pc' := 28) rfl ?_
          refine J_iload_n dX8_opened_28 (pc' := 29) rfl rfl ?_
          refine J_iald (j := j) kd_530 (hvj) (by rw [ln_530]; omega) dX8_opened_29 (pc' := 30) rfl ?_
          refine J_top (w := .int (C.2.1 16 j)) (by rw [(hX.2.2.2 j hj).2.2.2.2.2.2.1]) ?_
          refine J_istore_n dX8_opened_30 (pc' := 31) rfl rfl (by decide) rfl (l' := [some (.ref 516), some (.int x), some (.int (C.2.1 16 j)), some (.int (nI k))]) rfl ?_
          refine J_iinc dX8_opened_31 (pc' := 34) rfl rfl (v := nI (k + 1)) (nI_1 k) (by decide) rfl (l' := [some (.ref 516), some (.int x), some (.int (C.2.1 16 j)), some (.int (nI (k + 1)))]) rfl ?_
          refine J_goto dX8_opened_34 (pc' := 4) (by decide) ?_
          refine ih4 (k + 1) (by omega) (by omega) _ ⟨?_, ?_⟩
          · rcases (hX.2.2.2 j hj).2.2.2.2.2.2.2.2 with e | ⟨i, hi, e⟩
            · exact absurd e c21
            · exact Or.inr ⟨i, hi, e⟩
          · rw [← hv.2, show 60 - k = (60 - (k + 1)) + 1 by omega, dv_op, hvj, dv_gm_in hj (by omega), if_neg c21]
  refine J_loc (l' := [some (.ref 516), some (.int x), some (.int x), some (.int (nI 0))]) (by simp only [nI_0, dv_b_f, dv_b_t]) ?_
  exact hlp4 0 (Nat.zero_le _) x ⟨hr, rfl⟩
set_option maxRecDepth 100000 in
set_option maxHeartbeats 400000 in
theorem qX8_counts (d : Nat) (S : dv_S) (C : dv_S) (n w : Nat) (wl : Nat → Nat → Int32) (wm : Nat → Nat) (hX : RX S C n w wl wm)  : dv_M yX8_counts cX8_counts 4 none (dv_rm (d + 3)) [.ref 516] S (fun r S' => r = none ∧ ruI S C w n S') := by
  have h80 := hX.1.2
  have h60 := hX.2.1.2
  refine dv_M_of [some (.ref 516), none, none, none] (by decide) (fun _ _ => Nat.le_of_ble_eq_true rfl) (fun _ _ => rfl) ?_
  refine J_iconst dX8_counts_0 (pc' := 1) rfl (v := 0) ic_0 ?_
  refine J_istore_n dX8_counts_1 (pc' := 2) rfl rfl (by decide) rfl (l' := [some (.ref 516), some (.int 0), none, none]) rfl ?_
  have hlp2 : ∀ i, i ≤ w → dv_J yX8_counts cX8_counts 4 none (dv_rm (d + 3)) 0 0 2 [some (.ref 516), some (.int (nI i)), none, none] [] (S.1, dv_rw S.2.1 532 (fun _ => 0) i, S.2.2) (fun r S' => r = none ∧ ruI S C w n S') := by
    refine dv_up (P := fun i => dv_J yX8_counts cX8_counts 4 none (dv_rm (d + 3)) 0 0 2 [some (.ref 516), some (.int (nI i)), none, none] [] (S.1, dv_rw S.2.1 532 (fun _ => 0) i, S.2.2) (fun r S' => r = none ∧ ruI S C w n S')) ?_
    intro i hi2 ih2 
    refine J_iload_n dX8_counts_2 (pc' := 3) rfl rfl ?_
    refine J_aload_n dX8_counts_3 (pc' := 4) rfl rfl ?_
    refine J_geti fX8_165 kd_516 rf_516_17 dX8_counts_4 (pc' := 7) rfl ?_
    refine J_top (w := .int (nI w)) (by show Value.int (S.1 516 17) = _; rw [hX.2.1.1]) ?_
    refine J_icmp_ge dX8_counts_7 (pt := 23) (by decide) (pc' := 10) rfl (fun c7 => ?_) (fun c7 => ?_)
    · have hx := dv_ge hi2 (by omega) c7
      refine J_iconst dX8_counts_23 (pc' := 24) rfl (v := 0) ic_0 ?_
      refine J_istore_n dX8_counts_24 (pc' := 25) rfl rfl (by decide) rfl (l' := [some (.ref 516), some (.int 0), none, none]) rfl ?_
      have hlp25 : ∀ i, i ≤ n → ∀ (S1 : dv_S), ruI S C w i S1 → dv_J yX8_counts cX8_counts 4 none (dv_rm (d + 3)) 0 0 25 [some (.ref 516), some (.int (nI i)), none, none] [] S1 (fun r S' => r = none ∧ ruI S C w n S') := by
        refine dv_up (P := fun i => ∀ (S1 : dv_S), ruI S C w i S1 → dv_J yX8_counts cX8_counts 4 none (dv_rm (d + 3)) 0 0 25 [some (.ref 516), some (.int (nI i)), none, none] [] S1 (fun r S' => r = none ∧ ruI S C w n S')) ?_
        intro i hi25 ih25 S1 hI
        refine J_iload_n dX8_counts_25 (pc' := 26) rfl rfl ?_
        refine J_aload_n dX8_counts_26 (pc' := 27) rfl rfl ?_
        refine J_geti fX8_120 kd_516 rf_516_5 dX8_counts_27 (pc' := 30) rfl ?_
        refine J_top (w := .int (nI n)) (by rw [(RX_fr hI.1 hX (by decide) (by decide)).1.1]) ?_
        refine J_icmp_ge dX8_counts_30 (pt := 85) (by decide) (pc' := 33) rfl (fun c30 => ?_) (fun c30 => ?_)
        · have hx := dv_ge hi25 (by omega) c30
          refine J_vret dX8_counts_85 rfl (dv_r1 _) ?_
          exact ⟨rfl, by rw [hx] at hI; exact hI⟩
        · have hx := dv_nge hi25 (by omega) c30
          refine J_aload_n dX8_counts_33 (pc' := 34) rfl rfl ?_
          refine J_iload_n dX8_counts_34 (pc' := 35) rfl rfl ?_
          refine J_vq (As := [.int (nI i)]) (rest := []) (qX8_cuts _ S1 C n w wl wm i (RX_fr hI.1 hX (by decide) (by decide)) hx) vX8_cuts mX8_181 kd_516 dX8_counts_35 (pc' := 38) rfl rfl (Nat.le_of_ble_eq_true rfl) (by decide) ?_
          rintro r S2 ⟨rfl, hcu⟩
          have hc24 : pnS C i ≤ (nlS C i) := cu_le _ _ _
          have hm24 := (hX.2.2.1 i hx).2.1
          show dv_J yX8_counts cX8_counts 4 none (dv_rm (d + 3)) 0 0 38 [some (.ref 516), some (.int (nI i)), none, none] [] S2 (fun r S' => r = none ∧ ruI S C w n S')
          refine J_iconst dX8_counts_38 (pc' := 39) rfl (v := 0) ic_0 ?_
          refine J_istore_n dX8_counts_39 (pc' := 40) rfl rfl (by decide) rfl (l' := [some (.ref 516), some (.int (nI i)), some (.int 0), none]) rfl ?_
          have hlp40 : ∀ k, k ≤ (pnS C i) → ∀ (S3 : dv_S), ruK S C w i k S3 → dv_J yX8_counts cX8_counts 4 none (dv_rm (d + 3)) 0 0 40 [some (.ref 516), some (.int (nI i)), some (.int (nI k)), none] [] S3 (fun r S' => r = none ∧ ruI S C w n S') := by
            refine dv_up (P := fun k => ∀ (S3 : dv_S), ruK S C w i k S3 → dv_J yX8_counts cX8_counts 4 none (dv_rm (d + 3)) 0 0 40 [some (.ref 516), some (.int (nI i)), some (.int (nI k)), none] [] S3 (fun r S' => r = none ∧ ruI S C w n S')) ?_
            intro k hi40 ih40 S3 hK
            refine J_iload_n dX8_counts_40 (pc' := 41) rfl rfl ?_
            refine J_aload_n dX8_counts_41 (pc' := 42) rfl rfl ?_
            refine J_geti fX8_162 kd_516 rf_516_16 dX8_counts_42 (pc' := 45) rfl ?_
            refine J_top (w := .int (nI (pnS C i))) (by rw [hK.2.1.1]) ?_
            refine J_icmp_ge dX8_counts_45 (pt := 79) (by decide) (pc' := 48) rfl (fun c45 => ?_) (fun c45 => ?_)
            · have hk := dv_ge hi40 (by omega) c45
              refine J_iinc dX8_counts_79 (pc' := 82) rfl rfl (v := nI (i + 1)) (nI_1 i) (by decide) rfl (l' := [some (.ref 516), some (.int (nI (i + 1))), some (.int (nI k)), none]) rfl ?_
              refine J_goto dX8_counts_82 (pc' := 25) (by decide) ?_
              refine J_drop 2 (l' := [some (.ref 516), some (.int (nI (i + 1))), none, none]) rfl ?_
              exact ih25 (i + 1) (by omega) (by omega) _ (ruK3 hK hk)
            · have hk := dv_nge hi40 (by omega) c45
              refine J_aload_n dX8_counts_48 (pc' := 49) rfl rfl ?_
              refine J_aload_n dX8_counts_49 (pc' := 50) rfl rfl ?_
              refine J_iload_n dX8_counts_50 (pc' := 51) rfl rfl ?_
              refine J_iload_n dX8_counts_51 (pc' := 52) rfl rfl ?_
              refine J_v1 (As := [.int (nI i), .int (nI k)]) (rest := [.ref 516]) (qX8_wordOf _ S3 C n w wl wm i k (RX_fr hK.1 hX (by decide) (by decide)) hx hK.2.1 hk) vX8_wordOf mX8_185 kd_516 dX8_counts_52 (pc' := 55) rfl rfl (Nat.le_of_ble_eq_true rfl) (by decide) ?_
              refine J_v1 (As := [.int (dv_oi (pk_w C w (nfS C i) (nlS C i) k))]) (rest := []) (qX8_opened _ S3 C n w wl wm _ (RX_fr hK.1 hX (by decide) (by decide)) (dv_oi_rng pk_w_lt)) vX8_opened mX8_189 kd_516 dX8_counts_55 (pc' := 58) rfl rfl (Nat.le_of_ble_eq_true rfl) (by decide) ?_
              refine J_top (w := .int (opS C w (pk_w C w (nfS C i) (nlS C i) k))) (rfl) ?_
              refine J_istore_n dX8_counts_58 (pc' := 59) rfl rfl (by decide) rfl (l' := [some (.ref 516), some (.int (nI i)), some (.int (nI k)), some (.int (opS C w (pk_w C w (nfS C i) (nlS C i) k)))]) rfl ?_
              refine J_iload_n dX8_counts_59 (pc' := 60) rfl rfl ?_
              refine J_if_lt dX8_counts_60 (pt := 73) (by decide) (pc' := 63) rfl (fun c60 => ?_) (fun c60 => ?_)
              · have hop : opS C w (pk_w C w (nfS C i) (nlS C i) k) = -2 := by
                  rcases RX_op hX _ pk_w_lt with e | ⟨j, hj, e⟩
                  · exact e
                  · exact absurd c60 (by rw [e]; exact nI_pos (by omega))
                refine J_iinc dX8_counts_73 (pc' := 76) rfl rfl (v := nI (k + 1)) (nI_1 k) (by decide) rfl (l' := [some (.ref 516), some (.int (nI i)), some (.int (nI (k + 1))), some (.int (opS C w (pk_w C w (nfS C i) (nlS C i) k)))]) rfl ?_
                refine J_goto dX8_counts_76 (pc' := 40) (by decide) ?_
                refine J_drop 3 (l' := [some (.ref 516), some (.int (nI i)), some (.int (nI (k + 1))), none]) rfl ?_
                exact ih40 (k + 1) (by omega) (by omega) _ (ruK2 hK h60 hop)
              · have hop : ∃ j, j < w ∧ opS C w (pk_w C w (nfS C i) (nlS C i) k) = nI j := by
                  rcases RX_op hX _ pk_w_lt with e | h
                  · exact absurd (by rw [e]; decide) c60
                  · exact h
                obtain ⟨j, hj, hj2⟩ := hop
                refine J_aload_n dX8_counts_63 (pc' := 64) rfl rfl ?_
                refine J_getr fX8_86 kd_516 rf_516_23 dX8_counts_64 (pc' := 67) rfl ?_
                refine J_iload_n dX8_counts_67 (pc' := 68) rfl rfl ?_
                refine J_dup2 dX8_counts_68 (pc' := 69) rfl rfl rfl ?_
                refine J_iald (j := j) kd_532 (hj2) (by rw [ln_532]; omega) dX8_counts_69 (pc' := 70) rfl ?_
                refine J_iconst dX8_counts_70 (pc' := 71) rfl (v := 1) ic_1 ?_
                refine J_iadd dX8_counts_71 (pc' := 72) rfl ?_
                refine J_iast (j := j) kd_532 (hj2) (by rw [ln_532]; omega) dX8_counts_72 (pc' := 73) rfl ?_
                refine J_iinc dX8_counts_73 (pc' := 76) rfl rfl (v := nI (k + 1)) (nI_1 k) (by decide) rfl (l' := [some (.ref 516), some (.int (nI i)), some (.int (nI (k + 1))), some (.int (opS C w (pk_w C w (nfS C i) (nlS C i) k)))]) rfl ?_
                refine J_goto dX8_counts_76 (pc' := 40) (by decide) ?_
                refine J_drop 3 (l' := [some (.ref 516), some (.int (nI i)), some (.int (nI (k + 1))), none]) rfl ?_
                exact ih40 (k + 1) (by omega) (by omega) _ (ruK1 hK h60 hj hj2)
          refine J_loc (l' := [some (.ref 516), some (.int (nI i)), some (.int (nI 0)), none]) (by simp only [nI_0, dv_b_f, dv_b_t]) ?_
          refine J_sto (S' := S2) (rfl) ?_
          exact hlp40 0 (Nat.zero_le _) _ (ruK0 hI hcu)
      refine J_loc (l' := [some (.ref 516), some (.int (nI 0)), none, none]) (by simp only [nI_0, dv_b_f, dv_b_t]) ?_
      refine J_sto (S' := (S.1, dv_rw S.2.1 532 (fun _ => 0) w, S.2.2)) (by rw [hx]) ?_
      exact hlp25 0 (Nat.zero_le _) _ (ruI0 S C w)
    · have hx := dv_nge hi2 (by omega) c7
      refine J_aload_n dX8_counts_10 (pc' := 11) rfl rfl ?_
      refine J_getr fX8_86 kd_516 rf_516_23 dX8_counts_11 (pc' := 14) rfl ?_
      refine J_iload_n dX8_counts_14 (pc' := 15) rfl rfl ?_
      refine J_iconst dX8_counts_15 (pc' := 16) rfl (v := 0) ic_0 ?_
      refine J_iast (j := i) kd_532 (rfl) (by rw [ln_532]; omega) dX8_counts_16 (pc' := 17) rfl ?_
      refine J_iinc dX8_counts_17 (pc' := 20) rfl rfl (v := nI (i + 1)) (nI_1 i) (by decide) rfl (l' := [some (.ref 516), some (.int (nI (i + 1))), none, none]) rfl ?_
      refine J_goto dX8_counts_20 (pc' := 2) (by decide) ?_
      exact J_sto (S' := (S.1, dv_rw S.2.1 532 (fun _ => 0) (i + 1), S.2.2)) (by rw [← dv_rw_s]) (ih2 (i + 1) (by omega) (by omega))
  refine J_loc (l' := [some (.ref 516), some (.int (nI 0)), none, none]) (by simp only [nI_0, dv_b_f, dv_b_t]) ?_
  refine J_sto (S' := (S.1, dv_rw S.2.1 532 (fun _ => 0) 0, S.2.2)) (by rw [dv_rw_0]) ?_
  exact hlp2 0 (Nat.zero_le _) 
set_option maxRecDepth 100000 in
set_option maxHeartbeats 400000 in
theorem qX8_headOf (d : Nat) (S : dv_S) (C : dv_S) (n w : Nat) (wl : Nat → Nat → Int32) (wm : Nat → Nat) (u : Nat → Int32) (p : Nat) (hX : RX S C n w wl wm) (hu : ∀ j, j < w → S.2.1 532 j = u j) (hp : p < w)  : dv_M yX8_headOf cX8_headOf 4 (some .int) (dv_rm (d + 0)) [.ref 516, .int (nI p)] S (fun r S' => r = some (.int (dv_om (dv_hd (C.2.1 17) u (C.2.1 17 p) w))) ∧ S' = S) := by
  have h80 := hX.1.2
  have h60 := hX.2.1.2
  refine dv_M_of [some (.ref 516), some (.int (nI p)), none, none] (by decide) (fun _ _ => Nat.le_of_ble_eq_true rfl) (fun _ _ => rfl) ?_
  refine J_iconst dX8_headOf_0 (pc' := 1) rfl (v := (-1)) ic_m1 ?_
  refine J_istore_n dX8_headOf_1 (pc' := 2) rfl rfl (by decide) rfl (l' := [some (.ref 516), some (.int (nI p)), some (.int ((-1))), none]) rfl ?_
  refine J_iconst dX8_headOf_2 (pc' := 3) rfl (v := 0) ic_0 ?_
  refine J_istore_n dX8_headOf_3 (pc' := 4) rfl rfl (by decide) rfl (l' := [some (.ref 516), some (.int (nI p)), some (.int ((-1))), some (.int 0)]) rfl ?_
  have hlp4 : ∀ k, k ≤ w → dv_J yX8_headOf cX8_headOf 4 (some .int) (dv_rm (d + 0)) 0 0 4 [some (.ref 516), some (.int (nI p)), some (.int (dv_om (dv_hd (C.2.1 17) u (C.2.1 17 p) k))), some (.int (nI k))] [] S (fun r S' => r = some (.int (dv_om (dv_hd (C.2.1 17) u (C.2.1 17 p) w))) ∧ S' = S) := by
    refine dv_up (P := fun k => dv_J yX8_headOf cX8_headOf 4 (some .int) (dv_rm (d + 0)) 0 0 4 [some (.ref 516), some (.int (nI p)), some (.int (dv_om (dv_hd (C.2.1 17) u (C.2.1 17 p) k))), some (.int (nI k))] [] S (fun r S' => r = some (.int (dv_om (dv_hd (C.2.1 17) u (C.2.1 17 p) w))) ∧ S' = S)) ?_
    intro k hi4 ih4 
    refine J_iload_n dX8_headOf_4 (pc' := 5) rfl rfl ?_
    refine J_aload_n dX8_headOf_5 (pc' := 6) rfl rfl ?_
    refine J_geti fX8_165 kd_516 rf_516_17 dX8_headOf_6 (pc' := 9) rfl ?_
    refine J_top (w := .int (nI w)) (by rw [hX.2.1.1]) ?_
    refine J_icmp_ge dX8_headOf_9 (pt := 55) (by decide) (pc' := 12) rfl (fun c9 => ?_) (fun c9 => ?_)
    · have hk := dv_ge hi4 (by omega) c9
      refine J_iload_n dX8_headOf_55 (pc' := 56) rfl rfl ?_
      refine J_iret dX8_headOf_56 rfl (dv_r1 _) ?_
      exact ⟨by rw [hk], rfl⟩
    · have hk := dv_nge hi4 (by omega) c9
      refine J_aload_n dX8_headOf_12 (pc' := 13) rfl rfl ?_
      refine J_getr fX8_83 kd_516 rf_516_22 dX8_headOf_13 (pc' := 16) rfl ?_
      refine J_iload_n dX8_headOf_16 (pc' := 17) rfl rfl ?_
      refine J_iald (j := k) kd_531 (rfl) (by rw [ln_531]; omega) dX8_headOf_17 (pc' := 18) rfl ?_
      refine J_top (w := .int (C.2.1 17 k)) (by rw [(hX.2.2.2 k (by omega)).2.2.2.2.2.2.2.1]) ?_
      refine J_aload_n dX8_headOf_18 (pc' := 19) rfl rfl ?_
      refine J_getr fX8_83 kd_516 rf_516_22 dX8_headOf_19 (pc' := 22) rfl ?_
      refine J_iload_n dX8_headOf_22 (pc' := 23) rfl rfl ?_
      refine J_iald (j := p) kd_531 (rfl) (by rw [ln_531]; omega) dX8_headOf_23 (pc' := 24) rfl ?_
      refine J_top (w := .int (C.2.1 17 p)) (by rw [(hX.2.2.2 p (by omega)).2.2.2.2.2.2.2.1]) ?_
      refine J_icmp_ne dX8_headOf_24 (pt := 49) (by decide) (pc' := 27) rfl (fun c24 => ?_) (fun c24 => ?_)
      · refine J_iinc dX8_headOf_49 (pc' := 52) rfl rfl (v := nI (k + 1)) (nI_1 k) (by decide) rfl (l' := [some (.ref 516), some (.int (nI p)), some (.int (dv_om (dv_hd (C.2.1 17) u (C.2.1 17 p) k))), some (.int (nI (k + 1)))]) rfl ?_
        refine J_goto dX8_headOf_52 (pc' := 4) (by decide) ?_
        refine J_loc ?_ (ih4 (k + 1) (by omega) (by omega))
        clear ih4
        first
          | simp only [dv_hd_n (u := u) c24]
          | simp only [dv_hd_0 c24 c29, dv_om]
          | simp only [dv_hd_k c24 hh (Int32.not_lt.mpr c44)]
          | simp only [dv_hd_y c24 hh (Int32.not_le.mp c44), dv_om]
      · refine J_iload_n dX8_headOf_27 (pc' := 28) rfl rfl ?_
        refine J_iconst dX8_headOf_28 (pc' := 29) rfl (v := (-1)) ic_m1 ?_
        refine J_icmp_eq dX8_headOf_29 (pt := 47) (by decide) (pc' := 32) rfl (fun c29 => ?_) (fun c29 => ?_)
        · rw [dv_om_m1 (fun j hj => by have := dv_hd_lt _ _ _ _ _ hj; omega)] at c29
          refine J_iload_n dX8_headOf_47 (pc' := 48) rfl rfl ?_
          refine J_istore_n dX8_headOf_48 (pc' := 49) rfl rfl (by decide) rfl (l' := [some (.ref 516), some (.int (nI p)), some (.int (nI k)), some (.int (nI k))]) rfl ?_
          refine J_iinc dX8_headOf_49 (pc' := 52) rfl rfl (v := nI (k + 1)) (nI_1 k) (by decide) rfl (l' := [some (.ref 516), some (.int (nI p)), some (.int (nI k)), some (.int (nI (k + 1)))]) rfl ?_
          refine J_goto dX8_headOf_52 (pc' := 4) (by decide) ?_
          refine J_loc ?_ (ih4 (k + 1) (by omega) (by omega))
          clear ih4
          first
            | simp only [dv_hd_n (u := u) c24]
            | simp only [dv_hd_0 c24 c29, dv_om]
            | simp only [dv_hd_k c24 hh (Int32.not_lt.mpr c44)]
            | simp only [dv_hd_y c24 hh (Int32.not_le.mp c44), dv_om]
        · rw [dv_om_m1 (fun j hj => by have := dv_hd_lt _ _ _ _ _ hj; omega)] at c29
          have hs : ∃ h, (dv_hd (C.2.1 17) u (C.2.1 17 p) k) = some h := by
            cases hh : (dv_hd (C.2.1 17) u (C.2.1 17 p) k) with
            | none => exact absurd hh c29
            | some h => exact ⟨h, rfl⟩
          obtain ⟨h, hh⟩ := hs
          have hh2 := dv_hd_lt _ _ _ _ _ hh
          refine J_aload_n dX8_headOf_32 (pc' := 33) rfl rfl ?_
          refine J_getr fX8_86 kd_516 rf_516_23 dX8_headOf_33 (pc' := 36) rfl ?_
          refine J_iload_n dX8_headOf_36 (pc' := 37) rfl rfl ?_
          refine J_iald (j := k) kd_532 (rfl) (by rw [ln_532]; omega) dX8_headOf_37 (pc' := 38) rfl ?_
          refine J_top (w := .int (u k)) (by rw [hu k hk]) ?_
          refine J_aload_n dX8_headOf_38 (pc' := 39) rfl rfl ?_
          refine J_getr fX8_86 kd_516 rf_516_23 dX8_headOf_39 (pc' := 42) rfl ?_
          refine J_iload_n dX8_headOf_42 (pc' := 43) rfl rfl ?_
          refine J_iald (j := h) kd_532 (by rw [hh]; rfl) (by rw [ln_532]; omega) dX8_headOf_43 (pc' := 44) rfl ?_
          refine J_top (w := .int (u h)) (by rw [hu h (by omega)]) ?_
          refine J_icmp_le dX8_headOf_44 (pt := 49) (by decide) (pc' := 47) rfl (fun c44 => ?_) (fun c44 => ?_)
          · refine J_iinc dX8_headOf_49 (pc' := 52) rfl rfl (v := nI (k + 1)) (nI_1 k) (by decide) rfl (l' := [some (.ref 516), some (.int (nI p)), some (.int (dv_om (dv_hd (C.2.1 17) u (C.2.1 17 p) k))), some (.int (nI (k + 1)))]) rfl ?_
            refine J_goto dX8_headOf_52 (pc' := 4) (by decide) ?_
            refine J_loc ?_ (ih4 (k + 1) (by omega) (by omega))
            clear ih4
            first
              | simp only [dv_hd_n (u := u) c24]
              | simp only [dv_hd_0 c24 c29, dv_om]
              | simp only [dv_hd_k c24 hh (Int32.not_lt.mpr c44)]
              | simp only [dv_hd_y c24 hh (Int32.not_le.mp c44), dv_om]
          · refine J_iload_n dX8_headOf_47 (pc' := 48) rfl rfl ?_
            refine J_istore_n dX8_headOf_48 (pc' := 49) rfl rfl (by decide) rfl (l' := [some (.ref 516), some (.int (nI p)), some (.int (nI k)), some (.int (nI k))]) rfl ?_
            refine J_iinc dX8_headOf_49 (pc' := 52) rfl rfl (v := nI (k + 1)) (nI_1 k) (by decide) rfl (l' := [some (.ref 516), some (.int (nI p)), some (.int (nI k)), some (.int (nI (k + 1)))]) rfl ?_
            refine J_goto dX8_headOf_52 (pc' := 4) (by decide) ?_
            refine J_loc ?_ (ih4 (k + 1) (by omega) (by omega))
            clear ih4
            first
              | simp only [dv_hd_n (u := u) c24]
              | simp only [dv_hd_0 c24 c29, dv_om]
              | simp only [dv_hd_k c24 hh (Int32.not_lt.mpr c44)]
              | simp only [dv_hd_y c24 hh (Int32.not_le.mp c44), dv_om]
  refine J_loc (l' := [some (.ref 516), some (.int (nI p)), some (.int (dv_om (dv_hd (C.2.1 17) u (C.2.1 17 p) 0))), some (.int (nI 0))]) (by simp only [nI_0, dv_hd, dv_om]) ?_
  exact hlp4 0 (Nat.zero_le _) 
set_option maxRecDepth 100000 in
set_option maxHeartbeats 400000 in
theorem qX8_groupSize (d : Nat) (S : dv_S) (C : dv_S) (n w : Nat) (wl : Nat → Nat → Int32) (wm : Nat → Nat) (p : Nat) (hX : RX S C n w wl wm) (hp : p < w)  : dv_M yX8_groupSize cX8_groupSize 4 (some .int) (dv_rm (d + 0)) [.ref 516, .int (nI p)] S (fun r S' => r = some (.int (nI (dv_ct (fun z => decide (C.2.1 17 z = C.2.1 17 p)) w))) ∧ S' = S) := by
  have h80 := hX.1.2
  have h60 := hX.2.1.2
  refine dv_M_of [some (.ref 516), some (.int (nI p)), none, none] (by decide) (fun _ _ => Nat.le_of_ble_eq_true rfl) (fun _ _ => rfl) ?_
  refine J_iconst dX8_groupSize_0 (pc' := 1) rfl (v := 0) ic_0 ?_
  refine J_istore_n dX8_groupSize_1 (pc' := 2) rfl rfl (by decide) rfl (l' := [some (.ref 516), some (.int (nI p)), some (.int 0), none]) rfl ?_
  refine J_iconst dX8_groupSize_2 (pc' := 3) rfl (v := 0) ic_0 ?_
  refine J_istore_n dX8_groupSize_3 (pc' := 4) rfl rfl (by decide) rfl (l' := [some (.ref 516), some (.int (nI p)), some (.int 0), some (.int 0)]) rfl ?_
  have hlp4 : ∀ k, k ≤ w → dv_J yX8_groupSize cX8_groupSize 4 (some .int) (dv_rm (d + 0)) 0 0 4 [some (.ref 516), some (.int (nI p)), some (.int (nI (dv_ct (fun z => decide (C.2.1 17 z = C.2.1 17 p)) k))), some (.int (nI k))] [] S (fun r S' => r = some (.int (nI (dv_ct (fun z => decide (C.2.1 17 z = C.2.1 17 p)) w))) ∧ S' = S) := by
    refine dv_up (P := fun k => dv_J yX8_groupSize cX8_groupSize 4 (some .int) (dv_rm (d + 0)) 0 0 4 [some (.ref 516), some (.int (nI p)), some (.int (nI (dv_ct (fun z => decide (C.2.1 17 z = C.2.1 17 p)) k))), some (.int (nI k))] [] S (fun r S' => r = some (.int (nI (dv_ct (fun z => decide (C.2.1 17 z = C.2.1 17 p)) w))) ∧ S' = S)) ?_
    intro k hi4 ih4 
    refine J_iload_n dX8_groupSize_4 (pc' := 5) rfl rfl ?_
    refine J_aload_n dX8_groupSize_5 (pc' := 6) rfl rfl ?_
    refine J_geti fX8_165 kd_516 rf_516_17 dX8_groupSize_6 (pc' := 9) rfl ?_
    refine J_top (w := .int (nI w)) (by rw [hX.2.1.1]) ?_
    refine J_icmp_ge dX8_groupSize_9 (pt := 41) (by decide) (pc' := 12) rfl (fun c9 => ?_) (fun c9 => ?_)
    · have hk := dv_ge hi4 (by omega) c9
      refine J_iload_n dX8_groupSize_41 (pc' := 42) rfl rfl ?_
      refine J_iret dX8_groupSize_42 rfl (dv_r1 _) ?_
      exact ⟨by rw [hk], rfl⟩
    · have hk := dv_nge hi4 (by omega) c9
      refine J_iload_n dX8_groupSize_12 (pc' := 13) rfl rfl ?_
      refine J_aload_n dX8_groupSize_13 (pc' := 14) rfl rfl ?_
      refine J_getr fX8_83 kd_516 rf_516_22 dX8_groupSize_14 (pc' := 17) rfl ?_
      refine J_iload_n dX8_groupSize_17 (pc' := 18) rfl rfl ?_
      refine J_iald (j := k) kd_531 (rfl) (by rw [ln_531]; omega) dX8_groupSize_18 (pc' := 19) rfl ?_
      refine J_top (w := .int (C.2.1 17 k)) (by rw [(hX.2.2.2 k (by omega)).2.2.2.2.2.2.2.1]) ?_
      refine J_aload_n dX8_groupSize_19 (pc' := 20) rfl rfl ?_
      refine J_getr fX8_83 kd_516 rf_516_22 dX8_groupSize_20 (pc' := 23) rfl ?_
      refine J_iload_n dX8_groupSize_23 (pc' := 24) rfl rfl ?_
      refine J_iald (j := p) kd_531 (rfl) (by rw [ln_531]; omega) dX8_groupSize_24 (pc' := 25) rfl ?_
      refine J_top (w := .int (C.2.1 17 p)) (by rw [(hX.2.2.2 p (by omega)).2.2.2.2.2.2.2.1]) ?_
      refine J_icmp_ne dX8_groupSize_25 (pt := 32) (by decide) (pc' := 28) rfl (fun c25 => ?_) (fun c25 => ?_)
      · refine J_iconst dX8_groupSize_32 (pc' := 33) rfl (v := 0) ic_0 ?_
        refine J_iadd dX8_groupSize_33 (pc' := 34) rfl ?_
        refine J_istore_n dX8_groupSize_34 (pc' := 35) rfl rfl (by decide) rfl (l' := [some (.ref 516), some (.int (nI p)), some (.int ((nI (dv_ct (fun z => decide (C.2.1 17 z = C.2.1 17 p)) k)) + 0)), some (.int (nI k))]) rfl ?_
        refine J_iinc dX8_groupSize_35 (pc' := 38) rfl rfl (v := nI (k + 1)) (nI_1 k) (by decide) rfl (l' := [some (.ref 516), some (.int (nI p)), some (.int ((nI (dv_ct (fun z => decide (C.2.1 17 z = C.2.1 17 p)) k)) + 0)), some (.int (nI (k + 1)))]) rfl ?_
        refine J_goto dX8_groupSize_38 (pc' := 4) (by decide) ?_
        refine J_loc ?_ (ih4 (k + 1) (by omega) (by omega))
        clear ih4
        first | simp only [dv_ct_sf (p := (fun z => decide (C.2.1 17 z = C.2.1 17 p))) (n := k) (decide_eq_false c25), Int32.add_zero] | simp only [dv_ct_st (p := (fun z => decide (C.2.1 17 z = C.2.1 17 p))) (n := k) (decide_eq_true c25), nI_1]
      · refine J_iconst dX8_groupSize_28 (pc' := 29) rfl (v := 1) ic_1 ?_
        refine J_goto dX8_groupSize_29 (pc' := 33) (by decide) ?_
        refine J_iadd dX8_groupSize_33 (pc' := 34) rfl ?_
        refine J_istore_n dX8_groupSize_34 (pc' := 35) rfl rfl (by decide) rfl (l' := [some (.ref 516), some (.int (nI p)), some (.int ((nI (dv_ct (fun z => decide (C.2.1 17 z = C.2.1 17 p)) k)) + 1)), some (.int (nI k))]) rfl ?_
        refine J_iinc dX8_groupSize_35 (pc' := 38) rfl rfl (v := nI (k + 1)) (nI_1 k) (by decide) rfl (l' := [some (.ref 516), some (.int (nI p)), some (.int ((nI (dv_ct (fun z => decide (C.2.1 17 z = C.2.1 17 p)) k)) + 1)), some (.int (nI (k + 1)))]) rfl ?_
        refine J_goto dX8_groupSize_38 (pc' := 4) (by decide) ?_
        refine J_loc ?_ (ih4 (k + 1) (by omega) (by omega))
        clear ih4
        first | simp only [dv_ct_sf (p := (fun z => decide (C.2.1 17 z = C.2.1 17 p))) (n := k) (decide_eq_false c25), Int32.add_zero] | simp only [dv_ct_st (p := (fun z => decide (C.2.1 17 z = C.2.1 17 p))) (n := k) (decide_eq_true c25), nI_1]
  refine J_loc (l' := [some (.ref 516), some (.int (nI p)), some (.int (nI (dv_ct (fun z => decide (C.2.1 17 z = C.2.1 17 p)) 0))), some (.int (nI 0))]) (by simp only [nI_0, dv_ct]) ?_
  exact hlp4 0 (Nat.zero_le _) 
set_option maxRecDepth 100000 in
set_option maxHeartbeats 400000 in
theorem qX8_patternOf (d : Nat) (S : dv_S) (C : dv_S) (n w : Nat) (wl : Nat → Nat → Int32) (wm : Nat → Nat) (t : Nat) (hX : RX S C n w wl wm) (ht : t < n)  : dv_M yX8_patternOf cX8_patternOf 5 (some .int) (dv_rm (d + 3)) [.ref 516, .int (nI t)] S (fun r S' => r = some (.int (ptS C w t)) ∧ fr [(516, 16)] [525, 526] S S') := by
  have h80 := hX.1.2
  have h60 := hX.2.1.2
  have hm24 := (hX.2.2.1 t ht).2.1
  have hc24 : pnS C t ≤ (nlS C t) := cu_le _ _ _
  refine dv_M_of [some (.ref 516), some (.int (nI t)), none, none, none] (by decide) (fun _ _ => Nat.le_of_ble_eq_true rfl) (fun _ _ => rfl) ?_
  refine J_aload_n dX8_patternOf_0 (pc' := 1) rfl rfl ?_
  refine J_iload_n dX8_patternOf_1 (pc' := 2) rfl rfl ?_
  refine J_vq (As := [.int (nI t)]) (rest := []) (qX8_cuts _ S C n w wl wm t hX ht) vX8_cuts mX8_181 kd_516 dX8_patternOf_2 (pc' := 5) rfl rfl (Nat.le_of_ble_eq_true rfl) (by decide) ?_
  rintro r S2 ⟨rfl, hcu⟩
  have hX2 := RX_fr hcu.1 hX (by decide) (by decide)
  show dv_J yX8_patternOf cX8_patternOf 5 (some .int) (dv_rm (d + 3)) 0 0 5 [some (.ref 516), some (.int (nI t)), none, none, none] [] S2 (fun r S' => r = some (.int (ptS C w t)) ∧ fr [(516, 16)] [525, 526] S S')
  refine J_iconst dX8_patternOf_5 (pc' := 6) rfl (v := 0) ic_0 ?_
  refine J_istore_n dX8_patternOf_6 (pc' := 7) rfl rfl (by decide) rfl (l' := [some (.ref 516), some (.int (nI t)), some (.int 0), none, none]) rfl ?_
  refine J_iconst dX8_patternOf_7 (pc' := 8) rfl (v := 0) ic_0 ?_
  refine J_istore_n dX8_patternOf_8 (pc' := 9) rfl rfl (by decide) rfl (l' := [some (.ref 516), some (.int (nI t)), some (.int 0), some (.int 0), none]) rfl ?_
  have hlp9 : ∀ i, i ≤ (min (pnS C t) 4) → dv_J yX8_patternOf cX8_patternOf 5 (some .int) (dv_rm (d + 3)) 0 0 9 [some (.ref 516), some (.int (nI t)), some (.int (pk_p C w (nfS C t) (nlS C t) i)), some (.int (nI i)), none] [] S2 (fun r S' => r = some (.int (ptS C w t)) ∧ fr [(516, 16)] [525, 526] S S') := by
    refine dv_up (P := fun i => dv_J yX8_patternOf cX8_patternOf 5 (some .int) (dv_rm (d + 3)) 0 0 9 [some (.ref 516), some (.int (nI t)), some (.int (pk_p C w (nfS C t) (nlS C t) i)), some (.int (nI i)), none] [] S2 (fun r S' => r = some (.int (ptS C w t)) ∧ fr [(516, 16)] [525, 526] S S')) ?_
    intro i hi9 ih9 
    refine J_iload_n dX8_patternOf_9 (pc' := 10) rfl rfl ?_
    refine J_aload_n dX8_patternOf_10 (pc' := 11) rfl rfl ?_
    refine J_geti fX8_162 kd_516 rf_516_16 dX8_patternOf_11 (pc' := 14) rfl ?_
    refine J_top (w := .int (nI (pnS C t))) (by rw [hcu.2.1]) ?_
    refine J_icmp_ge dX8_patternOf_14 (pt := 67) (by decide) (pc' := 17) rfl (fun c14 => ?_) (fun c14 => ?_)
    · rw [nI_leI (by omega) (by omega)] at c14
      refine J_iload_n dX8_patternOf_67 (pc' := 68) rfl rfl ?_
      refine J_iret dX8_patternOf_68 rfl (dv_r1 _) ?_
      exact ⟨by rw [show i = min (pnS C t) 4 by omega]; rfl, hcu.1⟩
    · rw [nI_leI (by omega) (by omega)] at c14
      refine J_iload_n dX8_patternOf_17 (pc' := 18) rfl rfl ?_
      refine J_iconst dX8_patternOf_18 (pc' := 19) rfl (v := 4) ic_4 ?_
      refine J_top (w := .int (nI 4)) (by rw [show (4 : Int32) = nI 4 by decide]) ?_
      refine J_icmp_ge dX8_patternOf_19 (pt := 67) (by decide) (pc' := 22) rfl (fun c19 => ?_) (fun c19 => ?_)
      · rw [nI_leI (by omega) (by omega)] at c19
        refine J_iload_n dX8_patternOf_67 (pc' := 68) rfl rfl ?_
        refine J_iret dX8_patternOf_68 rfl (dv_r1 _) ?_
        exact ⟨by rw [show i = min (pnS C t) 4 by omega]; rfl, hcu.1⟩
      · rw [nI_leI (by omega) (by omega)] at c19
        refine J_aload_n dX8_patternOf_22 (pc' := 23) rfl rfl ?_
        refine J_iload_n dX8_patternOf_23 (pc' := 24) rfl rfl ?_
        refine J_iload_n dX8_patternOf_24 (pc' := 25) rfl rfl ?_
        refine J_v1 (As := [.int (nI t), .int (nI i)]) (rest := []) (qX8_wordOf _ S2 C n w wl wm t i hX2 ht hcu.2 (by omega)) vX8_wordOf mX8_185 kd_516 dX8_patternOf_25 (pc' := 28) rfl rfl (Nat.le_of_ble_eq_true rfl) (by decide) ?_
        refine J_istore dX8_patternOf_28 (pc' := 30) rfl (by decide) rfl (l' := [some (.ref 516), some (.int (nI t)), some (.int (pk_p C w (nfS C t) (nlS C t) i)), some (.int (nI i)), some (.int (dv_oi (pk_w C w (nfS C t) (nlS C t) i)))]) rfl ?_
        refine J_bipush dX8_patternOf_30 (pc' := 32) rfl (v := 16) bp_16 ?_
        refine J_iload_n dX8_patternOf_32 (pc' := 33) rfl rfl ?_
        refine J_imul dX8_patternOf_33 (pc' := 34) rfl ?_
        refine J_iload dX8_patternOf_34 (pc' := 36) rfl rfl ?_
        refine J_if_ge dX8_patternOf_36 (pt := 43) (by decide) (pc' := 39) rfl (fun c36 => ?_) (fun c36 => ?_)
        · have hps : ∃ j, (pk_w C w (nfS C t) (nlS C t) i) = some j := by
            cases hh : (pk_w C w (nfS C t) (nlS C t) i) with
            | none => rw [hh] at c36; exact absurd c36 (by decide)
            | some j => exact ⟨j, rfl⟩
          obtain ⟨j, hpw⟩ := hps
          have hj := pk_w_lt j hpw
          refine J_aload_n dX8_patternOf_43 (pc' := 44) rfl rfl ?_
          refine J_getr fX8_77 kd_516 rf_516_20 dX8_patternOf_44 (pc' := 47) rfl ?_
          refine J_iload dX8_patternOf_47 (pc' := 49) rfl rfl ?_
          refine J_iald (j := j) kd_529 (by rw [hpw]; rfl) (by rw [ln_529]; omega) dX8_patternOf_49 (pc' := 50) rfl ?_
          refine J_top (w := .int (C.2.1 15 j)) (by rw [(hX2.2.2.2 j hj).2.2.2.2.2.1]) ?_
          refine J_aload_n dX8_patternOf_50 (pc' := 51) rfl rfl ?_
          refine J_getr fX8_77 kd_516 rf_516_20 dX8_patternOf_51 (pc' := 54) rfl ?_
          refine J_iload dX8_patternOf_54 (pc' := 56) rfl rfl ?_
          refine J_iald (j := j) kd_529 (by rw [hpw]; rfl) (by rw [ln_529]; omega) dX8_patternOf_56 (pc' := 57) rfl ?_
          refine J_top (w := .int (C.2.1 15 j)) (by rw [(hX2.2.2.2 j hj).2.2.2.2.2.1]) ?_
          refine J_ineg dX8_patternOf_57 (pc' := 58) rfl ?_
          refine J_iand dX8_patternOf_58 (pc' := 59) rfl ?_
          refine J_iadd dX8_patternOf_59 (pc' := 60) rfl ?_
          refine J_top (w := .int (pk_p C w (nfS C t) (nlS C t) (i + 1))) (by first | (rw [pk_p, hpw, Int32.mul_comm]; simp only [dv_oi]; rw [dv_gx_in hj (by omega)]; done) | (rw [pk_p, hpw, Int32.mul_comm, show dv_gx (C.2.1 15) w (dv_oi none) = 0 from dv_gx_out (decide_eq_false (fun q => absurd q.1 (by decide))), show (0 : Int32) &&& -0 = 0 by decide])) ?_
          refine J_istore_n dX8_patternOf_60 (pc' := 61) rfl rfl (by decide) rfl (l' := [some (.ref 516), some (.int (nI t)), some (.int (pk_p C w (nfS C t) (nlS C t) (i + 1))), some (.int (nI i)), some (.int (dv_oi (pk_w C w (nfS C t) (nlS C t) i)))]) rfl ?_
          refine J_iinc dX8_patternOf_61 (pc' := 64) rfl rfl (v := nI (i + 1)) (nI_1 i) (by decide) rfl (l' := [some (.ref 516), some (.int (nI t)), some (.int (pk_p C w (nfS C t) (nlS C t) (i + 1))), some (.int (nI (i + 1))), some (.int (dv_oi (pk_w C w (nfS C t) (nlS C t) i)))]) rfl ?_
          refine J_goto dX8_patternOf_64 (pc' := 9) (by decide) ?_
          refine J_drop 4 (l' := [some (.ref 516), some (.int (nI t)), some (.int (pk_p C w (nfS C t) (nlS C t) (i + 1))), some (.int (nI (i + 1))), none]) rfl ?_
          exact ih9 (i + 1) (by omega) (by omega)
        · have hpw : (pk_w C w (nfS C t) (nlS C t) i) = none := by
            cases hh : (pk_w C w (nfS C t) (nlS C t) i) with
            | none => rfl
            | some j => rw [hh] at c36; exact absurd (nI_pos' (by have := pk_w_lt j hh; omega)) c36
          refine J_iconst dX8_patternOf_39 (pc' := 40) rfl (v := 0) ic_0 ?_
          refine J_goto dX8_patternOf_40 (pc' := 59) (by decide) ?_
          refine J_iadd dX8_patternOf_59 (pc' := 60) rfl ?_
          refine J_top (w := .int (pk_p C w (nfS C t) (nlS C t) (i + 1))) (by first | (rw [pk_p, hpw, Int32.mul_comm]; simp only [dv_oi]; rw [dv_gx_in hj (by omega)]; done) | (rw [pk_p, hpw, Int32.mul_comm, show dv_gx (C.2.1 15) w (dv_oi none) = 0 from dv_gx_out (decide_eq_false (fun q => absurd q.1 (by decide))), show (0 : Int32) &&& -0 = 0 by decide])) ?_
          refine J_istore_n dX8_patternOf_60 (pc' := 61) rfl rfl (by decide) rfl (l' := [some (.ref 516), some (.int (nI t)), some (.int (pk_p C w (nfS C t) (nlS C t) (i + 1))), some (.int (nI i)), some (.int (dv_oi (pk_w C w (nfS C t) (nlS C t) i)))]) rfl ?_
          refine J_iinc dX8_patternOf_61 (pc' := 64) rfl rfl (v := nI (i + 1)) (nI_1 i) (by decide) rfl (l' := [some (.ref 516), some (.int (nI t)), some (.int (pk_p C w (nfS C t) (nlS C t) (i + 1))), some (.int (nI (i + 1))), some (.int (dv_oi (pk_w C w (nfS C t) (nlS C t) i)))]) rfl ?_
          refine J_goto dX8_patternOf_64 (pc' := 9) (by decide) ?_
          refine J_drop 4 (l' := [some (.ref 516), some (.int (nI t)), some (.int (pk_p C w (nfS C t) (nlS C t) (i + 1))), some (.int (nI (i + 1))), none]) rfl ?_
          exact ih9 (i + 1) (by omega) (by omega)
  refine J_loc (l' := [some (.ref 516), some (.int (nI t)), some (.int (pk_p C w (nfS C t) (nlS C t) 0)), some (.int (nI 0)), none]) (by simp only [nI_0, pk_p]) ?_
  exact hlp9 0 (Nat.zero_le _) 
