set_option maxRecDepth 100000 in
set_option maxHeartbeats 400000 in
theorem qX8_makes (d : Nat) (S : dv_S) (b : Int32) (g : Bool) (m : Nat) (hm : S.1 516 27 = nI m) (h312 : m < 312)  : dv_M yX8_makes cX8_makes 3 none (dv_rm (d + 1)) [.ref 516, .int b, .int (dv_b g)] S (fun r S' => r = none ∧ S' = (mkS S m (mkv g b))) := by
  refine dv_M_of [some (.ref 516), some (.int b), some (.int (dv_b g))] (by decide) (fun _ _ => Nat.le_of_ble_eq_true rfl) (fun _ _ => rfl) ?_
  refine J_aload_n dX8_makes_0 (pc' := 1) rfl rfl ?_
  refine J_getr fX8_92 kd_516 rf_516_25 dX8_makes_1 (pc' := 4) rfl ?_
  refine J_aload_n dX8_makes_4 (pc' := 5) rfl rfl ?_
  refine J_geti fX8_210 kd_516 rf_516_27 dX8_makes_5 (pc' := 8) rfl ?_
  have hj27 : ∀ jv : Int32, (mkv g b) = jv → dv_J yX8_makes cX8_makes 3 none (dv_rm (d + 1)) 0 0 27 [some (.ref 516), some (.int b), some (.int (dv_b g))] [.int jv, .int (S.1 516 27), .ref 534] S (fun r S' => r = none ∧ S' = (mkS S m (mkv g b))) := by
    intro jv hjv
    subst hjv
    refine J_i2b dX8_makes_27 (pc' := 28) rfl ?_
    refine J_bast (j := m) kd_534 (hm) (by rw [ln_534]; omega) dX8_makes_28 (pc' := 29) rfl ?_
    refine J_aload_n dX8_makes_29 (pc' := 30) rfl rfl ?_
    refine J_dup dX8_makes_30 (pc' := 31) rfl rfl ?_
    refine J_geti fX8_210 kd_516 rf_516_27 dX8_makes_31 (pc' := 34) rfl ?_
    refine J_iconst dX8_makes_34 (pc' := 35) rfl (v := 1) ic_1 ?_
    refine J_iadd dX8_makes_35 (pc' := 36) rfl ?_
    refine J_top (w := .int (nI (m + 1))) (by show Value.int (S.1 516 27 + 1) = _; rw [hm, nI_1]) ?_
    refine J_puti fX8_210 kd_516 rf_516_27 dX8_makes_36 (pc' := 39) rfl ?_
    refine J_vret dX8_makes_39 rfl (dv_r1 _) ?_
    exact ⟨rfl, rfl⟩
  refine J_iload_n dX8_makes_8 (pc' := 9) rfl rfl ?_
  refine J_beq dX8_makes_9 (pt := 26) (by decide) (pc' := 12) rfl (fun c9 => ?_) (fun c9 => ?_)
  · refine J_iload_n dX8_makes_26 (pc' := 27) rfl rfl ?_
    exact hj27 _ (by first | (rw [mkv, c9]; rfl) | (rw [mkv, c9, c16]; rfl))
  · refine J_iload_n dX8_makes_12 (pc' := 13) rfl rfl ?_
    refine J_s1 (As := [.int b]) (rest := [.int (S.1 516 27), .ref 534]) (qX8_isSmall _ _ _) vX8_isSmall mX8_17 dX8_makes_13 (pc' := 16) rfl rfl (Nat.le_of_ble_eq_true rfl) (by decide) ?_
    refine J_beq dX8_makes_16 (pt := 26) (by decide) (pc' := 19) rfl (fun c16 => ?_) (fun c16 => ?_)
    · refine J_iload_n dX8_makes_26 (pc' := 27) rfl rfl ?_
      exact hj27 _ (by first | (rw [mkv, c9]; rfl) | (rw [mkv, c9, c16]; rfl))
    · refine J_iload_n dX8_makes_19 (pc' := 20) rfl rfl ?_
      refine J_bipush dX8_makes_20 (pc' := 22) rfl (v := 32) bp_32 ?_
      refine J_isub dX8_makes_22 (pc' := 23) rfl ?_
      refine J_goto dX8_makes_23 (pc' := 27) (by decide) ?_
      exact hj27 _ (by first | (rw [mkv, c9]; rfl) | (rw [mkv, c9, c16]; rfl))
set_option maxRecDepth 100000 in
set_option maxHeartbeats 400000 in
theorem qX8_offers (d : Nat) (S : dv_S) (C : dv_S) (n w : Nat) (wl : Nat → Nat → Int32) (wm : Nat → Nat) (t : Nat) (hX : RX S C n w wl wm) (ht : t < n)  : dv_M yX8_offers cX8_offers 8 (some .boolean) (dv_rm (d + 4)) [.ref 516, .int (nI t)] S (fun r S' => r = some (.int (dv_b (ogS C w wl wm n t))) ∧ ofR S C n w t (olS C w wl wm n t) S') := by
  have h80 := hX.1.2
  have h60 := hX.2.1.2
  have hm24 := (hX.2.2.1 t ht).2.1
  have hc24 : pnS C t ≤ (nlS C t) := cu_le _ _ _
  refine dv_M_of [some (.ref 516), some (.int (nI t)), none, none, none, none, none, none] (by decide) (fun _ _ => Nat.le_of_ble_eq_true rfl) (fun _ _ => rfl) ?_
  refine J_aload_n dX8_offers_0 (pc' := 1) rfl rfl ?_
  refine J_vq (As := []) (rest := []) (qX8_counts _ S C n w wl wm hX) vX8_counts mX8_192 kd_516 dX8_offers_1 (pc' := 4) rfl rfl (Nat.le_of_ble_eq_true rfl) (by decide) ?_
  rintro r S1 ⟨rfl, hC⟩
  have hX1 := RX_fr hC.1 hX (by decide) (by decide)
  show dv_J yX8_offers cX8_offers 8 (some .boolean) (dv_rm (d + 4)) 0 0 4 [some (.ref 516), some (.int (nI t)), none, none, none, none, none, none] [] S1 (fun r S' => r = some (.int (dv_b (ogS C w wl wm n t))) ∧ ofR S C n w t (olS C w wl wm n t) S')
  refine J_aload_n dX8_offers_4 (pc' := 5) rfl rfl ?_
  refine J_iload_n dX8_offers_5 (pc' := 6) rfl rfl ?_
  refine J_v1 (As := [.int (nI t)]) (rest := []) (qX8_styleOf _ S1 C n w wl wm t hX1 ht) vX8_styleOf mX8_201 kd_516 dX8_offers_6 (pc' := 9) rfl rfl (Nat.le_of_ble_eq_true rfl) (by decide) ?_
  refine J_istore_n dX8_offers_9 (pc' := 10) rfl rfl (by decide) rfl (l' := [some (.ref 516), some (.int (nI t)), some (.int (stS C t)), none, none, none, none, none]) rfl ?_
  refine J_aload_n dX8_offers_10 (pc' := 11) rfl rfl ?_
  refine J_iload_n dX8_offers_11 (pc' := 12) rfl rfl ?_
  refine J_vq (As := [.int (nI t)]) (rest := []) (qX8_cuts _ S1 C n w wl wm t hX1 ht) vX8_cuts mX8_181 kd_516 dX8_offers_12 (pc' := 15) rfl rfl (Nat.le_of_ble_eq_true rfl) (by decide) ?_
  rintro r S2 ⟨rfl, hcu⟩
  show dv_J yX8_offers cX8_offers 8 (some .boolean) (dv_rm (d + 4)) 0 0 15 [some (.ref 516), some (.int (nI t)), some (.int (stS C t)), none, none, none, none, none] [] S2 (fun r S' => r = some (.int (dv_b (ogS C w wl wm n t))) ∧ ofR S C n w t (olS C w wl wm n t) S')
  refine J_aload_n dX8_offers_15 (pc' := 16) rfl rfl ?_
  refine J_iconst dX8_offers_16 (pc' := 17) rfl (v := 0) ic_0 ?_
  refine J_puti fX8_210 kd_516 rf_516_27 dX8_offers_17 (pc' := 20) rfl ?_
  refine J_iconst dX8_offers_20 (pc' := 21) rfl (v := 0) ic_0 ?_
  refine J_istore_n dX8_offers_21 (pc' := 22) rfl rfl (by decide) rfl (l' := [some (.ref 516), some (.int (nI t)), some (.int (stS C t)), some (.int 0), none, none, none, none]) rfl ?_
  have hlp22 : ∀ i, i ≤ (pnS C t) → ∀ (S3 : dv_S), ofR S C n w t (ofS C w wl wm (ut C w n) t i) S3 → dv_J yX8_offers cX8_offers 8 (some .boolean) (dv_rm (d + 4)) 0 0 22 [some (.ref 516), some (.int (nI t)), some (.int (stS C t)), some (.int (nI i)), none, none, none, none] [] S3 (fun r S' => r = some (.int (dv_b (ogS C w wl wm n t))) ∧ ofR S C n w t (olS C w wl wm n t) S') := by
    refine dv_up (P := fun i => ∀ (S3 : dv_S), ofR S C n w t (ofS C w wl wm (ut C w n) t i) S3 → dv_J yX8_offers cX8_offers 8 (some .boolean) (dv_rm (d + 4)) 0 0 22 [some (.ref 516), some (.int (nI t)), some (.int (stS C t)), some (.int (nI i)), none, none, none, none] [] S3 (fun r S' => r = some (.int (dv_b (ogS C w wl wm n t))) ∧ ofR S C n w t (olS C w wl wm n t) S')) ?_
    intro i hi22 ih22 S3 hI
    have hX3 := ofR_X hI hX
    refine J_iload_n dX8_offers_22 (pc' := 23) rfl rfl ?_
    refine J_aload_n dX8_offers_23 (pc' := 24) rfl rfl ?_
    refine J_geti fX8_162 kd_516 rf_516_16 dX8_offers_24 (pc' := 27) rfl ?_
    refine J_top (w := .int (nI (pnS C t))) (by rw [hI.2.1.1]) ?_
    refine J_icmp_ge dX8_offers_27 (pt := 202) (by decide) (pc' := 30) rfl (fun c27 => ?_) (fun c27 => ?_)
    · have hx := dv_ge hi22 (by omega) c27
      have hj251 : ∀ jv : Int32, (dv_b (nm_ok (ofS C w wl wm (ut C w n) t i) && !decide ((ofS C w wl wm (ut C w n) t i) = tx C (25 + 2 * t)))) = jv → dv_J yX8_offers cX8_offers 8 (some .boolean) (dv_rm (d + 4)) 0 0 251 [some (.ref 516), some (.int (nI t)), some (.int (stS C t)), some (.int (nI i)), none, none, none, none] [.int jv] S3 (fun r S' => r = some (.int (dv_b (ogS C w wl wm n t))) ∧ ofR S C n w t (olS C w wl wm n t) S') := by
        intro jv hjv
        subst hjv
        refine J_zret dX8_offers_251 rfl (dv_b_01 _) (dv_r1 _) ?_
        rw [hx] at hI
        refine ⟨?_, hI⟩
        rw [hx]
        rfl
      refine J_aload_n dX8_offers_202 (pc' := 203) rfl rfl ?_
      refine J_getr fX8_92 kd_516 rf_516_25 dX8_offers_203 (pc' := 206) rfl ?_
      refine J_iconst dX8_offers_206 (pc' := 207) rfl (v := 0) ic_0 ?_
      refine J_top (w := .int (nI 0)) (by rw [nI_0]) ?_
      refine J_aload_n dX8_offers_207 (pc' := 208) rfl rfl ?_
      refine J_geti fX8_210 kd_516 rf_516_27 dX8_offers_208 (pc' := 211) rfl ?_
      refine J_top (w := .int (nI ((ofS C w wl wm (ut C w n) t i).length))) (by rw [hI.2.2.2.1]) ?_
      refine J_s1 (As := [.ref 534, .int (nI 0), .int (nI ((ofS C w wl wm (ut C w n) t i).length))]) (rest := []) (qX8_isName _ S3 534 0 (ofS C w wl wm (ut C w n) t i).length kd_534 (by rw [ln_534]; have := hI.2.2.2.2.1; omega)) vX8_isName mX8_143 dX8_offers_211 (pc' := 214) rfl rfl (Nat.le_of_ble_eq_true rfl) (by decide) ?_
      refine J_top (w := .int (dv_b (nm_ok (ofS C w wl wm (ut C w n) t i)))) (by rw [mdt_rd hI.2.2.2]) ?_
      refine J_beq dX8_offers_214 (pt := 250) (by decide) (pc' := 217) rfl (fun c214 => ?_) (fun c214 => ?_)
      · refine J_iconst dX8_offers_250 (pc' := 251) rfl (v := 0) ic_0 ?_
        exact hj251 _ (by first | (rw [c214]; rfl) | (rw [c214, c243]; rfl))
      · refine J_aload_n dX8_offers_217 (pc' := 218) rfl rfl ?_
        refine J_getr fX8_92 kd_516 rf_516_25 dX8_offers_218 (pc' := 221) rfl ?_
        refine J_iconst dX8_offers_221 (pc' := 222) rfl (v := 0) ic_0 ?_
        refine J_top (w := .int (nI 0)) (by rw [nI_0]) ?_
        refine J_aload_n dX8_offers_222 (pc' := 223) rfl rfl ?_
        refine J_geti fX8_210 kd_516 rf_516_27 dX8_offers_223 (pc' := 226) rfl ?_
        refine J_top (w := .int (nI ((ofS C w wl wm (ut C w n) t i).length))) (by rw [hI.2.2.2.1]) ?_
        refine J_aload_n dX8_offers_226 (pc' := 227) rfl rfl ?_
        refine J_getr fX8_62 kd_516 rf_516_13 dX8_offers_227 (pc' := 230) rfl ?_
        refine J_bipush dX8_offers_230 (pc' := 232) rfl (v := 24) bp_24 ?_
        refine J_iload_n dX8_offers_232 (pc' := 233) rfl rfl ?_
        refine J_imul dX8_offers_233 (pc' := 234) rfl ?_
        refine J_top (w := .int (nI (24 * t))) (by rw [dv_n24, pk_mul]) ?_
        refine J_aload_n dX8_offers_234 (pc' := 235) rfl rfl ?_
        refine J_getr fX8_53 kd_516 rf_516_10 dX8_offers_235 (pc' := 238) rfl ?_
        refine J_iload_n dX8_offers_238 (pc' := 239) rfl rfl ?_
        refine J_iald (j := t) kd_521 (rfl) (by rw [ln_521]; omega) dX8_offers_239 (pc' := 240) rfl ?_
        refine J_top (w := .int (nI (nlS C t))) (by rw [(hX3.2.2.1 t ht).1]) ?_
        refine J_s1 (As := [.ref 534, .int (nI 0), .int (nI ((ofS C w wl wm (ut C w n) t i).length)), .ref 524, .int (nI (24 * t)), .int (nI (nlS C t))]) (rest := []) (qX8_isSame _ S3 534 0 (ofS C w wl wm (ut C w n) t i).length 524 (24 * t) (nlS C t) kd_534 kd_524 (by rw [ln_534]; have := hI.2.2.2.2.1; omega) (by rw [ln_524]; omega)) vX8_isSame mX8_133 dX8_offers_240 (pc' := 243) rfl rfl (Nat.le_of_ble_eq_true rfl) (by decide) ?_
        refine J_top (w := .int (dv_b (decide ((ofS C w wl wm (ut C w n) t i) = tx C (25 + 2 * t))))) (by rw [mdt_rd hI.2.2.2, RX_rd hX3 ht]) ?_
        refine J_bne dX8_offers_243 (pt := 250) (by decide) (pc' := 246) rfl (fun c243 => ?_) (fun c243 => ?_)
        · refine J_iconst dX8_offers_250 (pc' := 251) rfl (v := 0) ic_0 ?_
          exact hj251 _ (by first | (rw [c214]; rfl) | (rw [c214, c243]; rfl))
        · refine J_iconst dX8_offers_246 (pc' := 247) rfl (v := 1) ic_1 ?_
          refine J_goto dX8_offers_247 (pc' := 251) (by decide) ?_
          exact hj251 _ (by first | (rw [c214]; rfl) | (rw [c214, c243]; rfl))
    · have hi := dv_nge hi22 (by omega) c27
      have hft := cu_ft (nfS C t) (nlS C t) (nlS C t) i hi
      have hol := ofS_len (t := t) (u := (ut C w n)) hX i hi
      have hbl := ofb_len (t := t) (u := (ut C w n)) hX hi
      have hg55 : ∀ (xw : Int32), ((xw = -2 ∧ hdo (C.2.1 17) (ut C w n) w (opS C w (pk_w C w (nfS C t) (nlS C t) i)) = none) ∨ ∃ h, h < w ∧ xw = nI h ∧ hdo (C.2.1 17) (ut C w n) w (opS C w (pk_w C w (nfS C t) (nlS C t) i)) = some h) → dv_J yX8_offers cX8_offers 8 (some .boolean) (dv_rm (d + 4)) 0 0 55 [some (.ref 516), some (.int (nI t)), some (.int (stS C t)), some (.int (nI i)), some (.int xw), none, none, none] [] S3 (fun r S' => r = some (.int (dv_b (ogS C w wl wm n t))) ∧ ofR S C n w t (olS C w wl wm n t) S') := by
        intro xw hw4
        have hg71 : ∀ (S4 : dv_S), ofR S C n w t ((ofS C w wl wm (ut C w n) t i) ++ (if 0 < i ∧ (stS C t = 2 ∨ stS C t = 3) then [95] else [])) S4 → dv_J yX8_offers cX8_offers 8 (some .boolean) (dv_rm (d + 4)) 0 0 71 [some (.ref 516), some (.int (nI t)), some (.int (stS C t)), some (.int (nI i)), some (.int xw), none, none, none] [] S4 (fun r S' => r = some (.int (dv_b (ogS C w wl wm n t))) ∧ ofR S C n w t (olS C w wl wm n t) S') := by
          intro S4 hJ
          rcases hw4 with ⟨hx4, hH⟩ | ⟨h, hh, hx4, hH⟩
          · have hob : (ofb C w wl wm (ut C w n) (nfS C t) (nlS C t) i) = (fun k => ch_lo ((nfS C t) (((cu (nfS C t) (nlS C t) (nlS C t)).2.1 i) + k)), ((cu (nfS C t) (nlS C t) (nlS C t)).2.2 i) - ((cu (nfS C t) (nlS C t) (nlS C t)).2.1 i)) := by unfold ofb; rw [hH]
            refine J_loc (l' := [some (.ref 516), some (.int (nI t)), some (.int (stS C t)), some (.int (nI i)), some (.int ((-2))), none, none, none]) (by rw [hx4]) ?_
            refine J_iload dX8_offers_71 (pc' := 73) rfl rfl ?_
            refine J_if_lt dX8_offers_73 (pt := 86) (by decide) (pc' := 76) rfl (fun c73 => ?_) (fun c73 => ?_)
            · refine J_aload_n dX8_offers_86 (pc' := 87) rfl rfl ?_
              refine J_getr fX8_68 kd_516 rf_516_15 dX8_offers_87 (pc' := 90) rfl ?_
              refine J_iload_n dX8_offers_90 (pc' := 91) rfl rfl ?_
              refine J_iald (j := i) kd_526 (rfl) (by rw [ln_526]; omega) dX8_offers_91 (pc' := 92) rfl ?_
              refine J_top (w := .int (nI ((cu (nfS C t) (nlS C t) (nlS C t)).2.2 i))) (by rw [(hJ.2.1.2 i hi).2]) ?_
              refine J_aload_n dX8_offers_92 (pc' := 93) rfl rfl ?_
              refine J_getr fX8_65 kd_516 rf_516_14 dX8_offers_93 (pc' := 96) rfl ?_
              refine J_iload_n dX8_offers_96 (pc' := 97) rfl rfl ?_
              refine J_iald (j := i) kd_525 (rfl) (by rw [ln_525]; omega) dX8_offers_97 (pc' := 98) rfl ?_
              refine J_top (w := .int (nI ((cu (nfS C t) (nlS C t) (nlS C t)).2.1 i))) (by rw [(hJ.2.1.2 i hi).1]) ?_
              refine J_isub dX8_offers_98 (pc' := 99) rfl ?_
              refine J_top (w := .int (nI (((cu (nfS C t) (nlS C t) (nlS C t)).2.2 i) - ((cu (nfS C t) (nlS C t) (nlS C t)).2.1 i)))) (by rw [pk_sub (by omega)]) ?_
              refine J_istore dX8_offers_99 (pc' := 101) rfl (by decide) rfl (l' := [some (.ref 516), some (.int (nI t)), some (.int (stS C t)), some (.int (nI i)), some (.int ((-2))), some (.int (nI (((cu (nfS C t) (nlS C t) (nlS C t)).2.2 i) - ((cu (nfS C t) (nlS C t) (nlS C t)).2.1 i)))), none, none]) rfl ?_
              refine J_iconst dX8_offers_101 (pc' := 102) rfl (v := 0) ic_0 ?_
              refine J_istore dX8_offers_102 (pc' := 104) rfl (by decide) rfl (l' := [some (.ref 516), some (.int (nI t)), some (.int (stS C t)), some (.int (nI i)), some (.int ((-2))), some (.int (nI (((cu (nfS C t) (nlS C t) (nlS C t)).2.2 i) - ((cu (nfS C t) (nlS C t) (nlS C t)).2.1 i)))), some (.int 0), none]) rfl ?_
              have hlp104 : ∀ k, k ≤ (((cu (nfS C t) (nlS C t) (nlS C t)).2.2 i) - ((cu (nfS C t) (nlS C t) (nlS C t)).2.1 i)) → ∀ (S5 : dv_S), ofR S C n w t (((ofS C w wl wm (ut C w n) t i) ++ (if 0 < i ∧ (stS C t = 2 ∨ stS C t = 3) then [95] else [])) ++ dv_rd (ofc (decide (stS C t = 3)) (decide (stS C t = 1 ∨ (stS C t = 0 ∧ 0 < i))) (ofb C w wl wm (ut C w n) (nfS C t) (nlS C t) i).1) k) S5 → dv_J yX8_offers cX8_offers 8 (some .boolean) (dv_rm (d + 4)) 0 0 104 [some (.ref 516), some (.int (nI t)), some (.int (stS C t)), some (.int (nI i)), some (.int ((-2))), some (.int (nI (((cu (nfS C t) (nlS C t) (nlS C t)).2.2 i) - ((cu (nfS C t) (nlS C t) (nlS C t)).2.1 i)))), some (.int (nI k)), none] [] S5 (fun r S' => r = some (.int (dv_b (ogS C w wl wm n t))) ∧ ofR S C n w t (olS C w wl wm n t) S') := by
                refine dv_up (P := fun k => ∀ (S5 : dv_S), ofR S C n w t (((ofS C w wl wm (ut C w n) t i) ++ (if 0 < i ∧ (stS C t = 2 ∨ stS C t = 3) then [95] else [])) ++ dv_rd (ofc (decide (stS C t = 3)) (decide (stS C t = 1 ∨ (stS C t = 0 ∧ 0 < i))) (ofb C w wl wm (ut C w n) (nfS C t) (nlS C t) i).1) k) S5 → dv_J yX8_offers cX8_offers 8 (some .boolean) (dv_rm (d + 4)) 0 0 104 [some (.ref 516), some (.int (nI t)), some (.int (stS C t)), some (.int (nI i)), some (.int ((-2))), some (.int (nI (((cu (nfS C t) (nlS C t) (nlS C t)).2.2 i) - ((cu (nfS C t) (nlS C t) (nlS C t)).2.1 i)))), some (.int (nI k)), none] [] S5 (fun r S' => r = some (.int (dv_b (ogS C w wl wm n t))) ∧ ofR S C n w t (olS C w wl wm n t) S')) ?_
                intro k hi104 ih104 S5 hK
                have hX5 := ofR_X hK hX
                refine J_iload dX8_offers_104 (pc' := 106) rfl rfl ?_
                refine J_iload dX8_offers_106 (pc' := 108) rfl rfl ?_
                refine J_icmp_ge dX8_offers_108 (pt := 196) (by decide) (pc' := 111) rfl (fun c108 => ?_) (fun c108 => ?_)
                · have hk := dv_ge hi104 (by omega) c108
                  refine J_iinc dX8_offers_196 (pc' := 199) rfl rfl (v := nI (i + 1)) (nI_1 i) (by decide) rfl (l' := [some (.ref 516), some (.int (nI t)), some (.int (stS C t)), some (.int (nI (i + 1))), some (.int ((-2))), some (.int (nI (((cu (nfS C t) (nlS C t) (nlS C t)).2.2 i) - ((cu (nfS C t) (nlS C t) (nlS C t)).2.1 i)))), some (.int (nI k)), none]) rfl ?_
                  refine J_goto dX8_offers_199 (pc' := 22) (by decide) ?_
                  refine J_drop 4 (l' := [some (.ref 516), some (.int (nI t)), some (.int (stS C t)), some (.int (nI (i + 1))), none, some (.int (nI (((cu (nfS C t) (nlS C t) (nlS C t)).2.2 i) - ((cu (nfS C t) (nlS C t) (nlS C t)).2.1 i)))), some (.int (nI k)), none]) rfl ?_
                  refine J_drop 5 (l' := [some (.ref 516), some (.int (nI t)), some (.int (stS C t)), some (.int (nI (i + 1))), none, none, some (.int (nI k)), none]) rfl ?_
                  refine J_drop 6 (l' := [some (.ref 516), some (.int (nI t)), some (.int (stS C t)), some (.int (nI (i + 1))), none, none, none, none]) rfl ?_
                  refine ih22 (i + 1) (by omega) (by omega) _ ?_
                  have hfin : (ofS C w wl wm (ut C w n) t (i + 1)) = ((ofS C w wl wm (ut C w n) t i) ++ (if 0 < i ∧ (stS C t = 2 ∨ stS C t = 3) then [95] else [])) ++ dv_rd (ofc (decide (stS C t = 3)) (decide (stS C t = 1 ∨ (stS C t = 0 ∧ 0 < i))) (ofb C w wl wm (ut C w n) (nfS C t) (nlS C t) i).1) (ofb C w wl wm (ut C w n) (nfS C t) (nlS C t) i).2 := by unfold ofS; rw [ofl]
                  rw [hfin, hob]
                  rw [hk, hob] at hK
                  exact hK
                · have hk := dv_nge hi104 (by omega) c108
                  have hlt : (((ofS C w wl wm (ut C w n) t i) ++ (if 0 < i ∧ (stS C t = 2 ∨ stS C t = 3) then [95] else [])) ++ dv_rd (ofc (decide (stS C t = 3)) (decide (stS C t = 1 ∨ (stS C t = 0 ∧ 0 < i))) (ofb C w wl wm (ut C w n) (nfS C t) (nlS C t) i).1) k).length < 312 := by
                    rw [List.length_append, List.length_append, dv_rd_len]
                    have h3 : (if 0 < i ∧ (stS C t = 2 ∨ stS C t = 3) then [(95 : Int32)] else []).length ≤ 1 := by split <;> simp
                    rw [hob] at hbl
                    simp only at hbl
                    omega
                  refine J_iload dX8_offers_111 (pc' := 113) rfl rfl ?_
                  refine J_if_lt dX8_offers_113 (pt := 132) (by decide) (pc' := 116) rfl (fun c113 => ?_) (fun c113 => ?_)
                  · refine J_aload_n dX8_offers_132 (pc' := 133) rfl rfl ?_
                    refine J_getr fX8_62 kd_516 rf_516_13 dX8_offers_133 (pc' := 136) rfl ?_
                    refine J_bipush dX8_offers_136 (pc' := 138) rfl (v := 24) bp_24 ?_
                    refine J_iload_n dX8_offers_138 (pc' := 139) rfl rfl ?_
                    refine J_imul dX8_offers_139 (pc' := 140) rfl ?_
                    refine J_top (w := .int (nI (24 * t))) (by rw [dv_n24, pk_mul]) ?_
                    refine J_aload_n dX8_offers_140 (pc' := 141) rfl rfl ?_
                    refine J_getr fX8_65 kd_516 rf_516_14 dX8_offers_141 (pc' := 144) rfl ?_
                    refine J_iload_n dX8_offers_144 (pc' := 145) rfl rfl ?_
                    refine J_iald (j := i) kd_525 (rfl) (by rw [ln_525]; omega) dX8_offers_145 (pc' := 146) rfl ?_
                    refine J_top (w := .int (nI ((cu (nfS C t) (nlS C t) (nlS C t)).2.1 i))) (by rw [(hK.2.1.2 i hi).1]) ?_
                    refine J_iadd dX8_offers_146 (pc' := 147) rfl ?_
                    refine J_top (w := .int (nI (24 * t + ((cu (nfS C t) (nlS C t) (nlS C t)).2.1 i)))) (by rw [nI_add]) ?_
                    refine J_iload dX8_offers_147 (pc' := 149) rfl rfl ?_
                    refine J_iadd dX8_offers_149 (pc' := 150) rfl ?_
                    refine J_bald (j := 24 * t + (((cu (nfS C t) (nlS C t) (nlS C t)).2.1 i) + k)) kd_524 (by rw [nI_add, Nat.add_assoc]) (by rw [ln_524]; omega) dX8_offers_150 (pc' := 151) rfl ?_
                    refine J_top (w := .int ((nfS C t) (((cu (nfS C t) (nlS C t) (nlS C t)).2.1 i) + k))) (by rw [((hX5.2.2.1 t ht).2.2.1 (((cu (nfS C t) (nlS C t) (nlS C t)).2.1 i) + k) (by omega)).1]) ?_
                    refine J_s1 (As := [.int ((nfS C t) (((cu (nfS C t) (nlS C t) (nlS C t)).2.1 i) + k))]) (rest := []) (qX8_low _ _ _) vX8_low mX8_178 dX8_offers_151 (pc' := 154) rfl rfl (Nat.le_of_ble_eq_true rfl) (by decide) ?_
                    refine J_istore dX8_offers_154 (pc' := 156) rfl (by decide) rfl (l' := [some (.ref 516), some (.int (nI t)), some (.int (stS C t)), some (.int (nI i)), some (.int ((-2))), some (.int (nI (((cu (nfS C t) (nlS C t) (nlS C t)).2.2 i) - ((cu (nfS C t) (nlS C t) (nlS C t)).2.1 i)))), some (.int (nI k)), some (.int (ch_lo ((nfS C t) (((cu (nfS C t) (nlS C t) (nlS C t)).2.1 i) + k))))]) rfl ?_
                    refine J_aload_n dX8_offers_156 (pc' := 157) rfl rfl ?_
                    refine J_iload dX8_offers_157 (pc' := 159) rfl rfl ?_
                    have hj187 : ∀ jv : Int32, (dv_b ((decide (stS C t = 3)) || ((decide (stS C t = 1 ∨ (stS C t = 0 ∧ 0 < i))) && decide (k = 0)))) = jv → dv_J yX8_offers cX8_offers 8 (some .boolean) (dv_rm (d + 4)) 0 0 187 [some (.ref 516), some (.int (nI t)), some (.int (stS C t)), some (.int (nI i)), some (.int ((-2))), some (.int (nI (((cu (nfS C t) (nlS C t) (nlS C t)).2.2 i) - ((cu (nfS C t) (nlS C t) (nlS C t)).2.1 i)))), some (.int (nI k)), some (.int (ch_lo ((nfS C t) (((cu (nfS C t) (nlS C t) (nlS C t)).2.1 i) + k))))] [.int jv, .int (ch_lo ((nfS C t) (((cu (nfS C t) (nlS C t) (nlS C t)).2.1 i) + k))), .ref 516] S5 (fun r S' => r = some (.int (dv_b (ogS C w wl wm n t))) ∧ ofR S C n w t (olS C w wl wm n t) S') := by
                      intro jv hjv
                      subst hjv
                      refine J_v0 (As := [.int (ch_lo ((nfS C t) (((cu (nfS C t) (nlS C t) (nlS C t)).2.1 i) + k))), .int (dv_b ((decide (stS C t = 3)) || ((decide (stS C t = 1 ∨ (stS C t = 0 ∧ 0 < i))) && decide (k = 0))))]) (rest := []) (qX8_makes _ S5 _ _ (((ofS C w wl wm (ut C w n) t i) ++ (if 0 < i ∧ (stS C t = 2 ∨ stS C t = 3) then [95] else [])) ++ dv_rd (ofc (decide (stS C t = 3)) (decide (stS C t = 1 ∨ (stS C t = 0 ∧ 0 < i))) (ofb C w wl wm (ut C w n) (nfS C t) (nlS C t) i).1) k).length hK.2.2.2.1 hlt) vX8_makes mX8_213 kd_516 dX8_offers_187 (pc' := 190) rfl rfl (Nat.le_of_ble_eq_true rfl) (by decide) ?_
                      refine J_iinc dX8_offers_190 (pc' := 193) rfl rfl (v := nI (k + 1)) (nI_1 k) (by decide) rfl (l' := [some (.ref 516), some (.int (nI t)), some (.int (stS C t)), some (.int (nI i)), some (.int ((-2))), some (.int (nI (((cu (nfS C t) (nlS C t) (nlS C t)).2.2 i) - ((cu (nfS C t) (nlS C t) (nlS C t)).2.1 i)))), some (.int (nI (k + 1))), some (.int (ch_lo ((nfS C t) (((cu (nfS C t) (nlS C t) (nlS C t)).2.1 i) + k))))]) rfl ?_
                      refine J_goto dX8_offers_193 (pc' := 104) (by decide) ?_
                      refine J_drop 7 (l' := [some (.ref 516), some (.int (nI t)), some (.int (stS C t)), some (.int (nI i)), some (.int ((-2))), some (.int (nI (((cu (nfS C t) (nlS C t) (nlS C t)).2.2 i) - ((cu (nfS C t) (nlS C t) (nlS C t)).2.1 i)))), some (.int (nI (k + 1))), none]) rfl ?_
                      refine ih104 (k + 1) (by omega) (by omega) _ ?_
                      rw [dv_rd_s, ← List.append_assoc]
                      refine ofR_add hK hlt ?_
                      have hch := ofb_ch (u := (ut C w n)) hX ht hi k (by rw [hob]; exact hk)
                      rw [hob] at hch ⊢
                      exact mk_id hch _
                    refine J_iload_n dX8_offers_159 (pc' := 160) rfl rfl ?_
                    refine J_iconst dX8_offers_160 (pc' := 161) rfl (v := 3) ic_3 ?_
                    refine J_icmp_eq dX8_offers_161 (pt := 182) (by decide) (pc' := 164) rfl (fun c161 => ?_) (fun c161 => ?_)
                    · refine J_iconst dX8_offers_182 (pc' := 183) rfl (v := 1) ic_1 ?_
                      refine J_goto dX8_offers_183 (pc' := 187) (by decide) ?_
                      exact hj187 _ (by first | (simp [dv_b, c161]; done) | (simp [dv_b, c161, c166]; done) | (simp [dv_b, c161, c166, c171]; done) | (simp [dv_b, c161, c166, c171, c175]; done) | (simp [dv_b, c161, c166, c171, c175, c179]; done) | (simp [dv_b, c161, c166, c171, c175]; omega))
                    · refine J_iload dX8_offers_164 (pc' := 166) rfl rfl ?_
                      refine J_if_ne dX8_offers_166 (pt := 186) (by decide) (pc' := 169) rfl (fun c166 => ?_) (fun c166 => ?_)
                      · rw [show (0 : Int32) = nI 0 by decide, nI_eq (by omega) (by omega)] at c166
                        refine J_iconst dX8_offers_186 (pc' := 187) rfl (v := 0) ic_0 ?_
                        exact hj187 _ (by first | (simp [dv_b, c161]; done) | (simp [dv_b, c161, c166]; done) | (simp [dv_b, c161, c166, c171]; done) | (simp [dv_b, c161, c166, c171, c175]; done) | (simp [dv_b, c161, c166, c171, c175, c179]; done) | (simp [dv_b, c161, c166, c171, c175]; omega))
                      · rw [show (0 : Int32) = nI 0 by decide, nI_eq (by omega) (by omega)] at c166
                        refine J_iload_n dX8_offers_169 (pc' := 170) rfl rfl ?_
                        refine J_iconst dX8_offers_170 (pc' := 171) rfl (v := 1) ic_1 ?_
                        refine J_icmp_eq dX8_offers_171 (pt := 182) (by decide) (pc' := 174) rfl (fun c171 => ?_) (fun c171 => ?_)
                        · refine J_iconst dX8_offers_182 (pc' := 183) rfl (v := 1) ic_1 ?_
                          refine J_goto dX8_offers_183 (pc' := 187) (by decide) ?_
                          exact hj187 _ (by first | (simp [dv_b, c161]; done) | (simp [dv_b, c161, c166]; done) | (simp [dv_b, c161, c166, c171]; done) | (simp [dv_b, c161, c166, c171, c175]; done) | (simp [dv_b, c161, c166, c171, c175, c179]; done) | (simp [dv_b, c161, c166, c171, c175]; omega))
                        · refine J_iload_n dX8_offers_174 (pc' := 175) rfl rfl ?_
                          refine J_if_ne dX8_offers_175 (pt := 186) (by decide) (pc' := 178) rfl (fun c175 => ?_) (fun c175 => ?_)
                          · refine J_iconst dX8_offers_186 (pc' := 187) rfl (v := 0) ic_0 ?_
                            exact hj187 _ (by first | (simp [dv_b, c161]; done) | (simp [dv_b, c161, c166]; done) | (simp [dv_b, c161, c166, c171]; done) | (simp [dv_b, c161, c166, c171, c175]; done) | (simp [dv_b, c161, c166, c171, c175, c179]; done) | (simp [dv_b, c161, c166, c171, c175]; omega))
                          · refine J_iload_n dX8_offers_178 (pc' := 179) rfl rfl ?_
                            refine J_if_le dX8_offers_179 (pt := 186) (by decide) (pc' := 182) rfl (fun c179 => ?_) (fun c179 => ?_)
                            · rw [show (0 : Int32) = nI 0 by decide, nI_leI (by omega) (by omega)] at c179
                              refine J_iconst dX8_offers_186 (pc' := 187) rfl (v := 0) ic_0 ?_
                              exact hj187 _ (by first | (simp [dv_b, c161]; done) | (simp [dv_b, c161, c166]; done) | (simp [dv_b, c161, c166, c171]; done) | (simp [dv_b, c161, c166, c171, c175]; done) | (simp [dv_b, c161, c166, c171, c175, c179]; done) | (simp [dv_b, c161, c166, c171, c175]; omega))
                            · rw [show (0 : Int32) = nI 0 by decide, nI_leI (by omega) (by omega)] at c179
                              refine J_iconst dX8_offers_182 (pc' := 183) rfl (v := 1) ic_1 ?_
                              refine J_goto dX8_offers_183 (pc' := 187) (by decide) ?_
                              exact hj187 _ (by first | (simp [dv_b, c161]; done) | (simp [dv_b, c161, c166]; done) | (simp [dv_b, c161, c166, c171]; done) | (simp [dv_b, c161, c166, c171, c175]; done) | (simp [dv_b, c161, c166, c171, c175, c179]; done) | (simp [dv_b, c161, c166, c171, c175]; omega))
                  · exact absurd c113 (by decide)
              refine J_loc (l' := [some (.ref 516), some (.int (nI t)), some (.int (stS C t)), some (.int (nI i)), some (.int ((-2))), some (.int (nI (((cu (nfS C t) (nlS C t) (nlS C t)).2.2 i) - ((cu (nfS C t) (nlS C t) (nlS C t)).2.1 i)))), some (.int (nI 0)), none]) (by simp only [nI_0, dv_b_f, dv_b_t]) ?_
              refine J_sto (S' := S4) (rfl) ?_
              exact hlp104 0 (Nat.zero_le _) _ (by rw [dv_rd_0, List.append_nil]; exact hJ)
            · exact absurd c73 (by decide)
          · have hob : (ofb C w wl wm (ut C w n) (nfS C t) (nlS C t) i) = (wl h, wm h) := by unfold ofb; rw [hH]
            have hwm := (hX.2.2.2 h hh).2.2.1
            refine J_loc (l' := [some (.ref 516), some (.int (nI t)), some (.int (stS C t)), some (.int (nI i)), some (.int (nI h)), none, none, none]) (by rw [hx4]) ?_
            refine J_iload dX8_offers_71 (pc' := 73) rfl rfl ?_
            refine J_if_lt dX8_offers_73 (pt := 86) (by decide) (pc' := 76) rfl (fun c73 => ?_) (fun c73 => ?_)
            · exact absurd c73 (nI_pos (by omega))
            · refine J_aload_n dX8_offers_76 (pc' := 77) rfl rfl ?_
              refine J_getr fX8_74 kd_516 rf_516_19 dX8_offers_77 (pc' := 80) rfl ?_
              refine J_iload dX8_offers_80 (pc' := 82) rfl rfl ?_
              refine J_iald (j := h) kd_528 (rfl) (by rw [ln_528]; omega) dX8_offers_82 (pc' := 83) rfl ?_
              refine J_top (w := .int (nI (wm h))) (by rw [((ofR_X hJ hX).2.2.2 h hh).1]) ?_
              refine J_goto dX8_offers_83 (pc' := 99) (by decide) ?_
              refine J_top (w := .int (nI (wm h))) (rfl) ?_
              refine J_istore dX8_offers_99 (pc' := 101) rfl (by decide) rfl (l' := [some (.ref 516), some (.int (nI t)), some (.int (stS C t)), some (.int (nI i)), some (.int (nI h)), some (.int (nI (wm h))), none, none]) rfl ?_
              refine J_iconst dX8_offers_101 (pc' := 102) rfl (v := 0) ic_0 ?_
              refine J_istore dX8_offers_102 (pc' := 104) rfl (by decide) rfl (l' := [some (.ref 516), some (.int (nI t)), some (.int (stS C t)), some (.int (nI i)), some (.int (nI h)), some (.int (nI (wm h))), some (.int 0), none]) rfl ?_
              have hlp104 : ∀ k, k ≤ (wm h) → ∀ (S5 : dv_S), ofR S C n w t (((ofS C w wl wm (ut C w n) t i) ++ (if 0 < i ∧ (stS C t = 2 ∨ stS C t = 3) then [95] else [])) ++ dv_rd (ofc (decide (stS C t = 3)) (decide (stS C t = 1 ∨ (stS C t = 0 ∧ 0 < i))) (ofb C w wl wm (ut C w n) (nfS C t) (nlS C t) i).1) k) S5 → dv_J yX8_offers cX8_offers 8 (some .boolean) (dv_rm (d + 4)) 0 0 104 [some (.ref 516), some (.int (nI t)), some (.int (stS C t)), some (.int (nI i)), some (.int (nI h)), some (.int (nI (wm h))), some (.int (nI k)), none] [] S5 (fun r S' => r = some (.int (dv_b (ogS C w wl wm n t))) ∧ ofR S C n w t (olS C w wl wm n t) S') := by
                refine dv_up (P := fun k => ∀ (S5 : dv_S), ofR S C n w t (((ofS C w wl wm (ut C w n) t i) ++ (if 0 < i ∧ (stS C t = 2 ∨ stS C t = 3) then [95] else [])) ++ dv_rd (ofc (decide (stS C t = 3)) (decide (stS C t = 1 ∨ (stS C t = 0 ∧ 0 < i))) (ofb C w wl wm (ut C w n) (nfS C t) (nlS C t) i).1) k) S5 → dv_J yX8_offers cX8_offers 8 (some .boolean) (dv_rm (d + 4)) 0 0 104 [some (.ref 516), some (.int (nI t)), some (.int (stS C t)), some (.int (nI i)), some (.int (nI h)), some (.int (nI (wm h))), some (.int (nI k)), none] [] S5 (fun r S' => r = some (.int (dv_b (ogS C w wl wm n t))) ∧ ofR S C n w t (olS C w wl wm n t) S')) ?_
                intro k hi104 ih104 S5 hK
                have hX5 := ofR_X hK hX
                refine J_iload dX8_offers_104 (pc' := 106) rfl rfl ?_
                refine J_iload dX8_offers_106 (pc' := 108) rfl rfl ?_
                refine J_icmp_ge dX8_offers_108 (pt := 196) (by decide) (pc' := 111) rfl (fun c108 => ?_) (fun c108 => ?_)
                · have hk := dv_ge hi104 (by omega) c108
                  refine J_iinc dX8_offers_196 (pc' := 199) rfl rfl (v := nI (i + 1)) (nI_1 i) (by decide) rfl (l' := [some (.ref 516), some (.int (nI t)), some (.int (stS C t)), some (.int (nI (i + 1))), some (.int (nI h)), some (.int (nI (wm h))), some (.int (nI k)), none]) rfl ?_
                  refine J_goto dX8_offers_199 (pc' := 22) (by decide) ?_
                  refine J_drop 4 (l' := [some (.ref 516), some (.int (nI t)), some (.int (stS C t)), some (.int (nI (i + 1))), none, some (.int (nI (wm h))), some (.int (nI k)), none]) rfl ?_
                  refine J_drop 5 (l' := [some (.ref 516), some (.int (nI t)), some (.int (stS C t)), some (.int (nI (i + 1))), none, none, some (.int (nI k)), none]) rfl ?_
                  refine J_drop 6 (l' := [some (.ref 516), some (.int (nI t)), some (.int (stS C t)), some (.int (nI (i + 1))), none, none, none, none]) rfl ?_
                  refine ih22 (i + 1) (by omega) (by omega) _ ?_
                  have hfin : (ofS C w wl wm (ut C w n) t (i + 1)) = ((ofS C w wl wm (ut C w n) t i) ++ (if 0 < i ∧ (stS C t = 2 ∨ stS C t = 3) then [95] else [])) ++ dv_rd (ofc (decide (stS C t = 3)) (decide (stS C t = 1 ∨ (stS C t = 0 ∧ 0 < i))) (ofb C w wl wm (ut C w n) (nfS C t) (nlS C t) i).1) (ofb C w wl wm (ut C w n) (nfS C t) (nlS C t) i).2 := by unfold ofS; rw [ofl]
                  rw [hfin, hob]
                  rw [hk, hob] at hK
                  exact hK
                · have hk := dv_nge hi104 (by omega) c108
                  have hlt : (((ofS C w wl wm (ut C w n) t i) ++ (if 0 < i ∧ (stS C t = 2 ∨ stS C t = 3) then [95] else [])) ++ dv_rd (ofc (decide (stS C t = 3)) (decide (stS C t = 1 ∨ (stS C t = 0 ∧ 0 < i))) (ofb C w wl wm (ut C w n) (nfS C t) (nlS C t) i).1) k).length < 312 := by
                    rw [List.length_append, List.length_append, dv_rd_len]
                    have h3 : (if 0 < i ∧ (stS C t = 2 ∨ stS C t = 3) then [(95 : Int32)] else []).length ≤ 1 := by split <;> simp
                    rw [hob] at hbl
                    simp only at hbl
                    omega
                  refine J_iload dX8_offers_111 (pc' := 113) rfl rfl ?_
                  refine J_if_lt dX8_offers_113 (pt := 132) (by decide) (pc' := 116) rfl (fun c113 => ?_) (fun c113 => ?_)
                  · exact absurd c113 (nI_pos (by omega))
                  · refine J_aload_n dX8_offers_116 (pc' := 117) rfl rfl ?_
                    refine J_getr fX8_71 kd_516 rf_516_18 dX8_offers_117 (pc' := 120) rfl ?_
                    refine J_bipush dX8_offers_120 (pc' := 122) rfl (v := 12) bp_12 ?_
                    refine J_iload dX8_offers_122 (pc' := 124) rfl rfl ?_
                    refine J_imul dX8_offers_124 (pc' := 125) rfl ?_
                    refine J_top (w := .int (nI (12 * h))) (by rw [dv_n12, pk_mul]) ?_
                    refine J_iload dX8_offers_125 (pc' := 127) rfl rfl ?_
                    refine J_iadd dX8_offers_127 (pc' := 128) rfl ?_
                    refine J_bald (j := 12 * h + k) kd_527 (nI_add _ _) (by rw [ln_527]; have := (hX.2.2.2 h hh).2.2.1; omega) dX8_offers_128 (pc' := 129) rfl ?_
                    refine J_top (w := .int (wl h k)) (by rw [((hX5.2.2.2 h hh).2.2.2.1 k hk).1]) ?_
                    refine J_goto dX8_offers_129 (pc' := 154) (by decide) ?_
                    refine J_istore dX8_offers_154 (pc' := 156) rfl (by decide) rfl (l' := [some (.ref 516), some (.int (nI t)), some (.int (stS C t)), some (.int (nI i)), some (.int (nI h)), some (.int (nI (wm h))), some (.int (nI k)), some (.int (wl h k))]) rfl ?_
                    refine J_aload_n dX8_offers_156 (pc' := 157) rfl rfl ?_
                    refine J_iload dX8_offers_157 (pc' := 159) rfl rfl ?_
                    have hj187 : ∀ jv : Int32, (dv_b ((decide (stS C t = 3)) || ((decide (stS C t = 1 ∨ (stS C t = 0 ∧ 0 < i))) && decide (k = 0)))) = jv → dv_J yX8_offers cX8_offers 8 (some .boolean) (dv_rm (d + 4)) 0 0 187 [some (.ref 516), some (.int (nI t)), some (.int (stS C t)), some (.int (nI i)), some (.int (nI h)), some (.int (nI (wm h))), some (.int (nI k)), some (.int (wl h k))] [.int jv, .int (wl h k), .ref 516] S5 (fun r S' => r = some (.int (dv_b (ogS C w wl wm n t))) ∧ ofR S C n w t (olS C w wl wm n t) S') := by
                      intro jv hjv
                      subst hjv
                      refine J_v0 (As := [.int (wl h k), .int (dv_b ((decide (stS C t = 3)) || ((decide (stS C t = 1 ∨ (stS C t = 0 ∧ 0 < i))) && decide (k = 0))))]) (rest := []) (qX8_makes _ S5 _ _ (((ofS C w wl wm (ut C w n) t i) ++ (if 0 < i ∧ (stS C t = 2 ∨ stS C t = 3) then [95] else [])) ++ dv_rd (ofc (decide (stS C t = 3)) (decide (stS C t = 1 ∨ (stS C t = 0 ∧ 0 < i))) (ofb C w wl wm (ut C w n) (nfS C t) (nlS C t) i).1) k).length hK.2.2.2.1 hlt) vX8_makes mX8_213 kd_516 dX8_offers_187 (pc' := 190) rfl rfl (Nat.le_of_ble_eq_true rfl) (by decide) ?_
                      refine J_iinc dX8_offers_190 (pc' := 193) rfl rfl (v := nI (k + 1)) (nI_1 k) (by decide) rfl (l' := [some (.ref 516), some (.int (nI t)), some (.int (stS C t)), some (.int (nI i)), some (.int (nI h)), some (.int (nI (wm h))), some (.int (nI (k + 1))), some (.int (wl h k))]) rfl ?_
                      refine J_goto dX8_offers_193 (pc' := 104) (by decide) ?_
                      refine J_drop 7 (l' := [some (.ref 516), some (.int (nI t)), some (.int (stS C t)), some (.int (nI i)), some (.int (nI h)), some (.int (nI (wm h))), some (.int (nI (k + 1))), none]) rfl ?_
                      refine ih104 (k + 1) (by omega) (by omega) _ ?_
                      rw [dv_rd_s, ← List.append_assoc]
                      refine ofR_add hK hlt ?_
                      have hch := ofb_ch (u := (ut C w n)) hX ht hi k (by rw [hob]; exact hk)
                      rw [hob] at hch ⊢
                      exact mk_id hch _
                    refine J_iload_n dX8_offers_159 (pc' := 160) rfl rfl ?_
                    refine J_iconst dX8_offers_160 (pc' := 161) rfl (v := 3) ic_3 ?_
                    refine J_icmp_eq dX8_offers_161 (pt := 182) (by decide) (pc' := 164) rfl (fun c161 => ?_) (fun c161 => ?_)
                    · refine J_iconst dX8_offers_182 (pc' := 183) rfl (v := 1) ic_1 ?_
                      refine J_goto dX8_offers_183 (pc' := 187) (by decide) ?_
                      exact hj187 _ (by first | (simp [dv_b, c161]; done) | (simp [dv_b, c161, c166]; done) | (simp [dv_b, c161, c166, c171]; done) | (simp [dv_b, c161, c166, c171, c175]; done) | (simp [dv_b, c161, c166, c171, c175, c179]; done) | (simp [dv_b, c161, c166, c171, c175]; omega))
                    · refine J_iload dX8_offers_164 (pc' := 166) rfl rfl ?_
                      refine J_if_ne dX8_offers_166 (pt := 186) (by decide) (pc' := 169) rfl (fun c166 => ?_) (fun c166 => ?_)
                      · rw [show (0 : Int32) = nI 0 by decide, nI_eq (by omega) (by omega)] at c166
                        refine J_iconst dX8_offers_186 (pc' := 187) rfl (v := 0) ic_0 ?_
                        exact hj187 _ (by first | (simp [dv_b, c161]; done) | (simp [dv_b, c161, c166]; done) | (simp [dv_b, c161, c166, c171]; done) | (simp [dv_b, c161, c166, c171, c175]; done) | (simp [dv_b, c161, c166, c171, c175, c179]; done) | (simp [dv_b, c161, c166, c171, c175]; omega))
                      · rw [show (0 : Int32) = nI 0 by decide, nI_eq (by omega) (by omega)] at c166
                        refine J_iload_n dX8_offers_169 (pc' := 170) rfl rfl ?_
                        refine J_iconst dX8_offers_170 (pc' := 171) rfl (v := 1) ic_1 ?_
                        refine J_icmp_eq dX8_offers_171 (pt := 182) (by decide) (pc' := 174) rfl (fun c171 => ?_) (fun c171 => ?_)
                        · refine J_iconst dX8_offers_182 (pc' := 183) rfl (v := 1) ic_1 ?_
                          refine J_goto dX8_offers_183 (pc' := 187) (by decide) ?_
                          exact hj187 _ (by first | (simp [dv_b, c161]; done) | (simp [dv_b, c161, c166]; done) | (simp [dv_b, c161, c166, c171]; done) | (simp [dv_b, c161, c166, c171, c175]; done) | (simp [dv_b, c161, c166, c171, c175, c179]; done) | (simp [dv_b, c161, c166, c171, c175]; omega))
                        · refine J_iload_n dX8_offers_174 (pc' := 175) rfl rfl ?_
                          refine J_if_ne dX8_offers_175 (pt := 186) (by decide) (pc' := 178) rfl (fun c175 => ?_) (fun c175 => ?_)
                          · refine J_iconst dX8_offers_186 (pc' := 187) rfl (v := 0) ic_0 ?_
                            exact hj187 _ (by first | (simp [dv_b, c161]; done) | (simp [dv_b, c161, c166]; done) | (simp [dv_b, c161, c166, c171]; done) | (simp [dv_b, c161, c166, c171, c175]; done) | (simp [dv_b, c161, c166, c171, c175, c179]; done) | (simp [dv_b, c161, c166, c171, c175]; omega))
                          · refine J_iload_n dX8_offers_178 (pc' := 179) rfl rfl ?_
                            refine J_if_le dX8_offers_179 (pt := 186) (by decide) (pc' := 182) rfl (fun c179 => ?_) (fun c179 => ?_)
                            · rw [show (0 : Int32) = nI 0 by decide, nI_leI (by omega) (by omega)] at c179
                              refine J_iconst dX8_offers_186 (pc' := 187) rfl (v := 0) ic_0 ?_
                              exact hj187 _ (by first | (simp [dv_b, c161]; done) | (simp [dv_b, c161, c166]; done) | (simp [dv_b, c161, c166, c171]; done) | (simp [dv_b, c161, c166, c171, c175]; done) | (simp [dv_b, c161, c166, c171, c175, c179]; done) | (simp [dv_b, c161, c166, c171, c175]; omega))
                            · rw [show (0 : Int32) = nI 0 by decide, nI_leI (by omega) (by omega)] at c179
                              refine J_iconst dX8_offers_182 (pc' := 183) rfl (v := 1) ic_1 ?_
                              refine J_goto dX8_offers_183 (pc' := 187) (by decide) ?_
                              exact hj187 _ (by first | (simp [dv_b, c161]; done) | (simp [dv_b, c161, c166]; done) | (simp [dv_b, c161, c166, c171]; done) | (simp [dv_b, c161, c166, c171, c175]; done) | (simp [dv_b, c161, c166, c171, c175, c179]; done) | (simp [dv_b, c161, c166, c171, c175]; omega))
              refine J_loc (l' := [some (.ref 516), some (.int (nI t)), some (.int (stS C t)), some (.int (nI i)), some (.int (nI h)), some (.int (nI (wm h))), some (.int (nI 0)), none]) (by simp only [nI_0, dv_b_f, dv_b_t]) ?_
              refine J_sto (S' := S4) (rfl) ?_
              exact hlp104 0 (Nat.zero_le _) _ (by rw [dv_rd_0, List.append_nil]; exact hJ)
        refine J_iload_n dX8_offers_55 (pc' := 56) rfl rfl ?_
        refine J_iconst dX8_offers_56 (pc' := 57) rfl (v := 1) ic_1 ?_
        refine J_icmp_le dX8_offers_57 (pt := 71) (by decide) (pc' := 60) rfl (fun c57 => ?_) (fun c57 => ?_)
        · refine hg71 _ ?_
          rw [if_neg (by first | (rintro ⟨q, -⟩; omega) | (rintro ⟨-, q | q⟩ <;> (rw [q] at c57; exact absurd c57 (by decide)))), List.append_nil]
          exact hI
        · refine J_iload_n dX8_offers_60 (pc' := 61) rfl rfl ?_
          refine J_if_le dX8_offers_61 (pt := 71) (by decide) (pc' := 64) rfl (fun c61 => ?_) (fun c61 => ?_)
          · rw [show (0 : Int32) = nI 0 by decide, nI_leI (by omega) (by omega)] at c61
            refine hg71 _ ?_
            rw [if_neg (by first | (rintro ⟨q, -⟩; omega) | (rintro ⟨-, q | q⟩ <;> (rw [q] at c57; exact absurd c57 (by decide)))), List.append_nil]
            exact hI
          · rw [show (0 : Int32) = nI 0 by decide, nI_leI (by omega) (by omega)] at c61
            refine J_aload_n dX8_offers_64 (pc' := 65) rfl rfl ?_
            refine J_bipush dX8_offers_65 (pc' := 67) rfl (v := 95) bp_95 ?_
            refine J_iconst dX8_offers_67 (pc' := 68) rfl (v := 0) ic_0 ?_
            refine J_v0 (As := [.int 95, .int 0]) (rest := []) (qX8_makes _ S3 95 false (ofS C w wl wm (ut C w n) t i).length hI.2.2.2.1 (by omega)) vX8_makes mX8_213 kd_516 dX8_offers_68 (pc' := 71) rfl rfl (Nat.le_of_ble_eq_true rfl) (by decide) ?_
            refine hg71 _ ?_
            rw [if_pos ⟨by omega, by rcases st_rng (tx C (25 + 2 * t)) with e | e | e | e <;> first | exact Or.inl e | exact Or.inr e | exact absurd (show stS C t ≤ 1 by rw [show stS C t = _ from e]; decide) c57⟩]
            exact ofR_add hI (by omega) (by decide)
      refine J_aload_n dX8_offers_30 (pc' := 31) rfl rfl ?_
      refine J_aload_n dX8_offers_31 (pc' := 32) rfl rfl ?_
      refine J_iload_n dX8_offers_32 (pc' := 33) rfl rfl ?_
      refine J_iload_n dX8_offers_33 (pc' := 34) rfl rfl ?_
      refine J_v1 (As := [.int (nI t), .int (nI i)]) (rest := [.ref 516]) (qX8_wordOf _ S3 C n w wl wm t i hX3 ht hI.2.1 hi) vX8_wordOf mX8_185 kd_516 dX8_offers_34 (pc' := 37) rfl rfl (Nat.le_of_ble_eq_true rfl) (by decide) ?_
      refine J_v1 (As := [.int (dv_oi (pk_w C w (nfS C t) (nlS C t) i))]) (rest := []) (qX8_opened _ S3 C n w wl wm _ hX3 (dv_oi_rng pk_w_lt)) vX8_opened mX8_189 kd_516 dX8_offers_37 (pc' := 40) rfl rfl (Nat.le_of_ble_eq_true rfl) (by decide) ?_
      refine J_top (w := .int ((opS C w (pk_w C w (nfS C t) (nlS C t) i)))) (rfl) ?_
      refine J_istore dX8_offers_40 (pc' := 42) rfl (by decide) rfl (l' := [some (.ref 516), some (.int (nI t)), some (.int (stS C t)), some (.int (nI i)), some (.int ((opS C w (pk_w C w (nfS C t) (nlS C t) i)))), none, none, none]) rfl ?_
      refine J_iload dX8_offers_42 (pc' := 44) rfl rfl ?_
      refine J_if_lt dX8_offers_44 (pt := 55) (by decide) (pc' := 47) rfl (fun c44 => ?_) (fun c44 => ?_)
      · refine hg55 _ (Or.inl ⟨?_, ?_⟩)
        · rcases RX_op hX _ pk_w_lt with e | ⟨j, hj, e⟩
          · exact e
          · exact absurd c44 (by rw [e]; exact nI_pos (by omega))
        · unfold hdo; rw [if_neg (fun q => absurd c44 (Int32.not_lt.mpr q.1))]
      · have hop : ∃ j, j < w ∧ (opS C w (pk_w C w (nfS C t) (nlS C t) i)) = nI j := by
          rcases RX_op hX _ pk_w_lt with e | h
          · exact absurd (by rw [e]; decide) c44
          · exact h
        obtain ⟨j, hj, hj2⟩ := hop
        obtain ⟨h, hh⟩ := dv_hd_is (g := C.2.1 17) (u := (ut C w n)) hj rfl
        refine J_aload_n dX8_offers_47 (pc' := 48) rfl rfl ?_
        refine J_iload dX8_offers_48 (pc' := 50) rfl rfl ?_
        refine J_top (w := .int (nI j)) (congrArg Value.int hj2) ?_
        refine J_v1 (As := [.int (nI j)]) (rest := []) (qX8_headOf _ S3 C n w wl wm (ut C w n) j hX3 hI.2.2.1 hj) vX8_headOf mX8_195 kd_516 dX8_offers_50 (pc' := 53) rfl rfl (Nat.le_of_ble_eq_true rfl) (by decide) ?_
        refine J_istore dX8_offers_53 (pc' := 55) rfl (by decide) rfl (l' := [some (.ref 516), some (.int (nI t)), some (.int (stS C t)), some (.int (nI i)), some (.int (dv_om (dv_hd (C.2.1 17) (ut C w n) (C.2.1 17 j) w))), none, none, none]) rfl ?_
        refine hg55 _ (Or.inr ⟨h, dv_hd_lt _ _ _ _ _ hh, by rw [hh]; rfl, ?_⟩)
        unfold hdo; rw [hj2, if_pos ⟨nI_pos' (by omega), nI_lt hj (by omega)⟩, dn_nI (by omega), hh]
  refine J_loc (l' := [some (.ref 516), some (.int (nI t)), some (.int (stS C t)), some (.int (nI 0)), none, none, none, none]) (by simp only [nI_0, dv_b_f, dv_b_t]) ?_
  refine J_sto (S' := (dv_u S2.1 516 27 0, S2.2)) (rfl) ?_
  exact hlp22 0 (Nat.zero_le _) _ (ofR0 hC hcu)
