set_option maxRecDepth 100000 in
set_option maxHeartbeats 400000 in
theorem qX8_cuts (d : Nat) (S : dv_S) (C : dv_S) (n w : Nat) (wl : Nat → Nat → Int32) (wm : Nat → Nat) (t : Nat) (hX : RX S C n w wl wm) (ht : t < n)  : dv_M yX8_cuts cX8_cuts 7 none (dv_rm (d + 1)) [.ref 516, .int (nI t)] S (fun r S' => r = none ∧ rcI S C t (nlS C t) S') := by
  have h80 := hX.1.2
  have h60 := hX.2.1.2
  have hm24 := (hX.2.2.1 t ht).2.1
  refine dv_M_of [some (.ref 516), some (.int (nI t)), none, none, none, none, none] (by decide) (fun _ _ => Nat.le_of_ble_eq_true rfl) (fun _ _ => rfl) ?_
  refine J_aload_n dX8_cuts_0 (pc' := 1) rfl rfl ?_
  refine J_iconst dX8_cuts_1 (pc' := 2) rfl (v := 0) ic_0 ?_
  refine J_puti fX8_162 kd_516 rf_516_16 dX8_cuts_2 (pc' := 5) rfl ?_
  refine J_iconst dX8_cuts_5 (pc' := 6) rfl (v := 0) ic_0 ?_
  refine J_istore_n dX8_cuts_6 (pc' := 7) rfl rfl (by decide) rfl (l' := [some (.ref 516), some (.int (nI t)), some (.int 0), none, none, none, none]) rfl ?_
  have hlp7 : ∀ i, i ≤ (nlS C t) → ∀ (S1 : dv_S), rcI S C t i S1 → dv_J yX8_cuts cX8_cuts 7 none (dv_rm (d + 1)) 0 0 7 [some (.ref 516), some (.int (nI t)), some (.int (nI i)), none, none, none, none] [] S1 (fun r S' => r = none ∧ rcI S C t (nlS C t) S') := by
    refine dv_up (P := fun i => ∀ (S1 : dv_S), rcI S C t i S1 → dv_J yX8_cuts cX8_cuts 7 none (dv_rm (d + 1)) 0 0 7 [some (.ref 516), some (.int (nI t)), some (.int (nI i)), none, none, none, none] [] S1 (fun r S' => r = none ∧ rcI S C t (nlS C t) S')) ?_
    intro i hi7 ih7 S1 hI
    have hX1 := RX_fr hI.1 hX (by decide) (by decide)
    have hcl := cu_le (nfS C t) (nlS C t) i
    refine J_iload_n dX8_cuts_7 (pc' := 8) rfl rfl ?_
    refine J_aload_n dX8_cuts_8 (pc' := 9) rfl rfl ?_
    refine J_getr fX8_53 kd_516 rf_516_10 dX8_cuts_9 (pc' := 12) rfl ?_
    refine J_iload_n dX8_cuts_12 (pc' := 13) rfl rfl ?_
    refine J_iald (j := t) kd_521 (rfl) (by rw [ln_521]; omega) dX8_cuts_13 (pc' := 14) rfl ?_
    refine J_top (w := .int (nI (nlS C t))) (by rw [(hX1.2.2.1 t ht).1]) ?_
    refine J_icmp_ge dX8_cuts_14 (pt := 203) (by decide) (pc' := 17) rfl (fun c14 => ?_) (fun c14 => ?_)
    · have hx := dv_ge hi7 (by omega) c14
      refine J_vret dX8_cuts_203 rfl (dv_r1 _) ?_
      exact ⟨rfl, by rw [hx] at hI; exact hI⟩
    · have hx := dv_nge hi7 (by omega) c14
      refine J_aload_n dX8_cuts_17 (pc' := 18) rfl rfl ?_
      refine J_getr fX8_62 kd_516 rf_516_13 dX8_cuts_18 (pc' := 21) rfl ?_
      refine J_bipush dX8_cuts_21 (pc' := 23) rfl (v := 24) bp_24 ?_
      refine J_iload_n dX8_cuts_23 (pc' := 24) rfl rfl ?_
      refine J_imul dX8_cuts_24 (pc' := 25) rfl ?_
      refine J_top (w := .int (nI (24 * t))) (by rw [dv_n24, pk_mul]) ?_
      refine J_iload_n dX8_cuts_25 (pc' := 26) rfl rfl ?_
      refine J_iadd dX8_cuts_26 (pc' := 27) rfl ?_
      refine J_bald (j := 24 * t + i) kd_524 (nI_add _ _) (by rw [ln_524]; omega) dX8_cuts_27 (pc' := 28) rfl ?_
      refine J_top (w := .int ((nfS C t) i)) (by rw [((hX1.2.2.1 t ht).2.2.1 i hx).1]) ?_
      refine J_istore_n dX8_cuts_28 (pc' := 29) rfl rfl (by decide) rfl (l' := [some (.ref 516), some (.int (nI t)), some (.int (nI i)), some (.int ((nfS C t) i)), none, none, none]) rfl ?_
      refine J_iload_n dX8_cuts_29 (pc' := 30) rfl rfl ?_
      refine J_bipush dX8_cuts_30 (pc' := 32) rfl (v := 95) bp_95 ?_
      refine J_icmp_ne dX8_cuts_32 (pt := 38) (by decide) (pc' := 35) rfl (fun c32 => ?_) (fun c32 => ?_)
      · have hj60 : ∀ jv : Int32, (raa (nfS C t) i) = jv → dv_J yX8_cuts cX8_cuts 7 none (dv_rm (d + 1)) 0 0 60 [some (.ref 516), some (.int (nI t)), some (.int (nI i)), some (.int ((nfS C t) i)), none, none, none] [.int jv] S1 (fun r S' => r = none ∧ rcI S C t (nlS C t) S') := by
          intro jv hjv
          subst hjv
          refine J_istore dX8_cuts_60 (pc' := 62) rfl (by decide) rfl (l' := [some (.ref 516), some (.int (nI t)), some (.int (nI i)), some (.int ((nfS C t) i)), some (.int (raa (nfS C t) i)), none, none]) rfl ?_
          have hj92 : ∀ jv : Int32, (rcc (nfS C t) (nlS C t) i) = jv → dv_J yX8_cuts cX8_cuts 7 none (dv_rm (d + 1)) 0 0 92 [some (.ref 516), some (.int (nI t)), some (.int (nI i)), some (.int ((nfS C t) i)), some (.int (raa (nfS C t) i)), none, none] [.int jv] S1 (fun r S' => r = none ∧ rcI S C t (nlS C t) S') := by
            intro jv hjv
            subst hjv
            refine J_istore dX8_cuts_92 (pc' := 94) rfl (by decide) rfl (l' := [some (.ref 516), some (.int (nI t)), some (.int (nI i)), some (.int ((nfS C t) i)), some (.int (raa (nfS C t) i)), some (.int (rcc (nfS C t) (nlS C t) i)), none]) rfl ?_
            have hj156 : ∀ jv : Int32, (dv_b (rbg (raa (nfS C t) i) ((nfS C t) i) (rcc (nfS C t) (nlS C t) i))) = jv → dv_J yX8_cuts cX8_cuts 7 none (dv_rm (d + 1)) 0 0 156 [some (.ref 516), some (.int (nI t)), some (.int (nI i)), some (.int ((nfS C t) i)), some (.int (raa (nfS C t) i)), some (.int (rcc (nfS C t) (nlS C t) i)), none] [.int jv] S1 (fun r S' => r = none ∧ rcI S C t (nlS C t) S') := by
              intro jv hjv
              subst hjv
              refine J_istore dX8_cuts_156 (pc' := 158) rfl (by decide) rfl (l' := [some (.ref 516), some (.int (nI t)), some (.int (nI i)), some (.int ((nfS C t) i)), some (.int (raa (nfS C t) i)), some (.int (rcc (nfS C t) (nlS C t) i)), some (.int (dv_b (rbg (raa (nfS C t) i) ((nfS C t) i) (rcc (nfS C t) (nlS C t) i))))]) rfl ?_
              refine J_iload dX8_cuts_158 (pc' := 160) rfl rfl ?_
              refine J_beq dX8_cuts_160 (pt := 183) (by decide) (pc' := 163) rfl (fun c160 => ?_) (fun c160 => ?_)
              · rw [rbg_b hm24 hx] at c160
                refine J_aload_n dX8_cuts_183 (pc' := 184) rfl rfl ?_
                refine J_getr fX8_68 kd_516 rf_516_15 dX8_cuts_184 (pc' := 187) rfl ?_
                refine J_aload_n dX8_cuts_187 (pc' := 188) rfl rfl ?_
                refine J_geti fX8_162 kd_516 rf_516_16 dX8_cuts_188 (pc' := 191) rfl ?_
                refine J_top (w := .int (nI ((cu (nfS C t) (nlS C t) i).1))) (by rw [hI.2.1]) ?_
                refine J_iconst dX8_cuts_191 (pc' := 192) rfl (v := 1) ic_1 ?_
                refine J_isub dX8_cuts_192 (pc' := 193) rfl ?_
                refine J_top (w := .int (nI ((cu (nfS C t) (nlS C t) i).1 - 1))) (by rw [dv_p1 (cu_pos c160)]) ?_
                refine J_iload_n dX8_cuts_193 (pc' := 194) rfl rfl ?_
                refine J_iconst dX8_cuts_194 (pc' := 195) rfl (v := 1) ic_1 ?_
                refine J_iadd dX8_cuts_195 (pc' := 196) rfl ?_
                refine J_top (w := .int (nI (i + 1))) (by rw [nI_1]) ?_
                refine J_iast (j := ((cu (nfS C t) (nlS C t) i).1 - 1)) kd_526 (rfl) (by rw [ln_526]; omega) dX8_cuts_196 (pc' := 197) rfl ?_
                refine J_iinc dX8_cuts_197 (pc' := 200) rfl rfl (v := nI (i + 1)) (nI_1 i) (by decide) rfl (l' := [some (.ref 516), some (.int (nI t)), some (.int (nI (i + 1))), some (.int ((nfS C t) i)), some (.int (raa (nfS C t) i)), some (.int (rcc (nfS C t) (nlS C t) i)), some (.int (dv_b (rbg (raa (nfS C t) i) ((nfS C t) i) (rcc (nfS C t) (nlS C t) i))))]) rfl ?_
                refine J_goto dX8_cuts_200 (pc' := 7) (by decide) ?_
                refine J_drop 3 (l' := [some (.ref 516), some (.int (nI t)), some (.int (nI (i + 1))), none, some (.int (raa (nfS C t) i)), some (.int (rcc (nfS C t) (nlS C t) i)), some (.int (dv_b (rbg (raa (nfS C t) i) ((nfS C t) i) (rcc (nfS C t) (nlS C t) i))))]) rfl ?_
                refine J_drop 4 (l' := [some (.ref 516), some (.int (nI t)), some (.int (nI (i + 1))), none, none, some (.int (rcc (nfS C t) (nlS C t) i)), some (.int (dv_b (rbg (raa (nfS C t) i) ((nfS C t) i) (rcc (nfS C t) (nlS C t) i))))]) rfl ?_
                refine J_drop 5 (l' := [some (.ref 516), some (.int (nI t)), some (.int (nI (i + 1))), none, none, none, some (.int (dv_b (rbg (raa (nfS C t) i) ((nfS C t) i) (rcc (nfS C t) (nlS C t) i))))]) rfl ?_
                refine J_drop 6 (l' := [some (.ref 516), some (.int (nI t)), some (.int (nI (i + 1))), none, none, none, none]) rfl ?_
                exact ih7 (i + 1) (by omega) (by omega) _ (rcI3 hI c32 c160)
              · rw [rbg_b hm24 hx] at c160
                refine J_aload_n dX8_cuts_163 (pc' := 164) rfl rfl ?_
                refine J_getr fX8_65 kd_516 rf_516_14 dX8_cuts_164 (pc' := 167) rfl ?_
                refine J_aload_n dX8_cuts_167 (pc' := 168) rfl rfl ?_
                refine J_geti fX8_162 kd_516 rf_516_16 dX8_cuts_168 (pc' := 171) rfl ?_
                refine J_top (w := .int (nI ((cu (nfS C t) (nlS C t) i).1))) (by rw [hI.2.1]) ?_
                refine J_iload_n dX8_cuts_171 (pc' := 172) rfl rfl ?_
                refine J_iast (j := (cu (nfS C t) (nlS C t) i).1) kd_525 (rfl) (by rw [ln_525]; omega) dX8_cuts_172 (pc' := 173) rfl ?_
                refine J_aload_n dX8_cuts_173 (pc' := 174) rfl rfl ?_
                refine J_dup dX8_cuts_174 (pc' := 175) rfl rfl ?_
                refine J_geti fX8_162 kd_516 rf_516_16 dX8_cuts_175 (pc' := 178) rfl ?_
                refine J_top (w := .int (nI ((cu (nfS C t) (nlS C t) i).1))) (by show Value.int (S1.1 516 16) = _; rw [hI.2.1]) ?_
                refine J_iconst dX8_cuts_178 (pc' := 179) rfl (v := 1) ic_1 ?_
                refine J_iadd dX8_cuts_179 (pc' := 180) rfl ?_
                refine J_top (w := .int (nI ((cu (nfS C t) (nlS C t) i).1 + 1))) (by rw [nI_1]) ?_
                refine J_puti fX8_162 kd_516 rf_516_16 dX8_cuts_180 (pc' := 183) rfl ?_
                refine J_aload_n dX8_cuts_183 (pc' := 184) rfl rfl ?_
                refine J_getr fX8_68 kd_516 rf_516_15 dX8_cuts_184 (pc' := 187) rfl ?_
                refine J_aload_n dX8_cuts_187 (pc' := 188) rfl rfl ?_
                refine J_geti fX8_162 kd_516 rf_516_16 dX8_cuts_188 (pc' := 191) rfl ?_
                refine J_top (w := .int (nI ((cu (nfS C t) (nlS C t) i).1 + 1))) (by show Value.int (dv_u S1.1 516 16 (nI ((cu (nfS C t) (nlS C t) i).1 + 1)) 516 16) = _; rw [dv_u_eq]) ?_
                refine J_iconst dX8_cuts_191 (pc' := 192) rfl (v := 1) ic_1 ?_
                refine J_isub dX8_cuts_192 (pc' := 193) rfl ?_
                refine J_top (w := .int (nI ((cu (nfS C t) (nlS C t) i).1))) (by rw [nI_pred]) ?_
                refine J_iload_n dX8_cuts_193 (pc' := 194) rfl rfl ?_
                refine J_iconst dX8_cuts_194 (pc' := 195) rfl (v := 1) ic_1 ?_
                refine J_iadd dX8_cuts_195 (pc' := 196) rfl ?_
                refine J_top (w := .int (nI (i + 1))) (by rw [nI_1]) ?_
                refine J_iast (j := ((cu (nfS C t) (nlS C t) i).1)) kd_526 (rfl) (by rw [ln_526]; omega) dX8_cuts_196 (pc' := 197) rfl ?_
                refine J_iinc dX8_cuts_197 (pc' := 200) rfl rfl (v := nI (i + 1)) (nI_1 i) (by decide) rfl (l' := [some (.ref 516), some (.int (nI t)), some (.int (nI (i + 1))), some (.int ((nfS C t) i)), some (.int (raa (nfS C t) i)), some (.int (rcc (nfS C t) (nlS C t) i)), some (.int (dv_b (rbg (raa (nfS C t) i) ((nfS C t) i) (rcc (nfS C t) (nlS C t) i))))]) rfl ?_
                refine J_goto dX8_cuts_200 (pc' := 7) (by decide) ?_
                refine J_drop 3 (l' := [some (.ref 516), some (.int (nI t)), some (.int (nI (i + 1))), none, some (.int (raa (nfS C t) i)), some (.int (rcc (nfS C t) (nlS C t) i)), some (.int (dv_b (rbg (raa (nfS C t) i) ((nfS C t) i) (rcc (nfS C t) (nlS C t) i))))]) rfl ?_
                refine J_drop 4 (l' := [some (.ref 516), some (.int (nI t)), some (.int (nI (i + 1))), none, none, some (.int (rcc (nfS C t) (nlS C t) i)), some (.int (dv_b (rbg (raa (nfS C t) i) ((nfS C t) i) (rcc (nfS C t) (nlS C t) i))))]) rfl ?_
                refine J_drop 5 (l' := [some (.ref 516), some (.int (nI t)), some (.int (nI (i + 1))), none, none, none, some (.int (dv_b (rbg (raa (nfS C t) i) ((nfS C t) i) (rcc (nfS C t) (nlS C t) i))))]) rfl ?_
                refine J_drop 6 (l' := [some (.ref 516), some (.int (nI t)), some (.int (nI (i + 1))), none, none, none, none]) rfl ?_
                exact ih7 (i + 1) (by omega) (by omega) _ (rcI2 hI c32 c160)
            refine J_iload dX8_cuts_94 (pc' := 96) rfl rfl ?_
            refine J_bipush dX8_cuts_96 (pc' := 98) rfl (v := 95) bp_95 ?_
            refine J_icmp_eq dX8_cuts_98 (pt := 151) (by decide) (pc' := 101) rfl (fun c98 => ?_) (fun c98 => ?_)
            · refine J_iconst dX8_cuts_151 (pc' := 152) rfl (v := 1) ic_1 ?_
              refine J_goto dX8_cuts_152 (pc' := 156) (by decide) ?_
              exact hj156 _ (by first | (simp [rbg, dv_b, c98]; done) | (simp [rbg, dv_b, c98, c106, c113]; done) | (simp [rbg, dv_b, c98, c106, c121]; done) | (simp [rbg, dv_b, c98, c106, c121, c148]; done) | (simp [rbg, dv_b, c98, c106, c121, c128]; done) | (simp [rbg, dv_b, c98, c106, c121, c128, c148]; done) | (simp [rbg, dv_b, c98, c106, c121, c128, c136]; done) | (simp [rbg, dv_b, c98, c106, c121, c128, c136, c148]; done) | (simp [rbg, dv_b, c98, c106, c113, c121]; done) | (simp [rbg, dv_b, c98, c106, c113, c121, c148]; done) | (simp [rbg, dv_b, c98, c106, c113, c121, c128]; done) | (simp [rbg, dv_b, c98, c106, c113, c121, c128, c148]; done) | (simp [rbg, dv_b, c98, c106, c113, c121, c128, c136]; done) | (simp [rbg, dv_b, c98, c106, c113, c121, c128, c136, c148]; done))
            · refine J_iload dX8_cuts_101 (pc' := 103) rfl rfl ?_
              refine J_s1 (As := [.int (raa (nfS C t) i)]) (rest := []) (qX8_isSmall _ _ _) vX8_isSmall mX8_17 dX8_cuts_103 (pc' := 106) rfl rfl (Nat.le_of_ble_eq_true rfl) (by decide) ?_
              refine J_beq dX8_cuts_106 (pt := 116) (by decide) (pc' := 109) rfl (fun c106 => ?_) (fun c106 => ?_)
              · refine J_iload dX8_cuts_116 (pc' := 118) rfl rfl ?_
                refine J_s1 (As := [.int (raa (nfS C t) i)]) (rest := []) (qX8_isGreat _ _ _) vX8_isGreat mX8_21 dX8_cuts_118 (pc' := 121) rfl rfl (Nat.le_of_ble_eq_true rfl) (by decide) ?_
                refine J_beq dX8_cuts_121 (pt := 139) (by decide) (pc' := 124) rfl (fun c121 => ?_) (fun c121 => ?_)
                · refine J_iload dX8_cuts_139 (pc' := 141) rfl rfl ?_
                  refine J_s1 (As := [.int (raa (nfS C t) i)]) (rest := []) (qX8_isDigit _ _ _) vX8_isDigit mX8_28 dX8_cuts_141 (pc' := 144) rfl rfl (Nat.le_of_ble_eq_true rfl) (by decide) ?_
                  refine J_iload_n dX8_cuts_144 (pc' := 145) rfl rfl ?_
                  refine J_s1 (As := [.int ((nfS C t) i)]) (rest := [.int (dv_b (ch_d (raa (nfS C t) i)))]) (qX8_isDigit _ _ _) vX8_isDigit mX8_28 dX8_cuts_145 (pc' := 148) rfl rfl (Nat.le_of_ble_eq_true rfl) (by decide) ?_
                  refine J_icmp_eq dX8_cuts_148 (pt := 155) (by decide) (pc' := 151) rfl (fun c148 => ?_) (fun c148 => ?_)
                  · rw [dv_b_inj] at c148
                    refine J_iconst dX8_cuts_155 (pc' := 156) rfl (v := 0) ic_0 ?_
                    exact hj156 _ (by first | (simp [rbg, dv_b, c98]; done) | (simp [rbg, dv_b, c98, c106, c113]; done) | (simp [rbg, dv_b, c98, c106, c121]; done) | (simp [rbg, dv_b, c98, c106, c121, c148]; done) | (simp [rbg, dv_b, c98, c106, c121, c128]; done) | (simp [rbg, dv_b, c98, c106, c121, c128, c148]; done) | (simp [rbg, dv_b, c98, c106, c121, c128, c136]; done) | (simp [rbg, dv_b, c98, c106, c121, c128, c136, c148]; done) | (simp [rbg, dv_b, c98, c106, c113, c121]; done) | (simp [rbg, dv_b, c98, c106, c113, c121, c148]; done) | (simp [rbg, dv_b, c98, c106, c113, c121, c128]; done) | (simp [rbg, dv_b, c98, c106, c113, c121, c128, c148]; done) | (simp [rbg, dv_b, c98, c106, c113, c121, c128, c136]; done) | (simp [rbg, dv_b, c98, c106, c113, c121, c128, c136, c148]; done))
                  · rw [dv_b_inj] at c148
                    refine J_iconst dX8_cuts_151 (pc' := 152) rfl (v := 1) ic_1 ?_
                    refine J_goto dX8_cuts_152 (pc' := 156) (by decide) ?_
                    exact hj156 _ (by first | (simp [rbg, dv_b, c98]; done) | (simp [rbg, dv_b, c98, c106, c113]; done) | (simp [rbg, dv_b, c98, c106, c121]; done) | (simp [rbg, dv_b, c98, c106, c121, c148]; done) | (simp [rbg, dv_b, c98, c106, c121, c128]; done) | (simp [rbg, dv_b, c98, c106, c121, c128, c148]; done) | (simp [rbg, dv_b, c98, c106, c121, c128, c136]; done) | (simp [rbg, dv_b, c98, c106, c121, c128, c136, c148]; done) | (simp [rbg, dv_b, c98, c106, c113, c121]; done) | (simp [rbg, dv_b, c98, c106, c113, c121, c148]; done) | (simp [rbg, dv_b, c98, c106, c113, c121, c128]; done) | (simp [rbg, dv_b, c98, c106, c113, c121, c128, c148]; done) | (simp [rbg, dv_b, c98, c106, c113, c121, c128, c136]; done) | (simp [rbg, dv_b, c98, c106, c113, c121, c128, c136, c148]; done))
                · refine J_iload_n dX8_cuts_124 (pc' := 125) rfl rfl ?_
                  refine J_s1 (As := [.int ((nfS C t) i)]) (rest := []) (qX8_isGreat _ _ _) vX8_isGreat mX8_21 dX8_cuts_125 (pc' := 128) rfl rfl (Nat.le_of_ble_eq_true rfl) (by decide) ?_
                  refine J_beq dX8_cuts_128 (pt := 139) (by decide) (pc' := 131) rfl (fun c128 => ?_) (fun c128 => ?_)
                  · refine J_iload dX8_cuts_139 (pc' := 141) rfl rfl ?_
                    refine J_s1 (As := [.int (raa (nfS C t) i)]) (rest := []) (qX8_isDigit _ _ _) vX8_isDigit mX8_28 dX8_cuts_141 (pc' := 144) rfl rfl (Nat.le_of_ble_eq_true rfl) (by decide) ?_
                    refine J_iload_n dX8_cuts_144 (pc' := 145) rfl rfl ?_
                    refine J_s1 (As := [.int ((nfS C t) i)]) (rest := [.int (dv_b (ch_d (raa (nfS C t) i)))]) (qX8_isDigit _ _ _) vX8_isDigit mX8_28 dX8_cuts_145 (pc' := 148) rfl rfl (Nat.le_of_ble_eq_true rfl) (by decide) ?_
                    refine J_icmp_eq dX8_cuts_148 (pt := 155) (by decide) (pc' := 151) rfl (fun c148 => ?_) (fun c148 => ?_)
                    · rw [dv_b_inj] at c148
                      refine J_iconst dX8_cuts_155 (pc' := 156) rfl (v := 0) ic_0 ?_
                      exact hj156 _ (by first | (simp [rbg, dv_b, c98]; done) | (simp [rbg, dv_b, c98, c106, c113]; done) | (simp [rbg, dv_b, c98, c106, c121]; done) | (simp [rbg, dv_b, c98, c106, c121, c148]; done) | (simp [rbg, dv_b, c98, c106, c121, c128]; done) | (simp [rbg, dv_b, c98, c106, c121, c128, c148]; done) | (simp [rbg, dv_b, c98, c106, c121, c128, c136]; done) | (simp [rbg, dv_b, c98, c106, c121, c128, c136, c148]; done) | (simp [rbg, dv_b, c98, c106, c113, c121]; done) | (simp [rbg, dv_b, c98, c106, c113, c121, c148]; done) | (simp [rbg, dv_b, c98, c106, c113, c121, c128]; done) | (simp [rbg, dv_b, c98, c106, c113, c121, c128, c148]; done) | (simp [rbg, dv_b, c98, c106, c113, c121, c128, c136]; done) | (simp [rbg, dv_b, c98, c106, c113, c121, c128, c136, c148]; done))
                    · rw [dv_b_inj] at c148
                      refine J_iconst dX8_cuts_151 (pc' := 152) rfl (v := 1) ic_1 ?_
                      refine J_goto dX8_cuts_152 (pc' := 156) (by decide) ?_
                      exact hj156 _ (by first | (simp [rbg, dv_b, c98]; done) | (simp [rbg, dv_b, c98, c106, c113]; done) | (simp [rbg, dv_b, c98, c106, c121]; done) | (simp [rbg, dv_b, c98, c106, c121, c148]; done) | (simp [rbg, dv_b, c98, c106, c121, c128]; done) | (simp [rbg, dv_b, c98, c106, c121, c128, c148]; done) | (simp [rbg, dv_b, c98, c106, c121, c128, c136]; done) | (simp [rbg, dv_b, c98, c106, c121, c128, c136, c148]; done) | (simp [rbg, dv_b, c98, c106, c113, c121]; done) | (simp [rbg, dv_b, c98, c106, c113, c121, c148]; done) | (simp [rbg, dv_b, c98, c106, c113, c121, c128]; done) | (simp [rbg, dv_b, c98, c106, c113, c121, c128, c148]; done) | (simp [rbg, dv_b, c98, c106, c113, c121, c128, c136]; done) | (simp [rbg, dv_b, c98, c106, c113, c121, c128, c136, c148]; done))
                  · refine J_iload dX8_cuts_131 (pc' := 133) rfl rfl ?_
                    refine J_s1 (As := [.int (rcc (nfS C t) (nlS C t) i)]) (rest := []) (qX8_isSmall _ _ _) vX8_isSmall mX8_17 dX8_cuts_133 (pc' := 136) rfl rfl (Nat.le_of_ble_eq_true rfl) (by decide) ?_
                    refine J_bne dX8_cuts_136 (pt := 151) (by decide) (pc' := 139) rfl (fun c136 => ?_) (fun c136 => ?_)
                    · refine J_iconst dX8_cuts_151 (pc' := 152) rfl (v := 1) ic_1 ?_
                      refine J_goto dX8_cuts_152 (pc' := 156) (by decide) ?_
                      exact hj156 _ (by first | (simp [rbg, dv_b, c98]; done) | (simp [rbg, dv_b, c98, c106, c113]; done) | (simp [rbg, dv_b, c98, c106, c121]; done) | (simp [rbg, dv_b, c98, c106, c121, c148]; done) | (simp [rbg, dv_b, c98, c106, c121, c128]; done) | (simp [rbg, dv_b, c98, c106, c121, c128, c148]; done) | (simp [rbg, dv_b, c98, c106, c121, c128, c136]; done) | (simp [rbg, dv_b, c98, c106, c121, c128, c136, c148]; done) | (simp [rbg, dv_b, c98, c106, c113, c121]; done) | (simp [rbg, dv_b, c98, c106, c113, c121, c148]; done) | (simp [rbg, dv_b, c98, c106, c113, c121, c128]; done) | (simp [rbg, dv_b, c98, c106, c113, c121, c128, c148]; done) | (simp [rbg, dv_b, c98, c106, c113, c121, c128, c136]; done) | (simp [rbg, dv_b, c98, c106, c113, c121, c128, c136, c148]; done))
                    · refine J_iload dX8_cuts_139 (pc' := 141) rfl rfl ?_
                      refine J_s1 (As := [.int (raa (nfS C t) i)]) (rest := []) (qX8_isDigit _ _ _) vX8_isDigit mX8_28 dX8_cuts_141 (pc' := 144) rfl rfl (Nat.le_of_ble_eq_true rfl) (by decide) ?_
                      refine J_iload_n dX8_cuts_144 (pc' := 145) rfl rfl ?_
                      refine J_s1 (As := [.int ((nfS C t) i)]) (rest := [.int (dv_b (ch_d (raa (nfS C t) i)))]) (qX8_isDigit _ _ _) vX8_isDigit mX8_28 dX8_cuts_145 (pc' := 148) rfl rfl (Nat.le_of_ble_eq_true rfl) (by decide) ?_
                      refine J_icmp_eq dX8_cuts_148 (pt := 155) (by decide) (pc' := 151) rfl (fun c148 => ?_) (fun c148 => ?_)
                      · rw [dv_b_inj] at c148
                        refine J_iconst dX8_cuts_155 (pc' := 156) rfl (v := 0) ic_0 ?_
                        exact hj156 _ (by first | (simp [rbg, dv_b, c98]; done) | (simp [rbg, dv_b, c98, c106, c113]; done) | (simp [rbg, dv_b, c98, c106, c121]; done) | (simp [rbg, dv_b, c98, c106, c121, c148]; done) | (simp [rbg, dv_b, c98, c106, c121, c128]; done) | (simp [rbg, dv_b, c98, c106, c121, c128, c148]; done) | (simp [rbg, dv_b, c98, c106, c121, c128, c136]; done) | (simp [rbg, dv_b, c98, c106, c121, c128, c136, c148]; done) | (simp [rbg, dv_b, c98, c106, c113, c121]; done) | (simp [rbg, dv_b, c98, c106, c113, c121, c148]; done) | (simp [rbg, dv_b, c98, c106, c113, c121, c128]; done) | (simp [rbg, dv_b, c98, c106, c113, c121, c128, c148]; done) | (simp [rbg, dv_b, c98, c106, c113, c121, c128, c136]; done) | (simp [rbg, dv_b, c98, c106, c113, c121, c128, c136, c148]; done))
                      · rw [dv_b_inj] at c148
                        refine J_iconst dX8_cuts_151 (pc' := 152) rfl (v := 1) ic_1 ?_
                        refine J_goto dX8_cuts_152 (pc' := 156) (by decide) ?_
                        exact hj156 _ (by first | (simp [rbg, dv_b, c98]; done) | (simp [rbg, dv_b, c98, c106, c113]; done) | (simp [rbg, dv_b, c98, c106, c121]; done) | (simp [rbg, dv_b, c98, c106, c121, c148]; done) | (simp [rbg, dv_b, c98, c106, c121, c128]; done) | (simp [rbg, dv_b, c98, c106, c121, c128, c148]; done) | (simp [rbg, dv_b, c98, c106, c121, c128, c136]; done) | (simp [rbg, dv_b, c98, c106, c121, c128, c136, c148]; done) | (simp [rbg, dv_b, c98, c106, c113, c121]; done) | (simp [rbg, dv_b, c98, c106, c113, c121, c148]; done) | (simp [rbg, dv_b, c98, c106, c113, c121, c128]; done) | (simp [rbg, dv_b, c98, c106, c113, c121, c128, c148]; done) | (simp [rbg, dv_b, c98, c106, c113, c121, c128, c136]; done) | (simp [rbg, dv_b, c98, c106, c113, c121, c128, c136, c148]; done))
              · refine J_iload_n dX8_cuts_109 (pc' := 110) rfl rfl ?_
                refine J_s1 (As := [.int ((nfS C t) i)]) (rest := []) (qX8_isGreat _ _ _) vX8_isGreat mX8_21 dX8_cuts_110 (pc' := 113) rfl rfl (Nat.le_of_ble_eq_true rfl) (by decide) ?_
                refine J_bne dX8_cuts_113 (pt := 151) (by decide) (pc' := 116) rfl (fun c113 => ?_) (fun c113 => ?_)
                · refine J_iconst dX8_cuts_151 (pc' := 152) rfl (v := 1) ic_1 ?_
                  refine J_goto dX8_cuts_152 (pc' := 156) (by decide) ?_
                  exact hj156 _ (by first | (simp [rbg, dv_b, c98]; done) | (simp [rbg, dv_b, c98, c106, c113]; done) | (simp [rbg, dv_b, c98, c106, c121]; done) | (simp [rbg, dv_b, c98, c106, c121, c148]; done) | (simp [rbg, dv_b, c98, c106, c121, c128]; done) | (simp [rbg, dv_b, c98, c106, c121, c128, c148]; done) | (simp [rbg, dv_b, c98, c106, c121, c128, c136]; done) | (simp [rbg, dv_b, c98, c106, c121, c128, c136, c148]; done) | (simp [rbg, dv_b, c98, c106, c113, c121]; done) | (simp [rbg, dv_b, c98, c106, c113, c121, c148]; done) | (simp [rbg, dv_b, c98, c106, c113, c121, c128]; done) | (simp [rbg, dv_b, c98, c106, c113, c121, c128, c148]; done) | (simp [rbg, dv_b, c98, c106, c113, c121, c128, c136]; done) | (simp [rbg, dv_b, c98, c106, c113, c121, c128, c136, c148]; done))
                · refine J_iload dX8_cuts_116 (pc' := 118) rfl rfl ?_
                  refine J_s1 (As := [.int (raa (nfS C t) i)]) (rest := []) (qX8_isGreat _ _ _) vX8_isGreat mX8_21 dX8_cuts_118 (pc' := 121) rfl rfl (Nat.le_of_ble_eq_true rfl) (by decide) ?_
                  refine J_beq dX8_cuts_121 (pt := 139) (by decide) (pc' := 124) rfl (fun c121 => ?_) (fun c121 => ?_)
                  · refine J_iload dX8_cuts_139 (pc' := 141) rfl rfl ?_
                    refine J_s1 (As := [.int (raa (nfS C t) i)]) (rest := []) (qX8_isDigit _ _ _) vX8_isDigit mX8_28 dX8_cuts_141 (pc' := 144) rfl rfl (Nat.le_of_ble_eq_true rfl) (by decide) ?_
                    refine J_iload_n dX8_cuts_144 (pc' := 145) rfl rfl ?_
                    refine J_s1 (As := [.int ((nfS C t) i)]) (rest := [.int (dv_b (ch_d (raa (nfS C t) i)))]) (qX8_isDigit _ _ _) vX8_isDigit mX8_28 dX8_cuts_145 (pc' := 148) rfl rfl (Nat.le_of_ble_eq_true rfl) (by decide) ?_
                    refine J_icmp_eq dX8_cuts_148 (pt := 155) (by decide) (pc' := 151) rfl (fun c148 => ?_) (fun c148 => ?_)
                    · rw [dv_b_inj] at c148
                      refine J_iconst dX8_cuts_155 (pc' := 156) rfl (v := 0) ic_0 ?_
                      exact hj156 _ (by first | (simp [rbg, dv_b, c98]; done) | (simp [rbg, dv_b, c98, c106, c113]; done) | (simp [rbg, dv_b, c98, c106, c121]; done) | (simp [rbg, dv_b, c98, c106, c121, c148]; done) | (simp [rbg, dv_b, c98, c106, c121, c128]; done) | (simp [rbg, dv_b, c98, c106, c121, c128, c148]; done) | (simp [rbg, dv_b, c98, c106, c121, c128, c136]; done) | (simp [rbg, dv_b, c98, c106, c121, c128, c136, c148]; done) | (simp [rbg, dv_b, c98, c106, c113, c121]; done) | (simp [rbg, dv_b, c98, c106, c113, c121, c148]; done) | (simp [rbg, dv_b, c98, c106, c113, c121, c128]; done) | (simp [rbg, dv_b, c98, c106, c113, c121, c128, c148]; done) | (simp [rbg, dv_b, c98, c106, c113, c121, c128, c136]; done) | (simp [rbg, dv_b, c98, c106, c113, c121, c128, c136, c148]; done))
                    · rw [dv_b_inj] at c148
                      refine J_iconst dX8_cuts_151 (pc' := 152) rfl (v := 1) ic_1 ?_
                      refine J_goto dX8_cuts_152 (pc' := 156) (by decide) ?_
                      exact hj156 _ (by first | (simp [rbg, dv_b, c98]; done) | (simp [rbg, dv_b, c98, c106, c113]; done) | (simp [rbg, dv_b, c98, c106, c121]; done) | (simp [rbg, dv_b, c98, c106, c121, c148]; done) | (simp [rbg, dv_b, c98, c106, c121, c128]; done) | (simp [rbg, dv_b, c98, c106, c121, c128, c148]; done) | (simp [rbg, dv_b, c98, c106, c121, c128, c136]; done) | (simp [rbg, dv_b, c98, c106, c121, c128, c136, c148]; done) | (simp [rbg, dv_b, c98, c106, c113, c121]; done) | (simp [rbg, dv_b, c98, c106, c113, c121, c148]; done) | (simp [rbg, dv_b, c98, c106, c113, c121, c128]; done) | (simp [rbg, dv_b, c98, c106, c113, c121, c128, c148]; done) | (simp [rbg, dv_b, c98, c106, c113, c121, c128, c136]; done) | (simp [rbg, dv_b, c98, c106, c113, c121, c128, c136, c148]; done))
                  · refine J_iload_n dX8_cuts_124 (pc' := 125) rfl rfl ?_
                    refine J_s1 (As := [.int ((nfS C t) i)]) (rest := []) (qX8_isGreat _ _ _) vX8_isGreat mX8_21 dX8_cuts_125 (pc' := 128) rfl rfl (Nat.le_of_ble_eq_true rfl) (by decide) ?_
                    refine J_beq dX8_cuts_128 (pt := 139) (by decide) (pc' := 131) rfl (fun c128 => ?_) (fun c128 => ?_)
                    · refine J_iload dX8_cuts_139 (pc' := 141) rfl rfl ?_
                      refine J_s1 (As := [.int (raa (nfS C t) i)]) (rest := []) (qX8_isDigit _ _ _) vX8_isDigit mX8_28 dX8_cuts_141 (pc' := 144) rfl rfl (Nat.le_of_ble_eq_true rfl) (by decide) ?_
                      refine J_iload_n dX8_cuts_144 (pc' := 145) rfl rfl ?_
                      refine J_s1 (As := [.int ((nfS C t) i)]) (rest := [.int (dv_b (ch_d (raa (nfS C t) i)))]) (qX8_isDigit _ _ _) vX8_isDigit mX8_28 dX8_cuts_145 (pc' := 148) rfl rfl (Nat.le_of_ble_eq_true rfl) (by decide) ?_
                      refine J_icmp_eq dX8_cuts_148 (pt := 155) (by decide) (pc' := 151) rfl (fun c148 => ?_) (fun c148 => ?_)
                      · rw [dv_b_inj] at c148
                        refine J_iconst dX8_cuts_155 (pc' := 156) rfl (v := 0) ic_0 ?_
                        exact hj156 _ (by first | (simp [rbg, dv_b, c98]; done) | (simp [rbg, dv_b, c98, c106, c113]; done) | (simp [rbg, dv_b, c98, c106, c121]; done) | (simp [rbg, dv_b, c98, c106, c121, c148]; done) | (simp [rbg, dv_b, c98, c106, c121, c128]; done) | (simp [rbg, dv_b, c98, c106, c121, c128, c148]; done) | (simp [rbg, dv_b, c98, c106, c121, c128, c136]; done) | (simp [rbg, dv_b, c98, c106, c121, c128, c136, c148]; done) | (simp [rbg, dv_b, c98, c106, c113, c121]; done) | (simp [rbg, dv_b, c98, c106, c113, c121, c148]; done) | (simp [rbg, dv_b, c98, c106, c113, c121, c128]; done) | (simp [rbg, dv_b, c98, c106, c113, c121, c128, c148]; done) | (simp [rbg, dv_b, c98, c106, c113, c121, c128, c136]; done) | (simp [rbg, dv_b, c98, c106, c113, c121, c128, c136, c148]; done))
                      · rw [dv_b_inj] at c148
                        refine J_iconst dX8_cuts_151 (pc' := 152) rfl (v := 1) ic_1 ?_
                        refine J_goto dX8_cuts_152 (pc' := 156) (by decide) ?_
                        exact hj156 _ (by first | (simp [rbg, dv_b, c98]; done) | (simp [rbg, dv_b, c98, c106, c113]; done) | (simp [rbg, dv_b, c98, c106, c121]; done) | (simp [rbg, dv_b, c98, c106, c121, c148]; done) | (simp [rbg, dv_b, c98, c106, c121, c128]; done) | (simp [rbg, dv_b, c98, c106, c121, c128, c148]; done) | (simp [rbg, dv_b, c98, c106, c121, c128, c136]; done) | (simp [rbg, dv_b, c98, c106, c121, c128, c136, c148]; done) | (simp [rbg, dv_b, c98, c106, c113, c121]; done) | (simp [rbg, dv_b, c98, c106, c113, c121, c148]; done) | (simp [rbg, dv_b, c98, c106, c113, c121, c128]; done) | (simp [rbg, dv_b, c98, c106, c113, c121, c128, c148]; done) | (simp [rbg, dv_b, c98, c106, c113, c121, c128, c136]; done) | (simp [rbg, dv_b, c98, c106, c113, c121, c128, c136, c148]; done))
                    · refine J_iload dX8_cuts_131 (pc' := 133) rfl rfl ?_
                      refine J_s1 (As := [.int (rcc (nfS C t) (nlS C t) i)]) (rest := []) (qX8_isSmall _ _ _) vX8_isSmall mX8_17 dX8_cuts_133 (pc' := 136) rfl rfl (Nat.le_of_ble_eq_true rfl) (by decide) ?_
                      refine J_bne dX8_cuts_136 (pt := 151) (by decide) (pc' := 139) rfl (fun c136 => ?_) (fun c136 => ?_)
                      · refine J_iconst dX8_cuts_151 (pc' := 152) rfl (v := 1) ic_1 ?_
                        refine J_goto dX8_cuts_152 (pc' := 156) (by decide) ?_
                        exact hj156 _ (by first | (simp [rbg, dv_b, c98]; done) | (simp [rbg, dv_b, c98, c106, c113]; done) | (simp [rbg, dv_b, c98, c106, c121]; done) | (simp [rbg, dv_b, c98, c106, c121, c148]; done) | (simp [rbg, dv_b, c98, c106, c121, c128]; done) | (simp [rbg, dv_b, c98, c106, c121, c128, c148]; done) | (simp [rbg, dv_b, c98, c106, c121, c128, c136]; done) | (simp [rbg, dv_b, c98, c106, c121, c128, c136, c148]; done) | (simp [rbg, dv_b, c98, c106, c113, c121]; done) | (simp [rbg, dv_b, c98, c106, c113, c121, c148]; done) | (simp [rbg, dv_b, c98, c106, c113, c121, c128]; done) | (simp [rbg, dv_b, c98, c106, c113, c121, c128, c148]; done) | (simp [rbg, dv_b, c98, c106, c113, c121, c128, c136]; done) | (simp [rbg, dv_b, c98, c106, c113, c121, c128, c136, c148]; done))
                      · refine J_iload dX8_cuts_139 (pc' := 141) rfl rfl ?_
                        refine J_s1 (As := [.int (raa (nfS C t) i)]) (rest := []) (qX8_isDigit _ _ _) vX8_isDigit mX8_28 dX8_cuts_141 (pc' := 144) rfl rfl (Nat.le_of_ble_eq_true rfl) (by decide) ?_
                        refine J_iload_n dX8_cuts_144 (pc' := 145) rfl rfl ?_
                        refine J_s1 (As := [.int ((nfS C t) i)]) (rest := [.int (dv_b (ch_d (raa (nfS C t) i)))]) (qX8_isDigit _ _ _) vX8_isDigit mX8_28 dX8_cuts_145 (pc' := 148) rfl rfl (Nat.le_of_ble_eq_true rfl) (by decide) ?_
                        refine J_icmp_eq dX8_cuts_148 (pt := 155) (by decide) (pc' := 151) rfl (fun c148 => ?_) (fun c148 => ?_)
                        · rw [dv_b_inj] at c148
                          refine J_iconst dX8_cuts_155 (pc' := 156) rfl (v := 0) ic_0 ?_
                          exact hj156 _ (by first | (simp [rbg, dv_b, c98]; done) | (simp [rbg, dv_b, c98, c106, c113]; done) | (simp [rbg, dv_b, c98, c106, c121]; done) | (simp [rbg, dv_b, c98, c106, c121, c148]; done) | (simp [rbg, dv_b, c98, c106, c121, c128]; done) | (simp [rbg, dv_b, c98, c106, c121, c128, c148]; done) | (simp [rbg, dv_b, c98, c106, c121, c128, c136]; done) | (simp [rbg, dv_b, c98, c106, c121, c128, c136, c148]; done) | (simp [rbg, dv_b, c98, c106, c113, c121]; done) | (simp [rbg, dv_b, c98, c106, c113, c121, c148]; done) | (simp [rbg, dv_b, c98, c106, c113, c121, c128]; done) | (simp [rbg, dv_b, c98, c106, c113, c121, c128, c148]; done) | (simp [rbg, dv_b, c98, c106, c113, c121, c128, c136]; done) | (simp [rbg, dv_b, c98, c106, c113, c121, c128, c136, c148]; done))
                        · rw [dv_b_inj] at c148
                          refine J_iconst dX8_cuts_151 (pc' := 152) rfl (v := 1) ic_1 ?_
                          refine J_goto dX8_cuts_152 (pc' := 156) (by decide) ?_
                          exact hj156 _ (by first | (simp [rbg, dv_b, c98]; done) | (simp [rbg, dv_b, c98, c106, c113]; done) | (simp [rbg, dv_b, c98, c106, c121]; done) | (simp [rbg, dv_b, c98, c106, c121, c148]; done) | (simp [rbg, dv_b, c98, c106, c121, c128]; done) | (simp [rbg, dv_b, c98, c106, c121, c128, c148]; done) | (simp [rbg, dv_b, c98, c106, c121, c128, c136]; done) | (simp [rbg, dv_b, c98, c106, c121, c128, c136, c148]; done) | (simp [rbg, dv_b, c98, c106, c113, c121]; done) | (simp [rbg, dv_b, c98, c106, c113, c121, c148]; done) | (simp [rbg, dv_b, c98, c106, c113, c121, c128]; done) | (simp [rbg, dv_b, c98, c106, c113, c121, c128, c148]; done) | (simp [rbg, dv_b, c98, c106, c113, c121, c128, c136]; done) | (simp [rbg, dv_b, c98, c106, c113, c121, c128, c136, c148]; done))
          refine J_iload_n dX8_cuts_62 (pc' := 63) rfl rfl ?_
          refine J_iconst dX8_cuts_63 (pc' := 64) rfl (v := 1) ic_1 ?_
          refine J_iadd dX8_cuts_64 (pc' := 65) rfl ?_
          refine J_top (w := .int (nI (i + 1))) (by rw [nI_1]) ?_
          refine J_aload_n dX8_cuts_65 (pc' := 66) rfl rfl ?_
          refine J_getr fX8_53 kd_516 rf_516_10 dX8_cuts_66 (pc' := 69) rfl ?_
          refine J_iload_n dX8_cuts_69 (pc' := 70) rfl rfl ?_
          refine J_iald (j := t) kd_521 (rfl) (by rw [ln_521]; omega) dX8_cuts_70 (pc' := 71) rfl ?_
          refine J_top (w := .int (nI (nlS C t))) (by rw [(hX1.2.2.1 t ht).1]) ?_
          refine J_icmp_ge dX8_cuts_71 (pt := 90) (by decide) (pc' := 74) rfl (fun c71 => ?_) (fun c71 => ?_)
          · rw [nI_leI (by omega) (by omega)] at c71
            refine J_bipush dX8_cuts_90 (pc' := 92) rfl (v := 95) bp_95 ?_
            exact hj92 _ (by first | (rw [rcc, if_neg (by omega)]; done) | (rw [rcc, if_pos (by omega), ((hX1.2.2.1 t ht).2.2.1 (i + 1) (by omega)).1]))
          · rw [nI_leI (by omega) (by omega)] at c71
            refine J_aload_n dX8_cuts_74 (pc' := 75) rfl rfl ?_
            refine J_getr fX8_62 kd_516 rf_516_13 dX8_cuts_75 (pc' := 78) rfl ?_
            refine J_bipush dX8_cuts_78 (pc' := 80) rfl (v := 24) bp_24 ?_
            refine J_iload_n dX8_cuts_80 (pc' := 81) rfl rfl ?_
            refine J_imul dX8_cuts_81 (pc' := 82) rfl ?_
            refine J_top (w := .int (nI (24 * t))) (by rw [dv_n24, pk_mul]) ?_
            refine J_iload_n dX8_cuts_82 (pc' := 83) rfl rfl ?_
            refine J_iadd dX8_cuts_83 (pc' := 84) rfl ?_
            refine J_top (w := .int (nI (24 * t + i))) (by rw [nI_add]) ?_
            refine J_iconst dX8_cuts_84 (pc' := 85) rfl (v := 1) ic_1 ?_
            refine J_iadd dX8_cuts_85 (pc' := 86) rfl ?_
            refine J_bald (j := 24 * t + (i + 1)) kd_524 (nI_1 _) (by rw [ln_524]; omega) dX8_cuts_86 (pc' := 87) rfl ?_
            refine J_goto dX8_cuts_87 (pc' := 92) (by decide) ?_
            exact hj92 _ (by first | (rw [rcc, if_neg (by omega)]; done) | (rw [rcc, if_pos (by omega), ((hX1.2.2.1 t ht).2.2.1 (i + 1) (by omega)).1]))
        refine J_iload_n dX8_cuts_38 (pc' := 39) rfl rfl ?_
        refine J_if_ne dX8_cuts_39 (pt := 47) (by decide) (pc' := 42) rfl (fun c39 => ?_) (fun c39 => ?_)
        · rw [show (0 : Int32) = nI 0 by decide, nI_eq (by omega) (by omega)] at c39
          refine J_aload_n dX8_cuts_47 (pc' := 48) rfl rfl ?_
          refine J_getr fX8_62 kd_516 rf_516_13 dX8_cuts_48 (pc' := 51) rfl ?_
          refine J_bipush dX8_cuts_51 (pc' := 53) rfl (v := 24) bp_24 ?_
          refine J_iload_n dX8_cuts_53 (pc' := 54) rfl rfl ?_
          refine J_imul dX8_cuts_54 (pc' := 55) rfl ?_
          refine J_top (w := .int (nI (24 * t))) (by rw [dv_n24, pk_mul]) ?_
          refine J_iload_n dX8_cuts_55 (pc' := 56) rfl rfl ?_
          refine J_iadd dX8_cuts_56 (pc' := 57) rfl ?_
          refine J_top (w := .int (nI (24 * t + i))) (by rw [nI_add]) ?_
          refine J_iconst dX8_cuts_57 (pc' := 58) rfl (v := 1) ic_1 ?_
          refine J_isub dX8_cuts_58 (pc' := 59) rfl ?_
          refine J_bald (j := 24 * t + (i - 1)) kd_524 (by rw [dv_p1 (by omega)]; congr 1; omega) (by rw [ln_524]; omega) dX8_cuts_59 (pc' := 60) rfl ?_
          exact hj60 _ (by first | (rw [raa, if_pos c39]; done) | (rw [raa, if_neg c39, ((hX1.2.2.1 t ht).2.2.1 (i - 1) (by omega)).1]))
        · rw [show (0 : Int32) = nI 0 by decide, nI_eq (by omega) (by omega)] at c39
          refine J_bipush dX8_cuts_42 (pc' := 44) rfl (v := 95) bp_95 ?_
          refine J_goto dX8_cuts_44 (pc' := 60) (by decide) ?_
          exact hj60 _ (by first | (rw [raa, if_pos c39]; done) | (rw [raa, if_neg c39, ((hX1.2.2.1 t ht).2.2.1 (i - 1) (by omega)).1]))
      · refine J_goto dX8_cuts_35 (pc' := 197) (by decide) ?_
        refine J_iinc dX8_cuts_197 (pc' := 200) rfl rfl (v := nI (i + 1)) (nI_1 i) (by decide) rfl (l' := [some (.ref 516), some (.int (nI t)), some (.int (nI (i + 1))), some (.int ((nfS C t) i)), none, none, none]) rfl ?_
        refine J_goto dX8_cuts_200 (pc' := 7) (by decide) ?_
        refine J_drop 3 (l' := [some (.ref 516), some (.int (nI t)), some (.int (nI (i + 1))), none, none, none, none]) rfl ?_
        exact ih7 (i + 1) (by omega) (by omega) _ (rcI1 hI c32)
  refine J_loc (l' := [some (.ref 516), some (.int (nI t)), some (.int (nI 0)), none, none, none, none]) (by simp only [nI_0, dv_b_f, dv_b_t]) ?_
  refine J_sto (S' := (dv_u S.1 516 16 0, S.2)) (rfl) ?_
  exact hlp7 0 (Nat.zero_le _) _ (rcI0 _ _ _)
