set_option maxRecDepth 100000 in
set_option maxHeartbeats 400000 in
theorem qX8_styleOf (d : Nat) (S : dv_S) (C : dv_S) (n w : Nat) (wl : Nat → Nat → Int32) (wm : Nat → Nat) (t : Nat) (hX : RX S C n w wl wm) (ht : t < n)  : dv_M yX8_styleOf cX8_styleOf 7 (some .int) (dv_rm (d + 2)) [.ref 516, .int (nI t)] S (fun r S' => r = some (.int (stS C t)) ∧ S' = S) := by
  have h80 := hX.1.2
  have h60 := hX.2.1.2
  have hm24 := (hX.2.2.1 t ht).2.1
  refine dv_M_of [some (.ref 516), some (.int (nI t)), none, none, none, none, none] (by decide) (fun _ _ => Nat.le_of_ble_eq_true rfl) (fun _ _ => rfl) ?_
  refine J_iconst dX8_styleOf_0 (pc' := 1) rfl (v := 0) ic_0 ?_
  refine J_istore_n dX8_styleOf_1 (pc' := 2) rfl rfl (by decide) rfl (l' := [some (.ref 516), some (.int (nI t)), some (.int 0), none, none, none, none]) rfl ?_
  refine J_iconst dX8_styleOf_2 (pc' := 3) rfl (v := 0) ic_0 ?_
  refine J_istore_n dX8_styleOf_3 (pc' := 4) rfl rfl (by decide) rfl (l' := [some (.ref 516), some (.int (nI t)), some (.int 0), some (.int 0), none, none, none]) rfl ?_
  refine J_iconst dX8_styleOf_4 (pc' := 5) rfl (v := 0) ic_0 ?_
  refine J_istore dX8_styleOf_5 (pc' := 7) rfl (by decide) rfl (l' := [some (.ref 516), some (.int (nI t)), some (.int 0), some (.int 0), some (.int 0), none, none]) rfl ?_
  refine J_iconst dX8_styleOf_7 (pc' := 8) rfl (v := 0) ic_0 ?_
  refine J_istore dX8_styleOf_8 (pc' := 10) rfl (by decide) rfl (l' := [some (.ref 516), some (.int (nI t)), some (.int 0), some (.int 0), some (.int 0), some (.int 0), none]) rfl ?_
  refine J_bipush dX8_styleOf_10 (pc' := 12) rfl (v := 24) bp_24 ?_
  refine J_iload_n dX8_styleOf_12 (pc' := 13) rfl rfl ?_
  refine J_imul dX8_styleOf_13 (pc' := 14) rfl ?_
  refine J_top (w := .int (nI (24 * t))) (by rw [dv_n24, pk_mul]) ?_
  refine J_aload_n dX8_styleOf_14 (pc' := 15) rfl rfl ?_
  refine J_getr fX8_53 kd_516 rf_516_10 dX8_styleOf_15 (pc' := 18) rfl ?_
  refine J_iload_n dX8_styleOf_18 (pc' := 19) rfl rfl ?_
  refine J_iald (j := t) kd_521 (rfl) (by rw [ln_521]; omega) dX8_styleOf_19 (pc' := 20) rfl ?_
  refine J_top (w := .int (nI (nlS C t))) (by rw [(hX.2.2.1 t ht).1]) ?_
  refine J_iadd dX8_styleOf_20 (pc' := 21) rfl ?_
  refine J_top (w := .int (nI (24 * t + (nlS C t)))) (by rw [nI_add]) ?_
  refine J_iconst dX8_styleOf_21 (pc' := 22) rfl (v := 1) ic_1 ?_
  refine J_isub dX8_styleOf_22 (pc' := 23) rfl ?_
  refine J_istore dX8_styleOf_23 (pc' := 25) rfl (by decide) rfl (l' := [some (.ref 516), some (.int (nI t)), some (.int 0), some (.int 0), some (.int 0), some (.int 0), some (.int ((nI (24 * t + (nlS C t))) - 1))]) rfl ?_
  have hs25 : ∀ j, j ≤ (nlS C t) → dv_J yX8_styleOf cX8_styleOf 7 (some .int) (dv_rm (d + 2)) 0 0 25 [some (.ref 516), some (.int (nI t)), some (.int (dv_b (ryn (fun x => decide (x = 95)) (nfS C t) (nlS C t) j))), some (.int (dv_b (ryn ch_g (nfS C t) (nlS C t) j))), some (.int (dv_b (ryn ch_s (nfS C t) (nlS C t) j))), some (.int (rfi (nfS C t) (nlS C t) j)), some (.int (nI (24 * t + j) - 1))] [] S (fun r S' => r = some (.int (stS C t)) ∧ S' = S) := by
    intro j
    induction j using Nat.strongRecOn with
    | _ j ih25 =>
      intro hj
      refine J_iload dX8_styleOf_25 (pc' := 27) rfl rfl ?_
      refine J_bipush dX8_styleOf_27 (pc' := 29) rfl (v := 24) bp_24 ?_
      refine J_iload_n dX8_styleOf_29 (pc' := 30) rfl rfl ?_
      refine J_imul dX8_styleOf_30 (pc' := 31) rfl ?_
      refine J_top (w := .int (nI (24 * t))) (by rw [dv_n24, pk_mul]) ?_
      refine J_icmp_lt dX8_styleOf_31 (pt := 132) (by decide) (pc' := 34) rfl (fun c31 => ?_) (fun c31 => ?_)
      · rw [st_c (by omega)] at c31
        have hj170 : ∀ jv : Int32, (rst (nfS C t) (nlS C t) j) = jv → dv_J yX8_styleOf cX8_styleOf 7 (some .int) (dv_rm (d + 2)) 0 0 170 [some (.ref 516), some (.int (nI t)), some (.int (dv_b (ryn (fun x => decide (x = 95)) (nfS C t) (nlS C t) j))), some (.int (dv_b (ryn ch_g (nfS C t) (nlS C t) j))), some (.int (dv_b (ryn ch_s (nfS C t) (nlS C t) j))), some (.int (rfi (nfS C t) (nlS C t) j)), some (.int (nI (24 * t + j) - 1))] [.int jv] S (fun r S' => r = some (.int (stS C t)) ∧ S' = S) := by
          intro jv hjv
          subst hjv
          refine J_iret dX8_styleOf_170 rfl (dv_r1 _) ?_
          exact ⟨by rw [c31, show stS C t = st_of (dv_rd (nfS C t) (nlS C t)) from rfl, st_ryn]; rfl, rfl⟩
        refine J_iload_n dX8_styleOf_132 (pc' := 133) rfl rfl ?_
        refine J_beq dX8_styleOf_133 (pt := 144) (by decide) (pc' := 136) rfl (fun c133 => ?_) (fun c133 => ?_)
        · refine J_iload_n dX8_styleOf_144 (pc' := 145) rfl rfl ?_
          refine J_beq dX8_styleOf_145 (pt := 157) (by decide) (pc' := 148) rfl (fun c145 => ?_) (fun c145 => ?_)
          · refine J_iload dX8_styleOf_157 (pc' := 159) rfl rfl ?_
            refine J_s1 (As := [.int (rfi (nfS C t) (nlS C t) j)]) (rest := []) (qX8_isGreat _ _ _) vX8_isGreat mX8_21 dX8_styleOf_159 (pc' := 162) rfl rfl (Nat.le_of_ble_eq_true rfl) (by decide) ?_
            refine J_beq dX8_styleOf_162 (pt := 169) (by decide) (pc' := 165) rfl (fun c162 => ?_) (fun c162 => ?_)
            · refine J_iconst dX8_styleOf_169 (pc' := 170) rfl (v := 0) ic_0 ?_
              exact hj170 _ (by first | exact absurd c145 (by rw [c133]; decide) | (simp [rst, c133, c137]; done) | (simp [rst, c133, c137, c145, c150]; done) | (simp [rst, c133, c145, c162]; done) | (simp [rst, c133, c137, c145, c162]; done) | (simp [rst, c133, c137, c145, c150, c162]; done))
            · refine J_iconst dX8_styleOf_165 (pc' := 166) rfl (v := 1) ic_1 ?_
              refine J_goto dX8_styleOf_166 (pc' := 170) (by decide) ?_
              exact hj170 _ (by first | exact absurd c145 (by rw [c133]; decide) | (simp [rst, c133, c137]; done) | (simp [rst, c133, c137, c145, c150]; done) | (simp [rst, c133, c145, c162]; done) | (simp [rst, c133, c137, c145, c162]; done) | (simp [rst, c133, c137, c145, c150, c162]; done))
          · refine J_iload dX8_styleOf_148 (pc' := 150) rfl rfl ?_
            refine J_bne dX8_styleOf_150 (pt := 157) (by decide) (pc' := 153) rfl (fun c150 => ?_) (fun c150 => ?_)
            · refine J_iload dX8_styleOf_157 (pc' := 159) rfl rfl ?_
              refine J_s1 (As := [.int (rfi (nfS C t) (nlS C t) j)]) (rest := []) (qX8_isGreat _ _ _) vX8_isGreat mX8_21 dX8_styleOf_159 (pc' := 162) rfl rfl (Nat.le_of_ble_eq_true rfl) (by decide) ?_
              refine J_beq dX8_styleOf_162 (pt := 169) (by decide) (pc' := 165) rfl (fun c162 => ?_) (fun c162 => ?_)
              · refine J_iconst dX8_styleOf_169 (pc' := 170) rfl (v := 0) ic_0 ?_
                exact hj170 _ (by first | exact absurd c145 (by rw [c133]; decide) | (simp [rst, c133, c137]; done) | (simp [rst, c133, c137, c145, c150]; done) | (simp [rst, c133, c145, c162]; done) | (simp [rst, c133, c137, c145, c162]; done) | (simp [rst, c133, c137, c145, c150, c162]; done))
              · refine J_iconst dX8_styleOf_165 (pc' := 166) rfl (v := 1) ic_1 ?_
                refine J_goto dX8_styleOf_166 (pc' := 170) (by decide) ?_
                exact hj170 _ (by first | exact absurd c145 (by rw [c133]; decide) | (simp [rst, c133, c137]; done) | (simp [rst, c133, c137, c145, c150]; done) | (simp [rst, c133, c145, c162]; done) | (simp [rst, c133, c137, c145, c162]; done) | (simp [rst, c133, c137, c145, c150, c162]; done))
            · refine J_iconst dX8_styleOf_153 (pc' := 154) rfl (v := 3) ic_3 ?_
              refine J_goto dX8_styleOf_154 (pc' := 170) (by decide) ?_
              exact hj170 _ (by first | exact absurd c145 (by rw [c133]; decide) | (simp [rst, c133, c137]; done) | (simp [rst, c133, c137, c145, c150]; done) | (simp [rst, c133, c145, c162]; done) | (simp [rst, c133, c137, c145, c162]; done) | (simp [rst, c133, c137, c145, c150, c162]; done))
        · refine J_iload_n dX8_styleOf_136 (pc' := 137) rfl rfl ?_
          refine J_bne dX8_styleOf_137 (pt := 144) (by decide) (pc' := 140) rfl (fun c137 => ?_) (fun c137 => ?_)
          · refine J_iload_n dX8_styleOf_144 (pc' := 145) rfl rfl ?_
            refine J_beq dX8_styleOf_145 (pt := 157) (by decide) (pc' := 148) rfl (fun c145 => ?_) (fun c145 => ?_)
            · refine J_iload dX8_styleOf_157 (pc' := 159) rfl rfl ?_
              refine J_s1 (As := [.int (rfi (nfS C t) (nlS C t) j)]) (rest := []) (qX8_isGreat _ _ _) vX8_isGreat mX8_21 dX8_styleOf_159 (pc' := 162) rfl rfl (Nat.le_of_ble_eq_true rfl) (by decide) ?_
              refine J_beq dX8_styleOf_162 (pt := 169) (by decide) (pc' := 165) rfl (fun c162 => ?_) (fun c162 => ?_)
              · refine J_iconst dX8_styleOf_169 (pc' := 170) rfl (v := 0) ic_0 ?_
                exact hj170 _ (by first | exact absurd c145 (by rw [c133]; decide) | (simp [rst, c133, c137]; done) | (simp [rst, c133, c137, c145, c150]; done) | (simp [rst, c133, c145, c162]; done) | (simp [rst, c133, c137, c145, c162]; done) | (simp [rst, c133, c137, c145, c150, c162]; done))
              · refine J_iconst dX8_styleOf_165 (pc' := 166) rfl (v := 1) ic_1 ?_
                refine J_goto dX8_styleOf_166 (pc' := 170) (by decide) ?_
                exact hj170 _ (by first | exact absurd c145 (by rw [c133]; decide) | (simp [rst, c133, c137]; done) | (simp [rst, c133, c137, c145, c150]; done) | (simp [rst, c133, c145, c162]; done) | (simp [rst, c133, c137, c145, c162]; done) | (simp [rst, c133, c137, c145, c150, c162]; done))
            · refine J_iload dX8_styleOf_148 (pc' := 150) rfl rfl ?_
              refine J_bne dX8_styleOf_150 (pt := 157) (by decide) (pc' := 153) rfl (fun c150 => ?_) (fun c150 => ?_)
              · refine J_iload dX8_styleOf_157 (pc' := 159) rfl rfl ?_
                refine J_s1 (As := [.int (rfi (nfS C t) (nlS C t) j)]) (rest := []) (qX8_isGreat _ _ _) vX8_isGreat mX8_21 dX8_styleOf_159 (pc' := 162) rfl rfl (Nat.le_of_ble_eq_true rfl) (by decide) ?_
                refine J_beq dX8_styleOf_162 (pt := 169) (by decide) (pc' := 165) rfl (fun c162 => ?_) (fun c162 => ?_)
                · refine J_iconst dX8_styleOf_169 (pc' := 170) rfl (v := 0) ic_0 ?_
                  exact hj170 _ (by first | exact absurd c145 (by rw [c133]; decide) | (simp [rst, c133, c137]; done) | (simp [rst, c133, c137, c145, c150]; done) | (simp [rst, c133, c145, c162]; done) | (simp [rst, c133, c137, c145, c162]; done) | (simp [rst, c133, c137, c145, c150, c162]; done))
                · refine J_iconst dX8_styleOf_165 (pc' := 166) rfl (v := 1) ic_1 ?_
                  refine J_goto dX8_styleOf_166 (pc' := 170) (by decide) ?_
                  exact hj170 _ (by first | exact absurd c145 (by rw [c133]; decide) | (simp [rst, c133, c137]; done) | (simp [rst, c133, c137, c145, c150]; done) | (simp [rst, c133, c145, c162]; done) | (simp [rst, c133, c137, c145, c162]; done) | (simp [rst, c133, c137, c145, c150, c162]; done))
              · refine J_iconst dX8_styleOf_153 (pc' := 154) rfl (v := 3) ic_3 ?_
                refine J_goto dX8_styleOf_154 (pc' := 170) (by decide) ?_
                exact hj170 _ (by first | exact absurd c145 (by rw [c133]; decide) | (simp [rst, c133, c137]; done) | (simp [rst, c133, c137, c145, c150]; done) | (simp [rst, c133, c145, c162]; done) | (simp [rst, c133, c137, c145, c162]; done) | (simp [rst, c133, c137, c145, c150, c162]; done))
          · refine J_iconst dX8_styleOf_140 (pc' := 141) rfl (v := 2) ic_2 ?_
            refine J_goto dX8_styleOf_141 (pc' := 170) (by decide) ?_
            exact hj170 _ (by first | exact absurd c145 (by rw [c133]; decide) | (simp [rst, c133, c137]; done) | (simp [rst, c133, c137, c145, c150]; done) | (simp [rst, c133, c145, c162]; done) | (simp [rst, c133, c137, c145, c162]; done) | (simp [rst, c133, c137, c145, c150, c162]; done))
      · rw [st_c (by omega)] at c31
        have hj55 : ∀ jv : Int32, (dv_b (ryn (fun x => decide (x = 95)) (nfS C t) (nlS C t) j || decide ((nfS C t) (j - 1) = 95))) = jv → dv_J yX8_styleOf cX8_styleOf 7 (some .int) (dv_rm (d + 2)) 0 0 55 [some (.ref 516), some (.int (nI t)), some (.int (dv_b (ryn (fun x => decide (x = 95)) (nfS C t) (nlS C t) j))), some (.int (dv_b (ryn ch_g (nfS C t) (nlS C t) j))), some (.int (dv_b (ryn ch_s (nfS C t) (nlS C t) j))), some (.int (rfi (nfS C t) (nlS C t) j)), some (.int (nI (24 * t + j) - 1))] [.int jv] S (fun r S' => r = some (.int (stS C t)) ∧ S' = S) := by
          intro jv hjv
          subst hjv
          refine J_istore_n dX8_styleOf_55 (pc' := 56) rfl rfl (by decide) rfl (l' := [some (.ref 516), some (.int (nI t)), some (.int (dv_b (ryn (fun x => decide (x = 95)) (nfS C t) (nlS C t) j || decide ((nfS C t) (j - 1) = 95)))), some (.int (dv_b (ryn ch_g (nfS C t) (nlS C t) j))), some (.int (dv_b (ryn ch_s (nfS C t) (nlS C t) j))), some (.int (rfi (nfS C t) (nlS C t) j)), some (.int (nI (24 * t + j) - 1))]) rfl ?_
          have hj78 : ∀ jv : Int32, (dv_b (ryn ch_g (nfS C t) (nlS C t) j || ch_g ((nfS C t) (j - 1)))) = jv → dv_J yX8_styleOf cX8_styleOf 7 (some .int) (dv_rm (d + 2)) 0 0 78 [some (.ref 516), some (.int (nI t)), some (.int (dv_b (ryn (fun x => decide (x = 95)) (nfS C t) (nlS C t) j || decide ((nfS C t) (j - 1) = 95)))), some (.int (dv_b (ryn ch_g (nfS C t) (nlS C t) j))), some (.int (dv_b (ryn ch_s (nfS C t) (nlS C t) j))), some (.int (rfi (nfS C t) (nlS C t) j)), some (.int (nI (24 * t + j) - 1))] [.int jv] S (fun r S' => r = some (.int (stS C t)) ∧ S' = S) := by
            intro jv hjv
            subst hjv
            refine J_istore_n dX8_styleOf_78 (pc' := 79) rfl rfl (by decide) rfl (l' := [some (.ref 516), some (.int (nI t)), some (.int (dv_b (ryn (fun x => decide (x = 95)) (nfS C t) (nlS C t) j || decide ((nfS C t) (j - 1) = 95)))), some (.int (dv_b (ryn ch_g (nfS C t) (nlS C t) j || ch_g ((nfS C t) (j - 1))))), some (.int (dv_b (ryn ch_s (nfS C t) (nlS C t) j))), some (.int (rfi (nfS C t) (nlS C t) j)), some (.int (nI (24 * t + j) - 1))]) rfl ?_
            have hj102 : ∀ jv : Int32, (dv_b (ryn ch_s (nfS C t) (nlS C t) j || ch_s ((nfS C t) (j - 1)))) = jv → dv_J yX8_styleOf cX8_styleOf 7 (some .int) (dv_rm (d + 2)) 0 0 102 [some (.ref 516), some (.int (nI t)), some (.int (dv_b (ryn (fun x => decide (x = 95)) (nfS C t) (nlS C t) j || decide ((nfS C t) (j - 1) = 95)))), some (.int (dv_b (ryn ch_g (nfS C t) (nlS C t) j || ch_g ((nfS C t) (j - 1))))), some (.int (dv_b (ryn ch_s (nfS C t) (nlS C t) j))), some (.int (rfi (nfS C t) (nlS C t) j)), some (.int (nI (24 * t + j) - 1))] [.int jv] S (fun r S' => r = some (.int (stS C t)) ∧ S' = S) := by
              intro jv hjv
              subst hjv
              refine J_istore dX8_styleOf_102 (pc' := 104) rfl (by decide) rfl (l' := [some (.ref 516), some (.int (nI t)), some (.int (dv_b (ryn (fun x => decide (x = 95)) (nfS C t) (nlS C t) j || decide ((nfS C t) (j - 1) = 95)))), some (.int (dv_b (ryn ch_g (nfS C t) (nlS C t) j || ch_g ((nfS C t) (j - 1))))), some (.int (dv_b (ryn ch_s (nfS C t) (nlS C t) j || ch_s ((nfS C t) (j - 1))))), some (.int (rfi (nfS C t) (nlS C t) j)), some (.int (nI (24 * t + j) - 1))]) rfl ?_
              refine J_aload_n dX8_styleOf_104 (pc' := 105) rfl rfl ?_
              refine J_getr fX8_62 kd_516 rf_516_13 dX8_styleOf_105 (pc' := 108) rfl ?_
              refine J_iload dX8_styleOf_108 (pc' := 110) rfl rfl ?_
              refine J_bald (j := 24 * t + (j - 1)) kd_524 (by rw [dv_p1 (by omega)]; congr 1; omega) (by rw [ln_524]; omega) dX8_styleOf_110 (pc' := 111) rfl ?_
              refine J_top (w := .int ((nfS C t) (j - 1))) (by rw [((hX.2.2.1 t ht).2.2.1 (j - 1) (by omega)).1]) ?_
              refine J_s1 (As := [.int ((nfS C t) (j - 1))]) (rest := []) (qX8_isLetter _ _ _) vX8_isLetter mX8_31 dX8_styleOf_111 (pc' := 114) rfl rfl (Nat.le_of_ble_eq_true rfl) (by decide) ?_
              refine J_beq dX8_styleOf_114 (pt := 126) (by decide) (pc' := 117) rfl (fun c114 => ?_) (fun c114 => ?_)
              · refine J_iinc dX8_styleOf_126 (pc' := 129) rfl rfl (v := (nI (24 * t + j) - 1) + (-1)) (rfl) (by decide) rfl (l' := [some (.ref 516), some (.int (nI t)), some (.int (dv_b (ryn (fun x => decide (x = 95)) (nfS C t) (nlS C t) j || decide ((nfS C t) (j - 1) = 95)))), some (.int (dv_b (ryn ch_g (nfS C t) (nlS C t) j || ch_g ((nfS C t) (j - 1))))), some (.int (dv_b (ryn ch_s (nfS C t) (nlS C t) j || ch_s ((nfS C t) (j - 1))))), some (.int (rfi (nfS C t) (nlS C t) j)), some (.int ((nI (24 * t + j) - 1) + (-1)))]) rfl ?_
                refine J_goto dX8_styleOf_129 (pc' := 25) (by decide) ?_
                refine J_loc (l' := [some (.ref 516), some (.int (nI t)), some (.int (dv_b (ryn (fun x => decide (x = 95)) (nfS C t) (nlS C t) (j - 1)))), some (.int (dv_b (ryn ch_g (nfS C t) (nlS C t) (j - 1)))), some (.int (dv_b (ryn ch_s (nfS C t) (nlS C t) (j - 1)))), some (.int (rfi (nfS C t) (nlS C t) (j - 1))), some (.int (nI (24 * t + (j - 1)) - 1))]) ?_ (ih25 (j - 1) (by omega) (by omega))
                clear ih25
                rw [ryn_p _ _ (by omega) hj, ryn_p _ _ (by omega) hj, ryn_p _ _ (by omega) hj, st_m1 (by omega), rfi_pn (by omega) c114]
              · refine J_aload_n dX8_styleOf_117 (pc' := 118) rfl rfl ?_
                refine J_getr fX8_62 kd_516 rf_516_13 dX8_styleOf_118 (pc' := 121) rfl ?_
                refine J_iload dX8_styleOf_121 (pc' := 123) rfl rfl ?_
                refine J_bald (j := 24 * t + (j - 1)) kd_524 (by rw [dv_p1 (by omega)]; congr 1; omega) (by rw [ln_524]; omega) dX8_styleOf_123 (pc' := 124) rfl ?_
                refine J_top (w := .int ((nfS C t) (j - 1))) (by rw [((hX.2.2.1 t ht).2.2.1 (j - 1) (by omega)).1]) ?_
                refine J_istore dX8_styleOf_124 (pc' := 126) rfl (by decide) rfl (l' := [some (.ref 516), some (.int (nI t)), some (.int (dv_b (ryn (fun x => decide (x = 95)) (nfS C t) (nlS C t) j || decide ((nfS C t) (j - 1) = 95)))), some (.int (dv_b (ryn ch_g (nfS C t) (nlS C t) j || ch_g ((nfS C t) (j - 1))))), some (.int (dv_b (ryn ch_s (nfS C t) (nlS C t) j || ch_s ((nfS C t) (j - 1))))), some (.int ((nfS C t) (j - 1))), some (.int (nI (24 * t + j) - 1))]) rfl ?_
                refine J_iinc dX8_styleOf_126 (pc' := 129) rfl rfl (v := (nI (24 * t + j) - 1) + (-1)) (rfl) (by decide) rfl (l' := [some (.ref 516), some (.int (nI t)), some (.int (dv_b (ryn (fun x => decide (x = 95)) (nfS C t) (nlS C t) j || decide ((nfS C t) (j - 1) = 95)))), some (.int (dv_b (ryn ch_g (nfS C t) (nlS C t) j || ch_g ((nfS C t) (j - 1))))), some (.int (dv_b (ryn ch_s (nfS C t) (nlS C t) j || ch_s ((nfS C t) (j - 1))))), some (.int ((nfS C t) (j - 1))), some (.int ((nI (24 * t + j) - 1) + (-1)))]) rfl ?_
                refine J_goto dX8_styleOf_129 (pc' := 25) (by decide) ?_
                refine J_loc (l' := [some (.ref 516), some (.int (nI t)), some (.int (dv_b (ryn (fun x => decide (x = 95)) (nfS C t) (nlS C t) (j - 1)))), some (.int (dv_b (ryn ch_g (nfS C t) (nlS C t) (j - 1)))), some (.int (dv_b (ryn ch_s (nfS C t) (nlS C t) (j - 1)))), some (.int (rfi (nfS C t) (nlS C t) (j - 1))), some (.int (nI (24 * t + (j - 1)) - 1))]) ?_ (ih25 (j - 1) (by omega) (by omega))
                clear ih25
                rw [ryn_p _ _ (by omega) hj, ryn_p _ _ (by omega) hj, ryn_p _ _ (by omega) hj, st_m1 (by omega), rfi_py (by omega) hj c114]
            refine J_iload dX8_styleOf_79 (pc' := 81) rfl rfl ?_
            refine J_bne dX8_styleOf_81 (pt := 97) (by decide) (pc' := 84) rfl (fun c81 => ?_) (fun c81 => ?_)
            · refine J_iconst dX8_styleOf_97 (pc' := 98) rfl (v := 1) ic_1 ?_
              refine J_goto dX8_styleOf_98 (pc' := 102) (by decide) ?_
              exact hj102 _ (by first | (simp [dv_b, c81]; done) | (simp [dv_b, c81, c94]; done))
            · refine J_aload_n dX8_styleOf_84 (pc' := 85) rfl rfl ?_
              refine J_getr fX8_62 kd_516 rf_516_13 dX8_styleOf_85 (pc' := 88) rfl ?_
              refine J_iload dX8_styleOf_88 (pc' := 90) rfl rfl ?_
              refine J_bald (j := 24 * t + (j - 1)) kd_524 (by rw [dv_p1 (by omega)]; congr 1; omega) (by rw [ln_524]; omega) dX8_styleOf_90 (pc' := 91) rfl ?_
              refine J_top (w := .int ((nfS C t) (j - 1))) (by rw [((hX.2.2.1 t ht).2.2.1 (j - 1) (by omega)).1]) ?_
              refine J_s1 (As := [.int ((nfS C t) (j - 1))]) (rest := []) (qX8_isSmall _ _ _) vX8_isSmall mX8_17 dX8_styleOf_91 (pc' := 94) rfl rfl (Nat.le_of_ble_eq_true rfl) (by decide) ?_
              refine J_beq dX8_styleOf_94 (pt := 101) (by decide) (pc' := 97) rfl (fun c94 => ?_) (fun c94 => ?_)
              · refine J_iconst dX8_styleOf_101 (pc' := 102) rfl (v := 0) ic_0 ?_
                exact hj102 _ (by first | (simp [dv_b, c81]; done) | (simp [dv_b, c81, c94]; done))
              · refine J_iconst dX8_styleOf_97 (pc' := 98) rfl (v := 1) ic_1 ?_
                refine J_goto dX8_styleOf_98 (pc' := 102) (by decide) ?_
                exact hj102 _ (by first | (simp [dv_b, c81]; done) | (simp [dv_b, c81, c94]; done))
          refine J_iload_n dX8_styleOf_56 (pc' := 57) rfl rfl ?_
          refine J_bne dX8_styleOf_57 (pt := 73) (by decide) (pc' := 60) rfl (fun c57 => ?_) (fun c57 => ?_)
          · refine J_iconst dX8_styleOf_73 (pc' := 74) rfl (v := 1) ic_1 ?_
            refine J_goto dX8_styleOf_74 (pc' := 78) (by decide) ?_
            exact hj78 _ (by first | (simp [dv_b, c57]; done) | (simp [dv_b, c57, c70]; done))
          · refine J_aload_n dX8_styleOf_60 (pc' := 61) rfl rfl ?_
            refine J_getr fX8_62 kd_516 rf_516_13 dX8_styleOf_61 (pc' := 64) rfl ?_
            refine J_iload dX8_styleOf_64 (pc' := 66) rfl rfl ?_
            refine J_bald (j := 24 * t + (j - 1)) kd_524 (by rw [dv_p1 (by omega)]; congr 1; omega) (by rw [ln_524]; omega) dX8_styleOf_66 (pc' := 67) rfl ?_
            refine J_top (w := .int ((nfS C t) (j - 1))) (by rw [((hX.2.2.1 t ht).2.2.1 (j - 1) (by omega)).1]) ?_
            refine J_s1 (As := [.int ((nfS C t) (j - 1))]) (rest := []) (qX8_isGreat _ _ _) vX8_isGreat mX8_21 dX8_styleOf_67 (pc' := 70) rfl rfl (Nat.le_of_ble_eq_true rfl) (by decide) ?_
            refine J_beq dX8_styleOf_70 (pt := 77) (by decide) (pc' := 73) rfl (fun c70 => ?_) (fun c70 => ?_)
            · refine J_iconst dX8_styleOf_77 (pc' := 78) rfl (v := 0) ic_0 ?_
              exact hj78 _ (by first | (simp [dv_b, c57]; done) | (simp [dv_b, c57, c70]; done))
            · refine J_iconst dX8_styleOf_73 (pc' := 74) rfl (v := 1) ic_1 ?_
              refine J_goto dX8_styleOf_74 (pc' := 78) (by decide) ?_
              exact hj78 _ (by first | (simp [dv_b, c57]; done) | (simp [dv_b, c57, c70]; done))
        refine J_iload_n dX8_styleOf_34 (pc' := 35) rfl rfl ?_
        refine J_bne dX8_styleOf_35 (pt := 50) (by decide) (pc' := 38) rfl (fun c35 => ?_) (fun c35 => ?_)
        · refine J_iconst dX8_styleOf_50 (pc' := 51) rfl (v := 1) ic_1 ?_
          refine J_goto dX8_styleOf_51 (pc' := 55) (by decide) ?_
          exact hj55 _ (by first | (simp [dv_b, c35]; done) | (simp [dv_b, c35, c47]; done))
        · refine J_aload_n dX8_styleOf_38 (pc' := 39) rfl rfl ?_
          refine J_getr fX8_62 kd_516 rf_516_13 dX8_styleOf_39 (pc' := 42) rfl ?_
          refine J_iload dX8_styleOf_42 (pc' := 44) rfl rfl ?_
          refine J_bald (j := 24 * t + (j - 1)) kd_524 (by rw [dv_p1 (by omega)]; congr 1; omega) (by rw [ln_524]; omega) dX8_styleOf_44 (pc' := 45) rfl ?_
          refine J_top (w := .int ((nfS C t) (j - 1))) (by rw [((hX.2.2.1 t ht).2.2.1 (j - 1) (by omega)).1]) ?_
          refine J_bipush dX8_styleOf_45 (pc' := 47) rfl (v := 95) bp_95 ?_
          refine J_icmp_ne dX8_styleOf_47 (pt := 54) (by decide) (pc' := 50) rfl (fun c47 => ?_) (fun c47 => ?_)
          · refine J_iconst dX8_styleOf_54 (pc' := 55) rfl (v := 0) ic_0 ?_
            exact hj55 _ (by first | (simp [dv_b, c35]; done) | (simp [dv_b, c35, c47]; done))
          · refine J_iconst dX8_styleOf_50 (pc' := 51) rfl (v := 1) ic_1 ?_
            refine J_goto dX8_styleOf_51 (pc' := 55) (by decide) ?_
            exact hj55 _ (by first | (simp [dv_b, c35]; done) | (simp [dv_b, c35, c47]; done))
  refine J_loc (l' := [some (.ref 516), some (.int (nI t)), some (.int (dv_b (ryn (fun x => decide (x = 95)) (nfS C t) (nlS C t) (nlS C t)))), some (.int (dv_b (ryn ch_g (nfS C t) (nlS C t) (nlS C t)))), some (.int (dv_b (ryn ch_s (nfS C t) (nlS C t) (nlS C t)))), some (.int (rfi (nfS C t) (nlS C t) (nlS C t))), some (.int (nI (24 * t + (nlS C t)) - 1))]) (by simp only [ryn_m, rfi_m, dv_b_f]) ?_
  exact hs25 (nlS C t) (Nat.le_refl _)
