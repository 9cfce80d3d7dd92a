set_option maxRecDepth 100000 in
set_option maxHeartbeats 400000 in
theorem qX8_hindersTaken (d : Nat) (S : dv_S) (n sn un : Nat) (hm : Nat → Nat) (an : Nat → Nat → Bool) (us ut : Nat → Nat) (RN NN : Nat → List Int32) (hT : rw_T S n) (hS : rw_S S n sn hm an) (hU : rw_U S n sn un us ut) (hN : rwN S n RN NN)  : dv_M yX8_hindersTaken cX8_hindersTaken 4 (some .int) (dv_rm (d + 2)) [.ref 516] S (fun r S' => r = some (.int (ghi hm an us ut (thn S RN NN) n un)) ∧ htI S RN NN n S') := by
  have h80 := hT.2
  have h20 := hS.2.1
  have h150 := hU.2.1
  refine dv_M_of [some (.ref 516), none, none, none] (by decide) (fun _ _ => Nat.le_of_ble_eq_true rfl) (fun _ _ => rfl) ?_
  refine J_iconst dX8_hindersTaken_0 (pc' := 1) rfl (v := 0) ic_0 ?_
  refine J_istore_n dX8_hindersTaken_1 (pc' := 2) rfl rfl (by decide) rfl (l' := [some (.ref 516), some (.int 0), none, none]) rfl ?_
  have hlp2 : ∀ i, i ≤ n → ∀ (S1 : dv_S), htI S RN NN i S1 → dv_J yX8_hindersTaken cX8_hindersTaken 4 (some .int) (dv_rm (d + 2)) 0 0 2 [some (.ref 516), some (.int (nI i)), none, none] [] S1 (fun r S' => r = some (.int (ghi hm an us ut (thn S RN NN) n un)) ∧ htI S RN NN n S') := by
    refine dv_up (P := fun i => ∀ (S1 : dv_S), htI S RN NN i S1 → dv_J yX8_hindersTaken cX8_hindersTaken 4 (some .int) (dv_rm (d + 2)) 0 0 2 [some (.ref 516), some (.int (nI i)), none, none] [] S1 (fun r S' => r = some (.int (ghi hm an us ut (thn S RN NN) n un)) ∧ htI S RN NN n S')) ?_
    intro i hi2 ih2 S1 hI
    refine J_iload_n dX8_hindersTaken_2 (pc' := 3) rfl rfl ?_
    refine J_aload_n dX8_hindersTaken_3 (pc' := 4) rfl rfl ?_
    refine J_geti fX8_120 kd_516 rf_516_5 dX8_hindersTaken_4 (pc' := 7) rfl ?_
    refine J_top (w := .int (nI n)) (by rw [hI.1.1 516 5 (by decide), hT.1]) ?_
    refine J_icmp_ge dX8_hindersTaken_7 (pt := 123) (by decide) (pc' := 10) rfl (fun c7 => ?_) (fun c7 => ?_)
    · have hx := dv_ge hi2 (by omega) c7
      rw [hx] at hI
      refine J_iconst dX8_hindersTaken_123 (pc' := 124) rfl (v := 0) ic_0 ?_
      refine J_istore_n dX8_hindersTaken_124 (pc' := 125) rfl rfl (by decide) rfl (l' := [some (.ref 516), some (.int 0), none, none]) rfl ?_
      have hlp125 : ∀ t, t ≤ n → (∀ j, j < t → gdb hm (thn S RN NN) j = false) → dv_J yX8_hindersTaken cX8_hindersTaken 4 (some .int) (dv_rm (d + 2)) 0 0 125 [some (.ref 516), some (.int (nI t)), none, none] [] S1 (fun r S' => r = some (.int (ghi hm an us ut (thn S RN NN) n un)) ∧ htI S RN NN n S') := by
        refine dv_up (P := fun t => (∀ j, j < t → gdb hm (thn S RN NN) j = false) → dv_J yX8_hindersTaken cX8_hindersTaken 4 (some .int) (dv_rm (d + 2)) 0 0 125 [some (.ref 516), some (.int (nI t)), none, none] [] S1 (fun r S' => r = some (.int (ghi hm an us ut (thn S RN NN) n un)) ∧ htI S RN NN n S')) ?_
        intro t hi125 ih125 hqq
        refine J_iload_n dX8_hindersTaken_125 (pc' := 126) rfl rfl ?_
        refine J_aload_n dX8_hindersTaken_126 (pc' := 127) rfl rfl ?_
        refine J_geti fX8_120 kd_516 rf_516_5 dX8_hindersTaken_127 (pc' := 130) rfl ?_
        refine J_top (w := .int (nI n)) (by rw [hI.1.1 516 5 (by decide), hT.1]) ?_
        refine J_icmp_ge dX8_hindersTaken_130 (pt := 203) (by decide) (pc' := 133) rfl (fun c130 => ?_) (fun c130 => ?_)
        · have ht := dv_ge hi125 (by omega) c130
          refine J_iconst dX8_hindersTaken_203 (pc' := 204) rfl (v := 0) ic_0 ?_
          refine J_istore_n dX8_hindersTaken_204 (pc' := 205) rfl rfl (by decide) rfl (l' := [some (.ref 516), some (.int 0), none, none]) rfl ?_
          have hlp205 : ∀ u, u ≤ un → (∀ j, j < u → (gst hm an us ut (thn S RN NN) n) j = false) → dv_J yX8_hindersTaken cX8_hindersTaken 4 (some .int) (dv_rm (d + 2)) 0 0 205 [some (.ref 516), some (.int (nI u)), none, none] [] S1 (fun r S' => r = some (.int (ghi hm an us ut (thn S RN NN) n un)) ∧ htI S RN NN n S') := by
            refine dv_up (P := fun u => (∀ j, j < u → (gst hm an us ut (thn S RN NN) n) j = false) → dv_J yX8_hindersTaken cX8_hindersTaken 4 (some .int) (dv_rm (d + 2)) 0 0 205 [some (.ref 516), some (.int (nI u)), none, none] [] S1 (fun r S' => r = some (.int (ghi hm an us ut (thn S RN NN) n un)) ∧ htI S RN NN n S')) ?_
            intro u hi205 ih205 huu
            refine J_iload_n dX8_hindersTaken_205 (pc' := 206) rfl rfl ?_
            refine J_aload_n dX8_hindersTaken_206 (pc' := 207) rfl rfl ?_
            refine J_geti fX8_137 kd_516 rf_516_6 dX8_hindersTaken_207 (pc' := 210) rfl ?_
            refine J_top (w := .int (nI un)) (by rw [hI.1.1 516 6 (by decide), hU.1]) ?_
            refine J_icmp_ge dX8_hindersTaken_210 (pt := 268) (by decide) (pc' := 213) rfl (fun c210 => ?_) (fun c210 => ?_)
            · have hu := dv_ge hi205 (by omega) c210
              refine J_bipush dX8_hindersTaken_268 (pc' := 270) rfl (v := (-2)) bp_m2 ?_
              refine J_iret dX8_hindersTaken_270 rfl (dv_r1 _) ?_
              refine ⟨?_, hI⟩
              have e1 := dv_fo_none (p := gdb hm (thn S RN NN)) (n := n) (fun j hj => hqq j (by omega))
              have e2 := dv_fo_none (p := (gst hm an us ut (thn S RN NN) n)) (n := un) (fun j hj => huu j (by omega))
              simp only [ghi, e1, e2]
            · have hu := dv_nge hi205 (by omega) c210
              have hut := (hU.2.2 u hu).2.2.2
              have hus := (hU.2.2 u hu).2.1
              refine J_aload_n dX8_hindersTaken_213 (pc' := 214) rfl rfl ?_
              refine J_getr fX8_59 kd_516 rf_516_12 dX8_hindersTaken_214 (pc' := 217) rfl ?_
              refine J_iload_n dX8_hindersTaken_217 (pc' := 218) rfl rfl ?_
              refine J_iald (j := u) kd_523 (rfl) (by rw [ln_523]; omega) dX8_hindersTaken_218 (pc' := 219) rfl ?_
              refine J_top (w := .int (nI (ut u))) (by rw [hI.1.2.1 523 (by decide), (hU.2.2 u hu).2.2.1]) ?_
              refine J_istore_n dX8_hindersTaken_219 (pc' := 220) rfl rfl (by decide) rfl (l' := [some (.ref 516), some (.int (nI u)), some (.int (nI (ut u))), none]) rfl ?_
              refine J_aload_n dX8_hindersTaken_220 (pc' := 221) rfl rfl ?_
              refine J_aload_n dX8_hindersTaken_221 (pc' := 222) rfl rfl ?_
              refine J_getr fX8_56 kd_516 rf_516_11 dX8_hindersTaken_222 (pc' := 225) rfl ?_
              refine J_iload_n dX8_hindersTaken_225 (pc' := 226) rfl rfl ?_
              refine J_iald (j := u) kd_522 (rfl) (by rw [ln_522]; omega) dX8_hindersTaken_226 (pc' := 227) rfl ?_
              refine J_top (w := .int (nI (us u))) (by rw [hI.1.2.1 522 (by decide), (hU.2.2 u hu).1]) ?_
              refine J_aload_n dX8_hindersTaken_227 (pc' := 228) rfl rfl ?_
              refine J_getr fX8_105 kd_516 rf_516_31 dX8_hindersTaken_228 (pc' := 231) rfl ?_
              refine J_bipush dX8_hindersTaken_231 (pc' := 233) rfl (v := 24) bp_24 ?_
              refine J_iload_n dX8_hindersTaken_233 (pc' := 234) rfl rfl ?_
              refine J_imul dX8_hindersTaken_234 (pc' := 235) rfl ?_
              refine J_top (w := .int (nI (24 * ut u))) (by rw [dv_n24, pk_mul]) ?_
              refine J_aload_n dX8_hindersTaken_235 (pc' := 236) rfl rfl ?_
              refine J_getr fX8_114 kd_516 rf_516_34 dX8_hindersTaken_236 (pc' := 239) rfl ?_
              refine J_iload_n dX8_hindersTaken_239 (pc' := 240) rfl rfl ?_
              refine J_iald (j := ut u) kd_541 (rfl) (by rw [ln_541]; omega) dX8_hindersTaken_240 (pc' := 241) rfl ?_
              refine J_top (w := .int (nI ((thn S RN NN (ut u)).length))) (by rw [(hI.2 (ut u) (by omega)).1]) ?_
              refine J_aload_n dX8_hindersTaken_241 (pc' := 242) rfl rfl ?_
              refine J_getr fX8_105 kd_516 rf_516_31 dX8_hindersTaken_242 (pc' := 245) rfl ?_
              refine J_aload_n dX8_hindersTaken_245 (pc' := 246) rfl rfl ?_
              refine J_getr fX8_114 kd_516 rf_516_34 dX8_hindersTaken_246 (pc' := 249) rfl ?_
              refine J_v1 (As := [.int (nI (us u)), .ref 538, .int (nI (24 * ut u)), .int (nI ((thn S RN NN (ut u)).length)), .ref 538, .ref 541]) (rest := []) (qX8_meaningOf _ S1 n sn hm an (thn S RN NN) (thn S RN NN (ut u)) (us u) 538 (24 * ut u) 538 541 (rw_T_fr hI.1 (by decide) hT) (rw_S_fr hI.1 (by decide) (by decide) hS) hus (fun t ht => hI.2 t (by omega)) kd_538 ln_538 kd_541 ln_541 kd_538 (by rw [ln_538]; have := (thn_ok hN hut).1; omega) (hI.2 (ut u) (by omega)).2.2) vX8_meaningOf mX8_155 kd_516 dX8_hindersTaken_249 (pc' := 252) rfl rfl (Nat.le_of_ble_eq_true rfl) (by decide) ?_
              refine J_iload_n dX8_hindersTaken_252 (pc' := 253) rfl rfl ?_
              refine J_icmp_eq dX8_hindersTaken_253 (pt := 262) (by decide) (pc' := 256) rfl (fun c253 => ?_) (fun c253 => ?_)
              · rw [dv_oi_eq (fun j hj => by have := cl_tm_lt _ _ _ _ hj; omega) (by omega)] at c253
                refine J_iinc dX8_hindersTaken_262 (pc' := 265) rfl rfl (v := nI (u + 1)) (nI_1 u) (by decide) rfl (l' := [some (.ref 516), some (.int (nI (u + 1))), some (.int (nI (ut u))), none]) rfl ?_
                refine J_goto dX8_hindersTaken_265 (pc' := 205) (by decide) ?_
                refine J_drop 2 (l' := [some (.ref 516), some (.int (nI (u + 1))), none, none]) rfl ?_
                exact ih205 (u + 1) (by omega) (by omega) (lt_s huu (by unfold gst; rw [decide_eq_true c253]; rfl))
              · rw [dv_oi_eq (fun j hj => by have := cl_tm_lt _ _ _ _ hj; omega) (by omega)] at c253
                refine J_sipush dX8_hindersTaken_256 (pc' := 259) rfl (v := 1000) sp_1000 ?_
                refine J_iload_n dX8_hindersTaken_259 (pc' := 260) rfl rfl ?_
                refine J_iadd dX8_hindersTaken_260 (pc' := 261) rfl ?_
                refine J_iret dX8_hindersTaken_261 rfl (dv_r1 _) ?_
                refine ⟨?_, hI⟩
                have e1 := dv_fo_none (p := gdb hm (thn S RN NN)) (n := n) (fun j hj => hqq j (by omega))
                have e2 := dv_fo_some (p := (gst hm an us ut (thn S RN NN) n)) (n := un) hu (by unfold gst; rw [decide_eq_false c253]; rfl) huu
                simp only [ghi, e1, e2]
          refine J_loc (l' := [some (.ref 516), some (.int (nI 0)), none, none]) (by simp only [nI_0, dv_b_f, dv_b_t]) ?_
          exact hlp205 0 (Nat.zero_le _) (fun j hj => absurd hj (Nat.not_lt_zero j))
        · have ht := dv_nge hi125 (by omega) c130
          refine J_iconst dX8_hindersTaken_133 (pc' := 134) rfl (v := 0) ic_0 ?_
          refine J_istore_n dX8_hindersTaken_134 (pc' := 135) rfl rfl (by decide) rfl (l' := [some (.ref 516), some (.int (nI t)), some (.int 0), none]) rfl ?_
          have hlp135 : ∀ k, k ≤ t → (∀ j, j < k → (fun k => decide (hm k = hm t) && decide (thn S RN NN k = thn S RN NN t)) j = false) → dv_J yX8_hindersTaken cX8_hindersTaken 4 (some .int) (dv_rm (d + 2)) 0 0 135 [some (.ref 516), some (.int (nI t)), some (.int (nI k)), none] [] S1 (fun r S' => r = some (.int (ghi hm an us ut (thn S RN NN) n un)) ∧ htI S RN NN n S') := by
            refine dv_up (P := fun k => (∀ j, j < k → (fun k => decide (hm k = hm t) && decide (thn S RN NN k = thn S RN NN t)) j = false) → dv_J yX8_hindersTaken cX8_hindersTaken 4 (some .int) (dv_rm (d + 2)) 0 0 135 [some (.ref 516), some (.int (nI t)), some (.int (nI k)), none] [] S1 (fun r S' => r = some (.int (ghi hm an us ut (thn S RN NN) n un)) ∧ htI S RN NN n S')) ?_
            intro k hi135 ih135 hkk
            refine J_iload_n dX8_hindersTaken_135 (pc' := 136) rfl rfl ?_
            refine J_iload_n dX8_hindersTaken_136 (pc' := 137) rfl rfl ?_
            refine J_icmp_ge dX8_hindersTaken_137 (pt := 197) (by decide) (pc' := 140) rfl (fun c137 => ?_) (fun c137 => ?_)
            · have hk := dv_ge hi135 (by omega) c137
              refine J_iinc dX8_hindersTaken_197 (pc' := 200) rfl rfl (v := nI (t + 1)) (nI_1 t) (by decide) rfl (l' := [some (.ref 516), some (.int (nI (t + 1))), some (.int (nI k)), none]) rfl ?_
              refine J_goto dX8_hindersTaken_200 (pc' := 125) (by decide) ?_
              refine J_drop 2 (l' := [some (.ref 516), some (.int (nI (t + 1))), none, none]) rfl ?_
              exact ih125 (t + 1) (by omega) (by omega) (lt_s hqq (by unfold gdb; rw [dv_fo_none (fun j hj => hkk j (by omega))]; rfl))
            · have hk := dv_nge hi135 (by omega) c137
              have hhk := (hS.2.2.1 k (by omega)).2
              have hht := (hS.2.2.1 t ht).2
              refine J_aload_n dX8_hindersTaken_140 (pc' := 141) rfl rfl ?_
              refine J_getr fX8_47 kd_516 rf_516_8 dX8_hindersTaken_141 (pc' := 144) rfl ?_
              refine J_iload_n dX8_hindersTaken_144 (pc' := 145) rfl rfl ?_
              refine J_iald (j := k) kd_519 (rfl) (by rw [ln_519]; omega) dX8_hindersTaken_145 (pc' := 146) rfl ?_
              refine J_top (w := .int (nI (hm k))) (by rw [hI.1.2.1 519 (by decide), (hS.2.2.1 k (by omega)).1]) ?_
              refine J_aload_n dX8_hindersTaken_146 (pc' := 147) rfl rfl ?_
              refine J_getr fX8_47 kd_516 rf_516_8 dX8_hindersTaken_147 (pc' := 150) rfl ?_
              refine J_iload_n dX8_hindersTaken_150 (pc' := 151) rfl rfl ?_
              refine J_iald (j := t) kd_519 (rfl) (by rw [ln_519]; omega) dX8_hindersTaken_151 (pc' := 152) rfl ?_
              refine J_top (w := .int (nI (hm t))) (by rw [hI.1.2.1 519 (by decide), (hS.2.2.1 t ht).1]) ?_
              refine J_icmp_ne dX8_hindersTaken_152 (pt := 191) (by decide) (pc' := 155) rfl (fun c152 => ?_) (fun c152 => ?_)
              · rw [nI_eq (by omega) (by omega)] at c152
                refine J_iinc dX8_hindersTaken_191 (pc' := 194) rfl rfl (v := nI (k + 1)) (nI_1 k) (by decide) rfl (l' := [some (.ref 516), some (.int (nI t)), some (.int (nI (k + 1))), none]) rfl ?_
                refine J_goto dX8_hindersTaken_194 (pc' := 135) (by decide) ?_
                refine ih135 (k + 1) (by omega) (by omega) (lt_s hkk ?_)
                clear ih135 ih125 hkk
                first | (simp only [decide_eq_false c152, Bool.false_and]; done) | (simp only [c186, Bool.and_false]; done)
              · rw [nI_eq (by omega) (by omega)] at c152
                refine J_aload_n dX8_hindersTaken_155 (pc' := 156) rfl rfl ?_
                refine J_getr fX8_105 kd_516 rf_516_31 dX8_hindersTaken_156 (pc' := 159) rfl ?_
                refine J_bipush dX8_hindersTaken_159 (pc' := 161) rfl (v := 24) bp_24 ?_
                refine J_iload_n dX8_hindersTaken_161 (pc' := 162) rfl rfl ?_
                refine J_imul dX8_hindersTaken_162 (pc' := 163) rfl ?_
                refine J_top (w := .int (nI (24 * k))) (by rw [dv_n24, pk_mul]) ?_
                refine J_aload_n dX8_hindersTaken_163 (pc' := 164) rfl rfl ?_
                refine J_getr fX8_114 kd_516 rf_516_34 dX8_hindersTaken_164 (pc' := 167) rfl ?_
                refine J_iload_n dX8_hindersTaken_167 (pc' := 168) rfl rfl ?_
                refine J_iald (j := k) kd_541 (rfl) (by rw [ln_541]; omega) dX8_hindersTaken_168 (pc' := 169) rfl ?_
                refine J_top (w := .int (nI ((thn S RN NN k).length))) (by rw [(hI.2 k (by omega)).1]) ?_
                refine J_aload_n dX8_hindersTaken_169 (pc' := 170) rfl rfl ?_
                refine J_getr fX8_105 kd_516 rf_516_31 dX8_hindersTaken_170 (pc' := 173) rfl ?_
                refine J_bipush dX8_hindersTaken_173 (pc' := 175) rfl (v := 24) bp_24 ?_
                refine J_iload_n dX8_hindersTaken_175 (pc' := 176) rfl rfl ?_
                refine J_imul dX8_hindersTaken_176 (pc' := 177) rfl ?_
                refine J_top (w := .int (nI (24 * t))) (by rw [dv_n24, pk_mul]) ?_
                refine J_aload_n dX8_hindersTaken_177 (pc' := 178) rfl rfl ?_
                refine J_getr fX8_114 kd_516 rf_516_34 dX8_hindersTaken_178 (pc' := 181) rfl ?_
                refine J_iload_n dX8_hindersTaken_181 (pc' := 182) rfl rfl ?_
                refine J_iald (j := t) kd_541 (rfl) (by rw [ln_541]; omega) dX8_hindersTaken_182 (pc' := 183) rfl ?_
                refine J_top (w := .int (nI ((thn S RN NN t).length))) (by rw [(hI.2 t (by omega)).1]) ?_
                refine J_s1 (As := [.ref 538, .int (nI (24 * k)), .int (nI ((thn S RN NN k).length)), .ref 538, .int (nI (24 * t)), .int (nI ((thn S RN NN t).length))]) (rest := []) (qX8_isSame _ S1 538 (24 * k) (thn S RN NN k).length 538 (24 * t) (thn S RN NN t).length kd_538 kd_538 (by rw [ln_538]; have := (thn_ok hN (show k < n by omega)).1; omega) (by rw [ln_538]; have := (thn_ok hN ht).1; omega)) vX8_isSame mX8_133 dX8_hindersTaken_183 (pc' := 186) rfl rfl (Nat.le_of_ble_eq_true rfl) (by decide) ?_
                refine J_top (w := .int (dv_b (decide (thn S RN NN k = thn S RN NN t)))) (by rw [(hI.2 k (by omega)).2.2, (hI.2 t (by omega)).2.2]) ?_
                refine J_beq dX8_hindersTaken_186 (pt := 191) (by decide) (pc' := 189) rfl (fun c186 => ?_) (fun c186 => ?_)
                · refine J_iinc dX8_hindersTaken_191 (pc' := 194) rfl rfl (v := nI (k + 1)) (nI_1 k) (by decide) rfl (l' := [some (.ref 516), some (.int (nI t)), some (.int (nI (k + 1))), none]) rfl ?_
                  refine J_goto dX8_hindersTaken_194 (pc' := 135) (by decide) ?_
                  refine ih135 (k + 1) (by omega) (by omega) (lt_s hkk ?_)
                  clear ih135 ih125 hkk
                  first | (simp only [decide_eq_false c152, Bool.false_and]; done) | (simp only [c186, Bool.and_false]; done)
                · refine J_iload_n dX8_hindersTaken_189 (pc' := 190) rfl rfl ?_
                  refine J_iret dX8_hindersTaken_190 rfl (dv_r1 _) ?_
                  refine ⟨?_, hI⟩
                  have e1 := dv_fo_some (p := gdb hm (thn S RN NN)) (n := n) ht (dv_fo_yes hk (by simp only [decide_eq_true c152, c186, Bool.and_self])) hqq
                  simp only [ghi, e1]
          refine J_loc (l' := [some (.ref 516), some (.int (nI t)), some (.int (nI 0)), none]) (by simp only [nI_0, dv_b_f, dv_b_t]) ?_
          exact hlp135 0 (Nat.zero_le _) (fun j hj => absurd hj (Nat.not_lt_zero j))
      refine J_loc (l' := [some (.ref 516), some (.int (nI 0)), none, none]) (by simp only [nI_0, dv_b_f, dv_b_t]) ?_
      exact hlp125 0 (Nat.zero_le _) (fun j hj => absurd hj (Nat.not_lt_zero j))
    · have hx := dv_nge hi2 (by omega) c7
      have hok := thn_ok hN hx
      have hj33 : ∀ jv : Int32, (dv_b (tk S i)) = jv → dv_J yX8_hindersTaken cX8_hindersTaken 4 (some .int) (dv_rm (d + 2)) 0 0 33 [some (.ref 516), some (.int (nI i)), none, none] [.int jv] S1 (fun r S' => r = some (.int (ghi hm an us ut (thn S RN NN) n un)) ∧ htI S RN NN n S') := by
        intro jv hjv
        subst hjv
        refine J_istore_n dX8_hindersTaken_33 (pc' := 34) rfl rfl (by decide) rfl (l' := [some (.ref 516), some (.int (nI i)), some (.int (dv_b (tk S i))), none]) rfl ?_
        refine J_aload_n dX8_hindersTaken_34 (pc' := 35) rfl rfl ?_
        refine J_getr fX8_114 kd_516 rf_516_34 dX8_hindersTaken_35 (pc' := 38) rfl ?_
        refine J_iload_n dX8_hindersTaken_38 (pc' := 39) rfl rfl ?_
        have hj58 : ∀ jv : Int32, (nI ((thn S RN NN i).length)) = jv → dv_J yX8_hindersTaken cX8_hindersTaken 4 (some .int) (dv_rm (d + 2)) 0 0 58 [some (.ref 516), some (.int (nI i)), some (.int (dv_b (tk S i))), none] [.int jv, .int (nI i), .ref 541] S1 (fun r S' => r = some (.int (ghi hm an us ut (thn S RN NN) n un)) ∧ htI S RN NN n S') := by
          intro jv hjv
          subst hjv
          refine J_iast (j := i) kd_541 (rfl) (by rw [ln_541]; omega) dX8_hindersTaken_58 (pc' := 59) rfl ?_
          refine J_iconst dX8_hindersTaken_59 (pc' := 60) rfl (v := 0) ic_0 ?_
          refine J_istore_n dX8_hindersTaken_60 (pc' := 61) rfl rfl (by decide) rfl (l' := [some (.ref 516), some (.int (nI i)), some (.int (dv_b (tk S i))), some (.int 0)]) rfl ?_
          have hlp61 : ∀ j, j ≤ (thn S RN NN i).length → dv_J yX8_hindersTaken cX8_hindersTaken 4 (some .int) (dv_rm (d + 2)) 0 0 61 [some (.ref 516), some (.int (nI i)), some (.int (dv_b (tk S i))), some (.int (nI j))] [] (cpy S1 538 541 i (thn S RN NN i).length (fun z => (thn S RN NN i).getD z 0) j) (fun r S' => r = some (.int (ghi hm an us ut (thn S RN NN) n un)) ∧ htI S RN NN n S') := by
            refine dv_up (P := fun j => dv_J yX8_hindersTaken cX8_hindersTaken 4 (some .int) (dv_rm (d + 2)) 0 0 61 [some (.ref 516), some (.int (nI i)), some (.int (dv_b (tk S i))), some (.int (nI j))] [] (cpy S1 538 541 i (thn S RN NN i).length (fun z => (thn S RN NN i).getD z 0) j) (fun r S' => r = some (.int (ghi hm an us ut (thn S RN NN) n un)) ∧ htI S RN NN n S')) ?_
            intro j hi61 ih61 
            refine J_iload_n dX8_hindersTaken_61 (pc' := 62) rfl rfl ?_
            refine J_aload_n dX8_hindersTaken_62 (pc' := 63) rfl rfl ?_
            refine J_getr fX8_114 kd_516 rf_516_34 dX8_hindersTaken_63 (pc' := 66) rfl ?_
            refine J_iload_n dX8_hindersTaken_66 (pc' := 67) rfl rfl ?_
            refine J_iald (j := i) kd_541 (rfl) (by rw [ln_541]; omega) dX8_hindersTaken_67 (pc' := 68) rfl ?_
            refine J_top (w := .int (nI ((thn S RN NN i).length))) (by rw [cpy_sz _ _ _ _ _ (by decide)]) ?_
            refine J_icmp_ge dX8_hindersTaken_68 (pt := 117) (by decide) (pc' := 71) rfl (fun c68 => ?_) (fun c68 => ?_)
            · have hj := dv_ge hi61 (by omega) c68
              refine J_iinc dX8_hindersTaken_117 (pc' := 120) rfl rfl (v := nI (i + 1)) (nI_1 i) (by decide) rfl (l' := [some (.ref 516), some (.int (nI (i + 1))), some (.int (dv_b (tk S i))), some (.int (nI j))]) rfl ?_
              refine J_goto dX8_hindersTaken_120 (pc' := 2) (by decide) ?_
              refine J_drop 2 (l' := [some (.ref 516), some (.int (nI (i + 1))), none, some (.int (nI j))]) rfl ?_
              refine J_drop 3 (l' := [some (.ref 516), some (.int (nI (i + 1))), none, none]) rfl ?_
              rw [hj]
              exact ih2 (i + 1) (by omega) (by omega) _ (htI_s hI hN hx)
            · have hj := dv_nge hi61 (by omega) c68
              refine J_aload_n dX8_hindersTaken_71 (pc' := 72) rfl rfl ?_
              refine J_getr fX8_105 kd_516 rf_516_31 dX8_hindersTaken_72 (pc' := 75) rfl ?_
              refine J_bipush dX8_hindersTaken_75 (pc' := 77) rfl (v := 24) bp_24 ?_
              refine J_iload_n dX8_hindersTaken_77 (pc' := 78) rfl rfl ?_
              refine J_imul dX8_hindersTaken_78 (pc' := 79) rfl ?_
              refine J_top (w := .int (nI (24 * i))) (by rw [dv_n24, pk_mul]) ?_
              refine J_iload_n dX8_hindersTaken_79 (pc' := 80) rfl rfl ?_
              refine J_iadd dX8_hindersTaken_80 (pc' := 81) rfl ?_
              have hj110 : ∀ jv : Int32, ((thn S RN NN i).getD j 0) = jv → dv_J yX8_hindersTaken cX8_hindersTaken 4 (some .int) (dv_rm (d + 2)) 0 0 110 [some (.ref 516), some (.int (nI i)), some (.int (dv_b (tk S i))), some (.int (nI j))] [.int jv, .int ((nI (24 * i)) + (nI j)), .ref 538] (cpy S1 538 541 i (thn S RN NN i).length (fun z => (thn S RN NN i).getD z 0) j) (fun r S' => r = some (.int (ghi hm an us ut (thn S RN NN) n un)) ∧ htI S RN NN n S') := by
                intro jv hjv
                subst hjv
                refine J_bast (j := 24 * i + j) kd_538 (nI_add _ _) (by rw [ln_538]; omega) dX8_hindersTaken_110 (pc' := 111) rfl ?_
                refine J_iinc dX8_hindersTaken_111 (pc' := 114) rfl rfl (v := nI (j + 1)) (nI_1 j) (by decide) rfl (l' := [some (.ref 516), some (.int (nI i)), some (.int (dv_b (tk S i))), some (.int (nI (j + 1)))]) rfl ?_
                refine J_goto dX8_hindersTaken_114 (pc' := 61) (by decide) ?_
                exact J_sto (cpy_s _ _ _ _ _ _ _) (ih61 (j + 1) (by omega) (by omega))
              refine J_iload_n dX8_hindersTaken_81 (pc' := 82) rfl rfl ?_
              refine J_beq dX8_hindersTaken_82 (pt := 99) (by decide) (pc' := 85) rfl (fun c82 => ?_) (fun c82 => ?_)
              · refine J_aload_n dX8_hindersTaken_99 (pc' := 100) rfl rfl ?_
                refine J_getr fX8_62 kd_516 rf_516_13 dX8_hindersTaken_100 (pc' := 103) rfl ?_
                refine J_bipush dX8_hindersTaken_103 (pc' := 105) rfl (v := 24) bp_24 ?_
                refine J_iload_n dX8_hindersTaken_105 (pc' := 106) rfl rfl ?_
                refine J_imul dX8_hindersTaken_106 (pc' := 107) rfl ?_
                refine J_top (w := .int (nI (24 * i))) (by rw [dv_n24, pk_mul]) ?_
                refine J_iload_n dX8_hindersTaken_107 (pc' := 108) rfl rfl ?_
                refine J_iadd dX8_hindersTaken_108 (pc' := 109) rfl ?_
                refine J_bald (j := 24 * i + j) kd_524 (nI_add _ _) (by rw [ln_524]; omega) dX8_hindersTaken_109 (pc' := 110) rfl ?_
                exact hj110 _ (by rw [cpy_row _ _ _ _ _ _ _ (by decide) (by decide)]; first | (rw [hI.1.2.1 524 (by decide)]; unfold thn at hj ⊢; rw [if_neg (by rw [c82]; decide)] at hj ⊢; rw [rN1_at (hN i hx).1 hj]; done) | (rw [hI.1.2.1 537 (by decide)]; unfold thn at hj ⊢; rw [if_pos c82] at hj ⊢; rw [rN1_at ((hN i hx).2.2 (show ¬ S.2.1 535 i = 0 by unfold tk at c82; rw [Bool.and_eq_true] at c82; exact of_decide_eq_true c82.1)).1 hj]))
              · refine J_aload_n dX8_hindersTaken_85 (pc' := 86) rfl rfl ?_
                refine J_getr fX8_102 kd_516 rf_516_30 dX8_hindersTaken_86 (pc' := 89) rfl ?_
                refine J_bipush dX8_hindersTaken_89 (pc' := 91) rfl (v := 24) bp_24 ?_
                refine J_iload_n dX8_hindersTaken_91 (pc' := 92) rfl rfl ?_
                refine J_imul dX8_hindersTaken_92 (pc' := 93) rfl ?_
                refine J_top (w := .int (nI (24 * i))) (by rw [dv_n24, pk_mul]) ?_
                refine J_iload_n dX8_hindersTaken_93 (pc' := 94) rfl rfl ?_
                refine J_iadd dX8_hindersTaken_94 (pc' := 95) rfl ?_
                refine J_bald (j := 24 * i + j) kd_537 (nI_add _ _) (by rw [ln_537]; omega) dX8_hindersTaken_95 (pc' := 96) rfl ?_
                refine J_goto dX8_hindersTaken_96 (pc' := 110) (by decide) ?_
                exact hj110 _ (by rw [cpy_row _ _ _ _ _ _ _ (by decide) (by decide)]; first | (rw [hI.1.2.1 524 (by decide)]; unfold thn at hj ⊢; rw [if_neg (by rw [c82]; decide)] at hj ⊢; rw [rN1_at (hN i hx).1 hj]; done) | (rw [hI.1.2.1 537 (by decide)]; unfold thn at hj ⊢; rw [if_pos c82] at hj ⊢; rw [rN1_at ((hN i hx).2.2 (show ¬ S.2.1 535 i = 0 by unfold tk at c82; rw [Bool.and_eq_true] at c82; exact of_decide_eq_true c82.1)).1 hj]))
          refine J_loc (l' := [some (.ref 516), some (.int (nI i)), some (.int (dv_b (tk S i))), some (.int (nI 0))]) (by simp only [nI_0, dv_b_f, dv_b_t]) ?_
          refine J_sto (S' := (cpy S1 538 541 i (thn S RN NN i).length (fun z => (thn S RN NN i).getD z 0) 0)) (cpy_0 _ _ _ _ _ _) ?_
          exact hlp61 0 (Nat.zero_le _) 
        refine J_iload_n dX8_hindersTaken_39 (pc' := 40) rfl rfl ?_
        refine J_beq dX8_hindersTaken_40 (pt := 52) (by decide) (pc' := 43) rfl (fun c40 => ?_) (fun c40 => ?_)
        · refine J_aload_n dX8_hindersTaken_52 (pc' := 53) rfl rfl ?_
          refine J_getr fX8_53 kd_516 rf_516_10 dX8_hindersTaken_53 (pc' := 56) rfl ?_
          refine J_iload_n dX8_hindersTaken_56 (pc' := 57) rfl rfl ?_
          refine J_iald (j := i) kd_521 (rfl) (by rw [ln_521]; omega) dX8_hindersTaken_57 (pc' := 58) rfl ?_
          exact hj58 _ (by first | (rw [thn, if_neg (by rw [c40]; decide), hI.1.2.1 521 (by decide), (hN i hx).1.1]; done) | (rw [thn, if_pos c40, hI.1.2.1 540 (by decide), ((hN i hx).2.2 (show ¬ S.2.1 535 i = 0 by unfold tk at c40; rw [Bool.and_eq_true] at c40; exact of_decide_eq_true c40.1)).1.1]))
        · refine J_aload_n dX8_hindersTaken_43 (pc' := 44) rfl rfl ?_
          refine J_getr fX8_111 kd_516 rf_516_33 dX8_hindersTaken_44 (pc' := 47) rfl ?_
          refine J_iload_n dX8_hindersTaken_47 (pc' := 48) rfl rfl ?_
          refine J_iald (j := i) kd_540 (rfl) (by rw [ln_540]; omega) dX8_hindersTaken_48 (pc' := 49) rfl ?_
          refine J_goto dX8_hindersTaken_49 (pc' := 58) (by decide) ?_
          exact hj58 _ (by first | (rw [thn, if_neg (by rw [c40]; decide), hI.1.2.1 521 (by decide), (hN i hx).1.1]; done) | (rw [thn, if_pos c40, hI.1.2.1 540 (by decide), ((hN i hx).2.2 (show ¬ S.2.1 535 i = 0 by unfold tk at c40; rw [Bool.and_eq_true] at c40; exact of_decide_eq_true c40.1)).1.1]))
      refine J_aload_n dX8_hindersTaken_10 (pc' := 11) rfl rfl ?_
      refine J_getr fX8_95 kd_516 rf_516_28 dX8_hindersTaken_11 (pc' := 14) rfl ?_
      refine J_iload_n dX8_hindersTaken_14 (pc' := 15) rfl rfl ?_
      refine J_zald (j := i) kd_535 (rfl) (by rw [ln_535]; omega) dX8_hindersTaken_15 (pc' := 16) rfl ?_
      refine J_if_eq dX8_hindersTaken_16 (pt := 32) (by decide) (pc' := 19) rfl (fun c16 => ?_) (fun c16 => ?_)
      · refine J_iconst dX8_hindersTaken_32 (pc' := 33) rfl (v := 0) ic_0 ?_
        exact hj33 _ (by unfold tk; rw [← hI.1.2.1 535 (by decide), ← hI.1.2.1 536 (by decide)]; first | (simp [dv_b, c16]; done) | (simp [dv_b, c16, c25]; done))
      · refine J_aload_n dX8_hindersTaken_19 (pc' := 20) rfl rfl ?_
        refine J_getr fX8_99 kd_516 rf_516_29 dX8_hindersTaken_20 (pc' := 23) rfl ?_
        refine J_iload_n dX8_hindersTaken_23 (pc' := 24) rfl rfl ?_
        refine J_zald (j := i) kd_536 (rfl) (by rw [ln_536]; omega) dX8_hindersTaken_24 (pc' := 25) rfl ?_
        refine J_if_eq dX8_hindersTaken_25 (pt := 32) (by decide) (pc' := 28) rfl (fun c25 => ?_) (fun c25 => ?_)
        · refine J_iconst dX8_hindersTaken_32 (pc' := 33) rfl (v := 0) ic_0 ?_
          exact hj33 _ (by unfold tk; rw [← hI.1.2.1 535 (by decide), ← hI.1.2.1 536 (by decide)]; first | (simp [dv_b, c16]; done) | (simp [dv_b, c16, c25]; done))
        · refine J_iconst dX8_hindersTaken_28 (pc' := 29) rfl (v := 1) ic_1 ?_
          refine J_goto dX8_hindersTaken_29 (pc' := 33) (by decide) ?_
          exact hj33 _ (by unfold tk; rw [← hI.1.2.1 535 (by decide), ← hI.1.2.1 536 (by decide)]; first | (simp [dv_b, c16]; done) | (simp [dv_b, c16, c25]; done))
  refine J_loc (l' := [some (.ref 516), some (.int (nI 0)), none, none]) (by simp only [nI_0, dv_b_f, dv_b_t]) ?_
  refine J_sto (S' := S) (rfl) ?_
  exact hlp2 0 (Nat.zero_le _) _ ⟨fr.rf _ _ _, fun j hj => absurd hj (Nat.not_lt_zero j)⟩
