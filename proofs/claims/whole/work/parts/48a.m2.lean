set_option maxRecDepth 100000 in
set_option maxHeartbeats 400000 in
theorem qX8_meaningOf (d : Nat) (S : dv_S) (n sn : Nat) (hm : Nat → Nat) (an : Nat → Nat → Bool) (N : Nat → List Int32) (L : List Int32) (p rw f nr sr : Nat) (hT : rw_T S n) (hS : rw_S S n sn hm an) (hp : p < sn) (hN : rNm S nr sr n N) (hnr : dv_kd nr = 9) (hnl : dv_ln nr = 1920) (hsr : dv_kd sr = 10) (hsl : dv_ln sr = 80) (hrw : dv_kd rw = 9) (hfL : f + L.length ≤ dv_ln rw) (hL : dv_rd (fun z => S.2.1 rw (f + z)) L.length = L)  : dv_M yX8_meaningOf cX8_meaningOf 9 (some .int) (dv_rm (d + 1)) [.ref 516, .int (nI p), .ref rw, .int (nI f), .int (nI (L.length)), .ref nr, .ref sr] S (fun r S' => r = some (.int (dv_oi (cl_tm hm (fun t => an p (hm t) && decide (N t = L)) n))) ∧ S' = S) := by
  have h80 := hT.2
  have h20 := hS.2.1
  have h1 := dv_ln_lt rw
  refine dv_M_of [some (.ref 516), some (.int (nI p)), some (.ref rw), some (.int (nI f)), some (.int (nI (L.length))), some (.ref nr), some (.ref sr), none, none] (by decide) (fun _ _ => Nat.le_of_ble_eq_true rfl) (fun _ _ => rfl) ?_
  refine J_iload_n dX8_meaningOf_0 (pc' := 1) rfl rfl ?_
  refine J_istore dX8_meaningOf_1 (pc' := 3) rfl (by decide) rfl (l' := [some (.ref 516), some (.int (nI p)), some (.ref rw), some (.int (nI f)), some (.int (nI (L.length))), some (.ref nr), some (.ref sr), some (.int (nI p)), none]) rfl ?_
  have hE : (∀ t, t < n → (fun t => an p (hm t) && decide (N t = L)) t = false) → dv_J yX8_meaningOf cX8_meaningOf 9 (some .int) (dv_rm (d + 1)) 0 0 3 [some (.ref 516), some (.int (nI p)), some (.ref rw), some (.int (nI f)), some (.int (nI (L.length))), some (.ref nr), some (.ref sr), some (.int ((-1))), none] [] S (fun r S' => r = some (.int (dv_oi (cl_tm hm (fun t => an p (hm t) && decide (N t = L)) n))) ∧ S' = S) := by
    intro hE0
    refine J_iload dX8_meaningOf_3 (pc' := 5) rfl rfl ?_
    refine J_iconst dX8_meaningOf_5 (pc' := 6) rfl (v := (-1)) ic_m1 ?_
    refine J_icmp_eq dX8_meaningOf_6 (pt := 76) (by decide) (pc' := 9) rfl (fun c6 => ?_) (fun c6 => ?_)
    · refine J_bipush dX8_meaningOf_76 (pc' := 78) rfl (v := (-2)) bp_m2 ?_
      refine J_iret dX8_meaningOf_78 rfl (dv_r1 _) ?_
      exact ⟨by rw [cl_tm_none hE0]; rfl, rfl⟩
    · exact absurd rfl c6
  have hs3 : ∀ s, s < sn → an p s = true → (∀ x, x ≤ s → an p x = an s x) → (∀ t, t < n → (fun t => an p (hm t) && decide (N t = L)) t = true → hm t ≤ s) → dv_J yX8_meaningOf cX8_meaningOf 9 (some .int) (dv_rm (d + 1)) 0 0 3 [some (.ref 516), some (.int (nI p)), some (.ref rw), some (.int (nI f)), some (.int (nI (L.length))), some (.ref nr), some (.ref sr), some (.int (nI s)), none] [] S (fun r S' => r = some (.int (dv_oi (cl_tm hm (fun t => an p (hm t) && decide (N t = L)) n))) ∧ S' = S) := by
    intro s
    induction s using Nat.strongRecOn with
    | _ s ih3 =>
      intro hs ha3 hx3 hc3
      refine J_iload dX8_meaningOf_3 (pc' := 5) rfl rfl ?_
      refine J_iconst dX8_meaningOf_5 (pc' := 6) rfl (v := (-1)) ic_m1 ?_
      refine J_icmp_eq dX8_meaningOf_6 (pt := 76) (by decide) (pc' := 9) rfl (fun c6 => ?_) (fun c6 => ?_)
      · exact absurd c6 (nI_m1 (by omega))
      · refine J_iconst dX8_meaningOf_9 (pc' := 10) rfl (v := 0) ic_0 ?_
        refine J_istore dX8_meaningOf_10 (pc' := 12) rfl (by decide) rfl (l' := [some (.ref 516), some (.int (nI p)), some (.ref rw), some (.int (nI f)), some (.int (nI (L.length))), some (.ref nr), some (.ref sr), some (.int (nI s)), some (.int 0)]) rfl ?_
        have hlp12 : ∀ t, t ≤ n → (∀ j, j < t → ¬ (hm j = s ∧ N j = L)) → dv_J yX8_meaningOf cX8_meaningOf 9 (some .int) (dv_rm (d + 1)) 0 0 12 [some (.ref 516), some (.int (nI p)), some (.ref rw), some (.int (nI f)), some (.int (nI (L.length))), some (.ref nr), some (.ref sr), some (.int (nI s)), some (.int (nI t))] [] S (fun r S' => r = some (.int (dv_oi (cl_tm hm (fun t => an p (hm t) && decide (N t = L)) n))) ∧ S' = S) := by
          refine dv_up (P := fun t => (∀ j, j < t → ¬ (hm j = s ∧ N j = L)) → dv_J yX8_meaningOf cX8_meaningOf 9 (some .int) (dv_rm (d + 1)) 0 0 12 [some (.ref 516), some (.int (nI p)), some (.ref rw), some (.int (nI f)), some (.int (nI (L.length))), some (.ref nr), some (.ref sr), some (.int (nI s)), some (.int (nI t))] [] S (fun r S' => r = some (.int (dv_oi (cl_tm hm (fun t => an p (hm t) && decide (N t = L)) n))) ∧ S' = S)) ?_
          intro t hi12 ih12 hi
          refine J_iload dX8_meaningOf_12 (pc' := 14) rfl rfl ?_
          refine J_aload_n dX8_meaningOf_14 (pc' := 15) rfl rfl ?_
          refine J_geti fX8_120 kd_516 rf_516_5 dX8_meaningOf_15 (pc' := 18) rfl ?_
          refine J_top (w := .int (nI n)) (by rw [hT.1]) ?_
          refine J_icmp_ge dX8_meaningOf_18 (pt := 64) (by decide) (pc' := 21) rfl (fun c18 => ?_) (fun c18 => ?_)
          · have ht := dv_ge hi12 (by omega) c18
            refine J_aload_n dX8_meaningOf_64 (pc' := 65) rfl rfl ?_
            refine J_getr fX8_43 kd_516 rf_516_7 dX8_meaningOf_65 (pc' := 68) rfl ?_
            refine J_iload dX8_meaningOf_68 (pc' := 70) rfl rfl ?_
            refine J_iald (j := s) kd_518 (rfl) (by rw [ln_518]; omega) dX8_meaningOf_70 (pc' := 71) rfl ?_
            refine J_istore dX8_meaningOf_71 (pc' := 73) rfl (by decide) rfl (l' := [some (.ref 516), some (.int (nI p)), some (.ref rw), some (.int (nI f)), some (.int (nI (L.length))), some (.ref nr), some (.ref sr), some (.int (S.2.1 518 s)), some (.int (nI t))]) rfl ?_
            refine J_goto dX8_meaningOf_73 (pc' := 3) (by decide) ?_
            refine J_drop 8 (l' := [some (.ref 516), some (.int (nI p)), some (.ref rw), some (.int (nI f)), some (.int (nI (L.length))), some (.ref nr), some (.ref sr), some (.int (S.2.1 518 s)), none]) rfl ?_
            have hi0 : ∀ j, j < n → ¬ (hm j = s ∧ N j = L) := fun j hj => hi j (by omega)
            rcases (hS.2.2.2 s hs).2.2 with ⟨e, hq⟩ | ⟨r, hr, e, hq⟩
            · exact J_loc (l' := [some (.ref 516), some (.int (nI p)), some (.ref rw), some (.int (nI f)), some (.int (nI (L.length))), some (.ref nr), some (.ref sr), some (.int ((-1))), none]) (by rw [e]) (hE (mo_1 hS hx3 hc3 hi0 hq))
            · obtain ⟨a1, a2, a3⟩ := mo_2 hS hs hx3 hc3 hi0 hr hq
              exact J_loc (l' := [some (.ref 516), some (.int (nI p)), some (.ref rw), some (.int (nI f)), some (.int (nI (L.length))), some (.ref nr), some (.ref sr), some (.int (nI r)), none]) (by rw [e]) (ih3 r hr (by omega) a1 a2 a3)
          · have ht := dv_nge hi12 (by omega) c18
            have hht := (hS.2.2.1 t ht).2
            refine J_aload_n dX8_meaningOf_21 (pc' := 22) rfl rfl ?_
            refine J_getr fX8_47 kd_516 rf_516_8 dX8_meaningOf_22 (pc' := 25) rfl ?_
            refine J_iload dX8_meaningOf_25 (pc' := 27) rfl rfl ?_
            refine J_iald (j := t) kd_519 (rfl) (by rw [ln_519]; omega) dX8_meaningOf_27 (pc' := 28) rfl ?_
            refine J_top (w := .int (nI (hm t))) (by rw [(hS.2.2.1 t ht).1]) ?_
            refine J_iload dX8_meaningOf_28 (pc' := 30) rfl rfl ?_
            refine J_icmp_ne dX8_meaningOf_30 (pt := 58) (by decide) (pc' := 33) rfl (fun c30 => ?_) (fun c30 => ?_)
            · rw [nI_eq (by omega) (by omega)] at c30
              refine J_iinc dX8_meaningOf_58 (pc' := 61) rfl rfl (v := nI (t + 1)) (nI_1 t) (by decide) rfl (l' := [some (.ref 516), some (.int (nI p)), some (.ref rw), some (.int (nI f)), some (.int (nI (L.length))), some (.ref nr), some (.ref sr), some (.int (nI s)), some (.int (nI (t + 1)))]) rfl ?_
              refine J_goto dX8_meaningOf_61 (pc' := 12) (by decide) ?_
              refine ih12 (t + 1) (by omega) (by omega) (lt_s hi ?_)
              first | exact (fun q => c30 q.1) | exact (fun q => of_decide_eq_false c52 q.2)
            · rw [nI_eq (by omega) (by omega)] at c30
              refine J_aload dX8_meaningOf_33 (pc' := 35) rfl rfl ?_
              refine J_bipush dX8_meaningOf_35 (pc' := 37) rfl (v := 24) bp_24 ?_
              refine J_iload dX8_meaningOf_37 (pc' := 39) rfl rfl ?_
              refine J_imul dX8_meaningOf_39 (pc' := 40) rfl ?_
              refine J_top (w := .int (nI (24 * t))) (by rw [dv_n24, pk_mul]) ?_
              refine J_aload dX8_meaningOf_40 (pc' := 42) rfl rfl ?_
              refine J_iload dX8_meaningOf_42 (pc' := 44) rfl rfl ?_
              refine J_iald (j := t) hsr (rfl) (by omega) dX8_meaningOf_44 (pc' := 45) rfl ?_
              refine J_top (w := .int (nI ((N t).length))) (by rw [(hN t ht).1]) ?_
              refine J_aload_n dX8_meaningOf_45 (pc' := 46) rfl rfl ?_
              refine J_iload_n dX8_meaningOf_46 (pc' := 47) rfl rfl ?_
              refine J_iload dX8_meaningOf_47 (pc' := 49) rfl rfl ?_
              refine J_s1 (As := [.ref nr, .int (nI (24 * t)), .int (nI ((N t).length)), .ref rw, .int (nI f), .int (nI (L.length))]) (rest := []) (qX8_isSame _ _ nr (24 * t) (N t).length rw f L.length hnr hrw (by have := (hN t ht).2.1; omega) hfL) vX8_isSame mX8_133 dX8_meaningOf_49 (pc' := 52) rfl rfl (Nat.le_of_ble_eq_true rfl) (by decide) ?_
              refine J_top (w := .int (dv_b (decide (N t = L)))) (by rw [(hN t ht).2.2, hL]) ?_
              refine J_beq dX8_meaningOf_52 (pt := 58) (by decide) (pc' := 55) rfl (fun c52 => ?_) (fun c52 => ?_)
              · refine J_iinc dX8_meaningOf_58 (pc' := 61) rfl rfl (v := nI (t + 1)) (nI_1 t) (by decide) rfl (l' := [some (.ref 516), some (.int (nI p)), some (.ref rw), some (.int (nI f)), some (.int (nI (L.length))), some (.ref nr), some (.ref sr), some (.int (nI s)), some (.int (nI (t + 1)))]) rfl ?_
                refine J_goto dX8_meaningOf_61 (pc' := 12) (by decide) ?_
                refine ih12 (t + 1) (by omega) (by omega) (lt_s hi ?_)
                first | exact (fun q => c30 q.1) | exact (fun q => of_decide_eq_false c52 q.2)
              · refine J_iload dX8_meaningOf_55 (pc' := 57) rfl rfl ?_
                refine J_iret dX8_meaningOf_57 rfl (dv_r1 _) ?_
                exact ⟨by rw [mo_3 ha3 hc3 ht c30 (of_decide_eq_true c52) hi]; rfl, rfl⟩
        refine J_loc (l' := [some (.ref 516), some (.int (nI p)), some (.ref rw), some (.int (nI f)), some (.int (nI (L.length))), some (.ref nr), some (.ref sr), some (.int (nI s)), some (.int (nI 0))]) (by simp only [nI_0, dv_b_f, dv_b_t]) ?_
        exact hlp12 0 (Nat.zero_le _) (fun j hj => absurd hj (Nat.not_lt_zero j))
  refine J_loc (l' := [some (.ref 516), some (.int (nI p)), some (.ref rw), some (.int (nI f)), some (.int (nI (L.length))), some (.ref nr), some (.ref sr), some (.int (nI p)), none]) (rfl) ?_
  exact hs3 p hp (hS.2.2.2 p hp).1 (fun x _ => rfl) (fun t ht hk => (hS.2.2.2 p hp).2.1 _ (hS.2.2.1 t ht).2 (by have h := hk; simp only [Bool.and_eq_true] at h; exact h.1))
set_option maxRecDepth 100000 in
set_option maxHeartbeats 400000 in
theorem qX8_takesUse (d : Nat) (S : dv_S) (n sn : Nat) (hm : Nat → Nat) (an : Nat → Nat → Bool) (N : Nat → List Int32) (L : List Int32) (un : Nat) (us ut : Nat → Nat) (q : Nat) (hT : rw_T S n) (hS : rw_S S n sn hm an) (hU : rw_U S n sn un us ut) (hA : ∀ u, u < un → an (us u) (hm (ut u)) = true) (hq : q < sn) (hN : rNm S 524 521 n N) (hL2 : L.length ≤ 200) (hL : dv_rd (fun z => S.2.1 517 (0 + z)) L.length = L)  : dv_M yX8_takesUse cX8_takesUse 7 (some .boolean) (dv_rm (d + 1)) [.ref 516, .int (nI q), .int (nI (L.length))] S (fun r S' => r = some (.int (dv_b (dv_fo (fun u => decide (hm (ut u) < q) && an (us u) q && decide (N (ut u) = L)) un).isSome)) ∧ S' = S) := by
  have h80 := hT.2
  have h20 := hS.2.1
  have h150 := hU.2.1
  refine dv_M_of [some (.ref 516), some (.int (nI q)), some (.int (nI (L.length))), none, none, none, none] (by decide) (fun _ _ => Nat.le_of_ble_eq_true rfl) (fun _ _ => rfl) ?_
  refine J_iconst dX8_takesUse_0 (pc' := 1) rfl (v := 0) ic_0 ?_
  refine J_istore_n dX8_takesUse_1 (pc' := 2) rfl rfl (by decide) rfl (l' := [some (.ref 516), some (.int (nI q)), some (.int (nI (L.length))), some (.int 0), none, none, none]) rfl ?_
  have hlp2 : ∀ u, u ≤ un → (∀ j, j < u → (fun u => decide (hm (ut u) < q) && an (us u) q && decide (N (ut u) = L)) j = false) → dv_J yX8_takesUse cX8_takesUse 7 (some .boolean) (dv_rm (d + 1)) 0 0 2 [some (.ref 516), some (.int (nI q)), some (.int (nI (L.length))), some (.int (nI u)), none, none, none] [] S (fun r S' => r = some (.int (dv_b (dv_fo (fun u => decide (hm (ut u) < q) && an (us u) q && decide (N (ut u) = L)) un).isSome)) ∧ S' = S) := by
    refine dv_up (P := fun u => (∀ j, j < u → (fun u => decide (hm (ut u) < q) && an (us u) q && decide (N (ut u) = L)) j = false) → dv_J yX8_takesUse cX8_takesUse 7 (some .boolean) (dv_rm (d + 1)) 0 0 2 [some (.ref 516), some (.int (nI q)), some (.int (nI (L.length))), some (.int (nI u)), none, none, none] [] S (fun r S' => r = some (.int (dv_b (dv_fo (fun u => decide (hm (ut u) < q) && an (us u) q && decide (N (ut u) = L)) un).isSome)) ∧ S' = S)) ?_
    intro u hi2 ih2 hqq
    refine J_iload_n dX8_takesUse_2 (pc' := 3) rfl rfl ?_
    refine J_aload_n dX8_takesUse_3 (pc' := 4) rfl rfl ?_
    refine J_geti fX8_137 kd_516 rf_516_6 dX8_takesUse_4 (pc' := 7) rfl ?_
    refine J_top (w := .int (nI un)) (by rw [hU.1]) ?_
    refine J_icmp_ge dX8_takesUse_7 (pt := 115) (by decide) (pc' := 10) rfl (fun c7 => ?_) (fun c7 => ?_)
    · have hu := dv_ge hi2 (by omega) c7
      refine J_iconst dX8_takesUse_115 (pc' := 116) rfl (v := 0) ic_0 ?_
      refine J_zret dX8_takesUse_116 rfl (by decide) (dv_r1 _) ?_
      exact ⟨by rw [dv_fo_none (fun j hj => hqq j (by omega))]; rfl, rfl⟩
    · have hu := dv_nge hi2 (by omega) c7
      have hut := (hU.2.2 u hu).2.2.2
      have hus := (hU.2.2 u hu).2.1
      have hht := (hS.2.2.1 _ hut).2
      refine J_aload_n dX8_takesUse_10 (pc' := 11) rfl rfl ?_
      refine J_getr fX8_59 kd_516 rf_516_12 dX8_takesUse_11 (pc' := 14) rfl ?_
      refine J_iload_n dX8_takesUse_14 (pc' := 15) rfl rfl ?_
      refine J_iald (j := u) kd_523 (rfl) (by rw [ln_523]; omega) dX8_takesUse_15 (pc' := 16) rfl ?_
      refine J_top (w := .int (nI (ut u))) (by rw [(hU.2.2 u hu).2.2.1]) ?_
      refine J_istore dX8_takesUse_16 (pc' := 18) rfl (by decide) rfl (l' := [some (.ref 516), some (.int (nI q)), some (.int (nI (L.length))), some (.int (nI u)), some (.int (nI (ut u))), none, none]) rfl ?_
      refine J_aload_n dX8_takesUse_18 (pc' := 19) rfl rfl ?_
      refine J_getr fX8_62 kd_516 rf_516_13 dX8_takesUse_19 (pc' := 22) rfl ?_
      refine J_bipush dX8_takesUse_22 (pc' := 24) rfl (v := 24) bp_24 ?_
      refine J_iload dX8_takesUse_24 (pc' := 26) rfl rfl ?_
      refine J_imul dX8_takesUse_26 (pc' := 27) rfl ?_
      refine J_top (w := .int (nI (24 * ut u))) (by rw [dv_n24, pk_mul]) ?_
      refine J_aload_n dX8_takesUse_27 (pc' := 28) rfl rfl ?_
      refine J_getr fX8_53 kd_516 rf_516_10 dX8_takesUse_28 (pc' := 31) rfl ?_
      refine J_iload dX8_takesUse_31 (pc' := 33) rfl rfl ?_
      refine J_iald (j := ut u) kd_521 (rfl) (by rw [ln_521]; omega) dX8_takesUse_33 (pc' := 34) rfl ?_
      refine J_top (w := .int (nI ((N (ut u)).length))) (by rw [(hN _ hut).1]) ?_
      refine J_aload_n dX8_takesUse_34 (pc' := 35) rfl rfl ?_
      refine J_getr fX8_13 kd_516 rf_516_2 dX8_takesUse_35 (pc' := 38) rfl ?_
      refine J_iconst dX8_takesUse_38 (pc' := 39) rfl (v := 0) ic_0 ?_
      refine J_top (w := .int (nI 0)) (by rw [nI_0]) ?_
      refine J_iload_n dX8_takesUse_39 (pc' := 40) rfl rfl ?_
      refine J_s1 (As := [.ref 524, .int (nI (24 * ut u)), .int (nI ((N (ut u)).length)), .ref 517, .int (nI 0), .int (nI (L.length))]) (rest := []) (qX8_isSame _ _ 524 (24 * ut u) (N (ut u)).length 517 0 L.length kd_524 kd_517 (by rw [ln_524]; have := (hN _ hut).2.1; omega) (by rw [ln_517]; omega)) vX8_isSame mX8_133 dX8_takesUse_40 (pc' := 43) rfl rfl (Nat.le_of_ble_eq_true rfl) (by decide) ?_
      refine J_top (w := .int (dv_b (decide (N (ut u) = L)))) (by rw [(hN _ hut).2.2, hL]) ?_
      refine J_bne dX8_takesUse_43 (pt := 49) (by decide) (pc' := 46) rfl (fun c43 => ?_) (fun c43 => ?_)
      · refine J_iconst dX8_takesUse_49 (pc' := 50) rfl (v := 0) ic_0 ?_
        refine J_istore dX8_takesUse_50 (pc' := 52) rfl (by decide) rfl (l' := [some (.ref 516), some (.int (nI q)), some (.int (nI (L.length))), some (.int (nI u)), some (.int (nI (ut u))), some (.int 0), none]) rfl ?_
        refine J_aload_n dX8_takesUse_52 (pc' := 53) rfl rfl ?_
        refine J_getr fX8_56 kd_516 rf_516_11 dX8_takesUse_53 (pc' := 56) rfl ?_
        refine J_iload_n dX8_takesUse_56 (pc' := 57) rfl rfl ?_
        refine J_iald (j := u) kd_522 (rfl) (by rw [ln_522]; omega) dX8_takesUse_57 (pc' := 58) rfl ?_
        refine J_top (w := .int (nI (us u))) (by rw [(hU.2.2 u hu).1]) ?_
        refine J_istore dX8_takesUse_58 (pc' := 60) rfl (by decide) rfl (l' := [some (.ref 516), some (.int (nI q)), some (.int (nI (L.length))), some (.int (nI u)), some (.int (nI (ut u))), some (.int 0), some (.int (nI (us u)))]) rfl ?_
        have hs60 : ∀ s, s < sn → an (us u) s = true → (∀ x, x ≤ s → an (us u) x = an s x) → hm (ut u) ≤ s → dv_J yX8_takesUse cX8_takesUse 7 (some .boolean) (dv_rm (d + 1)) 0 0 60 [some (.ref 516), some (.int (nI q)), some (.int (nI (L.length))), some (.int (nI u)), some (.int (nI (ut u))), some (.int (dv_b (an (us u) q && decide (s < q)))), some (.int (nI s))] [] S (fun r S' => r = some (.int (dv_b (dv_fo (fun u => decide (hm (ut u) < q) && an (us u) q && decide (N (ut u) = L)) un).isSome)) ∧ S' = S) := by
          intro s
          induction s using Nat.strongRecOn with
          | _ s ih60 =>
            intro hs ha6 hx6 hh6
            refine J_iload dX8_takesUse_60 (pc' := 62) rfl rfl ?_
            refine J_aload_n dX8_takesUse_62 (pc' := 63) rfl rfl ?_
            refine J_getr fX8_47 kd_516 rf_516_8 dX8_takesUse_63 (pc' := 66) rfl ?_
            refine J_iload dX8_takesUse_66 (pc' := 68) rfl rfl ?_
            refine J_iald (j := ut u) kd_519 (rfl) (by rw [ln_519]; omega) dX8_takesUse_68 (pc' := 69) rfl ?_
            refine J_top (w := .int (nI (hm (ut u)))) (by rw [(hS.2.2.1 _ hut).1]) ?_
            refine J_icmp_eq dX8_takesUse_69 (pt := 102) (by decide) (pc' := 72) rfl (fun c69 => ?_) (fun c69 => ?_)
            · rw [nI_eq (by omega) (by omega)] at c69
              refine J_iload dX8_takesUse_102 (pc' := 104) rfl rfl ?_
              refine J_beq dX8_takesUse_104 (pt := 109) (by decide) (pc' := 107) rfl (fun c104 => ?_) (fun c104 => ?_)
              · refine J_iinc dX8_takesUse_109 (pc' := 112) rfl rfl (v := nI (u + 1)) (nI_1 u) (by decide) rfl (l' := [some (.ref 516), some (.int (nI q)), some (.int (nI (L.length))), some (.int (nI (u + 1))), some (.int (nI (ut u))), some (.int (dv_b (an (us u) q && decide (s < q)))), some (.int (nI s))]) rfl ?_
                refine J_goto dX8_takesUse_112 (pc' := 2) (by decide) ?_
                refine J_drop 4 (l' := [some (.ref 516), some (.int (nI q)), some (.int (nI (L.length))), some (.int (nI (u + 1))), none, some (.int (dv_b (an (us u) q && decide (s < q)))), some (.int (nI s))]) rfl ?_
                refine J_drop 5 (l' := [some (.ref 516), some (.int (nI q)), some (.int (nI (L.length))), some (.int (nI (u + 1))), none, none, some (.int (nI s))]) rfl ?_
                refine J_drop 6 (l' := [some (.ref 516), some (.int (nI q)), some (.int (nI (L.length))), some (.int (nI (u + 1))), none, none, none]) rfl ?_
                refine ih2 (u + 1) (by omega) (by omega) (lt_s hqq ?_)
                clear ih2 hqq
                first | (simp only [c43, Bool.and_false]; done) | (subst c69; rw [Bool.and_eq_false_iff] at c104; rcases c104 with z | z <;> simp [z])
              · refine J_iconst dX8_takesUse_107 (pc' := 108) rfl (v := 1) ic_1 ?_
                refine J_zret dX8_takesUse_108 rfl (by decide) (dv_r1 _) ?_
                subst c69
                rw [Bool.and_eq_true] at c104
                exact ⟨by rw [dv_fo_yes hu (by simp only [c43, c104.1, c104.2, Bool.and_self])]; rfl, rfl⟩
            · rw [nI_eq (by omega) (by omega)] at c69
              have hj88 : ∀ v : Int32, (dv_b ((an (us u) q && decide (s < q)) || decide (s = q))) = v → dv_J yX8_takesUse cX8_takesUse 7 (some .boolean) (dv_rm (d + 1)) 0 0 88 [some (.ref 516), some (.int (nI q)), some (.int (nI (L.length))), some (.int (nI u)), some (.int (nI (ut u))), some (.int (dv_b (an (us u) q && decide (s < q)))), some (.int (nI s))] [.int v] S (fun r S' => r = some (.int (dv_b (dv_fo (fun u => decide (hm (ut u) < q) && an (us u) q && decide (N (ut u) = L)) un).isSome)) ∧ S' = S) := by
                intro v hv
                subst hv
                refine J_istore dX8_takesUse_88 (pc' := 90) rfl (by decide) rfl (l' := [some (.ref 516), some (.int (nI q)), some (.int (nI (L.length))), some (.int (nI u)), some (.int (nI (ut u))), some (.int (dv_b ((an (us u) q && decide (s < q)) || decide (s = q)))), some (.int (nI s))]) rfl ?_
                refine J_aload_n dX8_takesUse_90 (pc' := 91) rfl rfl ?_
                refine J_getr fX8_43 kd_516 rf_516_7 dX8_takesUse_91 (pc' := 94) rfl ?_
                refine J_iload dX8_takesUse_94 (pc' := 96) rfl rfl ?_
                refine J_iald (j := s) kd_518 (rfl) (by rw [ln_518]; omega) dX8_takesUse_96 (pc' := 97) rfl ?_
                refine J_istore dX8_takesUse_97 (pc' := 99) rfl (by decide) rfl (l' := [some (.ref 516), some (.int (nI q)), some (.int (nI (L.length))), some (.int (nI u)), some (.int (nI (ut u))), some (.int (dv_b ((an (us u) q && decide (s < q)) || decide (s = q)))), some (.int (S.2.1 518 s))]) rfl ?_
                refine J_goto dX8_takesUse_99 (pc' := 60) (by decide) ?_
                rcases (hS.2.2.2 s hs).2.2 with ⟨e, hy⟩ | ⟨r, hr, e, hy⟩
                · exact absurd (hy (hm (ut u)) hht (fun z => c69 z.symm)) (by rw [← hx6 _ hh6, hA u hu]; decide)
                · obtain ⟨a1, a2, a3, a4⟩ := mt_1 (q := q) hS.2.2.2 hs hq hht hx6 ha6 (hA u hu) hh6 c69 hr hy
                  exact J_loc (l' := [some (.ref 516), some (.int (nI q)), some (.int (nI (L.length))), some (.int (nI u)), some (.int (nI (ut u))), some (.int (dv_b (an (us u) q && decide (r < q)))), some (.int (nI r))]) (by rw [e, a4]) (ih60 r hr (by omega) a2 a3 a1)
              refine J_iload dX8_takesUse_72 (pc' := 74) rfl rfl ?_
              refine J_bne dX8_takesUse_74 (pt := 83) (by decide) (pc' := 77) rfl (fun c74 => ?_) (fun c74 => ?_)
              · refine J_iconst dX8_takesUse_83 (pc' := 84) rfl (v := 1) ic_1 ?_
                refine J_goto dX8_takesUse_84 (pc' := 88) (by decide) ?_
                exact hj88 _ (by first | (simp only [dv_b, c74, Bool.true_or]; rfl) | (simp only [dv_b, c74, decide_eq_true c80]; rfl) | (simp only [dv_b, c74, decide_eq_false c80]; rfl))
              · refine J_iload dX8_takesUse_77 (pc' := 79) rfl rfl ?_
                refine J_iload_n dX8_takesUse_79 (pc' := 80) rfl rfl ?_
                refine J_icmp_ne dX8_takesUse_80 (pt := 87) (by decide) (pc' := 83) rfl (fun c80 => ?_) (fun c80 => ?_)
                · rw [nI_eq (by omega) (by omega)] at c80
                  refine J_iconst dX8_takesUse_87 (pc' := 88) rfl (v := 0) ic_0 ?_
                  exact hj88 _ (by first | (simp only [dv_b, c74, Bool.true_or]; rfl) | (simp only [dv_b, c74, decide_eq_true c80]; rfl) | (simp only [dv_b, c74, decide_eq_false c80]; rfl))
                · rw [nI_eq (by omega) (by omega)] at c80
                  refine J_iconst dX8_takesUse_83 (pc' := 84) rfl (v := 1) ic_1 ?_
                  refine J_goto dX8_takesUse_84 (pc' := 88) (by decide) ?_
                  exact hj88 _ (by first | (simp only [dv_b, c74, Bool.true_or]; rfl) | (simp only [dv_b, c74, decide_eq_true c80]; rfl) | (simp only [dv_b, c74, decide_eq_false c80]; rfl))
        refine J_loc (l' := [some (.ref 516), some (.int (nI q)), some (.int (nI (L.length))), some (.int (nI u)), some (.int (nI (ut u))), some (.int (dv_b (an (us u) q && decide ((us u) < q)))), some (.int (nI (us u)))]) (by
          have e : (an (us u) q && decide (us u < q)) = false := by
            cases hk : an (us u) q with
            | false => rfl
            | true => have := (hS.2.2.2 _ hus).2.1 q hq hk; rw [decide_eq_false (by omega)]; rfl
          rw [e]; rfl) ?_
        exact hs60 (us u) hus (hS.2.2.2 _ hus).1 (fun x _ => rfl) ((hS.2.2.2 _ hus).2.1 _ hht (hA u hu))
      · refine J_goto dX8_takesUse_46 (pc' := 109) (by decide) ?_
        refine J_iinc dX8_takesUse_109 (pc' := 112) rfl rfl (v := nI (u + 1)) (nI_1 u) (by decide) rfl (l' := [some (.ref 516), some (.int (nI q)), some (.int (nI (L.length))), some (.int (nI (u + 1))), some (.int (nI (ut u))), none, none]) rfl ?_
        refine J_goto dX8_takesUse_112 (pc' := 2) (by decide) ?_
        refine J_drop 4 (l' := [some (.ref 516), some (.int (nI q)), some (.int (nI (L.length))), some (.int (nI (u + 1))), none, none, none]) rfl ?_
        refine ih2 (u + 1) (by omega) (by omega) (lt_s hqq ?_)
        clear ih2 hqq
        first | (simp only [c43, Bool.and_false]; done) | (subst c69; rw [Bool.and_eq_false_iff] at c104; rcases c104 with z | z <;> simp [z])
  refine J_loc (l' := [some (.ref 516), some (.int (nI q)), some (.int (nI (L.length))), some (.int (nI 0)), none, none, none]) (by simp only [nI_0, dv_b_f, dv_b_t]) ?_
  exact hlp2 0 (Nat.zero_le _) (fun j hj => absurd hj (Nat.not_lt_zero j))
