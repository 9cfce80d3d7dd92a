set_option maxRecDepth 100000 in
set_option maxHeartbeats 400000 in
theorem qX7_wouldCatchUse (d : Nat) (S : dv_S) (n sn un o q : Nat) (th : Bool) (hT : cw_T S n) (hS : cw_S S n sn) (hU : cw_U S n sn un) (hq : q < sn) (ho : dv_kd o = 4 ∧ dv_kd (o + 1) = 10 ∧ dv_ln (o + 1) = 24) (hto : tl S o) : dv_M yX7_wouldCatchUse cX7_wouldCatchUse 6 (some .boolean) (dv_rm (d + 3)) [.ref 0, .int (nI q), .ref o, .int (dv_b th)] S (fun r S' => r = some (.int (dv_b (dv_fo (fun u => decide (hmS S (utS S u) < q) && wi S (usS S u) q && decide (tx S (nn S th (utS S u)) = tx S o)) un).isSome)) ∧ S' = S) := by
  have h80 := hT.2.1
  have h20 := hS.2.1
  have h150 := hU.2.1
  refine dv_M_of [some (.ref 0), some (.int (nI q)), some (.ref o), some (.int (dv_b th)), none, none] (by decide) (fun _ _ => Nat.le_of_ble_eq_true rfl) (fun _ _ => rfl) ?_
  refine J_iconst dX7_wouldCatchUse_0 (pc' := 1) rfl (v := 0) ic_0 ?_
  refine J_istore dX7_wouldCatchUse_1 (pc' := 3) rfl (by decide) rfl (l' := [some (.ref 0), some (.int (nI q)), some (.ref o), some (.int (dv_b th)), some (.int 0), none]) rfl ?_
  have hlp3 : ∀ i, i ≤ un → (∀ j, j < i → (fun u => decide (hmS S (utS S u) < q) && wi S (usS S u) q && decide (tx S (nn S th (utS S u)) = tx S o)) j = false) → dv_J yX7_wouldCatchUse cX7_wouldCatchUse 6 (some .boolean) (dv_rm (d + 3)) 0 0 3 [some (.ref 0), some (.int (nI q)), some (.ref o), some (.int (dv_b th)), some (.int (nI i)), none] [] S (fun r S' => r = some (.int (dv_b (dv_fo (fun u => decide (hmS S (utS S u) < q) && wi S (usS S u) q && decide (tx S (nn S th (utS S u)) = tx S o)) un).isSome)) ∧ S' = S) := by
    refine dv_up (P := fun i => (∀ j, j < i → (fun u => decide (hmS S (utS S u) < q) && wi S (usS S u) q && decide (tx S (nn S th (utS S u)) = tx S o)) j = false) → dv_J yX7_wouldCatchUse cX7_wouldCatchUse 6 (some .boolean) (dv_rm (d + 3)) 0 0 3 [some (.ref 0), some (.int (nI q)), some (.ref o), some (.int (dv_b th)), some (.int (nI i)), none] [] S (fun r S' => r = some (.int (dv_b (dv_fo (fun u => decide (hmS S (utS S u) < q) && wi S (usS S u) q && decide (tx S (nn S th (utS S u)) = tx S o)) un).isSome)) ∧ S' = S)) ?_
    intro i hi3 ih3 hqq
    refine J_iload dX7_wouldCatchUse_3 (pc' := 5) rfl rfl ?_
    refine J_aload_n dX7_wouldCatchUse_5 (pc' := 6) rfl rfl ?_
    refine J_getr fX7_58 kd_0 rf_0_8 dX7_wouldCatchUse_6 (pc' := 9) rfl ?_
    refine J_v1 (As := []) (rest := [.int (nI i)]) (qX6_size _ _) vX6_size mX7_207 kd_185 dX7_wouldCatchUse_9 (pc' := 12) rfl rfl (Nat.le_of_ble_eq_true rfl) (by decide) ?_
    refine J_top (w := .int (nI un)) (by rw [hU.1]) ?_
    refine J_icmp_ge dX7_wouldCatchUse_12 (pt := 81) (by decide) (pc' := 15) rfl (fun c12 => ?_) (fun c12 => ?_)
    · have hx := dv_ge hi3 (by omega) c12
      refine J_iconst dX7_wouldCatchUse_81 (pc' := 82) rfl (v := 0) ic_0 ?_
      refine J_zret dX7_wouldCatchUse_82 rfl (by decide) (dv_r1 _) ?_
      exact ⟨by rw [dv_fo_none (fun j hj => hqq j (by omega))]; rfl, rfl⟩
    · have hx := dv_nge hi3 (by omega) c12
      have hu := hU.2.2 i hx
      have hut : utS S i < n := hu.2.2.2
      have hus : usS S i < sn := hu.2.1
      have hhm : hmS S (utS S i) < sn := (hS.2.2 _ hut).2
      refine J_aload_n dX7_wouldCatchUse_15 (pc' := 16) rfl rfl ?_
      refine J_getr fX7_58 kd_0 rf_0_8 dX7_wouldCatchUse_16 (pc' := 19) rfl ?_
      refine J_iload dX7_wouldCatchUse_19 (pc' := 21) rfl rfl ?_
      refine J_v1 (As := [.int (nI i)]) (rest := []) (qX6_thingOf _ _ i un hU.1 hx h150) vX6_thingOf mX7_195 kd_185 dX7_wouldCatchUse_21 (pc' := 24) rfl rfl (Nat.le_of_ble_eq_true rfl) (by decide) ?_
      refine J_top (w := .int (nI (utS S i))) (congrArg Value.int hu.2.2.1) ?_
      refine J_istore dX7_wouldCatchUse_24 (pc' := 26) rfl (by decide) rfl (l' := [some (.ref 0), some (.int (nI q)), some (.ref o), some (.int (dv_b th)), some (.int (nI i)), some (.int (nI (utS S i)))]) rfl ?_
      refine J_iload_n dX7_wouldCatchUse_26 (pc' := 27) rfl rfl ?_
      refine J_aload_n dX7_wouldCatchUse_27 (pc' := 28) rfl rfl ?_
      refine J_getr fX7_51 kd_0 rf_0_7 dX7_wouldCatchUse_28 (pc' := 31) rfl ?_
      refine J_iload dX7_wouldCatchUse_31 (pc' := 33) rfl rfl ?_
      refine J_v1 (As := [.int (nI (utS S i))]) (rest := [.int (nI q)]) (qX5_scopeOf _ _ (utS S i) n hT.1 hut h80) vX5_scopeOf mX7_161 kd_21 dX7_wouldCatchUse_33 (pc' := 36) rfl rfl (Nat.le_of_ble_eq_true rfl) (by decide) ?_
      refine J_top (w := .int (nI (hmS S (utS S i)))) (congrArg Value.int (hS.2.2 _ hut).1) ?_
      refine J_icmp_le dX7_wouldCatchUse_36 (pt := 75) (by decide) (pc' := 39) rfl (fun c36 => ?_) (fun c36 => ?_)
      · rw [nI_leI (by omega) (by omega)] at c36
        refine J_iinc dX7_wouldCatchUse_75 (pc' := 78) rfl rfl (v := nI (i + 1)) (nI_1 i) (by decide) rfl (l' := [some (.ref 0), some (.int (nI q)), some (.ref o), some (.int (dv_b th)), some (.int (nI (i + 1))), some (.int (nI (utS S i)))]) rfl ?_
        refine J_goto dX7_wouldCatchUse_78 (pc' := 3) (by decide) ?_
        refine J_drop 5 (l' := [some (.ref 0), some (.int (nI q)), some (.ref o), some (.int (dv_b th)), some (.int (nI (i + 1))), none]) rfl ?_
        refine ih3 (i + 1) (by omega) (by omega) (lt_s hqq ?_)
        clear ih3 hqq
        first | (simp only [decide_eq_false (show ¬ hmS S (utS S i) < q by omega), Bool.false_and]; done) | (simp [c56]; done) | (simp [c70]; done)
      · rw [nI_leI (by omega) (by omega)] at c36
        refine J_aload_n dX7_wouldCatchUse_39 (pc' := 40) rfl rfl ?_
        refine J_getr fX7_44 kd_0 rf_0_6 dX7_wouldCatchUse_40 (pc' := 43) rfl ?_
        refine J_aload_n dX7_wouldCatchUse_43 (pc' := 44) rfl rfl ?_
        refine J_getr fX7_58 kd_0 rf_0_8 dX7_wouldCatchUse_44 (pc' := 47) rfl ?_
        refine J_iload dX7_wouldCatchUse_47 (pc' := 49) rfl rfl ?_
        refine J_v1 (As := [.int (nI i)]) (rest := [.ref 19]) (qX6_scopeOf _ _ i un hU.1 hx h150) vX6_scopeOf mX7_194 kd_185 dX7_wouldCatchUse_49 (pc' := 52) rfl rfl (Nat.le_of_ble_eq_true rfl) (by decide) ?_
        refine J_top (w := .int (nI (usS S i))) (congrArg Value.int hu.1) ?_
        refine J_iload_n dX7_wouldCatchUse_52 (pc' := 53) rfl rfl ?_
        refine J_v1 (As := [.int (nI (usS S i)), .int (nI q)]) (rest := []) (qX3_isWithin _ _ (usS S i) q sn hS.1 hus hq h20) vX3_isWithin mX7_208 kd_19 dX7_wouldCatchUse_53 (pc' := 56) rfl rfl (Nat.le_of_ble_eq_true rfl) (by decide) ?_
        refine J_beq dX7_wouldCatchUse_56 (pt := 75) (by decide) (pc' := 59) rfl (fun c56 => ?_) (fun c56 => ?_)
        · have c56 : wi S (usS S i) q = false := c56
          refine J_iinc dX7_wouldCatchUse_75 (pc' := 78) rfl rfl (v := nI (i + 1)) (nI_1 i) (by decide) rfl (l' := [some (.ref 0), some (.int (nI q)), some (.ref o), some (.int (dv_b th)), some (.int (nI (i + 1))), some (.int (nI (utS S i)))]) rfl ?_
          refine J_goto dX7_wouldCatchUse_78 (pc' := 3) (by decide) ?_
          refine J_drop 5 (l' := [some (.ref 0), some (.int (nI q)), some (.ref o), some (.int (dv_b th)), some (.int (nI (i + 1))), none]) rfl ?_
          refine ih3 (i + 1) (by omega) (by omega) (lt_s hqq ?_)
          clear ih3 hqq
          first | (simp only [decide_eq_false (show ¬ hmS S (utS S i) < q by omega), Bool.false_and]; done) | (simp [c56]; done) | (simp [c70]; done)
        · have c56 : wi S (usS S i) q = true := c56
          refine J_aload_n dX7_wouldCatchUse_59 (pc' := 60) rfl rfl ?_
          refine J_iload dX7_wouldCatchUse_60 (pc' := 62) rfl rfl ?_
          refine J_iload_n dX7_wouldCatchUse_62 (pc' := 63) rfl rfl ?_
          refine J_v1 (As := [.int (nI (utS S i)), .int (dv_b th)]) (rest := []) (qX7_nn _ _ (utS S i) n th hT hut) vX7_nameNowOrThen mX7_199 kd_0 dX7_wouldCatchUse_63 (pc' := 66) rfl rfl (Nat.le_of_ble_eq_true rfl) (by decide) ?_
          refine J_aload_n dX7_wouldCatchUse_66 (pc' := 67) rfl rfl ?_
          refine J_v1 (As := [.ref o]) (rest := []) (qX4_sm _ _ (nn S th (utS S i)) o (nn_kd S th (by omega)) ho (hT.tl hut th) hto) vX4_same mX7_203 (nn_kd S th (by omega)).1 dX7_wouldCatchUse_67 (pc' := 70) rfl rfl (Nat.le_of_ble_eq_true rfl) (by decide) ?_
          refine J_beq dX7_wouldCatchUse_70 (pt := 75) (by decide) (pc' := 73) rfl (fun c70 => ?_) (fun c70 => ?_)
          · refine J_iinc dX7_wouldCatchUse_75 (pc' := 78) rfl rfl (v := nI (i + 1)) (nI_1 i) (by decide) rfl (l' := [some (.ref 0), some (.int (nI q)), some (.ref o), some (.int (dv_b th)), some (.int (nI (i + 1))), some (.int (nI (utS S i)))]) rfl ?_
            refine J_goto dX7_wouldCatchUse_78 (pc' := 3) (by decide) ?_
            refine J_drop 5 (l' := [some (.ref 0), some (.int (nI q)), some (.ref o), some (.int (dv_b th)), some (.int (nI (i + 1))), none]) rfl ?_
            refine ih3 (i + 1) (by omega) (by omega) (lt_s hqq ?_)
            clear ih3 hqq
            first | (simp only [decide_eq_false (show ¬ hmS S (utS S i) < q by omega), Bool.false_and]; done) | (simp [c56]; done) | (simp [c70]; done)
          · refine J_iconst dX7_wouldCatchUse_73 (pc' := 74) rfl (v := 1) ic_1 ?_
            refine J_zret dX7_wouldCatchUse_74 rfl (by decide) (dv_r1 _) ?_
            exact ⟨by rw [dv_fo_yes hx (by simp only [decide_eq_true (show hmS S (utS S i) < q by omega), c56, c70, Bool.and_self])]; rfl, rfl⟩
  refine J_loc (l' := [some (.ref 0), some (.int (nI q)), some (.ref o), some (.int (dv_b th)), some (.int (nI 0)), none]) (by simp only [nI_0, dv_b_f, dv_b_t]) ?_
  exact hlp3 0 (Nat.zero_le _) (fun j hj => absurd hj (Nat.not_lt_zero j))
set_option maxRecDepth 100000 in
set_option maxHeartbeats 400000 in
theorem qX7_isStrayed (d : Nat) (S : dv_S) (n sn un i : Nat) (hT : cw_T S n) (hS : cw_S S n sn) (hU : cw_U S n sn un) (hx : i < un) : dv_M yX7_isStrayed cX7_isStrayed 3 (some .boolean) (dv_rm (d + 4)) [.ref 0, .int (nI i)] S (fun r S' => r = some (.int (dv_b (cl_st S n i))) ∧ S' = S) := by
  have h80 := hT.2.1
  have h20 := hS.2.1
  have h150 := hU.2.1
  have hu := hU.2.2 i hx
  have hut : utS S i < n := hu.2.2.2
  have hus : usS S i < sn := hu.2.1
  have hhm : hmS S (utS S i) < sn := (hS.2.2 _ hut).2
  refine dv_M_of [some (.ref 0), some (.int (nI i)), none] (by decide) (fun _ _ => Nat.le_of_ble_eq_true rfl) (fun _ _ => rfl) ?_
  refine J_aload_n dX7_isStrayed_0 (pc' := 1) rfl rfl ?_
  refine J_getr fX7_58 kd_0 rf_0_8 dX7_isStrayed_1 (pc' := 4) rfl ?_
  refine J_iload_n dX7_isStrayed_4 (pc' := 5) rfl rfl ?_
  refine J_v1 (As := [.int (nI i)]) (rest := []) (qX6_thingOf _ _ i un hU.1 hx h150) vX6_thingOf mX7_195 kd_185 dX7_isStrayed_5 (pc' := 8) rfl rfl (Nat.le_of_ble_eq_true rfl) (by decide) ?_
  refine J_top (w := .int (nI (utS S i))) (congrArg Value.int hu.2.2.1) ?_
  refine J_istore_n dX7_isStrayed_8 (pc' := 9) rfl rfl (by decide) rfl (l' := [some (.ref 0), some (.int (nI i)), some (.int (nI (utS S i)))]) rfl ?_
  refine J_aload_n dX7_isStrayed_9 (pc' := 10) rfl rfl ?_
  refine J_aload_n dX7_isStrayed_10 (pc' := 11) rfl rfl ?_
  refine J_getr fX7_58 kd_0 rf_0_8 dX7_isStrayed_11 (pc' := 14) rfl ?_
  refine J_iload_n dX7_isStrayed_14 (pc' := 15) rfl rfl ?_
  refine J_v1 (As := [.int (nI i)]) (rest := [.ref 0]) (qX6_scopeOf _ _ i un hU.1 hx h150) vX6_scopeOf mX7_194 kd_185 dX7_isStrayed_15 (pc' := 18) rfl rfl (Nat.le_of_ble_eq_true rfl) (by decide) ?_
  refine J_top (w := .int (nI (usS S i))) (congrArg Value.int hu.1) ?_
  refine J_aload_n dX7_isStrayed_18 (pc' := 19) rfl rfl ?_
  refine J_iload_n dX7_isStrayed_19 (pc' := 20) rfl rfl ?_
  refine J_iconst dX7_isStrayed_20 (pc' := 21) rfl (v := 1) ic_1 ?_
  refine J_v1 (As := [.int (nI (utS S i)), .int 1]) (rest := [.int (nI (usS S i)), .ref 0]) (qX7_nn _ _ (utS S i) n true hT hut) vX7_nameNowOrThen mX7_199 kd_0 dX7_isStrayed_21 (pc' := 24) rfl rfl (Nat.le_of_ble_eq_true rfl) (by decide) ?_
  refine J_iconst dX7_isStrayed_24 (pc' := 25) rfl (v := 1) ic_1 ?_
  refine J_v1 (As := [.int (nI (usS S i)), .ref (nn S true (utS S i)), .int 1]) (rest := []) (qX7_thingMeant _ _ n sn (nn S true (utS S i)) (usS S i) true hT hS hus (nn_kd S true (by omega)) (hT.tl hut true)) vX7_thingMeant mX7_152 kd_0 dX7_isStrayed_25 (pc' := 28) rfl rfl (Nat.le_of_ble_eq_true rfl) (by decide) ?_
  refine J_iload_n dX7_isStrayed_28 (pc' := 29) rfl rfl ?_
  refine J_icmp_eq dX7_isStrayed_29 (pt := 36) (by decide) (pc' := 32) rfl (fun c29 => ?_) (fun c29 => ?_)
  · rw [dv_oi_eq (fun j hj => by have := cl_tm_lt _ _ _ _ hj; omega) (by omega)] at c29
    refine J_iconst dX7_isStrayed_36 (pc' := 37) rfl (v := 0) ic_0 ?_
    refine J_zret dX7_isStrayed_37 rfl (by decide) (dv_r1 _) ?_
    exact ⟨by unfold cl_st; rw [decide_eq_true c29]; rfl, rfl⟩
  · rw [dv_oi_eq (fun j hj => by have := cl_tm_lt _ _ _ _ hj; omega) (by omega)] at c29
    refine J_iconst dX7_isStrayed_32 (pc' := 33) rfl (v := 1) ic_1 ?_
    refine J_goto dX7_isStrayed_33 (pc' := 37) (by decide) ?_
    refine J_zret dX7_isStrayed_37 rfl (by decide) (dv_r1 _) ?_
    exact ⟨by unfold cl_st; rw [decide_eq_false c29]; rfl, rfl⟩
set_option maxRecDepth 100000 in
set_option maxHeartbeats 400000 in
theorem qX7_firstStrayed (d : Nat) (S : dv_S) (n sn un : Nat) (hT : cw_T S n) (hS : cw_S S n sn) (hU : cw_U S n sn un)  : dv_M yX7_firstStrayed cX7_firstStrayed 2 (some .int) (dv_rm (d + 5)) [.ref 0] S (fun r S' => r = some (.int (dv_oi (dv_fo (cl_st S n) un))) ∧ S' = S) := by
  have h80 := hT.2.1
  have h20 := hS.2.1
  have h150 := hU.2.1
  refine dv_M_of [some (.ref 0), none] (by decide) (fun _ _ => Nat.le_of_ble_eq_true rfl) (fun _ _ => rfl) ?_
  refine J_iconst dX7_firstStrayed_0 (pc' := 1) rfl (v := 0) ic_0 ?_
  refine J_istore_n dX7_firstStrayed_1 (pc' := 2) rfl rfl (by decide) rfl (l' := [some (.ref 0), some (.int 0)]) rfl ?_
  have hlp2 : ∀ i, i ≤ un → (∀ j, j < i → cl_st S n j = false) → dv_J yX7_firstStrayed cX7_firstStrayed 2 (some .int) (dv_rm (d + 5)) 0 0 2 [some (.ref 0), some (.int (nI i))] [] S (fun r S' => r = some (.int (dv_oi (dv_fo (cl_st S n) un))) ∧ S' = S) := by
    refine dv_up (P := fun i => (∀ j, j < i → cl_st S n j = false) → dv_J yX7_firstStrayed cX7_firstStrayed 2 (some .int) (dv_rm (d + 5)) 0 0 2 [some (.ref 0), some (.int (nI i))] [] S (fun r S' => r = some (.int (dv_oi (dv_fo (cl_st S n) un))) ∧ S' = S)) ?_
    intro i hi2 ih2 hqq
    refine J_iload_n dX7_firstStrayed_2 (pc' := 3) rfl rfl ?_
    refine J_aload_n dX7_firstStrayed_3 (pc' := 4) rfl rfl ?_
    refine J_getr fX7_58 kd_0 rf_0_8 dX7_firstStrayed_4 (pc' := 7) rfl ?_
    refine J_v1 (As := []) (rest := [.int (nI i)]) (qX6_size _ _) vX6_size mX7_207 kd_185 dX7_firstStrayed_7 (pc' := 10) rfl rfl (Nat.le_of_ble_eq_true rfl) (by decide) ?_
    refine J_top (w := .int (nI un)) (by rw [hU.1]) ?_
    refine J_icmp_ge dX7_firstStrayed_10 (pt := 29) (by decide) (pc' := 13) rfl (fun c10 => ?_) (fun c10 => ?_)
    · have hx := dv_ge hi2 (by omega) c10
      refine J_bipush dX7_firstStrayed_29 (pc' := 31) rfl (v := (-2)) bp_m2 ?_
      refine J_iret dX7_firstStrayed_31 rfl (dv_r1 _) ?_
      exact ⟨by rw [dv_fo_none (fun j hj => hqq j (by omega))]; rfl, rfl⟩
    · have hx := dv_nge hi2 (by omega) c10
      refine J_aload_n dX7_firstStrayed_13 (pc' := 14) rfl rfl ?_
      refine J_iload_n dX7_firstStrayed_14 (pc' := 15) rfl rfl ?_
      refine J_v1 (As := [.int (nI i)]) (rest := []) (qX7_isStrayed _ _ n sn un i hT hS hU hx) vX7_isStrayed mX7_327 kd_0 dX7_firstStrayed_15 (pc' := 18) rfl rfl (Nat.le_of_ble_eq_true rfl) (by decide) ?_
      refine J_beq dX7_firstStrayed_18 (pt := 23) (by decide) (pc' := 21) rfl (fun c18 => ?_) (fun c18 => ?_)
      · refine J_iinc dX7_firstStrayed_23 (pc' := 26) rfl rfl (v := nI (i + 1)) (nI_1 i) (by decide) rfl (l' := [some (.ref 0), some (.int (nI (i + 1)))]) rfl ?_
        refine J_goto dX7_firstStrayed_26 (pc' := 2) (by decide) ?_
        exact ih2 (i + 1) (by omega) (by omega) (lt_s hqq c18)
      · refine J_iload_n dX7_firstStrayed_21 (pc' := 22) rfl rfl ?_
        refine J_iret dX7_firstStrayed_22 rfl (dv_r1 _) ?_
        exact ⟨by rw [dv_fo_some hx c18 hqq]; rfl, rfl⟩
  refine J_loc (l' := [some (.ref 0), some (.int (nI 0))]) (by simp only [nI_0, dv_b_f, dv_b_t]) ?_
  exact hlp2 0 (Nat.zero_le _) (fun j hj => absurd hj (Nat.not_lt_zero j))
