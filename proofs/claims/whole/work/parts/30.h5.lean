set_option maxRecDepth 100000 in
set_option maxHeartbeats 400000 in
theorem qX7_firstDoubled (d : Nat) (S : dv_S) (n : Nat) (hT : cw_T S n) : dv_M yX7_firstDoubled cX7_firstDoubled 4 (some .int) (dv_rm (d + 3)) [.ref 0] S (fun r S' => r = some (.int (dv_oi (dv_fo (cl_db S) n))) ∧ S' = S) := by
  have h80 := hT.2.1
  refine dv_M_of [some (.ref 0), none, none, none] (by decide) (fun _ _ => Nat.le_of_ble_eq_true rfl) (fun _ _ => rfl) ?_
  refine J_iconst dX7_firstDoubled_0 (pc' := 1) rfl (v := 1) ic_1 ?_
  refine J_istore_n dX7_firstDoubled_1 (pc' := 2) rfl rfl (by decide) rfl (l' := [some (.ref 0), some (.int 1), none, none]) rfl ?_
  have hlp2 : ∀ i, i ≤ (n + 1) → 1 ≤ i → (∀ j, j < i → cl_db S j = false) → dv_J yX7_firstDoubled cX7_firstDoubled 4 (some .int) (dv_rm (d + 3)) 0 0 2 [some (.ref 0), some (.int (nI i)), none, none] [] S (fun r S' => r = some (.int (dv_oi (dv_fo (cl_db S) n))) ∧ S' = S) := by
    refine dv_up (P := fun i => 1 ≤ i → (∀ j, j < i → cl_db S j = false) → dv_J yX7_firstDoubled cX7_firstDoubled 4 (some .int) (dv_rm (d + 3)) 0 0 2 [some (.ref 0), some (.int (nI i)), none, none] [] S (fun r S' => r = some (.int (dv_oi (dv_fo (cl_db S) n))) ∧ S' = S)) ?_
    intro i hi2 ih2 h1 hq
    refine J_iload_n dX7_firstDoubled_2 (pc' := 3) rfl rfl ?_
    refine J_aload_n dX7_firstDoubled_3 (pc' := 4) rfl rfl ?_
    refine J_getr fX7_51 kd_0 rf_0_7 dX7_firstDoubled_4 (pc' := 7) rfl ?_
    refine J_v1 (As := []) (rest := [.int (nI i)]) (qX5_size _ _) vX5_size mX7_198 kd_21 dX7_firstDoubled_7 (pc' := 10) rfl rfl (Nat.le_of_ble_eq_true rfl) (by decide) ?_
    refine J_top (w := .int (nI n)) (by rw [hT.1]) ?_
    refine J_icmp_ge dX7_firstDoubled_10 (pt := 73) (by decide) (pc' := 13) rfl (fun c10 => ?_) (fun c10 => ?_)
    · rw [nI_leI (by omega) (by omega)] at c10
      refine J_bipush dX7_firstDoubled_73 (pc' := 75) rfl (v := (-2)) bp_m2 ?_
      refine J_iret dX7_firstDoubled_75 rfl (dv_r1 _) ?_
      exact ⟨by rw [dv_fo_none (fun j hj => hq j (by omega))]; rfl, rfl⟩
    · rw [nI_leI (by omega) (by omega)] at c10
      refine J_aload_n dX7_firstDoubled_13 (pc' := 14) rfl rfl ?_
      refine J_iload_n dX7_firstDoubled_14 (pc' := 15) rfl rfl ?_
      refine J_iconst dX7_firstDoubled_15 (pc' := 16) rfl (v := 1) ic_1 ?_
      refine J_v1 (As := [.int (nI i), .int 1]) (rest := []) (qX7_nn _ _ i n true hT (by omega)) vX7_nameNowOrThen mX7_199 kd_0 dX7_firstDoubled_16 (pc' := 19) rfl rfl (Nat.le_of_ble_eq_true rfl) (by decide) ?_
      refine J_astore_n dX7_firstDoubled_19 (pc' := 20) rfl rfl (by decide) rfl (l' := [some (.ref 0), some (.int (nI i)), some (.ref (nn S true i)), none]) rfl ?_
      refine J_iconst dX7_firstDoubled_20 (pc' := 21) rfl (v := 0) ic_0 ?_
      refine J_istore_n dX7_firstDoubled_21 (pc' := 22) rfl rfl (by decide) rfl (l' := [some (.ref 0), some (.int (nI i)), some (.ref (nn S true i)), some (.int 0)]) rfl ?_
      have hlp22 : ∀ k, k ≤ i → (∀ j, j < k → (fun k => decide (S.2.1 22 k = S.2.1 22 i) && decide (tx S (nn S true k) = tx S (nn S true i))) j = false) → dv_J yX7_firstDoubled cX7_firstDoubled 4 (some .int) (dv_rm (d + 3)) 0 0 22 [some (.ref 0), some (.int (nI i)), some (.ref (nn S true i)), some (.int (nI k))] [] S (fun r S' => r = some (.int (dv_oi (dv_fo (cl_db S) n))) ∧ S' = S) := by
        refine dv_up (P := fun k => (∀ j, j < k → (fun k => decide (S.2.1 22 k = S.2.1 22 i) && decide (tx S (nn S true k) = tx S (nn S true i))) j = false) → dv_J yX7_firstDoubled cX7_firstDoubled 4 (some .int) (dv_rm (d + 3)) 0 0 22 [some (.ref 0), some (.int (nI i)), some (.ref (nn S true i)), some (.int (nI k))] [] S (fun r S' => r = some (.int (dv_oi (dv_fo (cl_db S) n))) ∧ S' = S)) ?_
        intro k hi22 ih22 hk
        refine J_iload_n dX7_firstDoubled_22 (pc' := 23) rfl rfl ?_
        refine J_iload_n dX7_firstDoubled_23 (pc' := 24) rfl rfl ?_
        refine J_icmp_ge dX7_firstDoubled_24 (pt := 67) (by decide) (pc' := 27) rfl (fun c24 => ?_) (fun c24 => ?_)
        · rw [nI_leI (by omega) (by omega)] at c24
          refine J_iinc dX7_firstDoubled_67 (pc' := 70) rfl rfl (v := nI (i + 1)) (nI_1 i) (by decide) rfl (l' := [some (.ref 0), some (.int (nI (i + 1))), some (.ref (nn S true i)), some (.int (nI k))]) rfl ?_
          refine J_goto dX7_firstDoubled_70 (pc' := 2) (by decide) ?_
          refine J_drop 2 (l' := [some (.ref 0), some (.int (nI (i + 1))), none, some (.int (nI k))]) rfl ?_
          refine J_drop 3 (l' := [some (.ref 0), some (.int (nI (i + 1))), none, none]) rfl ?_
          exact ih2 (i + 1) (by omega) (by omega) (by omega) (lt_s hq (by unfold cl_db; rw [dv_fo_none (fun j hj => hk j (by omega))]; rfl))
        · rw [nI_leI (by omega) (by omega)] at c24
          refine J_aload_n dX7_firstDoubled_27 (pc' := 28) rfl rfl ?_
          refine J_getr fX7_51 kd_0 rf_0_7 dX7_firstDoubled_28 (pc' := 31) rfl ?_
          refine J_iload_n dX7_firstDoubled_31 (pc' := 32) rfl rfl ?_
          refine J_v1 (As := [.int (nI k)]) (rest := []) (qX5_scopeOf _ _ k n hT.1 (by omega) h80) vX5_scopeOf mX7_161 kd_21 dX7_firstDoubled_32 (pc' := 35) rfl rfl (Nat.le_of_ble_eq_true rfl) (by decide) ?_
          refine J_aload_n dX7_firstDoubled_35 (pc' := 36) rfl rfl ?_
          refine J_getr fX7_51 kd_0 rf_0_7 dX7_firstDoubled_36 (pc' := 39) rfl ?_
          refine J_iload_n dX7_firstDoubled_39 (pc' := 40) rfl rfl ?_
          refine J_v1 (As := [.int (nI i)]) (rest := [.int (S.2.1 22 k)]) (qX5_scopeOf _ _ i n hT.1 (by omega) h80) vX5_scopeOf mX7_161 kd_21 dX7_firstDoubled_40 (pc' := 43) rfl rfl (Nat.le_of_ble_eq_true rfl) (by decide) ?_
          refine J_icmp_ne dX7_firstDoubled_43 (pt := 61) (by decide) (pc' := 46) rfl (fun c43 => ?_) (fun c43 => ?_)
          · refine J_iinc dX7_firstDoubled_61 (pc' := 64) rfl rfl (v := nI (k + 1)) (nI_1 k) (by decide) rfl (l' := [some (.ref 0), some (.int (nI i)), some (.ref (nn S true i)), some (.int (nI (k + 1)))]) rfl ?_
            refine J_goto dX7_firstDoubled_64 (pc' := 22) (by decide) ?_
            refine ih22 (k + 1) (by omega) (by omega) (lt_s hk ?_)
            clear ih22 ih2 hk hq
            first | (simp [c43]; done) | (simp [c56]; done)
          · refine J_aload_n dX7_firstDoubled_46 (pc' := 47) rfl rfl ?_
            refine J_iload_n dX7_firstDoubled_47 (pc' := 48) rfl rfl ?_
            refine J_iconst dX7_firstDoubled_48 (pc' := 49) rfl (v := 1) ic_1 ?_
            refine J_v1 (As := [.int (nI k), .int 1]) (rest := []) (qX7_nn _ _ k n true hT (by omega)) vX7_nameNowOrThen mX7_199 kd_0 dX7_firstDoubled_49 (pc' := 52) rfl rfl (Nat.le_of_ble_eq_true rfl) (by decide) ?_
            refine J_aload_n dX7_firstDoubled_52 (pc' := 53) rfl rfl ?_
            refine J_v1 (As := [.ref (nn S true i)]) (rest := []) (qX4_sm _ _ (nn S true k) (nn S true i) (nn_kd S true (by omega)) (nn_kd S true (by omega)) (hT.tl (by omega) true) (hT.tl (by omega) true)) vX4_same mX7_203 (nn_kd S true (by omega)).1 dX7_firstDoubled_53 (pc' := 56) rfl rfl (Nat.le_of_ble_eq_true rfl) (by decide) ?_
            refine J_beq dX7_firstDoubled_56 (pt := 61) (by decide) (pc' := 59) rfl (fun c56 => ?_) (fun c56 => ?_)
            · refine J_iinc dX7_firstDoubled_61 (pc' := 64) rfl rfl (v := nI (k + 1)) (nI_1 k) (by decide) rfl (l' := [some (.ref 0), some (.int (nI i)), some (.ref (nn S true i)), some (.int (nI (k + 1)))]) rfl ?_
              refine J_goto dX7_firstDoubled_64 (pc' := 22) (by decide) ?_
              refine ih22 (k + 1) (by omega) (by omega) (lt_s hk ?_)
              clear ih22 ih2 hk hq
              first | (simp [c43]; done) | (simp [c56]; done)
            · refine J_iload_n dX7_firstDoubled_59 (pc' := 60) rfl rfl ?_
              refine J_iret dX7_firstDoubled_60 rfl (dv_r1 _) ?_
              exact ⟨by rw [dv_fo_some (p := cl_db S) (i := i) (by omega) (dv_fo_yes (i := k) (by omega) (by simp [c43, c56])) hq]; rfl, rfl⟩
      refine J_loc (l' := [some (.ref 0), some (.int (nI i)), some (.ref (nn S true i)), some (.int (nI 0))]) (by simp only [nI_0, dv_b_f, dv_b_t]) ?_
      exact hlp22 0 (Nat.zero_le _) (fun j hj => absurd hj (Nat.not_lt_zero j))
  refine J_loc (l' := [some (.ref 0), some (.int (nI 1)), none, none]) (by simp only [← dv_n1]) ?_
  exact hlp2 1 (by omega) (Nat.le_refl 1) (fun j hj => by rw [show j = 0 by omega]; rfl)
set_option maxRecDepth 100000 in
set_option maxHeartbeats 400000 in
theorem qX7_staysSafe (d : Nat) (S : dv_S) (n sn un t : Nat) (hT : cw_T S n) (hS : cw_S S n sn) (hU : cw_U S n sn un) (ht : t < n) : dv_M yX7_staysSafe cX7_staysSafe 5 (some .boolean) (dv_rm (d + 5)) [.ref 0, .int (nI t)] S (fun r S' => r = some (.int (dv_b (!cl_no S n t && !cl_wc S un t && !cl_us S n un t))) ∧ S' = S) := by
  have h80 := hT.2.1
  have h20 := hS.2.1
  have h150 := hU.2.1
  have htm : hmS S t < sn := (hS.2.2 t ht).2
  refine dv_M_of [some (.ref 0), some (.int (nI t)), none, none, none] (by decide) (fun _ _ => Nat.le_of_ble_eq_true rfl) (fun _ _ => rfl) ?_
  refine J_aload_n dX7_staysSafe_0 (pc' := 1) rfl rfl ?_
  refine J_getr fX7_51 kd_0 rf_0_7 dX7_staysSafe_1 (pc' := 4) rfl ?_
  refine J_iload_n dX7_staysSafe_4 (pc' := 5) rfl rfl ?_
  refine J_v1 (As := [.int (nI t)]) (rest := []) (qX5_scopeOf _ _ t n hT.1 ht h80) vX5_scopeOf mX7_161 kd_21 dX7_staysSafe_5 (pc' := 8) rfl rfl (Nat.le_of_ble_eq_true rfl) (by decide) ?_
  refine J_top (w := .int (nI (hmS S t))) (congrArg Value.int (hS.2.2 t ht).1) ?_
  refine J_istore_n dX7_staysSafe_8 (pc' := 9) rfl rfl (by decide) rfl (l' := [some (.ref 0), some (.int (nI t)), some (.int (nI (hmS S t))), none, none]) rfl ?_
  refine J_aload_n dX7_staysSafe_9 (pc' := 10) rfl rfl ?_
  refine J_iload_n dX7_staysSafe_10 (pc' := 11) rfl rfl ?_
  refine J_iconst dX7_staysSafe_11 (pc' := 12) rfl (v := 1) ic_1 ?_
  refine J_v1 (As := [.int (nI t), .int 1]) (rest := []) (qX7_nn _ _ t n true hT ht) vX7_nameNowOrThen mX7_199 kd_0 dX7_staysSafe_12 (pc' := 15) rfl rfl (Nat.le_of_ble_eq_true rfl) (by decide) ?_
  refine J_astore_n dX7_staysSafe_15 (pc' := 16) rfl rfl (by decide) rfl (l' := [some (.ref 0), some (.int (nI t)), some (.int (nI (hmS S t))), some (.ref (nn S true t)), none]) rfl ?_
  refine J_aload_n dX7_staysSafe_16 (pc' := 17) rfl rfl ?_
  refine J_iload_n dX7_staysSafe_17 (pc' := 18) rfl rfl ?_
  refine J_iload_n dX7_staysSafe_18 (pc' := 19) rfl rfl ?_
  refine J_aload_n dX7_staysSafe_19 (pc' := 20) rfl rfl ?_
  refine J_iconst dX7_staysSafe_20 (pc' := 21) rfl (v := 1) ic_1 ?_
  refine J_v1 (As := [.int (nI t), .int (nI (hmS S t)), .ref (nn S true t), .int 1]) (rest := []) (qX7_isNameOfOther _ _ n (nn S true t) _ _ true hT (nn_kd S true (by omega)) (hT.tl ht true)) vX7_isNameOfOther mX7_140 kd_0 dX7_staysSafe_21 (pc' := 24) rfl rfl (Nat.le_of_ble_eq_true rfl) (by decide) ?_
  refine J_bne dX7_staysSafe_24 (pt := 37) (by decide) (pc' := 27) rfl (fun c24 => ?_) (fun c24 => ?_)
  · have c24 : cl_no S n t = true := c24
    refine J_iconst dX7_staysSafe_37 (pc' := 38) rfl (v := 0) ic_0 ?_
    refine J_zret dX7_staysSafe_38 rfl (by decide) (dv_r1 _) ?_
    first | exact ⟨by rw [c24]; rfl, rfl⟩ | exact ⟨by rw [c34]; simp [dv_b], rfl⟩
  · have c24 : cl_no S n t = false := c24
    refine J_aload_n dX7_staysSafe_27 (pc' := 28) rfl rfl ?_
    refine J_iload_n dX7_staysSafe_28 (pc' := 29) rfl rfl ?_
    refine J_aload_n dX7_staysSafe_29 (pc' := 30) rfl rfl ?_
    refine J_iconst dX7_staysSafe_30 (pc' := 31) rfl (v := 1) ic_1 ?_
    refine J_v1 (As := [.int (nI (hmS S t)), .ref (nn S true t), .int 1]) (rest := []) (qX7_wouldCatchUse _ _ n sn un (nn S true t) (hmS S t) true hT hS hU htm (nn_kd S true (by omega)) (hT.tl ht true)) vX7_wouldCatchUse mX7_144 kd_0 dX7_staysSafe_31 (pc' := 34) rfl rfl (Nat.le_of_ble_eq_true rfl) (by decide) ?_
    refine J_beq dX7_staysSafe_34 (pt := 39) (by decide) (pc' := 37) rfl (fun c34 => ?_) (fun c34 => ?_)
    · have c34 : cl_wc S un t = false := c34
      refine J_iconst dX7_staysSafe_39 (pc' := 40) rfl (v := 0) ic_0 ?_
      refine J_istore dX7_staysSafe_40 (pc' := 42) rfl (by decide) rfl (l' := [some (.ref 0), some (.int (nI t)), some (.int (nI (hmS S t))), some (.ref (nn S true t)), some (.int 0)]) rfl ?_
      have hlp42 : ∀ i, i ≤ un → (∀ j, j < i → (fun u => decide (utS S u = t) && cl_st S n u) j = false) → dv_J yX7_staysSafe cX7_staysSafe 5 (some .boolean) (dv_rm (d + 5)) 0 0 42 [some (.ref 0), some (.int (nI t)), some (.int (nI (hmS S t))), some (.ref (nn S true t)), some (.int (nI i))] [] S (fun r S' => r = some (.int (dv_b (!cl_no S n t && !cl_wc S un t && !cl_us S n un t))) ∧ S' = S) := by
        refine dv_up (P := fun i => (∀ j, j < i → (fun u => decide (utS S u = t) && cl_st S n u) j = false) → dv_J yX7_staysSafe cX7_staysSafe 5 (some .boolean) (dv_rm (d + 5)) 0 0 42 [some (.ref 0), some (.int (nI t)), some (.int (nI (hmS S t))), some (.ref (nn S true t)), some (.int (nI i))] [] S (fun r S' => r = some (.int (dv_b (!cl_no S n t && !cl_wc S un t && !cl_us S n un t))) ∧ S' = S)) ?_
        intro i hi42 ih42 hqq
        refine J_iload dX7_staysSafe_42 (pc' := 44) rfl rfl ?_
        refine J_aload_n dX7_staysSafe_44 (pc' := 45) rfl rfl ?_
        refine J_getr fX7_58 kd_0 rf_0_8 dX7_staysSafe_45 (pc' := 48) rfl ?_
        refine J_v1 (As := []) (rest := [.int (nI i)]) (qX6_size _ _) vX6_size mX7_207 kd_185 dX7_staysSafe_48 (pc' := 51) rfl rfl (Nat.le_of_ble_eq_true rfl) (by decide) ?_
        refine J_top (w := .int (nI un)) (by rw [hU.1]) ?_
        refine J_icmp_ge dX7_staysSafe_51 (pt := 84) (by decide) (pc' := 54) rfl (fun c51 => ?_) (fun c51 => ?_)
        · have hx := dv_ge hi42 (by omega) c51
          refine J_iconst dX7_staysSafe_84 (pc' := 85) rfl (v := 1) ic_1 ?_
          refine J_zret dX7_staysSafe_85 rfl (by decide) (dv_r1 _) ?_
          have h0 : cl_us S n un t = false := by unfold cl_us; rw [dv_fo_none (fun j hj => hqq j (by omega))]; rfl
          exact ⟨by rw [h0, c24, c34]; rfl, rfl⟩
        · have hx := dv_nge hi42 (by omega) c51
          have hu := hU.2.2 i hx
          have hut : utS S i < n := hu.2.2.2
          have hus : usS S i < sn := hu.2.1
          have hhm : hmS S (utS S i) < sn := (hS.2.2 _ hut).2
          refine J_aload_n dX7_staysSafe_54 (pc' := 55) rfl rfl ?_
          refine J_getr fX7_58 kd_0 rf_0_8 dX7_staysSafe_55 (pc' := 58) rfl ?_
          refine J_iload dX7_staysSafe_58 (pc' := 60) rfl rfl ?_
          refine J_v1 (As := [.int (nI i)]) (rest := []) (qX6_thingOf _ _ i un hU.1 hx h150) vX6_thingOf mX7_195 kd_185 dX7_staysSafe_60 (pc' := 63) rfl rfl (Nat.le_of_ble_eq_true rfl) (by decide) ?_
          refine J_top (w := .int (nI (utS S i))) (congrArg Value.int hu.2.2.1) ?_
          refine J_iload_n dX7_staysSafe_63 (pc' := 64) rfl rfl ?_
          refine J_icmp_ne dX7_staysSafe_64 (pt := 78) (by decide) (pc' := 67) rfl (fun c64 => ?_) (fun c64 => ?_)
          · rw [nI_eq (by omega) (by omega)] at c64
            refine J_iinc dX7_staysSafe_78 (pc' := 81) rfl rfl (v := nI (i + 1)) (nI_1 i) (by decide) rfl (l' := [some (.ref 0), some (.int (nI t)), some (.int (nI (hmS S t))), some (.ref (nn S true t)), some (.int (nI (i + 1)))]) rfl ?_
            refine J_goto dX7_staysSafe_81 (pc' := 42) (by decide) ?_
            refine ih42 (i + 1) (by omega) (by omega) (lt_s hqq ?_)
            clear ih42 hqq
            first | (simp [c64]; done) | (simp [c73]; done)
          · rw [nI_eq (by omega) (by omega)] at c64
            refine J_aload_n dX7_staysSafe_67 (pc' := 68) rfl rfl ?_
            refine J_iload dX7_staysSafe_68 (pc' := 70) rfl rfl ?_
            refine J_v1 (As := [.int (nI i)]) (rest := []) (qX7_isStrayed _ _ n sn un i hT hS hU hx) vX7_isStrayed mX7_327 kd_0 dX7_staysSafe_70 (pc' := 73) rfl rfl (Nat.le_of_ble_eq_true rfl) (by decide) ?_
            refine J_beq dX7_staysSafe_73 (pt := 78) (by decide) (pc' := 76) rfl (fun c73 => ?_) (fun c73 => ?_)
            · refine J_iinc dX7_staysSafe_78 (pc' := 81) rfl rfl (v := nI (i + 1)) (nI_1 i) (by decide) rfl (l' := [some (.ref 0), some (.int (nI t)), some (.int (nI (hmS S t))), some (.ref (nn S true t)), some (.int (nI (i + 1)))]) rfl ?_
              refine J_goto dX7_staysSafe_81 (pc' := 42) (by decide) ?_
              refine ih42 (i + 1) (by omega) (by omega) (lt_s hqq ?_)
              clear ih42 hqq
              first | (simp [c64]; done) | (simp [c73]; done)
            · refine J_iconst dX7_staysSafe_76 (pc' := 77) rfl (v := 0) ic_0 ?_
              refine J_zret dX7_staysSafe_77 rfl (by decide) (dv_r1 _) ?_
              have h0 : cl_us S n un t = true := dv_fo_yes hx (by simp [c64, c73])
              exact ⟨by rw [h0]; simp [dv_b], rfl⟩
      refine J_loc (l' := [some (.ref 0), some (.int (nI t)), some (.int (nI (hmS S t))), some (.ref (nn S true t)), some (.int (nI 0))]) (by simp only [nI_0, dv_b_f, dv_b_t]) ?_
      exact hlp42 0 (Nat.zero_le _) (fun j hj => absurd hj (Nat.not_lt_zero j))
    · have c34 : cl_wc S un t = true := c34
      refine J_iconst dX7_staysSafe_37 (pc' := 38) rfl (v := 0) ic_0 ?_
      refine J_zret dX7_staysSafe_38 rfl (by decide) (dv_r1 _) ?_
      first | exact ⟨by rw [c24]; rfl, rfl⟩ | exact ⟨by rw [c34]; simp [dv_b], rfl⟩
