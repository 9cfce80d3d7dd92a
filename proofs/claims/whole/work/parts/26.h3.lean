set_option maxRecDepth 100000 in
set_option maxHeartbeats 400000 in
theorem qX7_isNameOfOther (d : Nat) (S : dv_S) (n o : Nat) (x s : Int32) (th : Bool) (hT : cw_T S n) (ho : dv_kd o = 4 ∧ dv_kd (o + 1) = 10 ∧ dv_ln (o + 1) = 24) (hto : tl S o) : dv_M yX7_isNameOfOther cX7_isNameOfOther 6 (some .boolean) (dv_rm (d + 3)) [.ref 0, .int x, .int s, .ref o, .int (dv_b th)] S (fun r S' => r = some (.int (dv_b (dv_fo (fun t => !decide (nI t = x) && decide (S.2.1 22 t = s) && decide (tx S (nn S th t) = tx S o)) n).isSome)) ∧ S' = S) := by
  have h80 := hT.2.1
  refine dv_M_of [some (.ref 0), some (.int x), some (.int s), some (.ref o), some (.int (dv_b th)), none] (by decide) (fun _ _ => Nat.le_of_ble_eq_true rfl) (fun _ _ => rfl) ?_
  refine J_iconst dX7_isNameOfOther_0 (pc' := 1) rfl (v := 0) ic_0 ?_
  refine J_istore dX7_isNameOfOther_1 (pc' := 3) rfl (by decide) rfl (l' := [some (.ref 0), some (.int x), some (.int s), some (.ref o), some (.int (dv_b th)), some (.int 0)]) rfl ?_
  have hlp3 : ∀ i, i ≤ n → (∀ j, j < i → (fun t => !decide (nI t = x) && decide (S.2.1 22 t = s) && decide (tx S (nn S th t) = tx S o)) j = false) → dv_J yX7_isNameOfOther cX7_isNameOfOther 6 (some .boolean) (dv_rm (d + 3)) 0 0 3 [some (.ref 0), some (.int x), some (.int s), some (.ref o), some (.int (dv_b th)), some (.int (nI i))] [] S (fun r S' => r = some (.int (dv_b (dv_fo (fun t => !decide (nI t = x) && decide (S.2.1 22 t = s) && decide (tx S (nn S th t) = tx S o)) n).isSome)) ∧ S' = S) := by
    refine dv_up (P := fun i => (∀ j, j < i → (fun t => !decide (nI t = x) && decide (S.2.1 22 t = s) && decide (tx S (nn S th t) = tx S o)) j = false) → dv_J yX7_isNameOfOther cX7_isNameOfOther 6 (some .boolean) (dv_rm (d + 3)) 0 0 3 [some (.ref 0), some (.int x), some (.int s), some (.ref o), some (.int (dv_b th)), some (.int (nI i))] [] S (fun r S' => r = some (.int (dv_b (dv_fo (fun t => !decide (nI t = x) && decide (S.2.1 22 t = s) && decide (tx S (nn S th t) = tx S o)) n).isSome)) ∧ S' = S)) ?_
    intro i hi3 ih3 hq
    refine J_iload dX7_isNameOfOther_3 (pc' := 5) rfl rfl ?_
    refine J_aload_n dX7_isNameOfOther_5 (pc' := 6) rfl rfl ?_
    refine J_getr fX7_51 kd_0 rf_0_7 dX7_isNameOfOther_6 (pc' := 9) rfl ?_
    refine J_v1 (As := []) (rest := [.int (nI i)]) (qX5_size _ _) vX5_size mX7_198 kd_21 dX7_isNameOfOther_9 (pc' := 12) rfl rfl (Nat.le_of_ble_eq_true rfl) (by decide) ?_
    refine J_top (w := .int (nI n)) (by rw [hT.1]) ?_
    refine J_icmp_ge dX7_isNameOfOther_12 (pt := 57) (by decide) (pc' := 15) rfl (fun c12 => ?_) (fun c12 => ?_)
    · have hx := dv_ge hi3 (by omega) c12
      refine J_iconst dX7_isNameOfOther_57 (pc' := 58) rfl (v := 0) ic_0 ?_
      refine J_zret dX7_isNameOfOther_58 rfl (by decide) (dv_r1 _) ?_
      exact ⟨by rw [dv_fo_none (fun j hj => hq j (by omega))]; rfl, rfl⟩
    · have hx := dv_nge hi3 (by omega) c12
      refine J_iload dX7_isNameOfOther_15 (pc' := 17) rfl rfl ?_
      refine J_iload_n dX7_isNameOfOther_17 (pc' := 18) rfl rfl ?_
      refine J_icmp_eq dX7_isNameOfOther_18 (pt := 51) (by decide) (pc' := 21) rfl (fun c18 => ?_) (fun c18 => ?_)
      · refine J_iinc dX7_isNameOfOther_51 (pc' := 54) rfl rfl (v := nI (i + 1)) (nI_1 i) (by decide) rfl (l' := [some (.ref 0), some (.int x), some (.int s), some (.ref o), some (.int (dv_b th)), some (.int (nI (i + 1)))]) rfl ?_
        refine J_goto dX7_isNameOfOther_54 (pc' := 3) (by decide) ?_
        refine ih3 (i + 1) (by omega) (by omega) (lt_s hq ?_)
        clear ih3 hq
        first | (simp [c18]; done) | (simp [c31]; done) | (simp [c46]; done)
      · refine J_aload_n dX7_isNameOfOther_21 (pc' := 22) rfl rfl ?_
        refine J_getr fX7_51 kd_0 rf_0_7 dX7_isNameOfOther_22 (pc' := 25) rfl ?_
        refine J_iload dX7_isNameOfOther_25 (pc' := 27) rfl rfl ?_
        refine J_v1 (As := [.int (nI i)]) (rest := []) (qX5_scopeOf _ _ i n hT.1 hx h80) vX5_scopeOf mX7_161 kd_21 dX7_isNameOfOther_27 (pc' := 30) rfl rfl (Nat.le_of_ble_eq_true rfl) (by decide) ?_
        refine J_iload_n dX7_isNameOfOther_30 (pc' := 31) rfl rfl ?_
        refine J_icmp_ne dX7_isNameOfOther_31 (pt := 51) (by decide) (pc' := 34) rfl (fun c31 => ?_) (fun c31 => ?_)
        · refine J_iinc dX7_isNameOfOther_51 (pc' := 54) rfl rfl (v := nI (i + 1)) (nI_1 i) (by decide) rfl (l' := [some (.ref 0), some (.int x), some (.int s), some (.ref o), some (.int (dv_b th)), some (.int (nI (i + 1)))]) rfl ?_
          refine J_goto dX7_isNameOfOther_54 (pc' := 3) (by decide) ?_
          refine ih3 (i + 1) (by omega) (by omega) (lt_s hq ?_)
          clear ih3 hq
          first | (simp [c18]; done) | (simp [c31]; done) | (simp [c46]; done)
        · refine J_aload_n dX7_isNameOfOther_34 (pc' := 35) rfl rfl ?_
          refine J_iload dX7_isNameOfOther_35 (pc' := 37) rfl rfl ?_
          refine J_iload dX7_isNameOfOther_37 (pc' := 39) rfl rfl ?_
          refine J_v1 (As := [.int (nI i), .int (dv_b th)]) (rest := []) (qX7_nn _ _ i n th hT hx) vX7_nameNowOrThen mX7_199 kd_0 dX7_isNameOfOther_39 (pc' := 42) rfl rfl (Nat.le_of_ble_eq_true rfl) (by decide) ?_
          refine J_aload_n dX7_isNameOfOther_42 (pc' := 43) rfl rfl ?_
          refine J_v1 (As := [.ref o]) (rest := []) (qX4_sm _ _ (nn S th i) o (nn_kd S th (by have := hT.2.1; omega)) ho (hT.tl hx th) hto) vX4_same mX7_203 (nn_kd S th (by omega)).1 dX7_isNameOfOther_43 (pc' := 46) rfl rfl (Nat.le_of_ble_eq_true rfl) (by decide) ?_
          refine J_beq dX7_isNameOfOther_46 (pt := 51) (by decide) (pc' := 49) rfl (fun c46 => ?_) (fun c46 => ?_)
          · refine J_iinc dX7_isNameOfOther_51 (pc' := 54) rfl rfl (v := nI (i + 1)) (nI_1 i) (by decide) rfl (l' := [some (.ref 0), some (.int x), some (.int s), some (.ref o), some (.int (dv_b th)), some (.int (nI (i + 1)))]) rfl ?_
            refine J_goto dX7_isNameOfOther_54 (pc' := 3) (by decide) ?_
            refine ih3 (i + 1) (by omega) (by omega) (lt_s hq ?_)
            clear ih3 hq
            first | (simp [c18]; done) | (simp [c31]; done) | (simp [c46]; done)
          · refine J_iconst dX7_isNameOfOther_49 (pc' := 50) rfl (v := 1) ic_1 ?_
            refine J_zret dX7_isNameOfOther_50 rfl (by decide) (dv_r1 _) ?_
            exact ⟨by rw [dv_fo_yes hx (by simp [c18, c31, c46])]; rfl, rfl⟩
  refine J_loc (l' := [some (.ref 0), some (.int x), some (.int s), some (.ref o), some (.int (dv_b th)), some (.int (nI 0))]) (by simp only [nI_0, dv_b_f, dv_b_t]) ?_
  exact hlp3 0 (Nat.zero_le _) (fun j hj => absurd hj (Nat.not_lt_zero j))
set_option maxRecDepth 100000 in
set_option maxHeartbeats 400000 in
theorem qX7_thingMeant (d : Nat) (S : dv_S) (n sn o p : Nat) (th : Bool) (hT : cw_T S n) (hS : cw_S S n sn) (hp : p < sn) (ho : dv_kd o = 4 ∧ dv_kd (o + 1) = 10 ∧ dv_ln (o + 1) = 24) (hto : tl S o) : dv_M yX7_thingMeant cX7_thingMeant 8 (some .int) (dv_rm (d + 3)) [.ref 0, .int (nI p), .ref o, .int (dv_b th)] S (fun r S' => r = some (.int (dv_oi (cl_tm (hmS S) (fun t => wi S p (hmS S t) && decide (tx S (nn S th t) = tx S o)) n))) ∧ S' = S) := by
  have h80 := hT.2.1
  have h20 := hS.2.1
  have hh : ∀ t, t < n → hmS S t < 2 ^ 31 := fun t ht => by have := (hS.2.2 t ht).2; unfold hmS; omega
  refine dv_M_of [some (.ref 0), some (.int (nI p)), some (.ref o), some (.int (dv_b th)), none, none, none, none] (by decide) (fun _ _ => Nat.le_of_ble_eq_true rfl) (fun _ _ => rfl) ?_
  refine J_bipush dX7_thingMeant_0 (pc' := 2) rfl (v := (-2)) bp_m2 ?_
  refine J_istore dX7_thingMeant_2 (pc' := 4) rfl (by decide) rfl (l' := [some (.ref 0), some (.int (nI p)), some (.ref o), some (.int (dv_b th)), some (.int ((-2))), none, none, none]) rfl ?_
  refine J_iconst dX7_thingMeant_4 (pc' := 5) rfl (v := (-1)) ic_m1 ?_
  refine J_istore dX7_thingMeant_5 (pc' := 7) rfl (by decide) rfl (l' := [some (.ref 0), some (.int (nI p)), some (.ref o), some (.int (dv_b th)), some (.int ((-2))), some (.int ((-1))), none, none]) rfl ?_
  refine J_iconst dX7_thingMeant_7 (pc' := 8) rfl (v := 0) ic_0 ?_
  refine J_istore dX7_thingMeant_8 (pc' := 10) rfl (by decide) rfl (l' := [some (.ref 0), some (.int (nI p)), some (.ref o), some (.int (dv_b th)), some (.int ((-2))), some (.int ((-1))), some (.int 0), none]) rfl ?_
  have hlp10 : ∀ i, i ≤ n → dv_J yX7_thingMeant cX7_thingMeant 8 (some .int) (dv_rm (d + 3)) 0 0 10 [some (.ref 0), some (.int (nI p)), some (.ref o), some (.int (dv_b th)), some (.int (dv_oi (cl_tm (hmS S) (fun t => wi S p (hmS S t) && decide (tx S (nn S th t) = tx S o)) i))), some (.int (cl_hm (hmS S) (cl_tm (hmS S) (fun t => wi S p (hmS S t) && decide (tx S (nn S th t) = tx S o)) i))), some (.int (nI i)), none] [] S (fun r S' => r = some (.int (dv_oi (cl_tm (hmS S) (fun t => wi S p (hmS S t) && decide (tx S (nn S th t) = tx S o)) n))) ∧ S' = S) := by
    refine dv_up (P := fun i => dv_J yX7_thingMeant cX7_thingMeant 8 (some .int) (dv_rm (d + 3)) 0 0 10 [some (.ref 0), some (.int (nI p)), some (.ref o), some (.int (dv_b th)), some (.int (dv_oi (cl_tm (hmS S) (fun t => wi S p (hmS S t) && decide (tx S (nn S th t) = tx S o)) i))), some (.int (cl_hm (hmS S) (cl_tm (hmS S) (fun t => wi S p (hmS S t) && decide (tx S (nn S th t) = tx S o)) i))), some (.int (nI i)), none] [] S (fun r S' => r = some (.int (dv_oi (cl_tm (hmS S) (fun t => wi S p (hmS S t) && decide (tx S (nn S th t) = tx S o)) n))) ∧ S' = S)) ?_
    intro i hi10 ih10 
    refine J_iload dX7_thingMeant_10 (pc' := 12) rfl rfl ?_
    refine J_aload_n dX7_thingMeant_12 (pc' := 13) rfl rfl ?_
    refine J_getr fX7_51 kd_0 rf_0_7 dX7_thingMeant_13 (pc' := 16) rfl ?_
    refine J_v1 (As := []) (rest := [.int (nI i)]) (qX5_size _ _) vX5_size mX7_198 kd_21 dX7_thingMeant_16 (pc' := 19) rfl rfl (Nat.le_of_ble_eq_true rfl) (by decide) ?_
    refine J_top (w := .int (nI n)) (by rw [hT.1]) ?_
    refine J_icmp_ge dX7_thingMeant_19 (pt := 81) (by decide) (pc' := 22) rfl (fun c19 => ?_) (fun c19 => ?_)
    · have hx := dv_ge hi10 (by omega) c19
      refine J_iload dX7_thingMeant_81 (pc' := 83) rfl rfl ?_
      refine J_iret dX7_thingMeant_83 rfl (dv_r1 _) ?_
      exact ⟨by rw [hx], rfl⟩
    · have hx := dv_nge hi10 (by omega) c19
      refine J_aload_n dX7_thingMeant_22 (pc' := 23) rfl rfl ?_
      refine J_getr fX7_51 kd_0 rf_0_7 dX7_thingMeant_23 (pc' := 26) rfl ?_
      refine J_iload dX7_thingMeant_26 (pc' := 28) rfl rfl ?_
      refine J_v1 (As := [.int (nI i)]) (rest := []) (qX5_scopeOf _ _ i n hT.1 hx h80) vX5_scopeOf mX7_161 kd_21 dX7_thingMeant_28 (pc' := 31) rfl rfl (Nat.le_of_ble_eq_true rfl) (by decide) ?_
      refine J_top (w := .int (nI (hmS S i))) (congrArg Value.int (hS.2.2 i hx).1) ?_
      refine J_istore dX7_thingMeant_31 (pc' := 33) rfl (by decide) rfl (l' := [some (.ref 0), some (.int (nI p)), some (.ref o), some (.int (dv_b th)), some (.int (dv_oi (cl_tm (hmS S) (fun t => wi S p (hmS S t) && decide (tx S (nn S th t) = tx S o)) i))), some (.int (cl_hm (hmS S) (cl_tm (hmS S) (fun t => wi S p (hmS S t) && decide (tx S (nn S th t) = tx S o)) i))), some (.int (nI i)), some (.int (nI (hmS S i)))]) rfl ?_
      refine J_iload dX7_thingMeant_33 (pc' := 35) rfl rfl ?_
      refine J_iload dX7_thingMeant_35 (pc' := 37) rfl rfl ?_
      refine J_icmp_le dX7_thingMeant_37 (pt := 75) (by decide) (pc' := 40) rfl (fun c37 => ?_) (fun c37 => ?_)
      · refine J_iinc dX7_thingMeant_75 (pc' := 78) rfl rfl (v := nI (i + 1)) (nI_1 i) (by decide) rfl (l' := [some (.ref 0), some (.int (nI p)), some (.ref o), some (.int (dv_b th)), some (.int (dv_oi (cl_tm (hmS S) (fun t => wi S p (hmS S t) && decide (tx S (nn S th t) = tx S o)) i))), some (.int (cl_hm (hmS S) (cl_tm (hmS S) (fun t => wi S p (hmS S t) && decide (tx S (nn S th t) = tx S o)) i))), some (.int (nI (i + 1))), some (.int (nI (hmS S i)))]) rfl ?_
        refine J_goto dX7_thingMeant_78 (pc' := 10) (by decide) ?_
        refine J_drop 7 (l' := [some (.ref 0), some (.int (nI p)), some (.ref o), some (.int (dv_b th)), some (.int (dv_oi (cl_tm (hmS S) (fun t => wi S p (hmS S t) && decide (tx S (nn S th t) = tx S o)) i))), some (.int (cl_hm (hmS S) (cl_tm (hmS S) (fun t => wi S p (hmS S t) && decide (tx S (nn S th t) = tx S o)) i))), some (.int (nI (i + 1))), none]) rfl ?_
        refine J_loc ?_ (ih10 (i + 1) (by omega) (by omega))
        clear ih10
        first | simp only [cl_tm_k c37 (hh i hx) (fun u hu => hh u (by omega))] | simp only [cl_tm_n (hm := hmS S) (ok := (fun t => wi S p (hmS S t) && decide (tx S (nn S th t) = tx S o))) (t := i) (by simp [c50])] | simp only [cl_tm_n (hm := hmS S) (ok := (fun t => wi S p (hmS S t) && decide (tx S (nn S th t) = tx S o))) (t := i) (by simp [c64])]
      · refine J_aload_n dX7_thingMeant_40 (pc' := 41) rfl rfl ?_
        refine J_getr fX7_44 kd_0 rf_0_6 dX7_thingMeant_41 (pc' := 44) rfl ?_
        refine J_iload_n dX7_thingMeant_44 (pc' := 45) rfl rfl ?_
        refine J_iload dX7_thingMeant_45 (pc' := 47) rfl rfl ?_
        refine J_v1 (As := [.int (nI p), .int (nI (hmS S i))]) (rest := []) (qX3_isWithin _ _ p (hmS S i) sn hS.1 hp (hS.2.2 i hx).2 h20) vX3_isWithin mX7_208 kd_19 dX7_thingMeant_47 (pc' := 50) rfl rfl (Nat.le_of_ble_eq_true rfl) (by decide) ?_
        refine J_beq dX7_thingMeant_50 (pt := 75) (by decide) (pc' := 53) rfl (fun c50 => ?_) (fun c50 => ?_)
        · have c50 : wi S p (hmS S i) = false := c50
          refine J_iinc dX7_thingMeant_75 (pc' := 78) rfl rfl (v := nI (i + 1)) (nI_1 i) (by decide) rfl (l' := [some (.ref 0), some (.int (nI p)), some (.ref o), some (.int (dv_b th)), some (.int (dv_oi (cl_tm (hmS S) (fun t => wi S p (hmS S t) && decide (tx S (nn S th t) = tx S o)) i))), some (.int (cl_hm (hmS S) (cl_tm (hmS S) (fun t => wi S p (hmS S t) && decide (tx S (nn S th t) = tx S o)) i))), some (.int (nI (i + 1))), some (.int (nI (hmS S i)))]) rfl ?_
          refine J_goto dX7_thingMeant_78 (pc' := 10) (by decide) ?_
          refine J_drop 7 (l' := [some (.ref 0), some (.int (nI p)), some (.ref o), some (.int (dv_b th)), some (.int (dv_oi (cl_tm (hmS S) (fun t => wi S p (hmS S t) && decide (tx S (nn S th t) = tx S o)) i))), some (.int (cl_hm (hmS S) (cl_tm (hmS S) (fun t => wi S p (hmS S t) && decide (tx S (nn S th t) = tx S o)) i))), some (.int (nI (i + 1))), none]) rfl ?_
          refine J_loc ?_ (ih10 (i + 1) (by omega) (by omega))
          clear ih10
          first | simp only [cl_tm_k c37 (hh i hx) (fun u hu => hh u (by omega))] | simp only [cl_tm_n (hm := hmS S) (ok := (fun t => wi S p (hmS S t) && decide (tx S (nn S th t) = tx S o))) (t := i) (by simp [c50])] | simp only [cl_tm_n (hm := hmS S) (ok := (fun t => wi S p (hmS S t) && decide (tx S (nn S th t) = tx S o))) (t := i) (by simp [c64])]
        · have c50 : wi S p (hmS S i) = true := c50
          refine J_aload_n dX7_thingMeant_53 (pc' := 54) rfl rfl ?_
          refine J_iload dX7_thingMeant_54 (pc' := 56) rfl rfl ?_
          refine J_iload_n dX7_thingMeant_56 (pc' := 57) rfl rfl ?_
          refine J_v1 (As := [.int (nI i), .int (dv_b th)]) (rest := []) (qX7_nn _ _ i n th hT hx) vX7_nameNowOrThen mX7_199 kd_0 dX7_thingMeant_57 (pc' := 60) rfl rfl (Nat.le_of_ble_eq_true rfl) (by decide) ?_
          refine J_aload_n dX7_thingMeant_60 (pc' := 61) rfl rfl ?_
          refine J_v1 (As := [.ref o]) (rest := []) (qX4_sm _ _ (nn S th i) o (nn_kd S th (by have := hT.2.1; omega)) ho (hT.tl hx th) hto) vX4_same mX7_203 (nn_kd S th (by omega)).1 dX7_thingMeant_61 (pc' := 64) rfl rfl (Nat.le_of_ble_eq_true rfl) (by decide) ?_
          refine J_beq dX7_thingMeant_64 (pt := 75) (by decide) (pc' := 67) rfl (fun c64 => ?_) (fun c64 => ?_)
          · refine J_iinc dX7_thingMeant_75 (pc' := 78) rfl rfl (v := nI (i + 1)) (nI_1 i) (by decide) rfl (l' := [some (.ref 0), some (.int (nI p)), some (.ref o), some (.int (dv_b th)), some (.int (dv_oi (cl_tm (hmS S) (fun t => wi S p (hmS S t) && decide (tx S (nn S th t) = tx S o)) i))), some (.int (cl_hm (hmS S) (cl_tm (hmS S) (fun t => wi S p (hmS S t) && decide (tx S (nn S th t) = tx S o)) i))), some (.int (nI (i + 1))), some (.int (nI (hmS S i)))]) rfl ?_
            refine J_goto dX7_thingMeant_78 (pc' := 10) (by decide) ?_
            refine J_drop 7 (l' := [some (.ref 0), some (.int (nI p)), some (.ref o), some (.int (dv_b th)), some (.int (dv_oi (cl_tm (hmS S) (fun t => wi S p (hmS S t) && decide (tx S (nn S th t) = tx S o)) i))), some (.int (cl_hm (hmS S) (cl_tm (hmS S) (fun t => wi S p (hmS S t) && decide (tx S (nn S th t) = tx S o)) i))), some (.int (nI (i + 1))), none]) rfl ?_
            refine J_loc ?_ (ih10 (i + 1) (by omega) (by omega))
            clear ih10
            first | simp only [cl_tm_k c37 (hh i hx) (fun u hu => hh u (by omega))] | simp only [cl_tm_n (hm := hmS S) (ok := (fun t => wi S p (hmS S t) && decide (tx S (nn S th t) = tx S o))) (t := i) (by simp [c50])] | simp only [cl_tm_n (hm := hmS S) (ok := (fun t => wi S p (hmS S t) && decide (tx S (nn S th t) = tx S o))) (t := i) (by simp [c64])]
          · refine J_iload dX7_thingMeant_67 (pc' := 69) rfl rfl ?_
            refine J_istore dX7_thingMeant_69 (pc' := 71) rfl (by decide) rfl (l' := [some (.ref 0), some (.int (nI p)), some (.ref o), some (.int (dv_b th)), some (.int (nI i)), some (.int (cl_hm (hmS S) (cl_tm (hmS S) (fun t => wi S p (hmS S t) && decide (tx S (nn S th t) = tx S o)) i))), some (.int (nI i)), some (.int (nI (hmS S i)))]) rfl ?_
            refine J_iload dX7_thingMeant_71 (pc' := 73) rfl rfl ?_
            refine J_istore dX7_thingMeant_73 (pc' := 75) rfl (by decide) rfl (l' := [some (.ref 0), some (.int (nI p)), some (.ref o), some (.int (dv_b th)), some (.int (nI i)), some (.int (nI (hmS S i))), some (.int (nI i)), some (.int (nI (hmS S i)))]) rfl ?_
            refine J_iinc dX7_thingMeant_75 (pc' := 78) rfl rfl (v := nI (i + 1)) (nI_1 i) (by decide) rfl (l' := [some (.ref 0), some (.int (nI p)), some (.ref o), some (.int (dv_b th)), some (.int (nI i)), some (.int (nI (hmS S i))), some (.int (nI (i + 1))), some (.int (nI (hmS S i)))]) rfl ?_
            refine J_goto dX7_thingMeant_78 (pc' := 10) (by decide) ?_
            refine J_drop 7 (l' := [some (.ref 0), some (.int (nI p)), some (.ref o), some (.int (dv_b th)), some (.int (nI i)), some (.int (nI (hmS S i))), some (.int (nI (i + 1))), none]) rfl ?_
            refine J_loc ?_ (ih10 (i + 1) (by omega) (by omega))
            clear ih10
            simp only [cl_tm_y c37 (hh i hx) (fun u hu => hh u (by omega)) (by simp [c50, c64])]
            rfl
  refine J_loc (l' := [some (.ref 0), some (.int (nI p)), some (.ref o), some (.int (dv_b th)), some (.int (dv_oi (cl_tm (hmS S) (fun t => wi S p (hmS S t) && decide (tx S (nn S th t) = tx S o)) 0))), some (.int (cl_hm (hmS S) (cl_tm (hmS S) (fun t => wi S p (hmS S t) && decide (tx S (nn S th t) = tx S o)) 0))), some (.int (nI 0)), none]) (by simp only [nI_0, cl_tm, dv_oi, cl_hm]) ?_
  exact hlp10 0 (Nat.zero_le _) 
