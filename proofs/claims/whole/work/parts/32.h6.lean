def cl_hi (S : dv_S) (n un : Nat) : Int32 := match dv_fo (cl_db S) n with
  | some t => nI t
  | none => match dv_fo (cl_st S n) un with
    | some u => 1000 + nI u
    | none => -2
set_option maxRecDepth 100000 in
set_option maxHeartbeats 400000 in
theorem qX7_hinders (d : Nat) (S : dv_S) (n sn un : Nat) (hT : cw_T S n) (hS : cw_S S n sn) (hU : cw_U S n sn un)  : dv_M yX7_hinders cX7_hinders 3 (some .int) (dv_rm (d + 6)) [.ref 0] S (fun r S' => r = some (.int (cl_hi S n un)) ∧ S' = S) := by
  have h80 := hT.2.1
  have h20 := hS.2.1
  have h150 := hU.2.1
  refine dv_M_of [some (.ref 0), none, none] (by decide) (fun _ _ => Nat.le_of_ble_eq_true rfl) (fun _ _ => rfl) ?_
  refine J_aload_n dX7_hinders_0 (pc' := 1) rfl rfl ?_
  refine J_v1 (As := []) (rest := []) (qX7_firstDoubled _ _ n hT) vX7_firstDoubled mX7_294 kd_0 dX7_hinders_1 (pc' := 4) rfl rfl (Nat.le_of_ble_eq_true rfl) (by decide) ?_
  refine J_istore_n dX7_hinders_4 (pc' := 5) rfl rfl (by decide) rfl (l' := [some (.ref 0), some (.int (dv_oi (dv_fo (cl_db S) n))), none]) rfl ?_
  refine J_iload_n dX7_hinders_5 (pc' := 6) rfl rfl ?_
  refine J_bipush dX7_hinders_6 (pc' := 8) rfl (v := (-2)) bp_m2 ?_
  refine J_icmp_eq dX7_hinders_8 (pt := 13) (by decide) (pc' := 11) rfl (fun c8 => ?_) (fun c8 => ?_)
  · rw [(dv_oi_m2 (fun j hj => by have := (dv_fo_spec hj).1; omega))] at c8
    refine J_aload_n dX7_hinders_13 (pc' := 14) rfl rfl ?_
    refine J_v1 (As := []) (rest := []) (qX7_firstStrayed _ _ n sn un hT hS hU) vX7_firstStrayed mX7_297 kd_0 dX7_hinders_14 (pc' := 17) rfl rfl (Nat.le_of_ble_eq_true rfl) (by decide) ?_
    refine J_istore_n dX7_hinders_17 (pc' := 18) rfl rfl (by decide) rfl (l' := [some (.ref 0), some (.int (dv_oi (dv_fo (cl_db S) n))), some (.int (dv_oi (dv_fo (cl_st S n) un)))]) rfl ?_
    refine J_iload_n dX7_hinders_18 (pc' := 19) rfl rfl ?_
    refine J_bipush dX7_hinders_19 (pc' := 21) rfl (v := (-2)) bp_m2 ?_
    refine J_icmp_ne dX7_hinders_21 (pt := 29) (by decide) (pc' := 24) rfl (fun c21 => ?_) (fun c21 => ?_)
    · rw [(dv_oi_m2 (fun j hj => by have := (dv_fo_spec hj).1; omega))] at c21
      refine J_sipush dX7_hinders_29 (pc' := 32) rfl (v := 1000) sp_1000 ?_
      refine J_iload_n dX7_hinders_32 (pc' := 33) rfl rfl ?_
      refine J_iadd dX7_hinders_33 (pc' := 34) rfl ?_
      refine J_iret dX7_hinders_34 rfl (dv_r1 _) ?_
      refine ⟨?_, rfl⟩
      cases h : dv_fo (cl_st S n) un with
      | none => exact absurd h c21
      | some t => simp only [cl_hi, c8, h, dv_oi]
    · rw [(dv_oi_m2 (fun j hj => by have := (dv_fo_spec hj).1; omega))] at c21
      refine J_bipush dX7_hinders_24 (pc' := 26) rfl (v := (-2)) bp_m2 ?_
      refine J_goto dX7_hinders_26 (pc' := 34) (by decide) ?_
      refine J_iret dX7_hinders_34 rfl (dv_r1 _) ?_
      refine ⟨?_, rfl⟩
      simp only [cl_hi, c8, c21]
  · rw [(dv_oi_m2 (fun j hj => by have := (dv_fo_spec hj).1; omega))] at c8
    refine J_iload_n dX7_hinders_11 (pc' := 12) rfl rfl ?_
    refine J_iret dX7_hinders_12 rfl (dv_r1 _) ?_
    refine ⟨?_, rfl⟩
    cases h : dv_fo (cl_db S) n with
    | none => exact absurd h c8
    | some t => simp only [cl_hi, h, dv_oi]
set_option maxRecDepth 100000 in
set_option maxHeartbeats 400000 in
theorem qX7_patternOf (d : Nat) (S : dv_S) (n w t : Nat) (hT : cw_T S n) (ht : t < n) (hw : S.1 13 5 = nI w) (hw60 : w ≤ 60) : dv_M yX7_patternOf cX7_patternOf 4 (some .int) (dv_rm (d + 5)) [.ref 0, .int (nI t)] S (fun r S' => r = some (.int (pk_p S w (S.2.1 (25 + 2 * t + 1)) (dn (S.1 (25 + 2 * t) 1)) (min (cu (S.2.1 (25 + 2 * t + 1)) (dn (S.1 (25 + 2 * t) 1)) (dn (S.1 (25 + 2 * t) 1))).1 4))) ∧ dv_spl S (S.2.1 (25 + 2 * t + 1)) (dn (S.1 (25 + 2 * t) 1)) S') := by
  have h80 := hT.2.1
  have ht80 : t < 80 := by omega
  have hm := (hT.2.2 t ht).1
  refine dv_M_of [some (.ref 0), some (.int (nI t)), none, none] (by decide) (fun _ _ => Nat.le_of_ble_eq_true rfl) (fun _ _ => rfl) ?_
  refine J_aload_n dX7_patternOf_0 (pc' := 1) rfl rfl ?_
  refine J_getr fX7_30 kd_0 rf_0_4 dX7_patternOf_1 (pc' := 4) rfl ?_
  refine J_aload_n dX7_patternOf_4 (pc' := 5) rfl rfl ?_
  refine J_getr fX7_51 kd_0 rf_0_7 dX7_patternOf_5 (pc' := 8) rfl ?_
  refine J_iload_n dX7_patternOf_8 (pc' := 9) rfl rfl ?_
  refine J_v1 (As := [.int (nI t)]) (rest := [.ref 9]) (qX5_nameOf _ _ t n hT.1 ht h80) vX5_nameOf mX7_167 kd_21 dX7_patternOf_9 (pc' := 12) rfl rfl (Nat.le_of_ble_eq_true rfl) (by decide) ?_
  refine J_vq (As := [.ref (25 + 2 * t)]) (rest := []) (qX1_split _ _ (25 + 2 * t) (dn (S.1 (25 + 2 * t) 1)) (kd_T ht80).1 (kd_T ht80).2.1 hm.1 (by rw [(kd_T ht80).2.2]; exact hm.2) hm.2) vX1_split mX7_171 kd_9 dX7_patternOf_12 (pc' := 15) rfl rfl (Nat.le_of_ble_eq_true rfl) (by decide) ?_
  rintro r S1 ⟨rfl, hsp⟩
  have g9 : S1.1 9 4 = nI (cu (S.2.1 (25 + 2 * t + 1)) (dn (S.1 (25 + 2 * t) 1)) (dn (S.1 (25 + 2 * t) 1))).1 := by rw [hsp.1, dv_u_eq]
  have g13 : S1.1 13 5 = nI w := by rw [hsp.1, dv_u_ne _ _ (by simp)]; exact hw
  have hc24 := cu_le (S.2.1 (25 + 2 * t + 1)) (dn (S.1 (25 + 2 * t) 1)) (dn (S.1 (25 + 2 * t) 1))
  have hm24 := hm.2
  show dv_J yX7_patternOf cX7_patternOf 4 (some .int) (dv_rm (d + 5)) 0 0 15 [some (.ref 0), some (.int (nI t)), none, none] [] S1 (fun r S' => r = some (.int (pk_p S w (S.2.1 (25 + 2 * t + 1)) (dn (S.1 (25 + 2 * t) 1)) (min (cu (S.2.1 (25 + 2 * t + 1)) (dn (S.1 (25 + 2 * t) 1)) (dn (S.1 (25 + 2 * t) 1))).1 4))) ∧ dv_spl S (S.2.1 (25 + 2 * t + 1)) (dn (S.1 (25 + 2 * t) 1)) S')
  refine J_iconst dX7_patternOf_15 (pc' := 16) rfl (v := 0) ic_0 ?_
  refine J_istore_n dX7_patternOf_16 (pc' := 17) rfl rfl (by decide) rfl (l' := [some (.ref 0), some (.int (nI t)), some (.int 0), none]) rfl ?_
  refine J_iconst dX7_patternOf_17 (pc' := 18) rfl (v := 0) ic_0 ?_
  refine J_istore_n dX7_patternOf_18 (pc' := 19) rfl rfl (by decide) rfl (l' := [some (.ref 0), some (.int (nI t)), some (.int 0), some (.int 0)]) rfl ?_
  have hlp19 : ∀ i, i ≤ (min (cu (S.2.1 (25 + 2 * t + 1)) (dn (S.1 (25 + 2 * t) 1)) (dn (S.1 (25 + 2 * t) 1))).1 4) → dv_J yX7_patternOf cX7_patternOf 4 (some .int) (dv_rm (d + 5)) 0 0 19 [some (.ref 0), some (.int (nI t)), some (.int (pk_p S w (S.2.1 (25 + 2 * t + 1)) (dn (S.1 (25 + 2 * t) 1)) i)), some (.int (nI i))] [] S1 (fun r S' => r = some (.int (pk_p S w (S.2.1 (25 + 2 * t + 1)) (dn (S.1 (25 + 2 * t) 1)) (min (cu (S.2.1 (25 + 2 * t + 1)) (dn (S.1 (25 + 2 * t) 1)) (dn (S.1 (25 + 2 * t) 1))).1 4))) ∧ dv_spl S (S.2.1 (25 + 2 * t + 1)) (dn (S.1 (25 + 2 * t) 1)) S') := by
    refine dv_up (P := fun i => dv_J yX7_patternOf cX7_patternOf 4 (some .int) (dv_rm (d + 5)) 0 0 19 [some (.ref 0), some (.int (nI t)), some (.int (pk_p S w (S.2.1 (25 + 2 * t + 1)) (dn (S.1 (25 + 2 * t) 1)) i)), some (.int (nI i))] [] S1 (fun r S' => r = some (.int (pk_p S w (S.2.1 (25 + 2 * t + 1)) (dn (S.1 (25 + 2 * t) 1)) (min (cu (S.2.1 (25 + 2 * t + 1)) (dn (S.1 (25 + 2 * t) 1)) (dn (S.1 (25 + 2 * t) 1))).1 4))) ∧ dv_spl S (S.2.1 (25 + 2 * t + 1)) (dn (S.1 (25 + 2 * t) 1)) S')) ?_
    intro i hi19 ih19 
    refine J_iload_n dX7_patternOf_19 (pc' := 20) rfl rfl ?_
    refine J_aload_n dX7_patternOf_20 (pc' := 21) rfl rfl ?_
    refine J_getr fX7_30 kd_0 rf_0_4 dX7_patternOf_21 (pc' := 24) rfl ?_
    refine J_v1 (As := []) (rest := [.int (nI i)]) (qX1_size _ _) vX1_size mX7_175 kd_9 dX7_patternOf_24 (pc' := 27) rfl rfl (Nat.le_of_ble_eq_true rfl) (by decide) ?_
    refine J_top (w := .int (nI (cu (S.2.1 (25 + 2 * t + 1)) (dn (S.1 (25 + 2 * t) 1)) (dn (S.1 (25 + 2 * t) 1))).1)) (by rw [g9]) ?_
    refine J_icmp_ge dX7_patternOf_27 (pt := 69) (by decide) (pc' := 30) rfl (fun c27 => ?_) (fun c27 => ?_)
    · rw [nI_leI (by omega) (by omega)] at c27
      refine J_iload_n dX7_patternOf_69 (pc' := 70) rfl rfl ?_
      refine J_iret dX7_patternOf_70 rfl (dv_r1 _) ?_
      exact ⟨by rw [show i = min (cu (S.2.1 (25 + 2 * t + 1)) (dn (S.1 (25 + 2 * t) 1)) (dn (S.1 (25 + 2 * t) 1))).1 4 by omega], hsp⟩
    · rw [nI_leI (by omega) (by omega)] at c27
      refine J_iload_n dX7_patternOf_30 (pc' := 31) rfl rfl ?_
      refine J_iconst dX7_patternOf_31 (pc' := 32) rfl (v := 4) ic_4 ?_
      refine J_top (w := .int (nI 4)) (by decide) ?_
      refine J_icmp_ge dX7_patternOf_32 (pt := 69) (by decide) (pc' := 35) rfl (fun c32 => ?_) (fun c32 => ?_)
      · rw [nI_leI (by omega) (by omega)] at c32
        refine J_iload_n dX7_patternOf_69 (pc' := 70) rfl rfl ?_
        refine J_iret dX7_patternOf_70 rfl (dv_r1 _) ?_
        exact ⟨by rw [show i = min (cu (S.2.1 (25 + 2 * t + 1)) (dn (S.1 (25 + 2 * t) 1)) (dn (S.1 (25 + 2 * t) 1))).1 4 by omega], hsp⟩
      · rw [nI_leI (by omega) (by omega)] at c32
        refine J_iload_n dX7_patternOf_35 (pc' := 36) rfl rfl ?_
        refine J_bipush dX7_patternOf_36 (pc' := 38) rfl (v := 16) bp_16 ?_
        refine J_imul dX7_patternOf_38 (pc' := 39) rfl ?_
        refine J_aload_n dX7_patternOf_39 (pc' := 40) rfl rfl ?_
        refine J_getr fX7_37 kd_0 rf_0_5 dX7_patternOf_40 (pc' := 43) rfl ?_
        refine J_aload_n dX7_patternOf_43 (pc' := 44) rfl rfl ?_
        refine J_getr fX7_37 kd_0 rf_0_5 dX7_patternOf_44 (pc' := 47) rfl ?_
        refine J_aload_n dX7_patternOf_47 (pc' := 48) rfl rfl ?_
        refine J_getr fX7_30 kd_0 rf_0_4 dX7_patternOf_48 (pc' := 51) rfl ?_
        refine J_iload_n dX7_patternOf_51 (pc' := 52) rfl rfl ?_
        refine J_v1 (As := [.int (nI i)]) (rest := [.ref 13, .ref 13, .int ((pk_p S w (S.2.1 (25 + 2 * t + 1)) (dn (S.1 (25 + 2 * t) 1)) i) * 16)]) (qX1_key _ S S1 (S.2.1 (25 + 2 * t + 1)) (dn (S.1 (25 + 2 * t) 1)) i hsp hm.2 (by omega)) vX1_keyOf mX7_217 kd_9 dX7_patternOf_52 (pc' := 55) rfl rfl (Nat.le_of_ble_eq_true rfl) (by decide) ?_
        refine J_v1 (As := [.long (pk_k (S.2.1 (25 + 2 * t + 1)) (dn (S.1 (25 + 2 * t) 1)) i)]) (rest := [.ref 13, .int ((pk_p S w (S.2.1 (25 + 2 * t + 1)) (dn (S.1 (25 + 2 * t) 1)) i) * 16)]) (qX0_numberOf _ _ _ w g13 hw60) vX0_numberOf mX7_221 kd_13 dX7_patternOf_55 (pc' := 58) rfl rfl (Nat.le_of_ble_eq_true rfl) (by decide) ?_
        refine J_top (w := .int (dv_oi (pk_w S w (S.2.1 (25 + 2 * t + 1)) (dn (S.1 (25 + 2 * t) 1)) i))) (by rw [hsp.2.2.1]; rfl) ?_
        refine J_v1 (As := [.int (dv_oi (pk_w S w (S.2.1 (25 + 2 * t + 1)) (dn (S.1 (25 + 2 * t) 1)) i))]) (rest := [.int ((pk_p S w (S.2.1 (25 + 2 * t + 1)) (dn (S.1 (25 + 2 * t) 1)) i) * 16)]) (qX0_roleOf _ _ _ w g13 hw60) vX0_roleOf mX7_265 kd_13 dX7_patternOf_58 (pc' := 61) rfl rfl (Nat.le_of_ble_eq_true rfl) (by decide) ?_
        refine J_iadd dX7_patternOf_61 (pc' := 62) rfl ?_
        refine J_top (w := .int (pk_p S w (S.2.1 (25 + 2 * t + 1)) (dn (S.1 (25 + 2 * t) 1)) (i + 1))) (by rw [hsp.2.1 15 (by decide) (by decide) (by decide)]; rfl) ?_
        refine J_istore_n dX7_patternOf_62 (pc' := 63) rfl rfl (by decide) rfl (l' := [some (.ref 0), some (.int (nI t)), some (.int (pk_p S w (S.2.1 (25 + 2 * t + 1)) (dn (S.1 (25 + 2 * t) 1)) (i + 1))), some (.int (nI i))]) rfl ?_
        refine J_iinc dX7_patternOf_63 (pc' := 66) rfl rfl (v := nI (i + 1)) (nI_1 i) (by decide) rfl (l' := [some (.ref 0), some (.int (nI t)), some (.int (pk_p S w (S.2.1 (25 + 2 * t + 1)) (dn (S.1 (25 + 2 * t) 1)) (i + 1))), some (.int (nI (i + 1)))]) rfl ?_
        refine J_goto dX7_patternOf_66 (pc' := 19) (by decide) ?_
        exact ih19 (i + 1) (by omega) (by omega)
  refine J_loc (l' := [some (.ref 0), some (.int (nI t)), some (.int (pk_p S w (S.2.1 (25 + 2 * t + 1)) (dn (S.1 (25 + 2 * t) 1)) 0)), some (.int (nI 0))]) (by simp only [nI_0, pk_p]) ?_
  exact hlp19 0 (Nat.zero_le _) 
