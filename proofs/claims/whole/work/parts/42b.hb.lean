set_option maxRecDepth 100000 in
set_option maxHeartbeats 400000 in
theorem qX7_strange (d : Nat) (S : dv_S) (n w : Nat) (hT : cw_T S n) (hw : S.1 13 5 = nI w) (hw60 : w ≤ 60)  : dv_M yX7_strange cX7_strange 4 (some .int) (dv_rm (d + 5)) [.ref 0] S (fun r S' => r = some (.int (nI (sgS S w n))) ∧ sc S S') := by
  have h80 := hT.2.1
  refine dv_M_of [some (.ref 0), none, none, none] (by decide) (fun _ _ => Nat.le_of_ble_eq_true rfl) (fun _ _ => rfl) ?_
  refine J_iconst dX7_strange_0 (pc' := 1) rfl (v := 0) ic_0 ?_
  refine J_istore_n dX7_strange_1 (pc' := 2) rfl rfl (by decide) rfl (l' := [some (.ref 0), some (.int 0), none, none]) rfl ?_
  refine J_iconst dX7_strange_2 (pc' := 3) rfl (v := 0) ic_0 ?_
  refine J_istore_n dX7_strange_3 (pc' := 4) rfl rfl (by decide) rfl (l' := [some (.ref 0), some (.int 0), some (.int 0), none]) rfl ?_
  have hlp4 : ∀ i, i ≤ n → ∀ (S1 : dv_S), sc S S1 → dv_J yX7_strange cX7_strange 4 (some .int) (dv_rm (d + 5)) 0 0 4 [some (.ref 0), some (.int (nI (sgS S w i))), some (.int (nI i)), none] [] S1 (fun r S' => r = some (.int (nI (sgS S w n))) ∧ sc S S') := by
    refine dv_up (P := fun i => ∀ (S1 : dv_S), sc S S1 → dv_J yX7_strange cX7_strange 4 (some .int) (dv_rm (d + 5)) 0 0 4 [some (.ref 0), some (.int (nI (sgS S w i))), some (.int (nI i)), none] [] S1 (fun r S' => r = some (.int (nI (sgS S w n))) ∧ sc S S')) ?_
    intro i hi4 ih4 S1 hI
    refine J_iload_n dX7_strange_4 (pc' := 5) rfl rfl ?_
    refine J_aload_n dX7_strange_5 (pc' := 6) rfl rfl ?_
    refine J_getr fX7_51 kd_0 rf_0_7 dX7_strange_6 (pc' := 9) rfl ?_
    refine J_v1 (As := []) (rest := [.int (nI i)]) (qX5_size _ _) vX5_size mX7_198 kd_21 dX7_strange_9 (pc' := 12) rfl rfl (Nat.le_of_ble_eq_true rfl) (by decide) ?_
    refine J_top (w := .int (nI n)) (by rw [(hI.T hT).1]) ?_
    refine J_icmp_ge dX7_strange_12 (pt := 89) (by decide) (pc' := 15) rfl (fun c12 => ?_) (fun c12 => ?_)
    · have hx := dv_ge hi4 (by omega) c12
      refine J_iload_n dX7_strange_89 (pc' := 90) rfl rfl ?_
      refine J_iret dX7_strange_90 rfl (dv_r1 _) ?_
      exact ⟨by rw [hx], hI⟩
    · have hx := dv_nge hi4 (by omega) c12
      refine J_aload_n dX7_strange_15 (pc' := 16) rfl rfl ?_
      refine J_getr fX7_30 kd_0 rf_0_4 dX7_strange_16 (pc' := 19) rfl ?_
      refine J_aload_n dX7_strange_19 (pc' := 20) rfl rfl ?_
      refine J_getr fX7_51 kd_0 rf_0_7 dX7_strange_20 (pc' := 23) rfl ?_
      refine J_iload_n dX7_strange_23 (pc' := 24) rfl rfl ?_
      refine J_v1 (As := [.int (nI i)]) (rest := [.ref 9]) (qX5_nameOf _ _ i n (hI.T hT).1 hx h80) vX5_nameOf mX7_167 kd_21 dX7_strange_24 (pc' := 27) rfl rfl (Nat.le_of_ble_eq_true rfl) (by decide) ?_
      refine J_vq (As := [.ref (25 + 2 * i)]) (rest := []) (qX1_split _ _ (25 + 2 * i) (dn (S1.1 (25 + 2 * i) 1)) (kd_T (by omega)).1 (kd_T (by omega)).2.1 ((hI.T hT).2.2 i hx).1.1 (by rw [(kd_T (by omega)).2.2]; exact ((hI.T hT).2.2 i hx).1.2) ((hI.T hT).2.2 i hx).1.2) vX1_split mX7_171 kd_9 dX7_strange_27 (pc' := 30) rfl rfl (Nat.le_of_ble_eq_true rfl) (by decide) ?_
      rintro r S2 ⟨rfl, hsp⟩
      have hm24 : (dn (S.1 (25 + 2 * i) 1)) ≤ 24 := (hT.2.2 i hx).1.2
      have hc24 : pnS S i ≤ (dn (S.1 (25 + 2 * i) 1)) := cu_le (S.2.1 (25 + 2 * i + 1)) (dn (S.1 (25 + 2 * i) 1)) (dn (S.1 (25 + 2 * i) 1))
      have hs2 := hI.tr hsp.sc
      have hcs := (hI.spl (by omega) hsp).csp
      show dv_J yX7_strange cX7_strange 4 (some .int) (dv_rm (d + 5)) 0 0 30 [some (.ref 0), some (.int (nI (sgS S w i))), some (.int (nI i)), none] [] S2 (fun r S' => r = some (.int (nI (sgS S w n))) ∧ sc S S')
      refine J_iconst dX7_strange_30 (pc' := 31) rfl (v := 0) ic_0 ?_
      refine J_istore_n dX7_strange_31 (pc' := 32) rfl rfl (by decide) rfl (l' := [some (.ref 0), some (.int (nI (sgS S w i))), some (.int (nI i)), some (.int 0)]) rfl ?_
      have hlp32 : ∀ k, k ≤ (pnS S i) → dv_J yX7_strange cX7_strange 4 (some .int) (dv_rm (d + 5)) 0 0 32 [some (.ref 0), some (.int (nI (sgS S w i + sgp S w (S.2.1 (25 + 2 * i + 1)) (dn (S.1 (25 + 2 * i) 1)) k))), some (.int (nI i)), some (.int (nI k))] [] S2 (fun r S' => r = some (.int (nI (sgS S w n))) ∧ sc S S') := by
        refine dv_up (P := fun k => dv_J yX7_strange cX7_strange 4 (some .int) (dv_rm (d + 5)) 0 0 32 [some (.ref 0), some (.int (nI (sgS S w i + sgp S w (S.2.1 (25 + 2 * i + 1)) (dn (S.1 (25 + 2 * i) 1)) k))), some (.int (nI i)), some (.int (nI k))] [] S2 (fun r S' => r = some (.int (nI (sgS S w n))) ∧ sc S S')) ?_
        intro k hi32 ih32 
        refine J_iload_n dX7_strange_32 (pc' := 33) rfl rfl ?_
        refine J_aload_n dX7_strange_33 (pc' := 34) rfl rfl ?_
        refine J_getr fX7_30 kd_0 rf_0_4 dX7_strange_34 (pc' := 37) rfl ?_
        refine J_v1 (As := []) (rest := [.int (nI k)]) (qX1_size _ _) vX1_size mX7_175 kd_9 dX7_strange_37 (pc' := 40) rfl rfl (Nat.le_of_ble_eq_true rfl) (by decide) ?_
        refine J_top (w := .int (nI (pnS S i))) (by rw [hcs.1]) ?_
        refine J_icmp_ge dX7_strange_40 (pt := 83) (by decide) (pc' := 43) rfl (fun c40 => ?_) (fun c40 => ?_)
        · have hk := dv_ge hi32 (by omega) c40
          refine J_iinc dX7_strange_83 (pc' := 86) rfl rfl (v := nI (i + 1)) (nI_1 i) (by decide) rfl (l' := [some (.ref 0), some (.int (nI (sgS S w i + sgp S w (S.2.1 (25 + 2 * i + 1)) (dn (S.1 (25 + 2 * i) 1)) k))), some (.int (nI (i + 1))), some (.int (nI k))]) rfl ?_
          refine J_goto dX7_strange_86 (pc' := 4) (by decide) ?_
          refine J_drop 3 (l' := [some (.ref 0), some (.int (nI (sgS S w i + sgp S w (S.2.1 (25 + 2 * i + 1)) (dn (S.1 (25 + 2 * i) 1)) k))), some (.int (nI (i + 1))), none]) rfl ?_
          refine J_loc ?_ (ih4 (i + 1) (by omega) (by omega) _ hs2)
          clear ih4
          rw [hk]
          rfl
        · have hk := dv_nge hi32 (by omega) c40
          refine J_aload_n dX7_strange_43 (pc' := 44) rfl rfl ?_
          refine J_getr fX7_30 kd_0 rf_0_4 dX7_strange_44 (pc' := 47) rfl ?_
          refine J_iload_n dX7_strange_47 (pc' := 48) rfl rfl ?_
          refine J_v1 (As := [.int (nI k)]) (rest := []) (qX1_isNumber _ S2 _ _ _ k (dv_spl_cut hcs.spl hm24) hk) vX1_isNumber mX7_262 kd_9 dX7_strange_48 (pc' := 51) rfl rfl (Nat.le_of_ble_eq_true rfl) (by decide) ?_
          refine J_top (w := .int (dv_b (ch_d (ch_lo ((S.2.1 (25 + 2 * i + 1)) ((cu (S.2.1 (25 + 2 * i + 1)) (dn (S.1 (25 + 2 * i) 1)) (dn (S.1 (25 + 2 * i) 1))).2.1 k)))))) (by rw [hcs.2.1 _ (by have := cu_ft (S.2.1 (25 + 2 * i + 1)) (dn (S.1 (25 + 2 * i) 1)) (dn (S.1 (25 + 2 * i) 1)) k hk; omega)]) ?_
          refine J_bne dX7_strange_51 (pt := 77) (by decide) (pc' := 54) rfl (fun c51 => ?_) (fun c51 => ?_)
          · refine J_iinc dX7_strange_77 (pc' := 80) rfl rfl (v := nI (k + 1)) (nI_1 k) (by decide) rfl (l' := [some (.ref 0), some (.int (nI (sgS S w i + sgp S w (S.2.1 (25 + 2 * i + 1)) (dn (S.1 (25 + 2 * i) 1)) k))), some (.int (nI i)), some (.int (nI (k + 1)))]) rfl ?_
            refine J_goto dX7_strange_80 (pc' := 32) (by decide) ?_
            refine J_loc ?_ (ih32 (k + 1) (by omega) (by omega))
            clear ih32 ih4
            first | (simp only [sgp_y (S := S) (w := w) (f := (S.2.1 (25 + 2 * i + 1))) (m := (dn (S.1 (25 + 2 * i) 1))) (k := k) c51 c71]; rfl) | simp only [sgp_n (S := S) (w := w) (f := (S.2.1 (25 + 2 * i + 1))) (m := (dn (S.1 (25 + 2 * i) 1))) (k := k) (Or.inl c51)] | simp only [sgp_n (S := S) (w := w) (f := (S.2.1 (25 + 2 * i + 1))) (m := (dn (S.1 (25 + 2 * i) 1))) (k := k) (Or.inr c71)]
          · refine J_aload_n dX7_strange_54 (pc' := 55) rfl rfl ?_
            refine J_getr fX7_37 kd_0 rf_0_5 dX7_strange_55 (pc' := 58) rfl ?_
            refine J_aload_n dX7_strange_58 (pc' := 59) rfl rfl ?_
            refine J_getr fX7_30 kd_0 rf_0_4 dX7_strange_59 (pc' := 62) rfl ?_
            refine J_iload_n dX7_strange_62 (pc' := 63) rfl rfl ?_
            refine J_v1 (As := [.int (nI k)]) (rest := [.ref 13]) (qX1_key _ S2 S2 (S.2.1 (25 + 2 * i + 1)) (dn (S.1 (25 + 2 * i) 1)) k hcs.spl hm24 hk) vX1_keyOf mX7_217 kd_9 dX7_strange_63 (pc' := 66) rfl rfl (Nat.le_of_ble_eq_true rfl) (by decide) ?_
            refine J_v1 (As := [.long (pk_k (S.2.1 (25 + 2 * i + 1)) (dn (S.1 (25 + 2 * i) 1)) k)]) (rest := []) (qX0_numberOf _ _ _ w (by rw [hs2.1 13 5 (by decide)]; exact hw) hw60) vX0_numberOf mX7_221 kd_13 dX7_strange_66 (pc' := 69) rfl rfl (Nat.le_of_ble_eq_true rfl) (by decide) ?_
            refine J_top (w := .int (dv_oi (pk_w S w (S.2.1 (25 + 2 * i + 1)) (dn (S.1 (25 + 2 * i) 1)) k))) (by rw [hs2.2.2]; rfl) ?_
            refine J_bipush dX7_strange_69 (pc' := 71) rfl (v := (-2)) bp_m2 ?_
            refine J_icmp_ne dX7_strange_71 (pt := 77) (by decide) (pc' := 74) rfl (fun c71 => ?_) (fun c71 => ?_)
            · rw [(dv_oi_m2 (fun j hj => by have := (dv_fo_spec hj).1; omega))] at c71
              refine J_iinc dX7_strange_77 (pc' := 80) rfl rfl (v := nI (k + 1)) (nI_1 k) (by decide) rfl (l' := [some (.ref 0), some (.int (nI (sgS S w i + sgp S w (S.2.1 (25 + 2 * i + 1)) (dn (S.1 (25 + 2 * i) 1)) k))), some (.int (nI i)), some (.int (nI (k + 1)))]) rfl ?_
              refine J_goto dX7_strange_80 (pc' := 32) (by decide) ?_
              refine J_loc ?_ (ih32 (k + 1) (by omega) (by omega))
              clear ih32 ih4
              first | (simp only [sgp_y (S := S) (w := w) (f := (S.2.1 (25 + 2 * i + 1))) (m := (dn (S.1 (25 + 2 * i) 1))) (k := k) c51 c71]; rfl) | simp only [sgp_n (S := S) (w := w) (f := (S.2.1 (25 + 2 * i + 1))) (m := (dn (S.1 (25 + 2 * i) 1))) (k := k) (Or.inl c51)] | simp only [sgp_n (S := S) (w := w) (f := (S.2.1 (25 + 2 * i + 1))) (m := (dn (S.1 (25 + 2 * i) 1))) (k := k) (Or.inr c71)]
            · rw [(dv_oi_m2 (fun j hj => by have := (dv_fo_spec hj).1; omega))] at c71
              refine J_iinc dX7_strange_74 (pc' := 77) rfl rfl (v := nI ((sgS S w i + sgp S w (S.2.1 (25 + 2 * i + 1)) (dn (S.1 (25 + 2 * i) 1)) k) + 1)) (nI_1 (sgS S w i + sgp S w (S.2.1 (25 + 2 * i + 1)) (dn (S.1 (25 + 2 * i) 1)) k)) (by decide) rfl (l' := [some (.ref 0), some (.int (nI ((sgS S w i + sgp S w (S.2.1 (25 + 2 * i + 1)) (dn (S.1 (25 + 2 * i) 1)) k) + 1))), some (.int (nI i)), some (.int (nI k))]) rfl ?_
              refine J_iinc dX7_strange_77 (pc' := 80) rfl rfl (v := nI (k + 1)) (nI_1 k) (by decide) rfl (l' := [some (.ref 0), some (.int (nI ((sgS S w i + sgp S w (S.2.1 (25 + 2 * i + 1)) (dn (S.1 (25 + 2 * i) 1)) k) + 1))), some (.int (nI i)), some (.int (nI (k + 1)))]) rfl ?_
              refine J_goto dX7_strange_80 (pc' := 32) (by decide) ?_
              refine J_loc ?_ (ih32 (k + 1) (by omega) (by omega))
              clear ih32 ih4
              first | (simp only [sgp_y (S := S) (w := w) (f := (S.2.1 (25 + 2 * i + 1))) (m := (dn (S.1 (25 + 2 * i) 1))) (k := k) c51 c71]; rfl) | simp only [sgp_n (S := S) (w := w) (f := (S.2.1 (25 + 2 * i + 1))) (m := (dn (S.1 (25 + 2 * i) 1))) (k := k) (Or.inl c51)] | simp only [sgp_n (S := S) (w := w) (f := (S.2.1 (25 + 2 * i + 1))) (m := (dn (S.1 (25 + 2 * i) 1))) (k := k) (Or.inr c71)]
      refine J_loc (l' := [some (.ref 0), some (.int (nI (sgS S w i + sgp S w (S.2.1 (25 + 2 * i + 1)) (dn (S.1 (25 + 2 * i) 1)) 0))), some (.int (nI i)), some (.int (nI 0))]) (by simp only [nI_0, sgp, Nat.add_zero]) ?_
      exact hlp32 0 (Nat.zero_le _) 
  refine J_loc (l' := [some (.ref 0), some (.int (nI (sgS S w 0))), some (.int (nI 0)), none]) (by simp only [nI_0, sgS]) ?_
  refine J_sto (S' := S) (rfl) ?_
  exact hlp4 0 (Nat.zero_le _) _ (sc.rf _)
set_option maxRecDepth 100000 in
set_option maxHeartbeats 400000 in
theorem qX7_aboutN (d : Nat) (S : dv_S) (x y : Int32) (hx : decide (0 ≤ x ∧ x < S.1 21 3) = false)  : dv_M yX7_about cX7_about 3 (some .int) (dv_rm (d + 6)) [.ref 0, .int x, .int y] S (fun r S' => r = some (.int (-1)) ∧ S' = S) := by
  refine dv_M_of [some (.ref 0), some (.int x), some (.int y)] (by decide) (fun _ _ => Nat.le_of_ble_eq_true rfl) (fun _ _ => rfl) ?_
  refine J_aload_n dX7_about_0 (pc' := 1) rfl rfl ?_
  refine J_getr fX7_51 kd_0 rf_0_7 dX7_about_1 (pc' := 4) rfl ?_
  refine J_iload_n dX7_about_4 (pc' := 5) rfl rfl ?_
  refine J_v1 (As := [.int x]) (rest := []) (qX5_has _ _ _) vX5_has mX7_160 kd_21 dX7_about_5 (pc' := 8) rfl rfl (Nat.le_of_ble_eq_true rfl) (by decide) ?_
  refine J_bne dX7_about_8 (pt := 13) (by decide) (pc' := 11) rfl (fun c8 => ?_) (fun c8 => ?_)
  · exact absurd c8 (by rw [hx]; decide)
  · refine J_iconst dX7_about_11 (pc' := 12) rfl (v := (-1)) ic_m1 ?_
    refine J_iret dX7_about_12 rfl (dv_r1 _) ?_
    exact ⟨rfl, rfl⟩
set_option maxRecDepth 100000 in
set_option maxHeartbeats 400000 in
theorem qX7_about0 (d : Nat) (S : dv_S) (n t : Nat) (hT : cw_T S n) (ht : t < n)  : dv_M yX7_about cX7_about 3 (some .int) (dv_rm (d + 6)) [.ref 0, .int (nI t), .int (nI 0)] S (fun r S' => r = some (.int (S.2.1 22 t)) ∧ S' = S) := by
  have h80 := hT.2.1
  have htl := (hT.2.2 t ht).1
  refine dv_M_of [some (.ref 0), some (.int (nI t)), some (.int (nI 0))] (by decide) (fun _ _ => Nat.le_of_ble_eq_true rfl) (fun _ _ => rfl) ?_
  refine J_aload_n dX7_about_0 (pc' := 1) rfl rfl ?_
  refine J_getr fX7_51 kd_0 rf_0_7 dX7_about_1 (pc' := 4) rfl ?_
  refine J_iload_n dX7_about_4 (pc' := 5) rfl rfl ?_
  refine J_v1 (As := [.int (nI t)]) (rest := []) (qX5_has _ _ _) vX5_has mX7_160 kd_21 dX7_about_5 (pc' := 8) rfl rfl (Nat.le_of_ble_eq_true rfl) (by decide) ?_
  refine J_bne dX7_about_8 (pt := 13) (by decide) (pc' := 11) rfl (fun c8 => ?_) (fun c8 => ?_)
  · refine J_iload_n dX7_about_13 (pc' := 14) rfl rfl ?_
    refine J_tswi (off := 42) (pt := 56) dX7_about_14 (by decide) (by decide) (by decide) (by decide) ?_
    refine J_aload_n dX7_about_56 (pc' := 57) rfl rfl ?_
    refine J_getr fX7_51 kd_0 rf_0_7 dX7_about_57 (pc' := 60) rfl ?_
    refine J_iload_n dX7_about_60 (pc' := 61) rfl rfl ?_
    refine J_v1 (As := [.int (nI t)]) (rest := []) (qX5_scopeOf _ _ t n hT.1 ht h80) vX5_scopeOf mX7_161 kd_21 dX7_about_61 (pc' := 64) rfl rfl (Nat.le_of_ble_eq_true rfl) (by decide) ?_
    refine J_iret dX7_about_64 rfl (dv_r1 _) ?_
    exact ⟨rfl, rfl⟩
  · exact absurd (dv_has ht hT.1 (by omega)) (by rw [c8]; decide)
set_option maxRecDepth 100000 in
set_option maxHeartbeats 400000 in
theorem qX7_about1 (d : Nat) (S : dv_S) (n t : Nat) (hT : cw_T S n) (ht : t < n)  : dv_M yX7_about cX7_about 3 (some .int) (dv_rm (d + 6)) [.ref 0, .int (nI t), .int (nI 1)] S (fun r S' => r = some (.int (S.2.1 23 t)) ∧ S' = S) := by
  have h80 := hT.2.1
  have htl := (hT.2.2 t ht).1
  refine dv_M_of [some (.ref 0), some (.int (nI t)), some (.int (nI 1))] (by decide) (fun _ _ => Nat.le_of_ble_eq_true rfl) (fun _ _ => rfl) ?_
  refine J_aload_n dX7_about_0 (pc' := 1) rfl rfl ?_
  refine J_getr fX7_51 kd_0 rf_0_7 dX7_about_1 (pc' := 4) rfl ?_
  refine J_iload_n dX7_about_4 (pc' := 5) rfl rfl ?_
  refine J_v1 (As := [.int (nI t)]) (rest := []) (qX5_has _ _ _) vX5_has mX7_160 kd_21 dX7_about_5 (pc' := 8) rfl rfl (Nat.le_of_ble_eq_true rfl) (by decide) ?_
  refine J_bne dX7_about_8 (pt := 13) (by decide) (pc' := 11) rfl (fun c8 => ?_) (fun c8 => ?_)
  · refine J_iload_n dX7_about_13 (pc' := 14) rfl rfl ?_
    refine J_tswi (off := 51) (pt := 65) dX7_about_14 (by decide) (by decide) (by decide) (by decide) ?_
    refine J_aload_n dX7_about_65 (pc' := 66) rfl rfl ?_
    refine J_getr fX7_51 kd_0 rf_0_7 dX7_about_66 (pc' := 69) rfl ?_
    refine J_iload_n dX7_about_69 (pc' := 70) rfl rfl ?_
    refine J_v1 (As := [.int (nI t)]) (rest := []) (qX5_kindOf _ _ t n hT.1 ht h80) vX5_kindOf mX7_164 kd_21 dX7_about_70 (pc' := 73) rfl rfl (Nat.le_of_ble_eq_true rfl) (by decide) ?_
    refine J_iret dX7_about_73 rfl (dv_r1 _) ?_
    exact ⟨rfl, rfl⟩
  · exact absurd (dv_has ht hT.1 (by omega)) (by rw [c8]; decide)
set_option maxRecDepth 100000 in
set_option maxHeartbeats 400000 in
theorem qX7_about2 (d : Nat) (S : dv_S) (n t : Nat) (hT : cw_T S n) (ht : t < n)  : dv_M yX7_about cX7_about 3 (some .int) (dv_rm (d + 6)) [.ref 0, .int (nI t), .int (nI 2)] S (fun r S' => r = some (.int (S.1 (25 + 2 * t) 1)) ∧ S' = S) := by
  have h80 := hT.2.1
  have htl := (hT.2.2 t ht).1
  refine dv_M_of [some (.ref 0), some (.int (nI t)), some (.int (nI 2))] (by decide) (fun _ _ => Nat.le_of_ble_eq_true rfl) (fun _ _ => rfl) ?_
  refine J_aload_n dX7_about_0 (pc' := 1) rfl rfl ?_
  refine J_getr fX7_51 kd_0 rf_0_7 dX7_about_1 (pc' := 4) rfl ?_
  refine J_iload_n dX7_about_4 (pc' := 5) rfl rfl ?_
  refine J_v1 (As := [.int (nI t)]) (rest := []) (qX5_has _ _ _) vX5_has mX7_160 kd_21 dX7_about_5 (pc' := 8) rfl rfl (Nat.le_of_ble_eq_true rfl) (by decide) ?_
  refine J_bne dX7_about_8 (pt := 13) (by decide) (pc' := 11) rfl (fun c8 => ?_) (fun c8 => ?_)
  · refine J_iload_n dX7_about_13 (pc' := 14) rfl rfl ?_
    refine J_tswi (off := 60) (pt := 74) dX7_about_14 (by decide) (by decide) (by decide) (by decide) ?_
    refine J_aload_n dX7_about_74 (pc' := 75) rfl rfl ?_
    refine J_getr fX7_51 kd_0 rf_0_7 dX7_about_75 (pc' := 78) rfl ?_
    refine J_iload_n dX7_about_78 (pc' := 79) rfl rfl ?_
    refine J_v1 (As := [.int (nI t)]) (rest := []) (qX5_nameOf _ _ t n hT.1 ht h80) vX5_nameOf mX7_167 kd_21 dX7_about_79 (pc' := 82) rfl rfl (Nat.le_of_ble_eq_true rfl) (by decide) ?_
    refine J_v1 (As := []) (rest := []) (qX4_size _ _ (25 + 2 * t) (kd_T (by omega)).1) vX4_size mX7_88 (kd_T (by omega)).1 dX7_about_82 (pc' := 85) rfl rfl (Nat.le_of_ble_eq_true rfl) (by decide) ?_
    refine J_iret dX7_about_85 rfl (dv_r1 _) ?_
    exact ⟨rfl, rfl⟩
  · exact absurd (dv_has ht hT.1 (by omega)) (by rw [c8]; decide)
set_option maxRecDepth 100000 in
set_option maxHeartbeats 400000 in
theorem qX7_about3 (d : Nat) (S : dv_S) (n t : Nat) (hT : cw_T S n) (ht : t < n)  : dv_M yX7_about cX7_about 3 (some .int) (dv_rm (d + 6)) [.ref 0, .int (nI t), .int (nI 3)] S (fun r S' => r = some (.int (nI (pnS S t))) ∧ sc S S') := by
  have h80 := hT.2.1
  have htl := (hT.2.2 t ht).1
  refine dv_M_of [some (.ref 0), some (.int (nI t)), some (.int (nI 3))] (by decide) (fun _ _ => Nat.le_of_ble_eq_true rfl) (fun _ _ => rfl) ?_
  refine J_aload_n dX7_about_0 (pc' := 1) rfl rfl ?_
  refine J_getr fX7_51 kd_0 rf_0_7 dX7_about_1 (pc' := 4) rfl ?_
  refine J_iload_n dX7_about_4 (pc' := 5) rfl rfl ?_
  refine J_v1 (As := [.int (nI t)]) (rest := []) (qX5_has _ _ _) vX5_has mX7_160 kd_21 dX7_about_5 (pc' := 8) rfl rfl (Nat.le_of_ble_eq_true rfl) (by decide) ?_
  refine J_bne dX7_about_8 (pt := 13) (by decide) (pc' := 11) rfl (fun c8 => ?_) (fun c8 => ?_)
  · refine J_iload_n dX7_about_13 (pc' := 14) rfl rfl ?_
    refine J_tswi (off := 72) (pt := 86) dX7_about_14 (by decide) (by decide) (by decide) (by decide) ?_
    refine J_aload_n dX7_about_86 (pc' := 87) rfl rfl ?_
    refine J_getr fX7_30 kd_0 rf_0_4 dX7_about_87 (pc' := 90) rfl ?_
    refine J_aload_n dX7_about_90 (pc' := 91) rfl rfl ?_
    refine J_getr fX7_51 kd_0 rf_0_7 dX7_about_91 (pc' := 94) rfl ?_
    refine J_iload_n dX7_about_94 (pc' := 95) rfl rfl ?_
    refine J_v1 (As := [.int (nI t)]) (rest := [.ref 9]) (qX5_nameOf _ _ t n hT.1 ht h80) vX5_nameOf mX7_167 kd_21 dX7_about_95 (pc' := 98) rfl rfl (Nat.le_of_ble_eq_true rfl) (by decide) ?_
    refine J_vq (As := [.ref (25 + 2 * t)]) (rest := []) (qX1_split _ _ (25 + 2 * t) (dn (S.1 (25 + 2 * t) 1)) (kd_T (by omega)).1 (kd_T (by omega)).2.1 htl.1 (by rw [(kd_T (by omega)).2.2]; exact htl.2) htl.2) vX1_split mX7_171 kd_9 dX7_about_98 (pc' := 101) rfl rfl (Nat.le_of_ble_eq_true rfl) (by decide) ?_
    rintro r S2 ⟨rfl, hsp⟩
    have hsp : dv_spl S (S.2.1 (25 + 2 * t + 1)) (dn (S.1 (25 + 2 * t) 1)) S2 := hsp
    have hsc := hsp.sc
    show dv_J yX7_about cX7_about 3 (some .int) (dv_rm (d + 6)) 0 0 101 [some (.ref 0), some (.int (nI t)), some (.int (nI 3))] [] S2 (fun r S' => r = some (.int (nI (pnS S t))) ∧ sc S S')
    refine J_aload_n dX7_about_101 (pc' := 102) rfl rfl ?_
    refine J_getr fX7_30 kd_0 rf_0_4 dX7_about_102 (pc' := 105) rfl ?_
    refine J_v1 (As := []) (rest := []) (qX1_size _ _) vX1_size mX7_175 kd_9 dX7_about_105 (pc' := 108) rfl rfl (Nat.le_of_ble_eq_true rfl) (by decide) ?_
    refine J_iret dX7_about_108 rfl (dv_r1 _) ?_
    exact ⟨by rw [hsp.csp.1], hsc⟩
  · exact absurd (dv_has ht hT.1 (by omega)) (by rw [c8]; decide)
set_option maxRecDepth 100000 in
set_option maxHeartbeats 400000 in
theorem qX7_about4 (d : Nat) (S : dv_S) (n t : Nat) (hT : cw_T S n) (ht : t < n)  : dv_M yX7_about cX7_about 3 (some .int) (dv_rm (d + 6)) [.ref 0, .int (nI t), .int (nI 4)] S (fun r S' => r = some (.int (stS S t)) ∧ S' = S) := by
  have h80 := hT.2.1
  have htl := (hT.2.2 t ht).1
  refine dv_M_of [some (.ref 0), some (.int (nI t)), some (.int (nI 4))] (by decide) (fun _ _ => Nat.le_of_ble_eq_true rfl) (fun _ _ => rfl) ?_
  refine J_aload_n dX7_about_0 (pc' := 1) rfl rfl ?_
  refine J_getr fX7_51 kd_0 rf_0_7 dX7_about_1 (pc' := 4) rfl ?_
  refine J_iload_n dX7_about_4 (pc' := 5) rfl rfl ?_
  refine J_v1 (As := [.int (nI t)]) (rest := []) (qX5_has _ _ _) vX5_has mX7_160 kd_21 dX7_about_5 (pc' := 8) rfl rfl (Nat.le_of_ble_eq_true rfl) (by decide) ?_
  refine J_bne dX7_about_8 (pt := 13) (by decide) (pc' := 11) rfl (fun c8 => ?_) (fun c8 => ?_)
  · refine J_iload_n dX7_about_13 (pc' := 14) rfl rfl ?_
    refine J_tswi (off := 95) (pt := 109) dX7_about_14 (by decide) (by decide) (by decide) (by decide) ?_
    refine J_aload_n dX7_about_109 (pc' := 110) rfl rfl ?_
    refine J_getr fX7_51 kd_0 rf_0_7 dX7_about_110 (pc' := 113) rfl ?_
    refine J_iload_n dX7_about_113 (pc' := 114) rfl rfl ?_
    refine J_v1 (As := [.int (nI t)]) (rest := []) (qX5_nameOf _ _ t n hT.1 ht h80) vX5_nameOf mX7_167 kd_21 dX7_about_114 (pc' := 117) rfl rfl (Nat.le_of_ble_eq_true rfl) (by decide) ?_
    refine J_v1 (As := []) (rest := []) (qX4_style _ _ (25 + 2 * t) (dn (S.1 (25 + 2 * t) 1)) (kd_T (by omega)).1 (kd_T (by omega)).2.1 htl.1 (by rw [(kd_T (by omega)).2.2]; exact htl.2)) vX4_style mX7_176 (kd_T (by omega)).1 dX7_about_117 (pc' := 120) rfl rfl (Nat.le_of_ble_eq_true rfl) (by decide) ?_
    refine J_iret dX7_about_120 rfl (dv_r1 _) ?_
    exact ⟨rfl, rfl⟩
  · exact absurd (dv_has ht hT.1 (by omega)) (by rw [c8]; decide)
set_option maxRecDepth 100000 in
set_option maxHeartbeats 400000 in
theorem qX7_about5 (d : Nat) (S : dv_S) (n t w : Nat) (hT : cw_T S n) (ht : t < n) (hw : S.1 13 5 = nI w) (hw60 : w ≤ 60)  : dv_M yX7_about cX7_about 3 (some .int) (dv_rm (d + 6)) [.ref 0, .int (nI t), .int (nI 5)] S (fun r S' => r = some (.int (ptS S w t)) ∧ sc S S') := by
  have h80 := hT.2.1
  have htl := (hT.2.2 t ht).1
  refine dv_M_of [some (.ref 0), some (.int (nI t)), some (.int (nI 5))] (by decide) (fun _ _ => Nat.le_of_ble_eq_true rfl) (fun _ _ => rfl) ?_
  refine J_aload_n dX7_about_0 (pc' := 1) rfl rfl ?_
  refine J_getr fX7_51 kd_0 rf_0_7 dX7_about_1 (pc' := 4) rfl ?_
  refine J_iload_n dX7_about_4 (pc' := 5) rfl rfl ?_
  refine J_v1 (As := [.int (nI t)]) (rest := []) (qX5_has _ _ _) vX5_has mX7_160 kd_21 dX7_about_5 (pc' := 8) rfl rfl (Nat.le_of_ble_eq_true rfl) (by decide) ?_
  refine J_bne dX7_about_8 (pt := 13) (by decide) (pc' := 11) rfl (fun c8 => ?_) (fun c8 => ?_)
  · refine J_iload_n dX7_about_13 (pc' := 14) rfl rfl ?_
    refine J_tswi (off := 107) (pt := 121) dX7_about_14 (by decide) (by decide) (by decide) (by decide) ?_
    refine J_aload_n dX7_about_121 (pc' := 122) rfl rfl ?_
    refine J_iload_n dX7_about_122 (pc' := 123) rfl rfl ?_
    refine J_vq (As := [.int (nI t)]) (rest := []) (qX7_patternOf _ _ n w t hT ht hw hw60) vX7_patternOf mX7_179 kd_0 dX7_about_123 (pc' := 126) rfl rfl (Nat.le_of_ble_eq_true rfl) (by decide) ?_
    rintro r S2 ⟨rfl, hsp⟩
    show dv_J yX7_about cX7_about 3 (some .int) (dv_rm (d + 6)) 0 0 126 [some (.ref 0), some (.int (nI t)), some (.int (nI 5))] [.int (ptS S w t)] S2 (fun r S' => r = some (.int (ptS S w t)) ∧ sc S S')
    refine J_iret dX7_about_126 rfl (dv_r1 _) ?_
    exact ⟨rfl, hsp.sc⟩
  · exact absurd (dv_has ht hT.1 (by omega)) (by rw [c8]; decide)
set_option maxRecDepth 100000 in
set_option maxHeartbeats 400000 in
theorem qX7_about6 (d : Nat) (S : dv_S) (n t un : Nat) (hT : cw_T S n) (ht : t < n) (hu : S.1 185 2 = nI un) (hu150 : un ≤ 150)  : dv_M yX7_about cX7_about 3 (some .int) (dv_rm (d + 6)) [.ref 0, .int (nI t), .int (nI 6)] S (fun r S' => r = some (.int (nI (dv_ct (fun j => decide (S.2.1 187 j = nI t)) un))) ∧ S' = S) := by
  have h80 := hT.2.1
  have htl := (hT.2.2 t ht).1
  refine dv_M_of [some (.ref 0), some (.int (nI t)), some (.int (nI 6))] (by decide) (fun _ _ => Nat.le_of_ble_eq_true rfl) (fun _ _ => rfl) ?_
  refine J_aload_n dX7_about_0 (pc' := 1) rfl rfl ?_
  refine J_getr fX7_51 kd_0 rf_0_7 dX7_about_1 (pc' := 4) rfl ?_
  refine J_iload_n dX7_about_4 (pc' := 5) rfl rfl ?_
  refine J_v1 (As := [.int (nI t)]) (rest := []) (qX5_has _ _ _) vX5_has mX7_160 kd_21 dX7_about_5 (pc' := 8) rfl rfl (Nat.le_of_ble_eq_true rfl) (by decide) ?_
  refine J_bne dX7_about_8 (pt := 13) (by decide) (pc' := 11) rfl (fun c8 => ?_) (fun c8 => ?_)
  · refine J_iload_n dX7_about_13 (pc' := 14) rfl rfl ?_
    refine J_tswi (off := 113) (pt := 127) dX7_about_14 (by decide) (by decide) (by decide) (by decide) ?_
    refine J_aload_n dX7_about_127 (pc' := 128) rfl rfl ?_
    refine J_getr fX7_58 kd_0 rf_0_8 dX7_about_128 (pc' := 131) rfl ?_
    refine J_iload_n dX7_about_131 (pc' := 132) rfl rfl ?_
    refine J_v1 (As := [.int (nI t)]) (rest := []) (qX6_howManyMean _ _ _ un hu hu150) vX6_howManyMean mX7_182 kd_185 dX7_about_132 (pc' := 135) rfl rfl (Nat.le_of_ble_eq_true rfl) (by decide) ?_
    refine J_iret dX7_about_135 rfl (dv_r1 _) ?_
    exact ⟨rfl, rfl⟩
  · exact absurd (dv_has ht hT.1 (by omega)) (by rw [c8]; decide)
set_option maxRecDepth 100000 in
set_option maxHeartbeats 400000 in
theorem qX7_aboutO (d : Nat) (S : dv_S) (n t : Nat) (y : Int32) (hT : cw_T S n) (ht : t < n) (ho : y.toInt < 0 ∨ 7 ≤ y.toInt)  : dv_M yX7_about cX7_about 3 (some .int) (dv_rm (d + 6)) [.ref 0, .int (nI t), .int y] S (fun r S' => r = some (.int (-1)) ∧ S' = S) := by
  have h80 := hT.2.1
  have htl := (hT.2.2 t ht).1
  refine dv_M_of [some (.ref 0), some (.int (nI t)), some (.int y)] (by decide) (fun _ _ => Nat.le_of_ble_eq_true rfl) (fun _ _ => rfl) ?_
  refine J_aload_n dX7_about_0 (pc' := 1) rfl rfl ?_
  refine J_getr fX7_51 kd_0 rf_0_7 dX7_about_1 (pc' := 4) rfl ?_
  refine J_iload_n dX7_about_4 (pc' := 5) rfl rfl ?_
  refine J_v1 (As := [.int (nI t)]) (rest := []) (qX5_has _ _ _) vX5_has mX7_160 kd_21 dX7_about_5 (pc' := 8) rfl rfl (Nat.le_of_ble_eq_true rfl) (by decide) ?_
  refine J_bne dX7_about_8 (pt := 13) (by decide) (pc' := 11) rfl (fun c8 => ?_) (fun c8 => ?_)
  · refine J_iload_n dX7_about_13 (pc' := 14) rfl rfl ?_
    refine J_tswo (pt := 136) dX7_about_14 (ho.imp id (fun q => by omega)) (by decide) ?_
    refine J_iconst dX7_about_136 (pc' := 137) rfl (v := (-1)) ic_m1 ?_
    refine J_iret dX7_about_137 rfl (dv_r1 _) ?_
    exact ⟨rfl, rfl⟩
  · exact absurd (dv_has ht hT.1 (by omega)) (by rw [c8]; decide)
set_option maxRecDepth 100000 in
set_option maxHeartbeats 400000 in
theorem qX7_meansN (d : Nat) (S : dv_S) (x y : Int32) (hx : decide (0 ≤ x ∧ x < S.1 185 2) = false)  : dv_M yX7_means cX7_means 3 (some .int) (dv_rm (d + 2)) [.ref 0, .int x, .int y] S (fun r S' => r = some (.int (-1)) ∧ S' = S) := by
  refine dv_M_of [some (.ref 0), some (.int x), some (.int y)] (by decide) (fun _ _ => Nat.le_of_ble_eq_true rfl) (fun _ _ => rfl) ?_
  refine J_aload_n dX7_means_0 (pc' := 1) rfl rfl ?_
  refine J_getr fX7_58 kd_0 rf_0_8 dX7_means_1 (pc' := 4) rfl ?_
  refine J_iload_n dX7_means_4 (pc' := 5) rfl rfl ?_
  refine J_v1 (As := [.int x]) (rest := []) (qX6_has _ _ _) vX6_has mX7_193 kd_185 dX7_means_5 (pc' := 8) rfl rfl (Nat.le_of_ble_eq_true rfl) (by decide) ?_
  refine J_bne dX7_means_8 (pt := 13) (by decide) (pc' := 11) rfl (fun c8 => ?_) (fun c8 => ?_)
  · exact absurd c8 (by rw [hx]; decide)
  · refine J_iconst dX7_means_11 (pc' := 12) rfl (v := (-1)) ic_m1 ?_
    refine J_iret dX7_means_12 rfl (dv_r1 _) ?_
    exact ⟨rfl, rfl⟩
set_option maxRecDepth 100000 in
set_option maxHeartbeats 400000 in
theorem qX7_means (d : Nat) (S : dv_S) (u un : Nat) (y : Int32) (hu : S.1 185 2 = nI un) (hj : u < un) (hu150 : un ≤ 150)  : dv_M yX7_means cX7_means 3 (some .int) (dv_rm (d + 2)) [.ref 0, .int (nI u), .int y] S (fun r S' => r = some (.int (if y = 0 then S.2.1 186 u else if y = 1 then S.2.1 187 u else -1)) ∧ S' = S) := by
  refine dv_M_of [some (.ref 0), some (.int (nI u)), some (.int y)] (by decide) (fun _ _ => Nat.le_of_ble_eq_true rfl) (fun _ _ => rfl) ?_
  refine J_aload_n dX7_means_0 (pc' := 1) rfl rfl ?_
  refine J_getr fX7_58 kd_0 rf_0_8 dX7_means_1 (pc' := 4) rfl ?_
  refine J_iload_n dX7_means_4 (pc' := 5) rfl rfl ?_
  refine J_v1 (As := [.int (nI u)]) (rest := []) (qX6_has _ _ _) vX6_has mX7_193 kd_185 dX7_means_5 (pc' := 8) rfl rfl (Nat.le_of_ble_eq_true rfl) (by decide) ?_
  refine J_bne dX7_means_8 (pt := 13) (by decide) (pc' := 11) rfl (fun c8 => ?_) (fun c8 => ?_)
  · refine J_iload_n dX7_means_13 (pc' := 14) rfl rfl ?_
    refine J_if_ne dX7_means_14 (pt := 26) (by decide) (pc' := 17) rfl (fun c14 => ?_) (fun c14 => ?_)
    · refine J_iload_n dX7_means_26 (pc' := 27) rfl rfl ?_
      refine J_iconst dX7_means_27 (pc' := 28) rfl (v := 1) ic_1 ?_
      refine J_icmp_ne dX7_means_28 (pt := 42) (by decide) (pc' := 31) rfl (fun c28 => ?_) (fun c28 => ?_)
      · refine J_iconst dX7_means_42 (pc' := 43) rfl (v := (-1)) ic_m1 ?_
        refine J_iret dX7_means_43 rfl (dv_r1 _) ?_
        first | exact ⟨by rw [if_pos c14], rfl⟩ | exact ⟨by rw [if_neg c14, if_pos c28], rfl⟩ | exact ⟨by rw [if_neg c14, if_neg c28], rfl⟩
      · refine J_aload_n dX7_means_31 (pc' := 32) rfl rfl ?_
        refine J_getr fX7_58 kd_0 rf_0_8 dX7_means_32 (pc' := 35) rfl ?_
        refine J_iload_n dX7_means_35 (pc' := 36) rfl rfl ?_
        refine J_v1 (As := [.int (nI u)]) (rest := []) (qX6_thingOf _ _ u un hu hj hu150) vX6_thingOf mX7_195 kd_185 dX7_means_36 (pc' := 39) rfl rfl (Nat.le_of_ble_eq_true rfl) (by decide) ?_
        refine J_goto dX7_means_39 (pc' := 43) (by decide) ?_
        refine J_iret dX7_means_43 rfl (dv_r1 _) ?_
        first | exact ⟨by rw [if_pos c14], rfl⟩ | exact ⟨by rw [if_neg c14, if_pos c28], rfl⟩ | exact ⟨by rw [if_neg c14, if_neg c28], rfl⟩
    · refine J_aload_n dX7_means_17 (pc' := 18) rfl rfl ?_
      refine J_getr fX7_58 kd_0 rf_0_8 dX7_means_18 (pc' := 21) rfl ?_
      refine J_iload_n dX7_means_21 (pc' := 22) rfl rfl ?_
      refine J_v1 (As := [.int (nI u)]) (rest := []) (qX6_scopeOf _ _ u un hu hj hu150) vX6_scopeOf mX7_194 kd_185 dX7_means_22 (pc' := 25) rfl rfl (Nat.le_of_ble_eq_true rfl) (by decide) ?_
      refine J_iret dX7_means_25 rfl (dv_r1 _) ?_
      first | exact ⟨by rw [if_pos c14], rfl⟩ | exact ⟨by rw [if_neg c14, if_pos c28], rfl⟩ | exact ⟨by rw [if_neg c14, if_neg c28], rfl⟩
  · exact absurd (dv_has hj hu (by omega)) (by rw [c8]; decide)
set_option maxRecDepth 100000 in
set_option maxHeartbeats 400000 in
theorem qX7_count0 (d : Nat) (S : dv_S)  : dv_M yX7_count cX7_count 2 (some .int) (dv_rm (d + 2)) [.ref 0, .int (nI 0)] S (fun r S' => r = some (.int (S.1 19 1)) ∧ S' = S) := by
  refine dv_M_of [some (.ref 0), some (.int (nI 0))] (by decide) (fun _ _ => Nat.le_of_ble_eq_true rfl) (fun _ _ => rfl) ?_
  refine J_iload_n dX7_count_0 (pc' := 1) rfl rfl ?_
  refine J_tswi (off := 43) (pt := 44) dX7_count_1 (by decide) (by decide) (by decide) (by decide) ?_
  refine J_aload_n dX7_count_44 (pc' := 45) rfl rfl ?_
  refine J_getr fX7_44 kd_0 rf_0_6 dX7_count_45 (pc' := 48) rfl ?_
  refine J_v1 (As := []) (rest := []) (qX3_size _ _) vX3_size mX7_309 kd_19 dX7_count_48 (pc' := 51) rfl rfl (Nat.le_of_ble_eq_true rfl) (by decide) ?_
  refine J_iret dX7_count_51 rfl (dv_r1 _) ?_
  exact ⟨rfl, rfl⟩
set_option maxRecDepth 100000 in
set_option maxHeartbeats 400000 in
theorem qX7_count1 (d : Nat) (S : dv_S)  : dv_M yX7_count cX7_count 2 (some .int) (dv_rm (d + 2)) [.ref 0, .int (nI 1)] S (fun r S' => r = some (.int (S.1 21 3)) ∧ S' = S) := by
  refine dv_M_of [some (.ref 0), some (.int (nI 1))] (by decide) (fun _ _ => Nat.le_of_ble_eq_true rfl) (fun _ _ => rfl) ?_
  refine J_iload_n dX7_count_0 (pc' := 1) rfl rfl ?_
  refine J_tswi (off := 51) (pt := 52) dX7_count_1 (by decide) (by decide) (by decide) (by decide) ?_
  refine J_aload_n dX7_count_52 (pc' := 53) rfl rfl ?_
  refine J_getr fX7_51 kd_0 rf_0_7 dX7_count_53 (pc' := 56) rfl ?_
  refine J_v1 (As := []) (rest := []) (qX5_size _ _) vX5_size mX7_198 kd_21 dX7_count_56 (pc' := 59) rfl rfl (Nat.le_of_ble_eq_true rfl) (by decide) ?_
  refine J_iret dX7_count_59 rfl (dv_r1 _) ?_
  exact ⟨rfl, rfl⟩
set_option maxRecDepth 100000 in
set_option maxHeartbeats 400000 in
theorem qX7_count2 (d : Nat) (S : dv_S)  : dv_M yX7_count cX7_count 2 (some .int) (dv_rm (d + 2)) [.ref 0, .int (nI 2)] S (fun r S' => r = some (.int (S.1 185 2)) ∧ S' = S) := by
  refine dv_M_of [some (.ref 0), some (.int (nI 2))] (by decide) (fun _ _ => Nat.le_of_ble_eq_true rfl) (fun _ _ => rfl) ?_
  refine J_iload_n dX7_count_0 (pc' := 1) rfl rfl ?_
  refine J_tswi (off := 59) (pt := 60) dX7_count_1 (by decide) (by decide) (by decide) (by decide) ?_
  refine J_aload_n dX7_count_60 (pc' := 61) rfl rfl ?_
  refine J_getr fX7_58 kd_0 rf_0_8 dX7_count_61 (pc' := 64) rfl ?_
  refine J_v1 (As := []) (rest := []) (qX6_size _ _) vX6_size mX7_207 kd_185 dX7_count_64 (pc' := 67) rfl rfl (Nat.le_of_ble_eq_true rfl) (by decide) ?_
  refine J_iret dX7_count_67 rfl (dv_r1 _) ?_
  exact ⟨rfl, rfl⟩
set_option maxRecDepth 100000 in
set_option maxHeartbeats 400000 in
theorem qX7_count3 (d : Nat) (S : dv_S)  : dv_M yX7_count cX7_count 2 (some .int) (dv_rm (d + 2)) [.ref 0, .int (nI 3)] S (fun r S' => r = some (.int (S.1 13 5)) ∧ S' = S) := by
  refine dv_M_of [some (.ref 0), some (.int (nI 3))] (by decide) (fun _ _ => Nat.le_of_ble_eq_true rfl) (fun _ _ => rfl) ?_
  refine J_iload_n dX7_count_0 (pc' := 1) rfl rfl ?_
  refine J_tswi (off := 67) (pt := 68) dX7_count_1 (by decide) (by decide) (by decide) (by decide) ?_
  refine J_aload_n dX7_count_68 (pc' := 69) rfl rfl ?_
  refine J_getr fX7_37 kd_0 rf_0_5 dX7_count_69 (pc' := 72) rfl ?_
  refine J_v1 (As := []) (rest := []) (qX0_size _ _) vX0_size mX7_310 kd_13 dX7_count_72 (pc' := 75) rfl rfl (Nat.le_of_ble_eq_true rfl) (by decide) ?_
  refine J_iret dX7_count_75 rfl (dv_r1 _) ?_
  exact ⟨rfl, rfl⟩
set_option maxRecDepth 100000 in
set_option maxHeartbeats 400000 in
theorem qX7_count4 (d : Nat) (S : dv_S)  : dv_M yX7_count cX7_count 2 (some .int) (dv_rm (d + 2)) [.ref 0, .int (nI 4)] S (fun r S' => r = some (.int (S.1 188 2)) ∧ S' = S) := by
  refine dv_M_of [some (.ref 0), some (.int (nI 4))] (by decide) (fun _ _ => Nat.le_of_ble_eq_true rfl) (fun _ _ => rfl) ?_
  refine J_iload_n dX7_count_0 (pc' := 1) rfl rfl ?_
  refine J_tswi (off := 75) (pt := 76) dX7_count_1 (by decide) (by decide) (by decide) (by decide) ?_
  refine J_aload_n dX7_count_76 (pc' := 77) rfl rfl ?_
  refine J_getr fX7_65 kd_0 rf_0_9 dX7_count_77 (pc' := 80) rfl ?_
  refine J_v1 (As := []) (rest := []) (qX2_size188 _ _) vX2_size mX7_292 kd_188 dX7_count_80 (pc' := 83) rfl rfl (Nat.le_of_ble_eq_true rfl) (by decide) ?_
  refine J_iret dX7_count_83 rfl (dv_r1 _) ?_
  exact ⟨rfl, rfl⟩
set_option maxRecDepth 100000 in
set_option maxHeartbeats 400000 in
theorem qX7_count5 (d : Nat) (S : dv_S)  : dv_M yX7_count cX7_count 2 (some .int) (dv_rm (d + 2)) [.ref 0, .int (nI 5)] S (fun r S' => r = some (.int (S.1 7 1)) ∧ S' = S) := by
  refine dv_M_of [some (.ref 0), some (.int (nI 5))] (by decide) (fun _ _ => Nat.le_of_ble_eq_true rfl) (fun _ _ => rfl) ?_
  refine J_iload_n dX7_count_0 (pc' := 1) rfl rfl ?_
  refine J_tswi (off := 83) (pt := 84) dX7_count_1 (by decide) (by decide) (by decide) (by decide) ?_
  refine J_aload_n dX7_count_84 (pc' := 85) rfl rfl ?_
  refine J_getr fX7_24 kd_0 rf_0_3 dX7_count_85 (pc' := 88) rfl ?_
  refine J_v1 (As := []) (rest := []) (qX4_size _ _ 7 kd_7) vX4_size mX7_88 kd_7 dX7_count_88 (pc' := 91) rfl rfl (Nat.le_of_ble_eq_true rfl) (by decide) ?_
  refine J_iret dX7_count_91 rfl (dv_r1 _) ?_
  exact ⟨rfl, rfl⟩
set_option maxRecDepth 100000 in
set_option maxHeartbeats 400000 in
theorem qX7_count6 (d : Nat) (S : dv_S)  : dv_M yX7_count cX7_count 2 (some .int) (dv_rm (d + 2)) [.ref 0, .int (nI 6)] S (fun r S' => r = some (.int (S.1 1 1)) ∧ S' = S) := by
  refine dv_M_of [some (.ref 0), some (.int (nI 6))] (by decide) (fun _ _ => Nat.le_of_ble_eq_true rfl) (fun _ _ => rfl) ?_
  refine J_iload_n dX7_count_0 (pc' := 1) rfl rfl ?_
  refine J_tswi (off := 91) (pt := 92) dX7_count_1 (by decide) (by decide) (by decide) (by decide) ?_
  refine J_aload_n dX7_count_92 (pc' := 93) rfl rfl ?_
  refine J_getr fX7_14 kd_0 rf_0_0 dX7_count_93 (pc' := 96) rfl ?_
  refine J_v1 (As := []) (rest := []) (qX4_size _ _ 1 kd_1) vX4_size mX7_88 kd_1 dX7_count_96 (pc' := 99) rfl rfl (Nat.le_of_ble_eq_true rfl) (by decide) ?_
  refine J_iret dX7_count_99 rfl (dv_r1 _) ?_
  exact ⟨rfl, rfl⟩
set_option maxRecDepth 100000 in
set_option maxHeartbeats 400000 in
theorem qX7_countO (d : Nat) (S : dv_S) (y : Int32) (ho : y.toInt < 0 ∨ 7 ≤ y.toInt)  : dv_M yX7_count cX7_count 2 (some .int) (dv_rm (d + 2)) [.ref 0, .int y] S (fun r S' => r = some (.int (-1)) ∧ S' = S) := by
  refine dv_M_of [some (.ref 0), some (.int y)] (by decide) (fun _ _ => Nat.le_of_ble_eq_true rfl) (fun _ _ => rfl) ?_
  refine J_iload_n dX7_count_0 (pc' := 1) rfl rfl ?_
  refine J_tswo (pt := 100) dX7_count_1 (ho.imp id (fun q => by omega)) (by decide) ?_
  refine J_iconst dX7_count_100 (pc' := 101) rfl (v := (-1)) ic_m1 ?_
  refine J_iret dX7_count_101 rfl (dv_r1 _) ?_
  exact ⟨rfl, rfl⟩
