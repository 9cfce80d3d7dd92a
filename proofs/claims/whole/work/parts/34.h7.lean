set_option maxRecDepth 100000 in
set_option maxHeartbeats 400000 in
theorem qX7_howOften (d : Nat) (S : dv_S) (n : Nat) (x p : Int32) (hT : cw_T S n) : dv_M yX7_howOften cX7_howOften 5 (some .int) (dv_rm (d + 2)) [.ref 0, .int x, .int p] S (fun r S' => r = some (.int (nI (dv_ct (fun t => decide (S.2.1 23 t = x) && decide (S.2.1 515 t = p)) n))) ∧ S' = S) := by
  have h80 := hT.2.1
  refine dv_M_of [some (.ref 0), some (.int x), some (.int p), none, none] (by decide) (fun _ _ => Nat.le_of_ble_eq_true rfl) (fun _ _ => rfl) ?_
  refine J_iconst dX7_howOften_0 (pc' := 1) rfl (v := 0) ic_0 ?_
  refine J_istore_n dX7_howOften_1 (pc' := 2) rfl rfl (by decide) rfl (l' := [some (.ref 0), some (.int x), some (.int p), some (.int 0), none]) rfl ?_
  refine J_iconst dX7_howOften_2 (pc' := 3) rfl (v := 0) ic_0 ?_
  refine J_istore dX7_howOften_3 (pc' := 5) rfl (by decide) rfl (l' := [some (.ref 0), some (.int x), some (.int p), some (.int 0), some (.int 0)]) rfl ?_
  have hlp5 : ∀ i, i ≤ n → dv_J yX7_howOften cX7_howOften 5 (some .int) (dv_rm (d + 2)) 0 0 5 [some (.ref 0), some (.int x), some (.int p), some (.int (nI (dv_ct (fun t => decide (S.2.1 23 t = x) && decide (S.2.1 515 t = p)) i))), some (.int (nI i))] [] S (fun r S' => r = some (.int (nI (dv_ct (fun t => decide (S.2.1 23 t = x) && decide (S.2.1 515 t = p)) n))) ∧ S' = S) := by
    refine dv_up (P := fun i => dv_J yX7_howOften cX7_howOften 5 (some .int) (dv_rm (d + 2)) 0 0 5 [some (.ref 0), some (.int x), some (.int p), some (.int (nI (dv_ct (fun t => decide (S.2.1 23 t = x) && decide (S.2.1 515 t = p)) i))), some (.int (nI i))] [] S (fun r S' => r = some (.int (nI (dv_ct (fun t => decide (S.2.1 23 t = x) && decide (S.2.1 515 t = p)) n))) ∧ S' = S)) ?_
    intro i hi5 ih5 
    refine J_iload dX7_howOften_5 (pc' := 7) rfl rfl ?_
    refine J_aload_n dX7_howOften_7 (pc' := 8) rfl rfl ?_
    refine J_getr fX7_51 kd_0 rf_0_7 dX7_howOften_8 (pc' := 11) rfl ?_
    refine J_v1 (As := []) (rest := [.int (nI i)]) (qX5_size _ _) vX5_size mX7_198 kd_21 dX7_howOften_11 (pc' := 14) rfl rfl (Nat.le_of_ble_eq_true rfl) (by decide) ?_
    refine J_top (w := .int (nI n)) (by rw [hT.1]) ?_
    refine J_icmp_ge dX7_howOften_14 (pt := 50) (by decide) (pc' := 17) rfl (fun c14 => ?_) (fun c14 => ?_)
    · have hx := dv_ge hi5 (by omega) c14
      refine J_iload_n dX7_howOften_50 (pc' := 51) rfl rfl ?_
      refine J_iret dX7_howOften_51 rfl (dv_r1 _) ?_
      exact ⟨by rw [hx], rfl⟩
    · have hx := dv_nge hi5 (by omega) c14
      refine J_aload_n dX7_howOften_17 (pc' := 18) rfl rfl ?_
      refine J_getr fX7_51 kd_0 rf_0_7 dX7_howOften_18 (pc' := 21) rfl ?_
      refine J_iload dX7_howOften_21 (pc' := 23) rfl rfl ?_
      refine J_v1 (As := [.int (nI i)]) (rest := []) (qX5_kindOf _ _ i n hT.1 hx h80) vX5_kindOf mX7_164 kd_21 dX7_howOften_23 (pc' := 26) rfl rfl (Nat.le_of_ble_eq_true rfl) (by decide) ?_
      refine J_iload_n dX7_howOften_26 (pc' := 27) rfl rfl ?_
      refine J_icmp_ne dX7_howOften_27 (pt := 44) (by decide) (pc' := 30) rfl (fun c27 => ?_) (fun c27 => ?_)
      · refine J_iinc dX7_howOften_44 (pc' := 47) rfl rfl (v := nI (i + 1)) (nI_1 i) (by decide) rfl (l' := [some (.ref 0), some (.int x), some (.int p), some (.int (nI (dv_ct (fun t => decide (S.2.1 23 t = x) && decide (S.2.1 515 t = p)) i))), some (.int (nI (i + 1)))]) rfl ?_
        refine J_goto dX7_howOften_47 (pc' := 5) (by decide) ?_
        refine J_loc ?_ (ih5 (i + 1) (by omega) (by omega))
        clear ih5
        first | simp only [dv_ct_sf (p := (fun t => decide (S.2.1 23 t = x) && decide (S.2.1 515 t = p))) (n := i) (by simp only [decide_eq_false c27, Bool.false_and])] | simp only [dv_ct_sf (p := (fun t => decide (S.2.1 23 t = x) && decide (S.2.1 515 t = p))) (n := i) (by simp only [decide_eq_false c38, Bool.and_false])]
      · refine J_aload_n dX7_howOften_30 (pc' := 31) rfl rfl ?_
        refine J_getr fX7_76 kd_0 rf_0_12 dX7_howOften_31 (pc' := 34) rfl ?_
        refine J_iload dX7_howOften_34 (pc' := 36) rfl rfl ?_
        refine J_iald (j := i) kd_515 (rfl) (by rw [ln_515]; omega) dX7_howOften_36 (pc' := 37) rfl ?_
        refine J_iload_n dX7_howOften_37 (pc' := 38) rfl rfl ?_
        refine J_icmp_ne dX7_howOften_38 (pt := 44) (by decide) (pc' := 41) rfl (fun c38 => ?_) (fun c38 => ?_)
        · refine J_iinc dX7_howOften_44 (pc' := 47) rfl rfl (v := nI (i + 1)) (nI_1 i) (by decide) rfl (l' := [some (.ref 0), some (.int x), some (.int p), some (.int (nI (dv_ct (fun t => decide (S.2.1 23 t = x) && decide (S.2.1 515 t = p)) i))), some (.int (nI (i + 1)))]) rfl ?_
          refine J_goto dX7_howOften_47 (pc' := 5) (by decide) ?_
          refine J_loc ?_ (ih5 (i + 1) (by omega) (by omega))
          clear ih5
          first | simp only [dv_ct_sf (p := (fun t => decide (S.2.1 23 t = x) && decide (S.2.1 515 t = p))) (n := i) (by simp only [decide_eq_false c27, Bool.false_and])] | simp only [dv_ct_sf (p := (fun t => decide (S.2.1 23 t = x) && decide (S.2.1 515 t = p))) (n := i) (by simp only [decide_eq_false c38, Bool.and_false])]
        · refine J_iinc dX7_howOften_41 (pc' := 44) rfl rfl (v := nI ((dv_ct (fun t => decide (S.2.1 23 t = x) && decide (S.2.1 515 t = p)) i) + 1)) (nI_1 (dv_ct (fun t => decide (S.2.1 23 t = x) && decide (S.2.1 515 t = p)) i)) (by decide) rfl (l' := [some (.ref 0), some (.int x), some (.int p), some (.int (nI ((dv_ct (fun t => decide (S.2.1 23 t = x) && decide (S.2.1 515 t = p)) i) + 1))), some (.int (nI i))]) rfl ?_
          refine J_iinc dX7_howOften_44 (pc' := 47) rfl rfl (v := nI (i + 1)) (nI_1 i) (by decide) rfl (l' := [some (.ref 0), some (.int x), some (.int p), some (.int (nI ((dv_ct (fun t => decide (S.2.1 23 t = x) && decide (S.2.1 515 t = p)) i) + 1))), some (.int (nI (i + 1)))]) rfl ?_
          refine J_goto dX7_howOften_47 (pc' := 5) (by decide) ?_
          refine J_loc ?_ (ih5 (i + 1) (by omega) (by omega))
          clear ih5
          simp only [dv_ct_st (p := (fun t => decide (S.2.1 23 t = x) && decide (S.2.1 515 t = p))) (n := i) (by simp only [decide_eq_true c27, decide_eq_true c38, Bool.and_self])]
  refine J_loc (l' := [some (.ref 0), some (.int x), some (.int p), some (.int (nI (dv_ct (fun t => decide (S.2.1 23 t = x) && decide (S.2.1 515 t = p)) 0))), some (.int (nI 0))]) (by simp only [nI_0, dv_ct]) ?_
  exact hlp5 0 (Nat.zero_le _) 
