set_option maxRecDepth 100000 in
set_option maxHeartbeats 400000 in
theorem qX7_nameY (d : Nat) (S : dv_S) (n t i : Nat) (hT : cw_T S n) (ht : t < n) (hi : i < (dn (S.1 (25 + 2 * t) 1)))  : dv_M yX7_name cX7_name 3 (some .int) (dv_rm (d + 2)) [.ref 0, .int (nI t), .int (nI i)] S (fun r S' => r = some (.int (S.2.1 (25 + 2 * t + 1) i)) ∧ S' = S) := by
  have h80 := hT.2.1
  have htl := (hT.2.2 t ht).1
  refine dv_M_of [some (.ref 0), some (.int (nI t)), some (.int (nI i))] (by decide) (fun _ _ => Nat.le_of_ble_eq_true rfl) (fun _ _ => rfl) ?_
  refine J_aload_n dX7_name_0 (pc' := 1) rfl rfl ?_
  refine J_getr fX7_51 kd_0 rf_0_7 dX7_name_1 (pc' := 4) rfl ?_
  refine J_iload_n dX7_name_4 (pc' := 5) rfl rfl ?_
  refine J_v1 (As := [.int (nI t)]) (rest := []) (qX5_has _ _ _) vX5_has mX7_160 kd_21 dX7_name_5 (pc' := 8) rfl rfl (Nat.le_of_ble_eq_true rfl) (by decide) ?_
  refine J_beq dX7_name_8 (pt := 26) (by decide) (pc' := 11) rfl (fun c8 => ?_) (fun c8 => ?_)
  · exact absurd (dv_has ht hT.1 (by omega)) (by rw [c8]; decide)
  · refine J_aload_n dX7_name_11 (pc' := 12) rfl rfl ?_
    refine J_getr fX7_51 kd_0 rf_0_7 dX7_name_12 (pc' := 15) rfl ?_
    refine J_iload_n dX7_name_15 (pc' := 16) rfl rfl ?_
    refine J_v1 (As := [.int (nI t)]) (rest := []) (qX5_nameOf _ _ t n hT.1 ht h80) vX5_nameOf mX7_167 kd_21 dX7_name_16 (pc' := 19) rfl rfl (Nat.le_of_ble_eq_true rfl) (by decide) ?_
    refine J_iload_n dX7_name_19 (pc' := 20) rfl rfl ?_
    refine J_v1 (As := [.int (nI i)]) (rest := []) (qX4_has _ _ (25 + 2 * t) _ (kd_T (by omega)).1) vX4_has mX7_185 (kd_T (by omega)).1 dX7_name_20 (pc' := 23) rfl rfl (Nat.le_of_ble_eq_true rfl) (by decide) ?_
    refine J_bne dX7_name_23 (pt := 36) (by decide) (pc' := 26) rfl (fun c23 => ?_) (fun c23 => ?_)
    · refine J_aload_n dX7_name_36 (pc' := 37) rfl rfl ?_
      refine J_getr fX7_51 kd_0 rf_0_7 dX7_name_37 (pc' := 40) rfl ?_
      refine J_iload_n dX7_name_40 (pc' := 41) rfl rfl ?_
      refine J_v1 (As := [.int (nI t)]) (rest := []) (qX5_nameOf _ _ t n hT.1 ht h80) vX5_nameOf mX7_167 kd_21 dX7_name_41 (pc' := 44) rfl rfl (Nat.le_of_ble_eq_true rfl) (by decide) ?_
      refine J_iload_n dX7_name_44 (pc' := 45) rfl rfl ?_
      refine J_v1 (As := [.int (nI i)]) (rest := []) (qX4_at _ _ (25 + 2 * t) (dn (S.1 (25 + 2 * t) 1)) _ (kd_T (by omega)).1 (kd_T (by omega)).2.1 htl.1 (by rw [(kd_T (by omega)).2.2]; exact htl.2)) vX4_at mX7_98 (kd_T (by omega)).1 dX7_name_45 (pc' := 48) rfl rfl (Nat.le_of_ble_eq_true rfl) (by decide) ?_
      refine J_iret dX7_name_48 rfl (dv_r1 _) ?_
      exact ⟨by rw [dv_gx_in hi (by have := htl.2; omega)], rfl⟩
    · exact absurd (dv_has hi htl.1 (by have := htl.2; omega)) (by rw [c23]; decide)
set_option maxRecDepth 100000 in
set_option maxHeartbeats 400000 in
theorem qX7_outY (d : Nat) (S : dv_S) (i m : Nat) (hm : S.1 7 1 = nI m) (hi : i < m) (h24 : m ≤ 24)  : dv_M yX7_out cX7_out 2 (some .int) (dv_rm (d + 2)) [.ref 0, .int (nI i)] S (fun r S' => r = some (.int (S.2.1 8 i)) ∧ S' = S) := by
  refine dv_M_of [some (.ref 0), some (.int (nI i))] (by decide) (fun _ _ => Nat.le_of_ble_eq_true rfl) (fun _ _ => rfl) ?_
  refine J_aload_n dX7_out_0 (pc' := 1) rfl rfl ?_
  refine J_getr fX7_24 kd_0 rf_0_3 dX7_out_1 (pc' := 4) rfl ?_
  refine J_iload_n dX7_out_4 (pc' := 5) rfl rfl ?_
  refine J_v1 (As := [.int (nI i)]) (rest := []) (qX4_has _ _ (7) _ kd_7) vX4_has mX7_185 kd_7 dX7_out_5 (pc' := 8) rfl rfl (Nat.le_of_ble_eq_true rfl) (by decide) ?_
  refine J_bne dX7_out_8 (pt := 22) (by decide) (pc' := 11) rfl (fun c8 => ?_) (fun c8 => ?_)
  · refine J_aload_n dX7_out_22 (pc' := 23) rfl rfl ?_
    refine J_getr fX7_24 kd_0 rf_0_3 dX7_out_23 (pc' := 26) rfl ?_
    refine J_iload_n dX7_out_26 (pc' := 27) rfl rfl ?_
    refine J_v1 (As := [.int (nI i)]) (rest := []) (qX4_at _ _ 7 m _ kd_7 kd_8 hm (by rw [show dv_ln (7 + 1) = 24 from by decide]; exact h24)) vX4_at mX7_98 kd_7 dX7_out_27 (pc' := 30) rfl rfl (Nat.le_of_ble_eq_true rfl) (by decide) ?_
    refine J_iret dX7_out_30 rfl (dv_r1 _) ?_
    exact ⟨by rw [dv_gx_in hi (by omega)], rfl⟩
  · exact absurd (dv_has hi hm (by omega)) (by rw [c8]; decide)
