section
variable {L : Int32} {xs : Nat → Int32}
set_option maxRecDepth 100000 in
set_option maxHeartbeats 1000000 in
theorem iX7 (h : gC) (hh : ∀ dA b, h dA b 0 = .inr (7, [.null, .null, .null, .null, .null, .null, .null, .null, .null, .null, .null, .null, .null, .int 0, .int 0])) : dv_I yX7_init cX7_init 1 (rI 3 516 9000) [.ref (dv_q 0)] 1 h 517 (gd 0 (SZ L xs) h) := by
  refine dv_I_of [some (.ref (dv_q 0))] (by decide) (fun _ _ => Nat.le_of_ble_eq_true rfl) (fun _ _ => rfl) ?_
  refine K_eqs (hx_0 (S := SZ L xs) hh) ?_
  refine K_aload_n dX7_init_0 (pc' := 1) rfl rfl ?_
  refine K_obj obX7 (by decide) ⟨Nat.le_of_ble_eq_true rfl, Nat.le_of_ble_eq_true rfl⟩ dX7_init_1 (pc' := 4) rfl ?_
  refine K_aload_n dX7_init_4 (pc' := 5) rfl rfl ?_
  refine K_new tyX4 kX4 tyX4_ok clX7_7 inX4 ilX4 fsX4 (by decide) ⟨Nat.le_of_ble_eq_true rfl, Nat.le_of_ble_eq_true rfl⟩ dX7_init_5 (pc' := 8) rfl ?_
  refine K_dup dX7_init_8 (pc' := 9) rfl rfl ?_
  refine K_sipush (v := nI 200) dX7_init_9 (pc' := 12) rfl (by decide) ?_
  refine K_call [.int (nI 200)] (iX4 (SZ L xs) _ 1 200 rfl rfl rfl rfl (by decide) (by decide) (by decide) rfl rfl (SZ_r (by decide) (by decide) (by decide)) gu_at) miX4 mlX7_11 (by decide) dX7_init_12 (pc' := 15) rfl rfl (Nat.le_of_ble_eq_true rfl) ⟨Nat.le_of_ble_eq_true rfl, Nat.le_of_ble_eq_true rfl⟩ ⟨Nat.le_of_ble_eq_true rfl, Nat.le_of_ble_eq_true rfl⟩ ?_
  refine K_eqs (gd_hx (N' := 3) (by decide)) ?_
  refine X_putr2 (fl' := (fun b => [.ref (b + 1), .null, .null, .null, .null, .null, .null, .null, .null, .null, .null, .null, .null, .int 0, .int 0])) fX7_14 dcX7 rfl (fun _ => Nat.le_of_ble_eq_true rfl) (by decide) (by decide) (by decide) (fun _ => rfl) (fun _ => rfl) dX7_init_15 (pc' := 18) rfl (fun _ => rfl) ?_
  refine K_aload_n dX7_init_18 (pc' := 19) rfl rfl ?_
  refine K_new tyX4 kX4 tyX4_ok clX7_7 inX4 ilX4 fsX4 (by decide) ⟨Nat.le_of_ble_eq_true rfl, Nat.le_of_ble_eq_true rfl⟩ dX7_init_19 (pc' := 22) rfl ?_
  refine K_dup dX7_init_22 (pc' := 23) rfl rfl ?_
  refine K_bipush (v := nI 24) dX7_init_23 (pc' := 25) rfl (by decide) ?_
  refine K_call [.int (nI 24)] (iX4 (SZ L xs) _ 3 24 rfl rfl rfl rfl (by decide) (by decide) (by decide) rfl rfl (SZ_r (by decide) (by decide) (by decide)) gu_at) miX4 mlX7_11 (by decide) dX7_init_25 (pc' := 28) rfl rfl (Nat.le_of_ble_eq_true rfl) ⟨Nat.le_of_ble_eq_true rfl, Nat.le_of_ble_eq_true rfl⟩ ⟨Nat.le_of_ble_eq_true rfl, Nat.le_of_ble_eq_true rfl⟩ ?_
  refine K_eqs (gd_hx (N' := 5) (by decide)) ?_
  refine X_putr2 (fl' := (fun b => [.ref (b + 1), .ref (b + 3), .null, .null, .null, .null, .null, .null, .null, .null, .null, .null, .null, .int 0, .int 0])) fX7_18 dcX7 rfl (fun _ => Nat.le_of_ble_eq_true rfl) (by decide) (by decide) (by decide) (fun _ => rfl) (fun _ => rfl) dX7_init_28 (pc' := 31) rfl (fun _ => rfl) ?_
  refine K_aload_n dX7_init_31 (pc' := 32) rfl rfl ?_
  refine K_new tyX4 kX4 tyX4_ok clX7_7 inX4 ilX4 fsX4 (by decide) ⟨Nat.le_of_ble_eq_true rfl, Nat.le_of_ble_eq_true rfl⟩ dX7_init_32 (pc' := 35) rfl ?_
  refine K_dup dX7_init_35 (pc' := 36) rfl rfl ?_
  refine K_bipush (v := nI 24) dX7_init_36 (pc' := 38) rfl (by decide) ?_
  refine K_call [.int (nI 24)] (iX4 (SZ L xs) _ 5 24 rfl rfl rfl rfl (by decide) (by decide) (by decide) rfl rfl (SZ_r (by decide) (by decide) (by decide)) gu_at) miX4 mlX7_11 (by decide) dX7_init_38 (pc' := 41) rfl rfl (Nat.le_of_ble_eq_true rfl) ⟨Nat.le_of_ble_eq_true rfl, Nat.le_of_ble_eq_true rfl⟩ ⟨Nat.le_of_ble_eq_true rfl, Nat.le_of_ble_eq_true rfl⟩ ?_
  refine K_eqs (gd_hx (N' := 7) (by decide)) ?_
  refine X_putr2 (fl' := (fun b => [.ref (b + 1), .ref (b + 3), .ref (b + 5), .null, .null, .null, .null, .null, .null, .null, .null, .null, .null, .int 0, .int 0])) fX7_21 dcX7 rfl (fun _ => Nat.le_of_ble_eq_true rfl) (by decide) (by decide) (by decide) (fun _ => rfl) (fun _ => rfl) dX7_init_41 (pc' := 44) rfl (fun _ => rfl) ?_
  refine K_aload_n dX7_init_44 (pc' := 45) rfl rfl ?_
  refine K_new tyX4 kX4 tyX4_ok clX7_7 inX4 ilX4 fsX4 (by decide) ⟨Nat.le_of_ble_eq_true rfl, Nat.le_of_ble_eq_true rfl⟩ dX7_init_45 (pc' := 48) rfl ?_
  refine K_dup dX7_init_48 (pc' := 49) rfl rfl ?_
  refine K_bipush (v := nI 24) dX7_init_49 (pc' := 51) rfl (by decide) ?_
  refine K_call [.int (nI 24)] (iX4 (SZ L xs) _ 7 24 rfl rfl rfl rfl (by decide) (by decide) (by decide) rfl rfl (SZ_r (by decide) (by decide) (by decide)) gu_at) miX4 mlX7_11 (by decide) dX7_init_51 (pc' := 54) rfl rfl (Nat.le_of_ble_eq_true rfl) ⟨Nat.le_of_ble_eq_true rfl, Nat.le_of_ble_eq_true rfl⟩ ⟨Nat.le_of_ble_eq_true rfl, Nat.le_of_ble_eq_true rfl⟩ ?_
  refine K_eqs (gd_hx (N' := 9) (by decide)) ?_
  refine X_putr2 (fl' := (fun b => [.ref (b + 1), .ref (b + 3), .ref (b + 5), .ref (b + 7), .null, .null, .null, .null, .null, .null, .null, .null, .null, .int 0, .int 0])) fX7_24 dcX7 rfl (fun _ => Nat.le_of_ble_eq_true rfl) (by decide) (by decide) (by decide) (fun _ => rfl) (fun _ => rfl) dX7_init_54 (pc' := 57) rfl (fun _ => rfl) ?_
  refine K_aload_n dX7_init_57 (pc' := 58) rfl rfl ?_
  refine K_new tyX1 kX1 tyX1_ok clX7_27 inX1 ilX1 fsX1 (by decide) ⟨Nat.le_of_ble_eq_true rfl, Nat.le_of_ble_eq_true rfl⟩ dX7_init_58 (pc' := 61) rfl ?_
  refine K_dup dX7_init_61 (pc' := 62) rfl rfl ?_
  refine K_calln [] (iX1 (L := L) (xs := xs) _ gu_at) miX1 ⟨rfl, by decide⟩ (by decide) dX7_init_62 (pc' := 65) rfl rfl (Nat.le_of_ble_eq_true rfl) ⟨Nat.le_of_ble_eq_true rfl, Nat.le_of_ble_eq_true rfl⟩ ⟨Nat.le_of_ble_eq_true rfl, Nat.le_of_ble_eq_true rfl⟩ ?_
  refine K_eqs (gd_hx (N' := 14) (by decide)) ?_
  refine X_putr2 (fl' := (fun b => [.ref (b + 1), .ref (b + 3), .ref (b + 5), .ref (b + 7), .ref (b + 9), .null, .null, .null, .null, .null, .null, .null, .null, .int 0, .int 0])) fX7_30 dcX7 rfl (fun _ => Nat.le_of_ble_eq_true rfl) (by decide) (by decide) (by decide) (fun _ => rfl) (fun _ => rfl) dX7_init_65 (pc' := 68) rfl (fun _ => rfl) ?_
  refine K_aload_n dX7_init_68 (pc' := 69) rfl rfl ?_
  refine K_new tyX0 kX0 tyX0_ok clX7_34 inX0 ilX0 fsX0 (by decide) ⟨Nat.le_of_ble_eq_true rfl, Nat.le_of_ble_eq_true rfl⟩ dX7_init_69 (pc' := 72) rfl ?_
  refine K_dup dX7_init_72 (pc' := 73) rfl rfl ?_
  refine K_calln [] (iX0 (L := L) (xs := xs) _ gu_at) miX0 ⟨rfl, by decide⟩ (by decide) dX7_init_73 (pc' := 76) rfl rfl (Nat.le_of_ble_eq_true rfl) ⟨Nat.le_of_ble_eq_true rfl, Nat.le_of_ble_eq_true rfl⟩ ⟨Nat.le_of_ble_eq_true rfl, Nat.le_of_ble_eq_true rfl⟩ ?_
  refine K_eqs (gd_hx (N' := 20) (by decide)) ?_
  refine X_putr2 (fl' := (fun b => [.ref (b + 1), .ref (b + 3), .ref (b + 5), .ref (b + 7), .ref (b + 9), .ref (b + 14), .null, .null, .null, .null, .null, .null, .null, .int 0, .int 0])) fX7_37 dcX7 rfl (fun _ => Nat.le_of_ble_eq_true rfl) (by decide) (by decide) (by decide) (fun _ => rfl) (fun _ => rfl) dX7_init_76 (pc' := 79) rfl (fun _ => rfl) ?_
  refine K_aload_n dX7_init_79 (pc' := 80) rfl rfl ?_
  refine K_new tyX3 kX3 tyX3_ok clX7_41 inX3 ilX3 fsX3 (by decide) ⟨Nat.le_of_ble_eq_true rfl, Nat.le_of_ble_eq_true rfl⟩ dX7_init_80 (pc' := 83) rfl ?_
  refine K_dup dX7_init_83 (pc' := 84) rfl rfl ?_
  refine K_call [] (iX3 (L := L) (xs := xs) _ gu_at) miX3 mlX7_43 (by decide) dX7_init_84 (pc' := 87) rfl rfl (Nat.le_of_ble_eq_true rfl) ⟨Nat.le_of_ble_eq_true rfl, Nat.le_of_ble_eq_true rfl⟩ ⟨Nat.le_of_ble_eq_true rfl, Nat.le_of_ble_eq_true rfl⟩ ?_
  refine K_eqs (gd_hx (N' := 22) (by decide)) ?_
  refine X_putr2 (fl' := (fun b => [.ref (b + 1), .ref (b + 3), .ref (b + 5), .ref (b + 7), .ref (b + 9), .ref (b + 14), .ref (b + 20), .null, .null, .null, .null, .null, .null, .int 0, .int 0])) fX7_44 dcX7 rfl (fun _ => Nat.le_of_ble_eq_true rfl) (by decide) (by decide) (by decide) (fun _ => rfl) (fun _ => rfl) dX7_init_87 (pc' := 90) rfl (fun _ => rfl) ?_
  refine K_aload_n dX7_init_90 (pc' := 91) rfl rfl ?_
  refine K_new tyX5 kX5 tyX5_ok clX7_48 inX5 ilX5 fsX5 (by decide) ⟨Nat.le_of_ble_eq_true rfl, Nat.le_of_ble_eq_true rfl⟩ dX7_init_91 (pc' := 94) rfl ?_
  refine K_dup dX7_init_94 (pc' := 95) rfl rfl ?_
  refine K_call [] (iX5 (L := L) (xs := xs) _ gu_at) miX5 mlX7_50 (by decide) dX7_init_95 (pc' := 98) rfl rfl (Nat.le_of_ble_eq_true rfl) ⟨Nat.le_of_ble_eq_true rfl, Nat.le_of_ble_eq_true rfl⟩ ⟨Nat.le_of_ble_eq_true rfl, Nat.le_of_ble_eq_true rfl⟩ ?_
  refine K_eqs (gd_hx (N' := 186) (by decide)) ?_
  refine X_putr2 (fl' := (fun b => [.ref (b + 1), .ref (b + 3), .ref (b + 5), .ref (b + 7), .ref (b + 9), .ref (b + 14), .ref (b + 20), .ref (b + 22), .null, .null, .null, .null, .null, .int 0, .int 0])) fX7_51 dcX7 rfl (fun _ => Nat.le_of_ble_eq_true rfl) (by decide) (by decide) (by decide) (fun _ => rfl) (fun _ => rfl) dX7_init_98 (pc' := 101) rfl (fun _ => rfl) ?_
  refine K_aload_n dX7_init_101 (pc' := 102) rfl rfl ?_
  refine K_new tyX6 kX6 tyX6_ok clX7_55 inX6 ilX6 fsX6 (by decide) ⟨Nat.le_of_ble_eq_true rfl, Nat.le_of_ble_eq_true rfl⟩ dX7_init_102 (pc' := 105) rfl ?_
  refine K_dup dX7_init_105 (pc' := 106) rfl rfl ?_
  refine K_calln [] (iX6 (L := L) (xs := xs) _ gu_at) miX6 ⟨rfl, by decide⟩ (by decide) dX7_init_106 (pc' := 109) rfl rfl (Nat.le_of_ble_eq_true rfl) ⟨Nat.le_of_ble_eq_true rfl, Nat.le_of_ble_eq_true rfl⟩ ⟨Nat.le_of_ble_eq_true rfl, Nat.le_of_ble_eq_true rfl⟩ ?_
  refine K_eqs (gd_hx (N' := 189) (by decide)) ?_
  refine X_putr2 (fl' := (fun b => [.ref (b + 1), .ref (b + 3), .ref (b + 5), .ref (b + 7), .ref (b + 9), .ref (b + 14), .ref (b + 20), .ref (b + 22), .ref (b + 186), .null, .null, .null, .null, .int 0, .int 0])) fX7_58 dcX7 rfl (fun _ => Nat.le_of_ble_eq_true rfl) (by decide) (by decide) (by decide) (fun _ => rfl) (fun _ => rfl) dX7_init_109 (pc' := 112) rfl (fun _ => rfl) ?_
  refine K_aload_n dX7_init_112 (pc' := 113) rfl rfl ?_
  refine K_new tyX2 kX2 tyX2_ok clX7_62 inX2 ilX2 fsX2 (by decide) ⟨Nat.le_of_ble_eq_true rfl, Nat.le_of_ble_eq_true rfl⟩ dX7_init_113 (pc' := 116) rfl ?_
  refine K_dup dX7_init_116 (pc' := 117) rfl rfl ?_
  refine K_call [] (iX2_189 (L := L) (xs := xs) _ gu_at) miX2 mlX7_64 (by decide) dX7_init_117 (pc' := 120) rfl rfl (Nat.le_of_ble_eq_true rfl) ⟨Nat.le_of_ble_eq_true rfl, Nat.le_of_ble_eq_true rfl⟩ ⟨Nat.le_of_ble_eq_true rfl, Nat.le_of_ble_eq_true rfl⟩ ?_
  refine K_eqs (gd_hx (N' := 352) (by decide)) ?_
  refine X_putr2 (fl' := (fun b => [.ref (b + 1), .ref (b + 3), .ref (b + 5), .ref (b + 7), .ref (b + 9), .ref (b + 14), .ref (b + 20), .ref (b + 22), .ref (b + 186), .ref (b + 189), .null, .null, .null, .int 0, .int 0])) fX7_65 dcX7 rfl (fun _ => Nat.le_of_ble_eq_true rfl) (by decide) (by decide) (by decide) (fun _ => rfl) (fun _ => rfl) dX7_init_120 (pc' := 123) rfl (fun _ => rfl) ?_
  refine K_aload_n dX7_init_123 (pc' := 124) rfl rfl ?_
  refine K_new tyX2 kX2 tyX2_ok clX7_62 inX2 ilX2 fsX2 (by decide) ⟨Nat.le_of_ble_eq_true rfl, Nat.le_of_ble_eq_true rfl⟩ dX7_init_124 (pc' := 127) rfl ?_
  refine K_dup dX7_init_127 (pc' := 128) rfl rfl ?_
  refine K_call [] (iX2_352 (L := L) (xs := xs) _ gu_at) miX2 mlX7_64 (by decide) dX7_init_128 (pc' := 131) rfl rfl (Nat.le_of_ble_eq_true rfl) ⟨Nat.le_of_ble_eq_true rfl, Nat.le_of_ble_eq_true rfl⟩ ⟨Nat.le_of_ble_eq_true rfl, Nat.le_of_ble_eq_true rfl⟩ ?_
  refine K_eqs (gd_hx (N' := 515) (by decide)) ?_
  refine X_putr2 (fl' := (fun b => [.ref (b + 1), .ref (b + 3), .ref (b + 5), .ref (b + 7), .ref (b + 9), .ref (b + 14), .ref (b + 20), .ref (b + 22), .ref (b + 186), .ref (b + 189), .ref (b + 352), .null, .null, .int 0, .int 0])) fX7_69 dcX7 rfl (fun _ => Nat.le_of_ble_eq_true rfl) (by decide) (by decide) (by decide) (fun _ => rfl) (fun _ => rfl) dX7_init_131 (pc' := 134) rfl (fun _ => rfl) ?_
  refine K_aload_n dX7_init_134 (pc' := 135) rfl rfl ?_
  refine K_bipush (v := nI 80) dX7_init_135 (pc' := 137) rfl (by decide) ?_
  refine X_newa ar_boolean ra_boolean (fun _ => rfl) (len := 80) rfl (by decide) (by decide) (by decide) ⟨Nat.le_of_ble_eq_true rfl, Nat.le_of_ble_eq_true rfl⟩ dX7_init_137 (pc' := 139) rfl (by decide) (fun dA b => cellR rfl (by decide) rfl (SZ_r (by decide) (by decide) (by decide))) ?_
  refine X_putr2 (fl' := (fun b => [.ref (b + 1), .ref (b + 3), .ref (b + 5), .ref (b + 7), .ref (b + 9), .ref (b + 14), .ref (b + 20), .ref (b + 22), .ref (b + 186), .ref (b + 189), .ref (b + 352), .ref (b + 515), .null, .int 0, .int 0])) fX7_72 dcX7 rfl (fun _ => Nat.le_of_ble_eq_true rfl) (by decide) (by decide) (by decide) (fun _ => rfl) (fun _ => rfl) dX7_init_139 (pc' := 142) rfl (fun _ => rfl) ?_
  refine K_aload_n dX7_init_142 (pc' := 143) rfl rfl ?_
  refine K_bipush (v := nI 80) dX7_init_143 (pc' := 145) rfl (by decide) ?_
  refine X_newa ar_int ra_int (fun _ => rfl) (len := 80) rfl (by decide) (by decide) (by decide) ⟨Nat.le_of_ble_eq_true rfl, Nat.le_of_ble_eq_true rfl⟩ dX7_init_145 (pc' := 147) rfl (by decide) (fun dA b => cellR rfl (by decide) rfl (SZ_r (by decide) (by decide) (by decide))) ?_
  refine X_putr2 (fl' := (fun b => [.ref (b + 1), .ref (b + 3), .ref (b + 5), .ref (b + 7), .ref (b + 9), .ref (b + 14), .ref (b + 20), .ref (b + 22), .ref (b + 186), .ref (b + 189), .ref (b + 352), .ref (b + 515), .ref (b + 516), .int 0, .int 0])) fX7_76 dcX7 rfl (fun _ => Nat.le_of_ble_eq_true rfl) (by decide) (by decide) (by decide) (fun _ => rfl) (fun _ => rfl) dX7_init_147 (pc' := 150) rfl (fun _ => rfl) ?_
  refine K_aload_n dX7_init_150 (pc' := 151) rfl rfl ?_
  refine K_iconst (v := nI 0) dX7_init_151 (pc' := 152) rfl (by decide) ?_
  refine X_puti2 (fl' := (fun b => [.ref (b + 1), .ref (b + 3), .ref (b + 5), .ref (b + 7), .ref (b + 9), .ref (b + 14), .ref (b + 20), .ref (b + 22), .ref (b + 186), .ref (b + 189), .ref (b + 352), .ref (b + 515), .ref (b + 516), .int (nI 0), .int 0])) fX7_80 (fun _ => Nat.le_of_ble_eq_true rfl) (by decide) (by decide) rfl rfl dX7_init_152 (pc' := 155) rfl (fun _ => rfl) ?_
  refine K_aload_n dX7_init_155 (pc' := 156) rfl rfl ?_
  refine K_iconst (v := nI 0) dX7_init_156 (pc' := 157) rfl (by decide) ?_
  refine X_puti2 (fl' := (fun b => [.ref (b + 1), .ref (b + 3), .ref (b + 5), .ref (b + 7), .ref (b + 9), .ref (b + 14), .ref (b + 20), .ref (b + 22), .ref (b + 186), .ref (b + 189), .ref (b + 352), .ref (b + 515), .ref (b + 516), .int (nI 0), .int (nI 0)])) fX7_84 (fun _ => Nat.le_of_ble_eq_true rfl) (by decide) (by decide) rfl rfl dX7_init_157 (pc' := 160) rfl (fun _ => rfl) ?_
  exact K_eqs (hx_gd (S := SZ L xs) (fun dA b => rfl)) (K_vret dX7_init_160 rfl ⟨Nat.le_of_ble_eq_true rfl, Nat.le_of_ble_eq_true rfl⟩)
end
