def rI (d c s : Nat) : Room := { frames := d, cells := c, slots := s, locals := 32 * d }
section
variable {L : Int32} {xs : Nat → Int32}
set_option maxRecDepth 100000 in
theorem iX4 (S : dv_S) (h : gC) (a cap : Nat) (hk : dv_kd (dv_q a) = 4) (hk1 : dv_kd (dv_q (a + 1)) = 10) (hl1 : dv_ln (dv_q (a + 1)) = cap) (hp : dv_p (dv_q a + 1) = a + 1) (hc1 : 1 ≤ cap) (hc2 : cap ≤ 2000) (h545 : a + 1 < 545) (hs1 : S.1 (dv_q a) 1 = 0) (hs2 : S.1 (dv_q a) 2 = 0) (hs3 : S.2.1 (dv_q (a + 1)) = fun _ => 0) (hh : ∀ dA b, h dA b a = .inr (4, [.null, .int 0, .int 0])) : dv_I yX4_init cX4_init 2 (rI 1 1 cap) [.ref (dv_q a), .int (nI cap)] (a + 1) h (a + 2) (gd a S h) := by
  refine dv_I_of [some (.ref (dv_q a)), some (.int (nI cap))] (by decide) (fun _ _ => Nat.le_of_ble_eq_true rfl) (fun _ _ => rfl) ?_
  refine K_eqs (hx_0 (S := S) hh) ?_
  refine K_aload_n dX4_init_0 (pc' := 1) rfl rfl ?_
  refine K_obj obX4 (by omega) ⟨Nat.le_of_ble_eq_true rfl, Nat.le_of_ble_eq_true rfl⟩ dX4_init_1 (pc' := 4) rfl ?_
  refine K_aload_n dX4_init_4 (pc' := 5) rfl rfl ?_
  refine K_iconst (v := 0) dX4_init_5 (pc' := 6) rfl (by decide) ?_
  refine X_puti fX4_9 (fun _ => Nat.le_of_ble_eq_true rfl) (by omega) (by omega) rfl rfl dX4_init_6 (pc' := 9) rfl ?_
  refine K_aload_n dX4_init_9 (pc' := 10) rfl rfl ?_
  refine K_iconst (v := 0) dX4_init_10 (pc' := 11) rfl (by decide) ?_
  refine X_puti fX4_15 (fun _ => Nat.le_of_ble_eq_true rfl) (by omega) (by omega) rfl rfl dX4_init_11 (pc' := 14) rfl ?_
  refine K_aload_n dX4_init_14 (pc' := 15) rfl rfl ?_
  refine K_iload_n dX4_init_15 (pc' := 16) rfl rfl ?_
  refine K_if_le dX4_init_16 (pt := 23) (by decide) (pc' := 19) rfl (fun q => absurd ((nI_leI (a := cap) (b := 0) (by omega) (by decide)).mp q) (by omega)) (fun _ => ?_)
  refine K_iload_n dX4_init_19 (pc' := 20) rfl rfl ?_
  refine K_goto dX4_init_20 (pc' := 24) (by decide) ?_
  refine X_newa ar_int ra_int (fun _ => rfl) rfl hc2 (by decide) (by omega) ⟨Nat.le_refl _, by show 0 + cap ≤ cap; omega⟩ dX4_init_24 (pc' := 26) rfl (by omega) (fun dA b => cellR hk1 (by decide) hl1 hs3) ?_
  refine X_putr fX4_19 dcX4 rfl (fun _ => Nat.le_of_ble_eq_true rfl) (by omega) (by omega) (by omega) (fun _ => rfl) (fun _ => rfl) dX4_init_26 (pc' := 29) rfl ?_
  refine K_eqs (hx_gd (S := S) (fun dA b => ?_)) (K_vret dX4_init_29 rfl ⟨Nat.le_refl _, by show 0 + cap ≤ cap; omega⟩)
  rw [cellT hk hp, hs1, hs2]; rfl
theorem iX4q (h : gC) (a cap : Nat) (h14 : 14 ≤ a) (hk : dv_kd (a - 1) = 4) (hk1 : dv_kd a = 10) (hl1 : dv_ln a = cap) (hc1 : 1 ≤ cap) (hc2 : cap ≤ 2000) (h545 : a + 1 < 545) (n1 : a - 1 ≠ 19) (n2 : a - 1 ≠ 516) (n3 : a ≠ 20) (n4 : a ≠ 518) (hh : ∀ dA b, h dA b a = .inr (4, [.null, .int 0, .int 0])) : dv_I yX4_init cX4_init 2 (rI 1 1 cap) [.ref (dv_q a), .int (nI cap)] (a + 1) h (a + 2) (gd a (SZ L xs) h) := by
  have e1 : dv_q a = a - 1 := dv_q_14 h14
  have e2 : dv_q (a + 1) = a := by rw [dv_q_14 (by omega)]; omega
  refine iX4 (SZ L xs) h a cap (by rw [e1]; exact hk) (by rw [e2]; exact hk1) (by rw [e2]; exact hl1) ?_ hc1 hc2 h545 ?_ ?_ ?_ hh
  · rw [e1, dv_p_13 (by omega) (by omega)]; omega
  · rw [e1]; exact SZ_f 1 (by omega) n1 n2
  · rw [e1]; exact SZ_f 2 (by omega) n1 n2
  · rw [e2]; exact SZ_r (by omega) n3 n4
set_option maxRecDepth 100000 in
set_option maxHeartbeats 1000000 in
theorem iX1 (h : gC) (hh : ∀ dA b, h dA b 9 = .inr (1, [.null, .null, .null, .null, .int 0])) : dv_I yX1_init cX1_init 1 (rI 1 4 96) [.ref (dv_q 9)] 10 h 14 (gd 9 (SZ L xs) h) := by
  refine dv_I_of [some (.ref (dv_q 9))] (by decide) (fun _ _ => Nat.le_of_ble_eq_true rfl) (fun _ _ => rfl) ?_
  refine K_eqs (hx_0 (S := SZ L xs) hh) ?_
  refine K_aload_n dX1_init_0 (pc' := 1) rfl rfl ?_
  refine K_obj obX1 (by decide) ⟨Nat.le_of_ble_eq_true rfl, Nat.le_of_ble_eq_true rfl⟩ dX1_init_1 (pc' := 4) rfl ?_
  refine K_aload_n dX1_init_4 (pc' := 5) rfl rfl ?_
  refine K_bipush (v := nI 24) dX1_init_5 (pc' := 7) rfl (by decide) ?_
  refine X_newa ar_int ra_int (fun _ => rfl) (len := 24) rfl (by decide) (by decide) (by decide) ⟨Nat.le_of_ble_eq_true rfl, Nat.le_of_ble_eq_true rfl⟩ dX1_init_7 (pc' := 9) rfl (by decide) (fun dA b => cellR rfl (by decide) rfl (SZ_r (by decide) (by decide) (by decide))) ?_
  refine X_putr fX1_9 dcX1 rfl (fun _ => Nat.le_of_ble_eq_true rfl) (by decide) (by decide) (by decide) (fun _ => rfl) (fun _ => rfl) dX1_init_9 (pc' := 12) rfl ?_
  refine K_aload_n dX1_init_12 (pc' := 13) rfl rfl ?_
  refine K_bipush (v := nI 24) dX1_init_13 (pc' := 15) rfl (by decide) ?_
  refine X_newa ar_int ra_int (fun _ => rfl) (len := 24) rfl (by decide) (by decide) (by decide) ⟨Nat.le_of_ble_eq_true rfl, Nat.le_of_ble_eq_true rfl⟩ dX1_init_15 (pc' := 17) rfl (by decide) (fun dA b => cellR rfl (by decide) rfl (SZ_r (by decide) (by decide) (by decide))) ?_
  refine X_putr fX1_15 dcX1 rfl (fun _ => Nat.le_of_ble_eq_true rfl) (by decide) (by decide) (by decide) (fun _ => rfl) (fun _ => rfl) dX1_init_17 (pc' := 20) rfl ?_
  refine K_aload_n dX1_init_20 (pc' := 21) rfl rfl ?_
  refine K_bipush (v := nI 24) dX1_init_21 (pc' := 23) rfl (by decide) ?_
  refine X_newa ar_int ra_int (fun _ => rfl) (len := 24) rfl (by decide) (by decide) (by decide) ⟨Nat.le_of_ble_eq_true rfl, Nat.le_of_ble_eq_true rfl⟩ dX1_init_23 (pc' := 25) rfl (by decide) (fun dA b => cellR rfl (by decide) rfl (SZ_r (by decide) (by decide) (by decide))) ?_
  refine X_putr fX1_18 dcX1 rfl (fun _ => Nat.le_of_ble_eq_true rfl) (by decide) (by decide) (by decide) (fun _ => rfl) (fun _ => rfl) dX1_init_25 (pc' := 28) rfl ?_
  refine K_aload_n dX1_init_28 (pc' := 29) rfl rfl ?_
  refine K_bipush (v := nI 24) dX1_init_29 (pc' := 31) rfl (by decide) ?_
  refine X_newa ar_long ra_long (fun _ => rfl) (len := 24) rfl (by decide) (by decide) (by decide) ⟨Nat.le_of_ble_eq_true rfl, Nat.le_of_ble_eq_true rfl⟩ dX1_init_31 (pc' := 33) rfl (by decide) (fun dA b => cellK rfl rfl rfl) ?_
  refine X_putr fX1_21 dcX1 rfl (fun _ => Nat.le_of_ble_eq_true rfl) (by decide) (by decide) (by decide) (fun _ => rfl) (fun _ => rfl) dX1_init_33 (pc' := 36) rfl ?_
  refine K_aload_n dX1_init_36 (pc' := 37) rfl rfl ?_
  refine K_iconst (v := nI 0) dX1_init_37 (pc' := 38) rfl (by decide) ?_
  refine X_puti fX1_25 (fun _ => Nat.le_of_ble_eq_true rfl) (by decide) (by decide) rfl rfl dX1_init_38 (pc' := 41) rfl ?_
  exact K_eqs (hx_gd (S := SZ L xs) (fun dA b => rfl)) (K_vret dX1_init_41 rfl ⟨Nat.le_of_ble_eq_true rfl, Nat.le_of_ble_eq_true rfl⟩)
set_option maxRecDepth 100000 in
set_option maxHeartbeats 1000000 in
theorem iX0 (h : gC) (hh : ∀ dA b, h dA b 14 = .inr (0, [.null, .null, .null, .null, .null, .int 0])) : dv_I yX0_init cX0_init 1 (rI 1 5 300) [.ref (dv_q 14)] 15 h 20 (gd 14 (SZ L xs) h) := by
  refine dv_I_of [some (.ref (dv_q 14))] (by decide) (fun _ _ => Nat.le_of_ble_eq_true rfl) (fun _ _ => rfl) ?_
  refine K_eqs (hx_0 (S := SZ L xs) hh) ?_
  refine K_aload_n dX0_init_0 (pc' := 1) rfl rfl ?_
  refine K_obj obX0 (by decide) ⟨Nat.le_of_ble_eq_true rfl, Nat.le_of_ble_eq_true rfl⟩ dX0_init_1 (pc' := 4) rfl ?_
  refine K_aload_n dX0_init_4 (pc' := 5) rfl rfl ?_
  refine K_bipush (v := nI 60) dX0_init_5 (pc' := 7) rfl (by decide) ?_
  refine X_newa ar_long ra_long (fun _ => rfl) (len := 60) rfl (by decide) (by decide) (by decide) ⟨Nat.le_of_ble_eq_true rfl, Nat.le_of_ble_eq_true rfl⟩ dX0_init_7 (pc' := 9) rfl (by decide) (fun dA b => cellL rfl rfl rfl) ?_
  refine X_putr fX0_9 dcX0 rfl (fun _ => Nat.le_of_ble_eq_true rfl) (by decide) (by decide) (by decide) (fun _ => rfl) (fun _ => rfl) dX0_init_9 (pc' := 12) rfl ?_
  refine K_aload_n dX0_init_12 (pc' := 13) rfl rfl ?_
  refine K_bipush (v := nI 60) dX0_init_13 (pc' := 15) rfl (by decide) ?_
  refine X_newa ar_int ra_int (fun _ => rfl) (len := 60) rfl (by decide) (by decide) (by decide) ⟨Nat.le_of_ble_eq_true rfl, Nat.le_of_ble_eq_true rfl⟩ dX0_init_15 (pc' := 17) rfl (by decide) (fun dA b => cellR rfl (by decide) rfl (SZ_r (by decide) (by decide) (by decide))) ?_
  refine X_putr fX0_15 dcX0 rfl (fun _ => Nat.le_of_ble_eq_true rfl) (by decide) (by decide) (by decide) (fun _ => rfl) (fun _ => rfl) dX0_init_17 (pc' := 20) rfl ?_
  refine K_aload_n dX0_init_20 (pc' := 21) rfl rfl ?_
  refine K_bipush (v := nI 60) dX0_init_21 (pc' := 23) rfl (by decide) ?_
  refine X_newa ar_int ra_int (fun _ => rfl) (len := 60) rfl (by decide) (by decide) (by decide) ⟨Nat.le_of_ble_eq_true rfl, Nat.le_of_ble_eq_true rfl⟩ dX0_init_23 (pc' := 25) rfl (by decide) (fun dA b => cellR rfl (by decide) rfl (SZ_r (by decide) (by decide) (by decide))) ?_
  refine X_putr fX0_19 dcX0 rfl (fun _ => Nat.le_of_ble_eq_true rfl) (by decide) (by decide) (by decide) (fun _ => rfl) (fun _ => rfl) dX0_init_25 (pc' := 28) rfl ?_
  refine K_aload_n dX0_init_28 (pc' := 29) rfl rfl ?_
  refine K_bipush (v := nI 60) dX0_init_29 (pc' := 31) rfl (by decide) ?_
  refine X_newa ar_int ra_int (fun _ => rfl) (len := 60) rfl (by decide) (by decide) (by decide) ⟨Nat.le_of_ble_eq_true rfl, Nat.le_of_ble_eq_true rfl⟩ dX0_init_31 (pc' := 33) rfl (by decide) (fun dA b => cellR rfl (by decide) rfl (SZ_r (by decide) (by decide) (by decide))) ?_
  refine X_putr fX0_22 dcX0 rfl (fun _ => Nat.le_of_ble_eq_true rfl) (by decide) (by decide) (by decide) (fun _ => rfl) (fun _ => rfl) dX0_init_33 (pc' := 36) rfl ?_
  refine K_aload_n dX0_init_36 (pc' := 37) rfl rfl ?_
  refine K_bipush (v := nI 60) dX0_init_37 (pc' := 39) rfl (by decide) ?_
  refine X_newa ar_int ra_int (fun _ => rfl) (len := 60) rfl (by decide) (by decide) (by decide) ⟨Nat.le_of_ble_eq_true rfl, Nat.le_of_ble_eq_true rfl⟩ dX0_init_39 (pc' := 41) rfl (by decide) (fun dA b => cellR rfl (by decide) rfl (SZ_r (by decide) (by decide) (by decide))) ?_
  refine X_putr fX0_25 dcX0 rfl (fun _ => Nat.le_of_ble_eq_true rfl) (by decide) (by decide) (by decide) (fun _ => rfl) (fun _ => rfl) dX0_init_41 (pc' := 44) rfl ?_
  refine K_aload_n dX0_init_44 (pc' := 45) rfl rfl ?_
  refine K_iconst (v := nI 0) dX0_init_45 (pc' := 46) rfl (by decide) ?_
  refine X_puti fX0_28 (fun _ => Nat.le_of_ble_eq_true rfl) (by decide) (by decide) rfl rfl dX0_init_46 (pc' := 49) rfl ?_
  exact K_eqs (hx_gd (S := SZ L xs) (fun dA b => rfl)) (K_vret dX0_init_49 rfl ⟨Nat.le_of_ble_eq_true rfl, Nat.le_of_ble_eq_true rfl⟩)
set_option maxRecDepth 100000 in
set_option maxHeartbeats 1000000 in
theorem iX6 (h : gC) (hh : ∀ dA b, h dA b 186 = .inr (6, [.null, .null, .int 0])) : dv_I yX6_init cX6_init 1 (rI 1 2 300) [.ref (dv_q 186)] 187 h 189 (gd 186 (SZ L xs) h) := by
  refine dv_I_of [some (.ref (dv_q 186))] (by decide) (fun _ _ => Nat.le_of_ble_eq_true rfl) (fun _ _ => rfl) ?_
  refine K_eqs (hx_0 (S := SZ L xs) hh) ?_
  refine K_aload_n dX6_init_0 (pc' := 1) rfl rfl ?_
  refine K_obj obX6 (by decide) ⟨Nat.le_of_ble_eq_true rfl, Nat.le_of_ble_eq_true rfl⟩ dX6_init_1 (pc' := 4) rfl ?_
  refine K_aload_n dX6_init_4 (pc' := 5) rfl rfl ?_
  refine K_sipush (v := nI 150) dX6_init_5 (pc' := 8) rfl (by decide) ?_
  refine X_newa ar_int ra_int (fun _ => rfl) (len := 150) rfl (by decide) (by decide) (by decide) ⟨Nat.le_of_ble_eq_true rfl, Nat.le_of_ble_eq_true rfl⟩ dX6_init_8 (pc' := 10) rfl (by decide) (fun dA b => cellR rfl (by decide) rfl (SZ_r (by decide) (by decide) (by decide))) ?_
  refine X_putr fX6_9 dcX6 rfl (fun _ => Nat.le_of_ble_eq_true rfl) (by decide) (by decide) (by decide) (fun _ => rfl) (fun _ => rfl) dX6_init_10 (pc' := 13) rfl ?_
  refine K_aload_n dX6_init_13 (pc' := 14) rfl rfl ?_
  refine K_sipush (v := nI 150) dX6_init_14 (pc' := 17) rfl (by decide) ?_
  refine X_newa ar_int ra_int (fun _ => rfl) (len := 150) rfl (by decide) (by decide) (by decide) ⟨Nat.le_of_ble_eq_true rfl, Nat.le_of_ble_eq_true rfl⟩ dX6_init_17 (pc' := 19) rfl (by decide) (fun dA b => cellR rfl (by decide) rfl (SZ_r (by decide) (by decide) (by decide))) ?_
  refine X_putr fX6_15 dcX6 rfl (fun _ => Nat.le_of_ble_eq_true rfl) (by decide) (by decide) (by decide) (fun _ => rfl) (fun _ => rfl) dX6_init_19 (pc' := 22) rfl ?_
  refine K_aload_n dX6_init_22 (pc' := 23) rfl rfl ?_
  refine K_iconst (v := nI 0) dX6_init_23 (pc' := 24) rfl (by decide) ?_
  refine X_puti fX6_18 (fun _ => Nat.le_of_ble_eq_true rfl) (by decide) (by decide) rfl rfl dX6_init_24 (pc' := 27) rfl ?_
  exact K_eqs (hx_gd (S := SZ L xs) (fun dA b => rfl)) (K_vret dX6_init_27 rfl ⟨Nat.le_of_ble_eq_true rfl, Nat.le_of_ble_eq_true rfl⟩)
end
