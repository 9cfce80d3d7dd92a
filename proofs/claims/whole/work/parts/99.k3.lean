theorem SY_ky {L : Int32} {xs : Nat → Int32} : dv_ky (SY L xs).2.1 = dv_ky (SZ L xs).2.1 := by funext i; simp [dv_ky, SY, SZ]
theorem mk_upd0 {n : Nat} {v : Int32} (h : 0 < n) : dv_mk n (upd (fun _ => 0) 0 v) = upd (fun _ => 0) 0 v := by rw [← dv_mk_upd h, dv_mk_0]
theorem fin_iast {o ci r N len : Nat} {L : Int32} {xs : Nat → Int32} {fl : Nat → List Value} {h : gC} {f : Nat → Int32} (he : ∀ dA b, .inr (ci, fl b) = dv_co dA b (SZ L xs) o) (hr : (SZ L xs).2.1 (dv_q r) = f) (hmf : dv_mk len f = f) (hk : dv_kd (dv_q r) = 10) (hl : dv_ln (dv_q r) = len) (ho : ∀ a, o < a → a < N → a ≠ r → dv_q a ≠ 20 ∧ dv_q a ≠ 518 ∧ dv_q a ≠ 100000) (hor : o < r) :
    ∀ (dA : Nat → ClassId) (b a : Nat), a < N → gu (hx o ci fl (SY L xs) h) r (fun dA _ => .inl (dA 10, len, .inl f)) dA b a = gd o (SZ L xs) h dA b a := by
  intro dA b a ha
  by_cases q : a = r
  · subst q
    simp only [gu, gd, if_true, if_pos (show o ≤ a by omega)]
    rw [dv_co, dv_cell_i hk (by decide), hl, hr, hmf]
  · simp only [gu, if_neg q]
    by_cases q1 : a = o
    · subst q1
      rw [hx_o, he dA]; simp [gd]
    · by_cases q2 : o < a
      · obtain ⟨z1, z2, z3⟩ := ho a q2 ha q
        simp only [hx, gd, if_neg q1, if_pos q2, if_pos (show o ≤ a by omega)]
        exact dv_cell_F rfl (SZ_r z3 z1 z2).symm rfl SY_ky
      · simp only [hx, gd, if_neg q1, if_neg q2, if_neg (show ¬ o ≤ a by omega)]
section
variable {y : MethodName} {cc : ByteArray} {n : Nat} {ret : Option FieldType} {R : Room} {cs ss pc pc' : Nat} {l l' : List (Option Value)} {st : List Value} {N o ci : Nat} {fl fl' : Nat → List Value} {S : dv_S} {g : gC} {Q : dv_ZT}
theorem X_puti2 {idx k : Nat} {ty : FieldType} {v : Int32} (hF : dv_F y.cls idx ci k false ty) (hlen : ∀ b, k < (fl b).length) (ha : o < N) (h544 : o < 545) (hn : narrow ty (.int v) = .int v) (hfit : fits ty (.int v) = true) (hd : decode cc pc = .ok (.putfield idx, 3)) (hp : pc + 3 = pc') (hset : ∀ b, (fl b).set k (.int v) = fl' b)
    (kk : dv_K y cc n ret R cs ss pc' l st N (hx o ci fl' S g) Q) : dv_K y cc n ret R cs ss pc l (.int v :: .ref (dv_q o) :: st) N (hx o ci fl S g) Q :=
  X_puti hF hlen ha h544 hn hfit hd hp (by rw [show (fun b => (fl b).set k (.int v)) = fl' from funext hset]; exact kk)
theorem X_putr2 {idx k t : Nat} {ty : FieldType} (hF : dv_F y.cls idx ci k true ty) (hdc : ∀ C Tf Nf, vwCl[ci]? = some (C, Tf, Nf) → ∀ k, k < Nf → (Tf k).1 = y.cls) (hin2 : y.name = "<init>") (hlen : ∀ b, k < (fl b).length) (ha : o < N) (h544 : o < 545) (ht : t < 545) (hn : ∀ q, narrow ty (.ref q) = .ref q) (hfit : ∀ q, fits ty (.ref q) = true) (hd : decode cc pc = .ok (.putfield idx, 3)) (hp : pc + 3 = pc') (hset : ∀ b, (fl b).set k (.ref (b + t)) = fl' b)
    (kk : dv_K y cc n ret R cs ss pc' l st N (hx o ci fl' S g) Q) : dv_K y cc n ret R cs ss pc l (.ref (dv_q t) :: .ref (dv_q o) :: st) N (hx o ci fl S g) Q :=
  X_putr hF hdc hin2 hlen ha h544 ht hn hfit hd hp (by rw [show (fun b => (fl b).set k (.ref (b + t))) = fl' from funext hset]; exact kk)
end
section
variable {L : Int32} {xs : Nat → Int32}
theorem SZ_20 : (SZ L xs).2.1 20 = upd (fun _ => 0) 0 (nI 1) := by
  funext i
  by_cases q : i = 0
  · subst q; rfl
  · simp [SZ, upd, q]
theorem SZ_518 : (SZ L xs).2.1 518 = upd (fun _ => 0) 0 (-1) := by
  funext i
  by_cases q : i = 0
  · subst q; rfl
  · simp [SZ, upd, q]
theorem hxY {o ci r len : Nat} {fl : Nat → List Value} {h : gC} (hor : o < r) (hk : dv_kd (dv_q r) = 10) (hl : dv_ln (dv_q r) = len) (dA : Nat → ClassId) (b : Nat) : hx o ci fl (SY L xs) h dA b r = .inl (dA 10, len, .inl (fun _ => 0)) := by
  simp only [hx, if_neg (show ¬ r = o by omega), if_pos hor]
  exact cellR hk (by decide) hl rfl
set_option maxRecDepth 100000 in
set_option maxHeartbeats 1000000 in
theorem iX3 (h : gC) (hh : ∀ dA b, h dA b 20 = .inr (3, [.null, .int 0])) : dv_I yX3_init cX3_init 1 (rI 1 1 20) [.ref (dv_q 20)] 21 h 22 (gd 20 (SZ L xs) h) := by
  refine dv_I_of [some (.ref (dv_q 20))] (by decide) (fun _ _ => Nat.le_of_ble_eq_true rfl) (fun _ _ => rfl) ?_
  refine K_eqs (hx_0 (S := SY L xs) hh) ?_
  refine K_aload_n dX3_init_0 (pc' := 1) rfl rfl ?_
  refine K_obj obX3 (by decide) ⟨Nat.le_of_ble_eq_true rfl, Nat.le_of_ble_eq_true rfl⟩ dX3_init_1 (pc' := 4) rfl ?_
  refine K_aload_n dX3_init_4 (pc' := 5) rfl rfl ?_
  refine K_bipush (v := nI 20) dX3_init_5 (pc' := 7) rfl (by decide) ?_
  refine X_newa ar_int ra_int (fun _ => rfl) (len := 20) rfl (by decide) (by decide) (by decide) ⟨Nat.le_of_ble_eq_true rfl, Nat.le_of_ble_eq_true rfl⟩ dX3_init_7 (pc' := 9) rfl (by decide) (fun dA b => cellR rfl (by decide) rfl rfl) ?_
  refine X_putr fX3_9 dcX3 rfl (fun _ => Nat.le_of_ble_eq_true rfl) (by decide) (by decide) (by decide) (fun _ => rfl) (fun _ => rfl) dX3_init_9 (pc' := 12) rfl ?_
  refine K_aload_n dX3_init_12 (pc' := 13) rfl rfl ?_
  refine K_iconst (v := nI 1) dX3_init_13 (pc' := 14) rfl (by decide) ?_
  refine X_puti fX3_15 (fun _ => Nat.le_of_ble_eq_true rfl) (by decide) (by decide) rfl rfl dX3_init_14 (pc' := 17) rfl ?_
  refine K_aload_n dX3_init_17 (pc' := 18) rfl rfl ?_
  refine K_getr (t := 21) fX3_9 hx_o (fun _ => rfl) (by decide) (by decide) (by decide) dX3_init_18 (pc' := 21) rfl ?_
  refine K_iconst (v := nI 0) dX3_init_21 (pc' := 22) rfl (by decide) ?_
  refine K_iconst (v := nI 1) dX3_init_22 (pc' := 23) rfl (by decide) ?_
  refine K_iast (j := 0) (hxY (by decide) rfl rfl) rfl (by decide) (by decide) (by decide) (by decide) dX3_init_23 (pc' := 24) rfl ?_
  exact K_eqs (fin_iast (N := 22) (fun dA b => rfl) SZ_20 (mk_upd0 (by decide)) rfl rfl (fun a h1 h2 h3 => by rw [dv_q_14 (by omega)]; omega) (by decide)) (K_vret dX3_init_24 rfl ⟨Nat.le_of_ble_eq_true rfl, Nat.le_of_ble_eq_true rfl⟩)
set_option maxRecDepth 100000 in
set_option maxHeartbeats 1000000 in
theorem iX8 (h : gC) (hh : ∀ dA b, h dA b 517 = .inr (8, [.int 0, .int 0, .null, .int 0, .int 0, .int 0, .int 0, .null, .null, .null, .null, .null, .null, .null, .null, .null, .int 0, .int 0, .null, .null, .null, .null, .null, .null, .null, .null, .int 0, .int 0, .null, .null, .null, .null, .null, .null, .null, .null, .int 0, .int 0])) : dv_I yX8_init cX8_init 1 (rI 1 26 14000) [.ref (dv_q 517)] 518 h 544 (gd 517 (SZ L xs) h) := by
  refine dv_I_of [some (.ref (dv_q 517))] (by decide) (fun _ _ => Nat.le_of_ble_eq_true rfl) (fun _ _ => rfl) ?_
  refine K_eqs (hx_0 (S := SY L xs) hh) ?_
  refine K_aload_n dX8_init_0 (pc' := 1) rfl rfl ?_
  refine K_obj obX8 (by decide) ⟨Nat.le_of_ble_eq_true rfl, Nat.le_of_ble_eq_true rfl⟩ dX8_init_1 (pc' := 4) rfl ?_
  refine K_aload_n dX8_init_4 (pc' := 5) rfl rfl ?_
  refine K_sipush (v := nI 200) dX8_init_5 (pc' := 8) rfl (by decide) ?_
  refine X_newa ar_byte ra_byte (fun _ => rfl) (len := 200) rfl (by decide) (by decide) (by decide) ⟨Nat.le_of_ble_eq_true rfl, Nat.le_of_ble_eq_true rfl⟩ dX8_init_8 (pc' := 10) rfl (by decide) (fun dA b => cellR rfl (by decide) rfl rfl) ?_
  refine X_putr2 (fl' := (fun b => [.int 0, .int 0, .ref (b + 518), .int 0, .int 0, .int 0, .int 0, .null, .null, .null, .null, .null, .null, .null, .null, .null, .int 0, .int 0, .null, .null, .null, .null, .null, .null, .null, .null, .int 0, .int 0, .null, .null, .null, .null, .null, .null, .null, .null, .int 0, .int 0])) fX8_13 dcX8 rfl (fun _ => Nat.le_of_ble_eq_true rfl) (by decide) (by decide) (by decide) (fun _ => rfl) (fun _ => rfl) dX8_init_10 (pc' := 13) rfl (fun _ => rfl) ?_
  refine K_aload_n dX8_init_13 (pc' := 14) rfl rfl ?_
  refine K_iconst (v := nI 1) dX8_init_14 (pc' := 15) rfl (by decide) ?_
  refine X_puti2 (fl' := (fun b => [.int 0, .int 0, .ref (b + 518), .int 0, .int (nI 1), .int 0, .int 0, .null, .null, .null, .null, .null, .null, .null, .null, .null, .int 0, .int 0, .null, .null, .null, .null, .null, .null, .null, .null, .int 0, .int 0, .null, .null, .null, .null, .null, .null, .null, .null, .int 0, .int 0])) fX8_40 (fun _ => Nat.le_of_ble_eq_true rfl) (by decide) (by decide) rfl rfl dX8_init_15 (pc' := 18) rfl (fun _ => rfl) ?_
  refine K_aload_n dX8_init_18 (pc' := 19) rfl rfl ?_
  refine K_bipush (v := nI 20) dX8_init_19 (pc' := 21) rfl (by decide) ?_
  refine X_newa ar_int ra_int (fun _ => rfl) (len := 20) rfl (by decide) (by decide) (by decide) ⟨Nat.le_of_ble_eq_true rfl, Nat.le_of_ble_eq_true rfl⟩ dX8_init_21 (pc' := 23) rfl (by decide) (fun dA b => cellR rfl (by decide) rfl rfl) ?_
  refine X_putr2 (fl' := (fun b => [.int 0, .int 0, .ref (b + 518), .int 0, .int (nI 1), .int 0, .int 0, .ref (b + 519), .null, .null, .null, .null, .null, .null, .null, .null, .int 0, .int 0, .null, .null, .null, .null, .null, .null, .null, .null, .int 0, .int 0, .null, .null, .null, .null, .null, .null, .null, .null, .int 0, .int 0])) fX8_43 dcX8 rfl (fun _ => Nat.le_of_ble_eq_true rfl) (by decide) (by decide) (by decide) (fun _ => rfl) (fun _ => rfl) dX8_init_23 (pc' := 26) rfl (fun _ => rfl) ?_
  refine K_aload_n dX8_init_26 (pc' := 27) rfl rfl ?_
  refine K_bipush (v := nI 80) dX8_init_27 (pc' := 29) rfl (by decide) ?_
  refine X_newa ar_int ra_int (fun _ => rfl) (len := 80) rfl (by decide) (by decide) (by decide) ⟨Nat.le_of_ble_eq_true rfl, Nat.le_of_ble_eq_true rfl⟩ dX8_init_29 (pc' := 31) rfl (by decide) (fun dA b => cellR rfl (by decide) rfl rfl) ?_
  refine X_putr2 (fl' := (fun b => [.int 0, .int 0, .ref (b + 518), .int 0, .int (nI 1), .int 0, .int 0, .ref (b + 519), .ref (b + 520), .null, .null, .null, .null, .null, .null, .null, .int 0, .int 0, .null, .null, .null, .null, .null, .null, .null, .null, .int 0, .int 0, .null, .null, .null, .null, .null, .null, .null, .null, .int 0, .int 0])) fX8_47 dcX8 rfl (fun _ => Nat.le_of_ble_eq_true rfl) (by decide) (by decide) (by decide) (fun _ => rfl) (fun _ => rfl) dX8_init_31 (pc' := 34) rfl (fun _ => rfl) ?_
  refine K_aload_n dX8_init_34 (pc' := 35) rfl rfl ?_
  refine K_bipush (v := nI 80) dX8_init_35 (pc' := 37) rfl (by decide) ?_
  refine X_newa ar_int ra_int (fun _ => rfl) (len := 80) rfl (by decide) (by decide) (by decide) ⟨Nat.le_of_ble_eq_true rfl, Nat.le_of_ble_eq_true rfl⟩ dX8_init_37 (pc' := 39) rfl (by decide) (fun dA b => cellR rfl (by decide) rfl rfl) ?_
  refine X_putr2 (fl' := (fun b => [.int 0, .int 0, .ref (b + 518), .int 0, .int (nI 1), .int 0, .int 0, .ref (b + 519), .ref (b + 520), .ref (b + 521), .null, .null, .null, .null, .null, .null, .int 0, .int 0, .null, .null, .null, .null, .null, .null, .null, .null, .int 0, .int 0, .null, .null, .null, .null, .null, .null, .null, .null, .int 0, .int 0])) fX8_50 dcX8 rfl (fun _ => Nat.le_of_ble_eq_true rfl) (by decide) (by decide) (by decide) (fun _ => rfl) (fun _ => rfl) dX8_init_39 (pc' := 42) rfl (fun _ => rfl) ?_
  refine K_aload_n dX8_init_42 (pc' := 43) rfl rfl ?_
  refine K_bipush (v := nI 80) dX8_init_43 (pc' := 45) rfl (by decide) ?_
  refine X_newa ar_int ra_int (fun _ => rfl) (len := 80) rfl (by decide) (by decide) (by decide) ⟨Nat.le_of_ble_eq_true rfl, Nat.le_of_ble_eq_true rfl⟩ dX8_init_45 (pc' := 47) rfl (by decide) (fun dA b => cellR rfl (by decide) rfl rfl) ?_
  refine X_putr2 (fl' := (fun b => [.int 0, .int 0, .ref (b + 518), .int 0, .int (nI 1), .int 0, .int 0, .ref (b + 519), .ref (b + 520), .ref (b + 521), .ref (b + 522), .null, .null, .null, .null, .null, .int 0, .int 0, .null, .null, .null, .null, .null, .null, .null, .null, .int 0, .int 0, .null, .null, .null, .null, .null, .null, .null, .null, .int 0, .int 0])) fX8_53 dcX8 rfl (fun _ => Nat.le_of_ble_eq_true rfl) (by decide) (by decide) (by decide) (fun _ => rfl) (fun _ => rfl) dX8_init_47 (pc' := 50) rfl (fun _ => rfl) ?_
  refine K_aload_n dX8_init_50 (pc' := 51) rfl rfl ?_
  refine K_sipush (v := nI 150) dX8_init_51 (pc' := 54) rfl (by decide) ?_
  refine X_newa ar_int ra_int (fun _ => rfl) (len := 150) rfl (by decide) (by decide) (by decide) ⟨Nat.le_of_ble_eq_true rfl, Nat.le_of_ble_eq_true rfl⟩ dX8_init_54 (pc' := 56) rfl (by decide) (fun dA b => cellR rfl (by decide) rfl rfl) ?_
  refine X_putr2 (fl' := (fun b => [.int 0, .int 0, .ref (b + 518), .int 0, .int (nI 1), .int 0, .int 0, .ref (b + 519), .ref (b + 520), .ref (b + 521), .ref (b + 522), .ref (b + 523), .null, .null, .null, .null, .int 0, .int 0, .null, .null, .null, .null, .null, .null, .null, .null, .int 0, .int 0, .null, .null, .null, .null, .null, .null, .null, .null, .int 0, .int 0])) fX8_56 dcX8 rfl (fun _ => Nat.le_of_ble_eq_true rfl) (by decide) (by decide) (by decide) (fun _ => rfl) (fun _ => rfl) dX8_init_56 (pc' := 59) rfl (fun _ => rfl) ?_
  refine K_aload_n dX8_init_59 (pc' := 60) rfl rfl ?_
  refine K_sipush (v := nI 150) dX8_init_60 (pc' := 63) rfl (by decide) ?_
  refine X_newa ar_int ra_int (fun _ => rfl) (len := 150) rfl (by decide) (by decide) (by decide) ⟨Nat.le_of_ble_eq_true rfl, Nat.le_of_ble_eq_true rfl⟩ dX8_init_63 (pc' := 65) rfl (by decide) (fun dA b => cellR rfl (by decide) rfl rfl) ?_
  refine X_putr2 (fl' := (fun b => [.int 0, .int 0, .ref (b + 518), .int 0, .int (nI 1), .int 0, .int 0, .ref (b + 519), .ref (b + 520), .ref (b + 521), .ref (b + 522), .ref (b + 523), .ref (b + 524), .null, .null, .null, .int 0, .int 0, .null, .null, .null, .null, .null, .null, .null, .null, .int 0, .int 0, .null, .null, .null, .null, .null, .null, .null, .null, .int 0, .int 0])) fX8_59 dcX8 rfl (fun _ => Nat.le_of_ble_eq_true rfl) (by decide) (by decide) (by decide) (fun _ => rfl) (fun _ => rfl) dX8_init_65 (pc' := 68) rfl (fun _ => rfl) ?_
  refine K_aload_n dX8_init_68 (pc' := 69) rfl rfl ?_
  refine K_sipush (v := nI 1920) dX8_init_69 (pc' := 72) rfl (by decide) ?_
  refine X_newa ar_byte ra_byte (fun _ => rfl) (len := 1920) rfl (by decide) (by decide) (by decide) ⟨Nat.le_of_ble_eq_true rfl, Nat.le_of_ble_eq_true rfl⟩ dX8_init_72 (pc' := 74) rfl (by decide) (fun dA b => cellR rfl (by decide) rfl rfl) ?_
  refine X_putr2 (fl' := (fun b => [.int 0, .int 0, .ref (b + 518), .int 0, .int (nI 1), .int 0, .int 0, .ref (b + 519), .ref (b + 520), .ref (b + 521), .ref (b + 522), .ref (b + 523), .ref (b + 524), .ref (b + 525), .null, .null, .int 0, .int 0, .null, .null, .null, .null, .null, .null, .null, .null, .int 0, .int 0, .null, .null, .null, .null, .null, .null, .null, .null, .int 0, .int 0])) fX8_62 dcX8 rfl (fun _ => Nat.le_of_ble_eq_true rfl) (by decide) (by decide) (by decide) (fun _ => rfl) (fun _ => rfl) dX8_init_74 (pc' := 77) rfl (fun _ => rfl) ?_
  refine K_aload_n dX8_init_77 (pc' := 78) rfl rfl ?_
  refine K_bipush (v := nI 24) dX8_init_78 (pc' := 80) rfl (by decide) ?_
  refine X_newa ar_int ra_int (fun _ => rfl) (len := 24) rfl (by decide) (by decide) (by decide) ⟨Nat.le_of_ble_eq_true rfl, Nat.le_of_ble_eq_true rfl⟩ dX8_init_80 (pc' := 82) rfl (by decide) (fun dA b => cellR rfl (by decide) rfl rfl) ?_
  refine X_putr2 (fl' := (fun b => [.int 0, .int 0, .ref (b + 518), .int 0, .int (nI 1), .int 0, .int 0, .ref (b + 519), .ref (b + 520), .ref (b + 521), .ref (b + 522), .ref (b + 523), .ref (b + 524), .ref (b + 525), .ref (b + 526), .null, .int 0, .int 0, .null, .null, .null, .null, .null, .null, .null, .null, .int 0, .int 0, .null, .null, .null, .null, .null, .null, .null, .null, .int 0, .int 0])) fX8_65 dcX8 rfl (fun _ => Nat.le_of_ble_eq_true rfl) (by decide) (by decide) (by decide) (fun _ => rfl) (fun _ => rfl) dX8_init_82 (pc' := 85) rfl (fun _ => rfl) ?_
  refine K_aload_n dX8_init_85 (pc' := 86) rfl rfl ?_
  refine K_bipush (v := nI 24) dX8_init_86 (pc' := 88) rfl (by decide) ?_
  refine X_newa ar_int ra_int (fun _ => rfl) (len := 24) rfl (by decide) (by decide) (by decide) ⟨Nat.le_of_ble_eq_true rfl, Nat.le_of_ble_eq_true rfl⟩ dX8_init_88 (pc' := 90) rfl (by decide) (fun dA b => cellR rfl (by decide) rfl rfl) ?_
  refine X_putr2 (fl' := (fun b => [.int 0, .int 0, .ref (b + 518), .int 0, .int (nI 1), .int 0, .int 0, .ref (b + 519), .ref (b + 520), .ref (b + 521), .ref (b + 522), .ref (b + 523), .ref (b + 524), .ref (b + 525), .ref (b + 526), .ref (b + 527), .int 0, .int 0, .null, .null, .null, .null, .null, .null, .null, .null, .int 0, .int 0, .null, .null, .null, .null, .null, .null, .null, .null, .int 0, .int 0])) fX8_68 dcX8 rfl (fun _ => Nat.le_of_ble_eq_true rfl) (by decide) (by decide) (by decide) (fun _ => rfl) (fun _ => rfl) dX8_init_90 (pc' := 93) rfl (fun _ => rfl) ?_
  refine K_aload_n dX8_init_93 (pc' := 94) rfl rfl ?_
  refine K_sipush (v := nI 720) dX8_init_94 (pc' := 97) rfl (by decide) ?_
  refine X_newa ar_byte ra_byte (fun _ => rfl) (len := 720) rfl (by decide) (by decide) (by decide) ⟨Nat.le_of_ble_eq_true rfl, Nat.le_of_ble_eq_true rfl⟩ dX8_init_97 (pc' := 99) rfl (by decide) (fun dA b => cellR rfl (by decide) rfl rfl) ?_
  refine X_putr2 (fl' := (fun b => [.int 0, .int 0, .ref (b + 518), .int 0, .int (nI 1), .int 0, .int 0, .ref (b + 519), .ref (b + 520), .ref (b + 521), .ref (b + 522), .ref (b + 523), .ref (b + 524), .ref (b + 525), .ref (b + 526), .ref (b + 527), .int 0, .int 0, .ref (b + 528), .null, .null, .null, .null, .null, .null, .null, .int 0, .int 0, .null, .null, .null, .null, .null, .null, .null, .null, .int 0, .int 0])) fX8_71 dcX8 rfl (fun _ => Nat.le_of_ble_eq_true rfl) (by decide) (by decide) (by decide) (fun _ => rfl) (fun _ => rfl) dX8_init_99 (pc' := 102) rfl (fun _ => rfl) ?_
  refine K_aload_n dX8_init_102 (pc' := 103) rfl rfl ?_
  refine K_bipush (v := nI 60) dX8_init_103 (pc' := 105) rfl (by decide) ?_
  refine X_newa ar_int ra_int (fun _ => rfl) (len := 60) rfl (by decide) (by decide) (by decide) ⟨Nat.le_of_ble_eq_true rfl, Nat.le_of_ble_eq_true rfl⟩ dX8_init_105 (pc' := 107) rfl (by decide) (fun dA b => cellR rfl (by decide) rfl rfl) ?_
  refine X_putr2 (fl' := (fun b => [.int 0, .int 0, .ref (b + 518), .int 0, .int (nI 1), .int 0, .int 0, .ref (b + 519), .ref (b + 520), .ref (b + 521), .ref (b + 522), .ref (b + 523), .ref (b + 524), .ref (b + 525), .ref (b + 526), .ref (b + 527), .int 0, .int 0, .ref (b + 528), .ref (b + 529), .null, .null, .null, .null, .null, .null, .int 0, .int 0, .null, .null, .null, .null, .null, .null, .null, .null, .int 0, .int 0])) fX8_74 dcX8 rfl (fun _ => Nat.le_of_ble_eq_true rfl) (by decide) (by decide) (by decide) (fun _ => rfl) (fun _ => rfl) dX8_init_107 (pc' := 110) rfl (fun _ => rfl) ?_
  refine K_aload_n dX8_init_110 (pc' := 111) rfl rfl ?_
  refine K_bipush (v := nI 60) dX8_init_111 (pc' := 113) rfl (by decide) ?_
  refine X_newa ar_int ra_int (fun _ => rfl) (len := 60) rfl (by decide) (by decide) (by decide) ⟨Nat.le_of_ble_eq_true rfl, Nat.le_of_ble_eq_true rfl⟩ dX8_init_113 (pc' := 115) rfl (by decide) (fun dA b => cellR rfl (by decide) rfl rfl) ?_
  refine X_putr2 (fl' := (fun b => [.int 0, .int 0, .ref (b + 518), .int 0, .int (nI 1), .int 0, .int 0, .ref (b + 519), .ref (b + 520), .ref (b + 521), .ref (b + 522), .ref (b + 523), .ref (b + 524), .ref (b + 525), .ref (b + 526), .ref (b + 527), .int 0, .int 0, .ref (b + 528), .ref (b + 529), .ref (b + 530), .null, .null, .null, .null, .null, .int 0, .int 0, .null, .null, .null, .null, .null, .null, .null, .null, .int 0, .int 0])) fX8_77 dcX8 rfl (fun _ => Nat.le_of_ble_eq_true rfl) (by decide) (by decide) (by decide) (fun _ => rfl) (fun _ => rfl) dX8_init_115 (pc' := 118) rfl (fun _ => rfl) ?_
  refine K_aload_n dX8_init_118 (pc' := 119) rfl rfl ?_
  refine K_bipush (v := nI 60) dX8_init_119 (pc' := 121) rfl (by decide) ?_
  refine X_newa ar_int ra_int (fun _ => rfl) (len := 60) rfl (by decide) (by decide) (by decide) ⟨Nat.le_of_ble_eq_true rfl, Nat.le_of_ble_eq_true rfl⟩ dX8_init_121 (pc' := 123) rfl (by decide) (fun dA b => cellR rfl (by decide) rfl rfl) ?_
  refine X_putr2 (fl' := (fun b => [.int 0, .int 0, .ref (b + 518), .int 0, .int (nI 1), .int 0, .int 0, .ref (b + 519), .ref (b + 520), .ref (b + 521), .ref (b + 522), .ref (b + 523), .ref (b + 524), .ref (b + 525), .ref (b + 526), .ref (b + 527), .int 0, .int 0, .ref (b + 528), .ref (b + 529), .ref (b + 530), .ref (b + 531), .null, .null, .null, .null, .int 0, .int 0, .null, .null, .null, .null, .null, .null, .null, .null, .int 0, .int 0])) fX8_80 dcX8 rfl (fun _ => Nat.le_of_ble_eq_true rfl) (by decide) (by decide) (by decide) (fun _ => rfl) (fun _ => rfl) dX8_init_123 (pc' := 126) rfl (fun _ => rfl) ?_
  refine K_aload_n dX8_init_126 (pc' := 127) rfl rfl ?_
  refine K_bipush (v := nI 60) dX8_init_127 (pc' := 129) rfl (by decide) ?_
  refine X_newa ar_int ra_int (fun _ => rfl) (len := 60) rfl (by decide) (by decide) (by decide) ⟨Nat.le_of_ble_eq_true rfl, Nat.le_of_ble_eq_true rfl⟩ dX8_init_129 (pc' := 131) rfl (by decide) (fun dA b => cellR rfl (by decide) rfl rfl) ?_
  refine X_putr2 (fl' := (fun b => [.int 0, .int 0, .ref (b + 518), .int 0, .int (nI 1), .int 0, .int 0, .ref (b + 519), .ref (b + 520), .ref (b + 521), .ref (b + 522), .ref (b + 523), .ref (b + 524), .ref (b + 525), .ref (b + 526), .ref (b + 527), .int 0, .int 0, .ref (b + 528), .ref (b + 529), .ref (b + 530), .ref (b + 531), .ref (b + 532), .null, .null, .null, .int 0, .int 0, .null, .null, .null, .null, .null, .null, .null, .null, .int 0, .int 0])) fX8_83 dcX8 rfl (fun _ => Nat.le_of_ble_eq_true rfl) (by decide) (by decide) (by decide) (fun _ => rfl) (fun _ => rfl) dX8_init_131 (pc' := 134) rfl (fun _ => rfl) ?_
  refine K_aload_n dX8_init_134 (pc' := 135) rfl rfl ?_
  refine K_bipush (v := nI 60) dX8_init_135 (pc' := 137) rfl (by decide) ?_
  refine X_newa ar_int ra_int (fun _ => rfl) (len := 60) rfl (by decide) (by decide) (by decide) ⟨Nat.le_of_ble_eq_true rfl, Nat.le_of_ble_eq_true rfl⟩ dX8_init_137 (pc' := 139) rfl (by decide) (fun dA b => cellR rfl (by decide) rfl rfl) ?_
  refine X_putr2 (fl' := (fun b => [.int 0, .int 0, .ref (b + 518), .int 0, .int (nI 1), .int 0, .int 0, .ref (b + 519), .ref (b + 520), .ref (b + 521), .ref (b + 522), .ref (b + 523), .ref (b + 524), .ref (b + 525), .ref (b + 526), .ref (b + 527), .int 0, .int 0, .ref (b + 528), .ref (b + 529), .ref (b + 530), .ref (b + 531), .ref (b + 532), .ref (b + 533), .null, .null, .int 0, .int 0, .null, .null, .null, .null, .null, .null, .null, .null, .int 0, .int 0])) fX8_86 dcX8 rfl (fun _ => Nat.le_of_ble_eq_true rfl) (by decide) (by decide) (by decide) (fun _ => rfl) (fun _ => rfl) dX8_init_139 (pc' := 142) rfl (fun _ => rfl) ?_
  refine K_aload_n dX8_init_142 (pc' := 143) rfl rfl ?_
  refine K_bipush (v := nI 24) dX8_init_143 (pc' := 145) rfl (by decide) ?_
  refine X_newa ar_byte ra_byte (fun _ => rfl) (len := 24) rfl (by decide) (by decide) (by decide) ⟨Nat.le_of_ble_eq_true rfl, Nat.le_of_ble_eq_true rfl⟩ dX8_init_145 (pc' := 147) rfl (by decide) (fun dA b => cellR rfl (by decide) rfl rfl) ?_
  refine X_putr2 (fl' := (fun b => [.int 0, .int 0, .ref (b + 518), .int 0, .int (nI 1), .int 0, .int 0, .ref (b + 519), .ref (b + 520), .ref (b + 521), .ref (b + 522), .ref (b + 523), .ref (b + 524), .ref (b + 525), .ref (b + 526), .ref (b + 527), .int 0, .int 0, .ref (b + 528), .ref (b + 529), .ref (b + 530), .ref (b + 531), .ref (b + 532), .ref (b + 533), .ref (b + 534), .null, .int 0, .int 0, .null, .null, .null, .null, .null, .null, .null, .null, .int 0, .int 0])) fX8_89 dcX8 rfl (fun _ => Nat.le_of_ble_eq_true rfl) (by decide) (by decide) (by decide) (fun _ => rfl) (fun _ => rfl) dX8_init_147 (pc' := 150) rfl (fun _ => rfl) ?_
  refine K_aload_n dX8_init_150 (pc' := 151) rfl rfl ?_
  refine K_sipush (v := nI 312) dX8_init_151 (pc' := 154) rfl (by decide) ?_
  refine X_newa ar_byte ra_byte (fun _ => rfl) (len := 312) rfl (by decide) (by decide) (by decide) ⟨Nat.le_of_ble_eq_true rfl, Nat.le_of_ble_eq_true rfl⟩ dX8_init_154 (pc' := 156) rfl (by decide) (fun dA b => cellR rfl (by decide) rfl rfl) ?_
  refine X_putr2 (fl' := (fun b => [.int 0, .int 0, .ref (b + 518), .int 0, .int (nI 1), .int 0, .int 0, .ref (b + 519), .ref (b + 520), .ref (b + 521), .ref (b + 522), .ref (b + 523), .ref (b + 524), .ref (b + 525), .ref (b + 526), .ref (b + 527), .int 0, .int 0, .ref (b + 528), .ref (b + 529), .ref (b + 530), .ref (b + 531), .ref (b + 532), .ref (b + 533), .ref (b + 534), .ref (b + 535), .int 0, .int 0, .null, .null, .null, .null, .null, .null, .null, .null, .int 0, .int 0])) fX8_92 dcX8 rfl (fun _ => Nat.le_of_ble_eq_true rfl) (by decide) (by decide) (by decide) (fun _ => rfl) (fun _ => rfl) dX8_init_156 (pc' := 159) rfl (fun _ => rfl) ?_
  refine K_aload_n dX8_init_159 (pc' := 160) rfl rfl ?_
  refine K_bipush (v := nI 80) dX8_init_160 (pc' := 162) rfl (by decide) ?_
  refine X_newa ar_boolean ra_boolean (fun _ => rfl) (len := 80) rfl (by decide) (by decide) (by decide) ⟨Nat.le_of_ble_eq_true rfl, Nat.le_of_ble_eq_true rfl⟩ dX8_init_162 (pc' := 164) rfl (by decide) (fun dA b => cellR rfl (by decide) rfl rfl) ?_
  refine X_putr2 (fl' := (fun b => [.int 0, .int 0, .ref (b + 518), .int 0, .int (nI 1), .int 0, .int 0, .ref (b + 519), .ref (b + 520), .ref (b + 521), .ref (b + 522), .ref (b + 523), .ref (b + 524), .ref (b + 525), .ref (b + 526), .ref (b + 527), .int 0, .int 0, .ref (b + 528), .ref (b + 529), .ref (b + 530), .ref (b + 531), .ref (b + 532), .ref (b + 533), .ref (b + 534), .ref (b + 535), .int 0, .int 0, .ref (b + 536), .null, .null, .null, .null, .null, .null, .null, .int 0, .int 0])) fX8_95 dcX8 rfl (fun _ => Nat.le_of_ble_eq_true rfl) (by decide) (by decide) (by decide) (fun _ => rfl) (fun _ => rfl) dX8_init_164 (pc' := 167) rfl (fun _ => rfl) ?_
  refine K_aload_n dX8_init_167 (pc' := 168) rfl rfl ?_
  refine K_bipush (v := nI 80) dX8_init_168 (pc' := 170) rfl (by decide) ?_
  refine X_newa ar_boolean ra_boolean (fun _ => rfl) (len := 80) rfl (by decide) (by decide) (by decide) ⟨Nat.le_of_ble_eq_true rfl, Nat.le_of_ble_eq_true rfl⟩ dX8_init_170 (pc' := 172) rfl (by decide) (fun dA b => cellR rfl (by decide) rfl rfl) ?_
  refine X_putr2 (fl' := (fun b => [.int 0, .int 0, .ref (b + 518), .int 0, .int (nI 1), .int 0, .int 0, .ref (b + 519), .ref (b + 520), .ref (b + 521), .ref (b + 522), .ref (b + 523), .ref (b + 524), .ref (b + 525), .ref (b + 526), .ref (b + 527), .int 0, .int 0, .ref (b + 528), .ref (b + 529), .ref (b + 530), .ref (b + 531), .ref (b + 532), .ref (b + 533), .ref (b + 534), .ref (b + 535), .int 0, .int 0, .ref (b + 536), .ref (b + 537), .null, .null, .null, .null, .null, .null, .int 0, .int 0])) fX8_99 dcX8 rfl (fun _ => Nat.le_of_ble_eq_true rfl) (by decide) (by decide) (by decide) (fun _ => rfl) (fun _ => rfl) dX8_init_172 (pc' := 175) rfl (fun _ => rfl) ?_
  refine K_aload_n dX8_init_175 (pc' := 176) rfl rfl ?_
  refine K_sipush (v := nI 1920) dX8_init_176 (pc' := 179) rfl (by decide) ?_
  refine X_newa ar_byte ra_byte (fun _ => rfl) (len := 1920) rfl (by decide) (by decide) (by decide) ⟨Nat.le_of_ble_eq_true rfl, Nat.le_of_ble_eq_true rfl⟩ dX8_init_179 (pc' := 181) rfl (by decide) (fun dA b => cellR rfl (by decide) rfl rfl) ?_
  refine X_putr2 (fl' := (fun b => [.int 0, .int 0, .ref (b + 518), .int 0, .int (nI 1), .int 0, .int 0, .ref (b + 519), .ref (b + 520), .ref (b + 521), .ref (b + 522), .ref (b + 523), .ref (b + 524), .ref (b + 525), .ref (b + 526), .ref (b + 527), .int 0, .int 0, .ref (b + 528), .ref (b + 529), .ref (b + 530), .ref (b + 531), .ref (b + 532), .ref (b + 533), .ref (b + 534), .ref (b + 535), .int 0, .int 0, .ref (b + 536), .ref (b + 537), .ref (b + 538), .null, .null, .null, .null, .null, .int 0, .int 0])) fX8_102 dcX8 rfl (fun _ => Nat.le_of_ble_eq_true rfl) (by decide) (by decide) (by decide) (fun _ => rfl) (fun _ => rfl) dX8_init_181 (pc' := 184) rfl (fun _ => rfl) ?_
  refine K_aload_n dX8_init_184 (pc' := 185) rfl rfl ?_
  refine K_sipush (v := nI 1920) dX8_init_185 (pc' := 188) rfl (by decide) ?_
  refine X_newa ar_byte ra_byte (fun _ => rfl) (len := 1920) rfl (by decide) (by decide) (by decide) ⟨Nat.le_of_ble_eq_true rfl, Nat.le_of_ble_eq_true rfl⟩ dX8_init_188 (pc' := 190) rfl (by decide) (fun dA b => cellR rfl (by decide) rfl rfl) ?_
  refine X_putr2 (fl' := (fun b => [.int 0, .int 0, .ref (b + 518), .int 0, .int (nI 1), .int 0, .int 0, .ref (b + 519), .ref (b + 520), .ref (b + 521), .ref (b + 522), .ref (b + 523), .ref (b + 524), .ref (b + 525), .ref (b + 526), .ref (b + 527), .int 0, .int 0, .ref (b + 528), .ref (b + 529), .ref (b + 530), .ref (b + 531), .ref (b + 532), .ref (b + 533), .ref (b + 534), .ref (b + 535), .int 0, .int 0, .ref (b + 536), .ref (b + 537), .ref (b + 538), .ref (b + 539), .null, .null, .null, .null, .int 0, .int 0])) fX8_105 dcX8 rfl (fun _ => Nat.le_of_ble_eq_true rfl) (by decide) (by decide) (by decide) (fun _ => rfl) (fun _ => rfl) dX8_init_190 (pc' := 193) rfl (fun _ => rfl) ?_
  refine K_aload_n dX8_init_193 (pc' := 194) rfl rfl ?_
  refine K_sipush (v := nI 1920) dX8_init_194 (pc' := 197) rfl (by decide) ?_
  refine X_newa ar_byte ra_byte (fun _ => rfl) (len := 1920) rfl (by decide) (by decide) (by decide) ⟨Nat.le_of_ble_eq_true rfl, Nat.le_of_ble_eq_true rfl⟩ dX8_init_197 (pc' := 199) rfl (by decide) (fun dA b => cellR rfl (by decide) rfl rfl) ?_
  refine X_putr2 (fl' := (fun b => [.int 0, .int 0, .ref (b + 518), .int 0, .int (nI 1), .int 0, .int 0, .ref (b + 519), .ref (b + 520), .ref (b + 521), .ref (b + 522), .ref (b + 523), .ref (b + 524), .ref (b + 525), .ref (b + 526), .ref (b + 527), .int 0, .int 0, .ref (b + 528), .ref (b + 529), .ref (b + 530), .ref (b + 531), .ref (b + 532), .ref (b + 533), .ref (b + 534), .ref (b + 535), .int 0, .int 0, .ref (b + 536), .ref (b + 537), .ref (b + 538), .ref (b + 539), .ref (b + 540), .null, .null, .null, .int 0, .int 0])) fX8_108 dcX8 rfl (fun _ => Nat.le_of_ble_eq_true rfl) (by decide) (by decide) (by decide) (fun _ => rfl) (fun _ => rfl) dX8_init_199 (pc' := 202) rfl (fun _ => rfl) ?_
  refine K_aload_n dX8_init_202 (pc' := 203) rfl rfl ?_
  refine K_bipush (v := nI 80) dX8_init_203 (pc' := 205) rfl (by decide) ?_
  refine X_newa ar_int ra_int (fun _ => rfl) (len := 80) rfl (by decide) (by decide) (by decide) ⟨Nat.le_of_ble_eq_true rfl, Nat.le_of_ble_eq_true rfl⟩ dX8_init_205 (pc' := 207) rfl (by decide) (fun dA b => cellR rfl (by decide) rfl rfl) ?_
  refine X_putr2 (fl' := (fun b => [.int 0, .int 0, .ref (b + 518), .int 0, .int (nI 1), .int 0, .int 0, .ref (b + 519), .ref (b + 520), .ref (b + 521), .ref (b + 522), .ref (b + 523), .ref (b + 524), .ref (b + 525), .ref (b + 526), .ref (b + 527), .int 0, .int 0, .ref (b + 528), .ref (b + 529), .ref (b + 530), .ref (b + 531), .ref (b + 532), .ref (b + 533), .ref (b + 534), .ref (b + 535), .int 0, .int 0, .ref (b + 536), .ref (b + 537), .ref (b + 538), .ref (b + 539), .ref (b + 540), .ref (b + 541), .null, .null, .int 0, .int 0])) fX8_111 dcX8 rfl (fun _ => Nat.le_of_ble_eq_true rfl) (by decide) (by decide) (by decide) (fun _ => rfl) (fun _ => rfl) dX8_init_207 (pc' := 210) rfl (fun _ => rfl) ?_
  refine K_aload_n dX8_init_210 (pc' := 211) rfl rfl ?_
  refine K_bipush (v := nI 80) dX8_init_211 (pc' := 213) rfl (by decide) ?_
  refine X_newa ar_int ra_int (fun _ => rfl) (len := 80) rfl (by decide) (by decide) (by decide) ⟨Nat.le_of_ble_eq_true rfl, Nat.le_of_ble_eq_true rfl⟩ dX8_init_213 (pc' := 215) rfl (by decide) (fun dA b => cellR rfl (by decide) rfl rfl) ?_
  refine X_putr2 (fl' := (fun b => [.int 0, .int 0, .ref (b + 518), .int 0, .int (nI 1), .int 0, .int 0, .ref (b + 519), .ref (b + 520), .ref (b + 521), .ref (b + 522), .ref (b + 523), .ref (b + 524), .ref (b + 525), .ref (b + 526), .ref (b + 527), .int 0, .int 0, .ref (b + 528), .ref (b + 529), .ref (b + 530), .ref (b + 531), .ref (b + 532), .ref (b + 533), .ref (b + 534), .ref (b + 535), .int 0, .int 0, .ref (b + 536), .ref (b + 537), .ref (b + 538), .ref (b + 539), .ref (b + 540), .ref (b + 541), .ref (b + 542), .null, .int 0, .int 0])) fX8_114 dcX8 rfl (fun _ => Nat.le_of_ble_eq_true rfl) (by decide) (by decide) (by decide) (fun _ => rfl) (fun _ => rfl) dX8_init_215 (pc' := 218) rfl (fun _ => rfl) ?_
  refine K_aload_n dX8_init_218 (pc' := 219) rfl rfl ?_
  refine K_bipush (v := nI 80) dX8_init_219 (pc' := 221) rfl (by decide) ?_
  refine X_newa ar_int ra_int (fun _ => rfl) (len := 80) rfl (by decide) (by decide) (by decide) ⟨Nat.le_of_ble_eq_true rfl, Nat.le_of_ble_eq_true rfl⟩ dX8_init_221 (pc' := 223) rfl (by decide) (fun dA b => cellR rfl (by decide) rfl rfl) ?_
  refine X_putr2 (fl' := (fun b => [.int 0, .int 0, .ref (b + 518), .int 0, .int (nI 1), .int 0, .int 0, .ref (b + 519), .ref (b + 520), .ref (b + 521), .ref (b + 522), .ref (b + 523), .ref (b + 524), .ref (b + 525), .ref (b + 526), .ref (b + 527), .int 0, .int 0, .ref (b + 528), .ref (b + 529), .ref (b + 530), .ref (b + 531), .ref (b + 532), .ref (b + 533), .ref (b + 534), .ref (b + 535), .int 0, .int 0, .ref (b + 536), .ref (b + 537), .ref (b + 538), .ref (b + 539), .ref (b + 540), .ref (b + 541), .ref (b + 542), .ref (b + 543), .int 0, .int 0])) fX8_117 dcX8 rfl (fun _ => Nat.le_of_ble_eq_true rfl) (by decide) (by decide) (by decide) (fun _ => rfl) (fun _ => rfl) dX8_init_223 (pc' := 226) rfl (fun _ => rfl) ?_
  refine K_aload_n dX8_init_226 (pc' := 227) rfl rfl ?_
  refine K_getr (t := 519) fX8_43 hx_o (fun _ => rfl) (by decide) (by decide) (by decide) dX8_init_227 (pc' := 230) rfl ?_
  refine K_iconst (v := nI 0) dX8_init_230 (pc' := 231) rfl (by decide) ?_
  refine K_iconst (v := -1) dX8_init_231 (pc' := 232) rfl (by decide) ?_
  refine K_iast (j := 0) (hxY (by decide) rfl rfl) rfl (by decide) (by decide) (by decide) (by decide) dX8_init_232 (pc' := 233) rfl ?_
  exact K_eqs (fin_iast (N := 544) (fun dA b => rfl) SZ_518 (mk_upd0 (by decide)) rfl rfl (fun a h1 h2 h3 => by rw [dv_q_14 (by omega)]; omega) (by decide)) (K_vret dX8_init_233 rfl ⟨Nat.le_of_ble_eq_true rfl, Nat.le_of_ble_eq_true rfl⟩)
end
