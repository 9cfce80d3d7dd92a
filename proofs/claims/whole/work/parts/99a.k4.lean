def fT (r k : Nat) : Nat → Nat → Option Nat := fun b i => if i < k then some (b + dv_ra r i) else none
def hy (o ci : Nat) (fl : Nat → List Value) (r : Nat) (f : Nat → Nat → Option Nat) (S : dv_S) (g : gC) : gC := gu (hx o ci fl S g) r (fun dA b => .inl (dA 13, 80, .inr (.inr (.inr (.inr (f b))))))
section
variable {o ci r N : Nat} {fl fl' : Nat → List Value} {f : Nat → Nat → Option Nat} {S : dv_S} {g : gC}
theorem hy_o (hor : o < r) (dA : Nat → ClassId) (b : Nat) : hy o ci fl r f S g dA b o = .inr (ci, fl b) := by
  simp only [hy, gu, if_neg (show ¬ o = r by omega)]; exact hx_o dA b
theorem hy_r (dA : Nat → ClassId) (b : Nat) : hy o ci fl r f S g dA b r = .inl (dA 13, 80, .inr (.inr (.inr (.inr (f b))))) := by simp [hy, gu]
theorem hy_x {x : Nat} (hor : o < r) (hx0 : r < x) (dA : Nat → ClassId) (b : Nat) : hy o ci fl r f S g dA b x = dv_co dA b S x := by
  simp only [hy, gu, hx, if_neg (show ¬ x = r by omega), if_neg (show ¬ x = o by omega), if_pos (show o < x by omega)]
theorem hy_put (hor : o < r) : ∀ (dA : Nat → ClassId) (b a : Nat), a < N → gu (hy o ci fl r f S g) o (fun _ b => .inr (ci, fl' b)) dA b a = hy o ci fl' r f S g dA b a := by
  intro dA b a _
  by_cases q : a = o
  · subst q; rw [hy_o hor]; simp [gu]
  · by_cases q2 : a = r
    · subst q2; rw [hy_r]; simp only [gu, if_neg q]; exact hy_r dA b
    · simp only [hy, gu, hx, if_neg q, if_neg q2]
theorem hy_gd {M M' : Nat} {e : (Nat → ClassId) → Nat → va_E} (hor : o < r) (hM : r < M) : ∀ (dA : Nat → ClassId) (b a : Nat), a < M' → gd M S (gu (hy o ci fl r f S g) M e) dA b a = hy o ci fl r f S g dA b a := by
  intro dA b a _
  by_cases q : M ≤ a
  · rw [hy_x hor (by omega)]; simp only [gd, if_pos q]
  · simp only [gd, if_neg q]; simp only [gu, if_neg (show ¬ a = M by omega)]
theorem hy_up {k : Nat} : ∀ (dA : Nat → ClassId) (b a : Nat), a < N → gu (hy o ci fl r (fT r k) S g) r (fun dA b => .inl (dA 13, 80, .inr (.inr (.inr (.inr (va_up (fT r k b) k (some (b + (r + 1 + 2 * k))))))))) dA b a = hy o ci fl r (fT r (k + 1)) S g dA b a := by
  intro dA b a _
  by_cases q : a = r
  · subst q
    rw [hy_r]; simp only [gu, if_true]
    have : va_up (fT a k b) k (some (b + (a + 1 + 2 * k))) = fT a (k + 1) b := by
      funext i
      by_cases h1 : i = k
      · subst h1
        rw [va_up_self]; simp [fT, dv_ra]
      · rw [va_up_ne _ _ h1]
        by_cases h2 : i < k
        · simp only [fT, if_pos h2, if_pos (show i < k + 1 by omega)]
        · simp only [fT, if_neg h2, if_neg (show ¬ i < k + 1 by omega)]
    rw [this]
  · simp only [hy, gu, if_neg q]
theorem hy_end (hor : o < r) (h14 : 14 ≤ r) (h300 : r < 380) (hk : dv_kd (dv_q r) = 13) (hl : dv_ln (dv_q r) = 80) : ∀ (D : va_G) (dA : Nat → ClassId) (b : Nat) (H : Heap) (a : Nat), a < N → va_at D vwCl (b + a, hy o ci fl r (fT r 80) S g dA b a) H → va_at D vwCl (b + a, hx o ci fl S g dA b a) H := by
  intro D dA b H a _ h
  by_cases q : a = r
  · subst q
    rw [hy_r] at h
    simp only [hx, if_neg (show ¬ a = o by omega), if_pos hor]
    rw [dv_co, dv_cell_q hk, hl]
    have h1 : H[b + a]? = some (vp_cell (dA 13) (80, .inr (.inr (.inr (.inr (fT a 80 b)))))) := h
    show H[b + a]? = some (vp_cell (dA 13) (80, .inr (.inr (.inr (.inr (fun j => some (b + dv_p (dv_ra (dv_q a) j))))))))
    have h2 : (fun j => some (b + dv_p (dv_ra (dv_q a) j))) = fun j => if j < 80 then fT a 80 b j else some (b + dv_p (dv_ra (dv_q a) j)) := by
      funext j
      by_cases hj : j < 80
      · simp only [if_pos hj, fT, dv_ra]
        rw [dv_q_14 h14, dv_p_13 (by omega) (by omega)]
        congr 2; omega
      · simp only [if_neg hj]
    rw [h2, h1, vp_cell_q, vp_cell_q]
    congr 1
  · simp only [hy, gu, if_neg q] at h
    exact h
end
section
variable {y : MethodName} {cc : ByteArray} {n : Nat} {ret : Option FieldType} {R : Room} {cs ss pc pc' : Nat} {l l' : List (Option Value)} {st : List Value} {N o ci r : Nat} {fl : Nat → List Value} {f : Nat → Nat → Option Nat} {S : dv_S} {g : gC} {Q : dv_ZT}
theorem Y_puti {idx k : Nat} {ty : FieldType} {v : Int32} (hor : o < r) (hF : dv_F y.cls idx ci k false ty) (hlen : ∀ b, k < (fl b).length) (ha : o < N) (h544 : o < 545) (hn : narrow ty (.int v) = .int v) (hfit : fits ty (.int v) = true) (hd : decode cc pc = .ok (.putfield idx, 3)) (hp : pc + 3 = pc')
    (kk : dv_K y cc n ret R cs ss pc' l st N (hy o ci (fun b => (fl b).set k (.int v)) r f S g) Q) : dv_K y cc n ret R cs ss pc l (.int v :: .ref (dv_q o) :: st) N (hy o ci fl r f S g) Q :=
  K_puti hF (hy_o hor) hlen ha h544 hn hfit hd hp (K_eqs (hy_put hor) kk)
theorem Y_putr {idx k t : Nat} {ty : FieldType} (hor : o < r) (hF : dv_F y.cls idx ci k true ty) (hdc : ∀ C Tf Nf, vwCl[ci]? = some (C, Tf, Nf) → ∀ k, k < Nf → (Tf k).1 = y.cls) (hin2 : y.name = "<init>") (hlen : ∀ b, k < (fl b).length) (ha : o < N) (h544 : o < 545) (ht : t < 545) (hn : ∀ q, narrow ty (.ref q) = .ref q) (hfit : ∀ q, fits ty (.ref q) = true) (hd : decode cc pc = .ok (.putfield idx, 3)) (hp : pc + 3 = pc')
    (kk : dv_K y cc n ret R cs ss pc' l st N (hy o ci (fun b => (fl b).set k (.ref (b + t))) r f S g) Q) : dv_K y cc n ret R cs ss pc l (.ref (dv_q t) :: .ref (dv_q o) :: st) N (hy o ci fl r f S g) Q :=
  K_putr hF hdc hin2 (hy_o hor) hlen ha h544 ht hn hfit hd hp (K_eqs (hy_put hor) kk)
end
section
variable {L : Int32} {xs : Nat → Int32}
theorem kq_T {j : Nat} (h : j < 80) : dv_kd (26 + 2 * j - 1) = 4 ∧ dv_kd (26 + 2 * j) = 10 ∧ dv_ln (26 + 2 * j) = 24 := by
  rw [show 26 + 2 * j - 1 = 25 + 2 * j by omega, show 26 + 2 * j = 25 + 2 * j + 1 by omega]; exact kd_T h
theorem kq_P {j : Nat} (h : j < 80) : dv_kd (192 + 2 * j - 1) = 4 ∧ dv_kd (192 + 2 * j) = 10 ∧ dv_ln (192 + 2 * j) = 24 := by
  rw [show 192 + 2 * j - 1 = 191 + 2 * j by omega, show 192 + 2 * j = 191 + 2 * j + 1 by omega]; exact kd_P h
theorem kq_Q {j : Nat} (h : j < 80) : dv_kd (355 + 2 * j - 1) = 4 ∧ dv_kd (355 + 2 * j) = 10 ∧ dv_ln (355 + 2 * j) = 24 := by
  rw [show 355 + 2 * j - 1 = 354 + 2 * j by omega, show 355 + 2 * j = 354 + 2 * j + 1 by omega]; exact kd_Q h
set_option maxRecDepth 100000 in
theorem lX5 (h : gC) (fl : Nat → List Value) (hfl : ∀ b, (fl b)[2]? = some (.ref (b + 25))) {Q : dv_ZT} (hE : dv_K yX5_init cX5_init 2 none (rI 2 163 2400) 163 2400 63 [some (.ref (dv_q 22)), some (.int (nI 80))] [] 186 (hy 22 5 fl 25 (fT 25 80) (SZ L xs) h) Q) :
    ∀ (k j cs ss N : Nat), j + k = 80 → cs = 3 + 2 * j → ss = 240 + 27 * j → N = 26 + 2 * j → dv_K yX5_init cX5_init 2 none (rI 2 163 2400) cs ss 36 [some (.ref (dv_q 22)), some (.int (nI j))] [] N (hy 22 5 fl 25 (fT 25 j) (SZ L xs) h) Q := by
  intro k
  induction k with
  | zero =>
    intro j cs ss N hj h1 h2 h3
    have hj : j = 80 := by omega
    subst hj; subst h1; subst h2; subst h3
    refine K_iload_n dX5_init_36 (pc' := 37) rfl rfl ?_
    refine K_bipush (v := nI 80) dX5_init_37 (pc' := 39) rfl (by decide) ?_
    exact K_icmp_ge dX5_init_39 (pt := 63) (by decide) (pc' := 42) rfl (fun _ => hE) (fun q => absurd (by decide : nI 80 ≤ nI 80) q)
  | succ k ih =>
    intro j cs ss N hj h1 h2 h3
    have hj8 : j < 80 := by omega
    subst h1; subst h2; subst h3
    refine K_iload_n dX5_init_36 (pc' := 37) rfl rfl ?_
    refine K_bipush (v := nI 80) dX5_init_37 (pc' := 39) rfl (by decide) ?_
    refine K_icmp_ge dX5_init_39 (pt := 63) (by decide) (pc' := 42) rfl (fun q => absurd ((nI_leI (by decide) (by omega)).mp q) (by omega)) (fun _ => ?_)
    refine K_aload_n dX5_init_42 (pc' := 43) rfl rfl ?_
    refine K_getr (t := 25) fX5_20 (hy_o (by decide)) hfl (by omega) (by decide) (by decide) dX5_init_43 (pc' := 46) rfl ?_
    refine K_iload_n dX5_init_46 (pc' := 47) rfl rfl ?_
    refine K_new tyX4 kX4 tyX4_ok clX5_18 inX4 ilX4 fsX4 (by omega) ⟨by show 3 + 2 * j + 1 ≤ 163; omega, by show 240 + 27 * j + 3 ≤ 2400; omega⟩ dX5_init_47 (pc' := 50) rfl ?_
    refine K_dup dX5_init_50 (pc' := 51) rfl rfl ?_
    refine K_bipush (v := nI 24) dX5_init_51 (pc' := 53) rfl (by decide) ?_
    refine K_call [.int (nI 24)] (iX4q (L := L) (xs := xs) _ (26 + 2 * j) 24 (by omega) (kq_T hj8).1 (kq_T hj8).2.1 (kq_T hj8).2.2 (by decide) (by decide) (by omega) (by omega) (by omega) (by omega) (by omega) gu_at) miX4 mlX5_28 (by omega) dX5_init_53 (pc' := 56) rfl rfl (by simp [Value.category]) ⟨Nat.le_of_ble_eq_true rfl, Nat.le_of_ble_eq_true rfl⟩ ⟨by show 3 + 2 * j + 1 + 1 ≤ 163; omega, by show 240 + 27 * j + 3 + 24 ≤ 2400; omega⟩ ?_
    refine K_eqs (hy_gd (M' := 26 + 2 * j + 2) (by decide) (by omega)) ?_
    refine K_aast (a := 25) (j := j) (len := 80) hy_r (fun dA b => (hy_x (by decide) (by omega) dA b).trans (cellT (by rw [dv_q_14 (by omega)]; exact (kq_T hj8).1) (by rw [dv_q_14 (by omega), dv_p_13 (by omega) (by omega)]; omega))) rfl hj8 (by decide) (by omega) (by omega) (by decide) (by omega) dX5_init_56 (pc' := 57) rfl ?_
    refine K_eqs hy_up ?_
    refine K_iinc (v := nI (j + 1)) dX5_init_57 (pc' := 60) rfl rfl (nI_ad j 1) (by decide) rfl rfl ?_
    refine K_goto dX5_init_60 (pc' := 36) (by decide) ?_
    exact ih (j + 1) _ _ _ (by omega) (by show 3 + 2 * j + 1 + 1 = 3 + 2 * (j + 1); omega) (by show 240 + 27 * j + 3 + 24 = 240 + 27 * (j + 1); omega) (by omega)
set_option maxRecDepth 100000 in
set_option maxHeartbeats 1000000 in
theorem iX5 (h : gC) (hh : ∀ dA b, h dA b 22 = .inr (5, [.null, .null, .null, .int 0])) : dv_I yX5_init cX5_init 2 (rI 2 163 2400) [.ref (dv_q 22)] 23 h 186 (gd 22 (SZ L xs) h) := by
  refine dv_I_of [some (.ref (dv_q 22)), none] (by decide) (fun _ _ => Nat.le_of_ble_eq_true rfl) (fun _ _ => rfl) ?_
  refine K_eqs (hx_0 (S := SZ L xs) hh) ?_
  refine K_aload_n dX5_init_0 (pc' := 1) rfl rfl ?_
  refine K_obj obX5 (by decide) ⟨Nat.le_of_ble_eq_true rfl, Nat.le_of_ble_eq_true rfl⟩ dX5_init_1 (pc' := 4) rfl ?_
  refine K_aload_n dX5_init_4 (pc' := 5) rfl rfl ?_
  refine K_bipush (v := nI 80) dX5_init_5 (pc' := 7) rfl (by decide) ?_
  refine X_newa ar_int ra_int (fun _ => rfl) (len := 80) rfl (by decide) (by decide) (by decide) ⟨Nat.le_of_ble_eq_true rfl, Nat.le_of_ble_eq_true rfl⟩ dX5_init_7 (pc' := 9) rfl (by decide) (fun dA b => cellR rfl (by decide) rfl (SZ_r (by decide) (by decide) (by decide))) ?_
  refine X_putr fX5_9 dcX5 rfl (fun _ => Nat.le_of_ble_eq_true rfl) (by decide) (by decide) (by decide) (fun _ => rfl) (fun _ => rfl) dX5_init_9 (pc' := 12) rfl ?_
  refine K_aload_n dX5_init_12 (pc' := 13) rfl rfl ?_
  refine K_bipush (v := nI 80) dX5_init_13 (pc' := 15) rfl (by decide) ?_
  refine X_newa ar_int ra_int (fun _ => rfl) (len := 80) rfl (by decide) (by decide) (by decide) ⟨Nat.le_of_ble_eq_true rfl, Nat.le_of_ble_eq_true rfl⟩ dX5_init_15 (pc' := 17) rfl (by decide) (fun dA b => cellR rfl (by decide) rfl (SZ_r (by decide) (by decide) (by decide))) ?_
  refine X_putr fX5_15 dcX5 rfl (fun _ => Nat.le_of_ble_eq_true rfl) (by decide) (by decide) (by decide) (fun _ => rfl) (fun _ => rfl) dX5_init_17 (pc' := 20) rfl ?_
  refine K_aload_n dX5_init_20 (pc' := 21) rfl rfl ?_
  refine K_bipush (v := nI 80) dX5_init_21 (pc' := 23) rfl (by decide) ?_
  refine K_anew (len := 80) clX5_18 rfl (by decide) (by decide) ⟨Nat.le_of_ble_eq_true rfl, Nat.le_of_ble_eq_true rfl⟩ dX5_init_23 (pc' := 26) rfl ?_
  change dv_K _ _ _ _ _ _ _ _ _ _ _ (hy 22 5 _ 25 (fun _ _ => none) (SZ L xs) h) _
  refine Y_putr (by decide) fX5_20 dcX5 rfl (fun _ => Nat.le_of_ble_eq_true rfl) (by decide) (by decide) (by decide) (fun _ => rfl) (fun _ => rfl) dX5_init_26 (pc' := 29) rfl ?_
  refine K_aload_n dX5_init_29 (pc' := 30) rfl rfl ?_
  refine K_iconst (v := nI 0) dX5_init_30 (pc' := 31) rfl (by decide) ?_
  refine Y_puti (by decide) fX5_24 (fun _ => Nat.le_of_ble_eq_true rfl) (by decide) (by decide) rfl rfl dX5_init_31 (pc' := 34) rfl ?_
  refine K_iconst (v := nI 0) dX5_init_34 (pc' := 35) rfl (by decide) ?_
  refine K_istore_n dX5_init_35 (pc' := 36) rfl (j := 1) rfl (by decide) rfl (l' := [some (.ref (dv_q 22)), some (.int (nI 0))]) rfl ?_
  refine lX5 h _ (fun _ => rfl) ?_ 80 0 _ _ _ rfl rfl rfl rfl
  refine K_eq (hy_end (by decide) (by decide) (by decide) rfl rfl) ?_
  exact K_eqs (hx_gd (S := SZ L xs) (fun dA b => rfl)) (K_vret dX5_init_63 rfl ⟨Nat.le_of_ble_eq_true rfl, Nat.le_of_ble_eq_true rfl⟩)
set_option maxRecDepth 100000 in
theorem lX2_189 (h : gC) (fl : Nat → List Value) (hfl : ∀ b, (fl b)[1]? = some (.ref (b + 191))) {Q : dv_ZT} (hE : dv_K yX2_init cX2_init 2 none (rI 2 162 2320) 162 2320 55 [some (.ref (dv_q 189)), some (.int (nI 80))] [] 352 (hy 189 2 fl 191 (fT 191 80) (SZ L xs) h) Q) :
    ∀ (k j cs ss N : Nat), j + k = 80 → cs = 2 + 2 * j → ss = 160 + 27 * j → N = 192 + 2 * j → dv_K yX2_init cX2_init 2 none (rI 2 162 2320) cs ss 28 [some (.ref (dv_q 189)), some (.int (nI j))] [] N (hy 189 2 fl 191 (fT 191 j) (SZ L xs) h) Q := by
  intro k
  induction k with
  | zero =>
    intro j cs ss N hj h1 h2 h3
    have hj : j = 80 := by omega
    subst hj; subst h1; subst h2; subst h3
    refine K_iload_n dX2_init_28 (pc' := 29) rfl rfl ?_
    refine K_bipush (v := nI 80) dX2_init_29 (pc' := 31) rfl (by decide) ?_
    exact K_icmp_ge dX2_init_31 (pt := 55) (by decide) (pc' := 34) rfl (fun _ => hE) (fun q => absurd (by decide : nI 80 ≤ nI 80) q)
  | succ k ih =>
    intro j cs ss N hj h1 h2 h3
    have hj8 : j < 80 := by omega
    subst h1; subst h2; subst h3
    refine K_iload_n dX2_init_28 (pc' := 29) rfl rfl ?_
    refine K_bipush (v := nI 80) dX2_init_29 (pc' := 31) rfl (by decide) ?_
    refine K_icmp_ge dX2_init_31 (pt := 55) (by decide) (pc' := 34) rfl (fun q => absurd ((nI_leI (by decide) (by omega)).mp q) (by omega)) (fun _ => ?_)
    refine K_aload_n dX2_init_34 (pc' := 35) rfl rfl ?_
    refine K_getr (t := 191) fX2_17 (hy_o (by decide)) hfl (by omega) (by decide) (by decide) dX2_init_35 (pc' := 38) rfl ?_
    refine K_iload_n dX2_init_38 (pc' := 39) rfl rfl ?_
    refine K_new tyX4 kX4 tyX4_ok clX2_15 inX4 ilX4 fsX4 (by omega) ⟨by show 2 + 2 * j + 1 ≤ 162; omega, by show 160 + 27 * j + 3 ≤ 2320; omega⟩ dX2_init_39 (pc' := 42) rfl ?_
    refine K_dup dX2_init_42 (pc' := 43) rfl rfl ?_
    refine K_bipush (v := nI 24) dX2_init_43 (pc' := 45) rfl (by decide) ?_
    refine K_call [.int (nI 24)] (iX4q (L := L) (xs := xs) _ (192 + 2 * j) 24 (by omega) (kq_P hj8).1 (kq_P hj8).2.1 (kq_P hj8).2.2 (by decide) (by decide) (by omega) (by omega) (by omega) (by omega) (by omega) gu_at) miX4 mlX2_25 (by omega) dX2_init_45 (pc' := 48) rfl rfl (by simp [Value.category]) ⟨Nat.le_of_ble_eq_true rfl, Nat.le_of_ble_eq_true rfl⟩ ⟨by show 2 + 2 * j + 1 + 1 ≤ 162; omega, by show 160 + 27 * j + 3 + 24 ≤ 2320; omega⟩ ?_
    refine K_eqs (hy_gd (M' := 192 + 2 * j + 2) (by decide) (by omega)) ?_
    refine K_aast (a := 191) (j := j) (len := 80) hy_r (fun dA b => (hy_x (by decide) (by omega) dA b).trans (cellT (by rw [dv_q_14 (by omega)]; exact (kq_P hj8).1) (by rw [dv_q_14 (by omega), dv_p_13 (by omega) (by omega)]; omega))) rfl hj8 (by decide) (by omega) (by omega) (by decide) (by omega) dX2_init_48 (pc' := 49) rfl ?_
    refine K_eqs hy_up ?_
    refine K_iinc (v := nI (j + 1)) dX2_init_49 (pc' := 52) rfl rfl (nI_ad j 1) (by decide) rfl rfl ?_
    refine K_goto dX2_init_52 (pc' := 28) (by decide) ?_
    exact ih (j + 1) _ _ _ (by omega) (by show 2 + 2 * j + 1 + 1 = 2 + 2 * (j + 1); omega) (by show 160 + 27 * j + 3 + 24 = 160 + 27 * (j + 1); omega) (by omega)
set_option maxRecDepth 100000 in
set_option maxHeartbeats 1000000 in
theorem iX2_189 (h : gC) (hh : ∀ dA b, h dA b 189 = .inr (2, [.null, .null, .int 0])) : dv_I yX2_init cX2_init 2 (rI 2 162 2320) [.ref (dv_q 189)] 190 h 352 (gd 189 (SZ L xs) h) := by
  refine dv_I_of [some (.ref (dv_q 189)), none] (by decide) (fun _ _ => Nat.le_of_ble_eq_true rfl) (fun _ _ => rfl) ?_
  refine K_eqs (hx_0 (S := SZ L xs) hh) ?_
  refine K_aload_n dX2_init_0 (pc' := 1) rfl rfl ?_
  refine K_obj obX2 (by decide) ⟨Nat.le_of_ble_eq_true rfl, Nat.le_of_ble_eq_true rfl⟩ dX2_init_1 (pc' := 4) rfl ?_
  refine K_aload_n dX2_init_4 (pc' := 5) rfl rfl ?_
  refine K_bipush (v := nI 80) dX2_init_5 (pc' := 7) rfl (by decide) ?_
  refine X_newa ar_boolean ra_boolean (fun _ => rfl) (len := 80) rfl (by decide) (by decide) (by decide) ⟨Nat.le_of_ble_eq_true rfl, Nat.le_of_ble_eq_true rfl⟩ dX2_init_7 (pc' := 9) rfl (by decide) (fun dA b => cellR rfl (by decide) rfl (SZ_r (by decide) (by decide) (by decide))) ?_
  refine X_putr fX2_9 dcX2 rfl (fun _ => Nat.le_of_ble_eq_true rfl) (by decide) (by decide) (by decide) (fun _ => rfl) (fun _ => rfl) dX2_init_9 (pc' := 12) rfl ?_
  refine K_aload_n dX2_init_12 (pc' := 13) rfl rfl ?_
  refine K_bipush (v := nI 80) dX2_init_13 (pc' := 15) rfl (by decide) ?_
  refine K_anew (len := 80) clX2_15 rfl (by decide) (by decide) ⟨Nat.le_of_ble_eq_true rfl, Nat.le_of_ble_eq_true rfl⟩ dX2_init_15 (pc' := 18) rfl ?_
  change dv_K _ _ _ _ _ _ _ _ _ _ _ (hy 189 2 _ 191 (fun _ _ => none) (SZ L xs) h) _
  refine Y_putr (by decide) fX2_17 dcX2 rfl (fun _ => Nat.le_of_ble_eq_true rfl) (by decide) (by decide) (by decide) (fun _ => rfl) (fun _ => rfl) dX2_init_18 (pc' := 21) rfl ?_
  refine K_aload_n dX2_init_21 (pc' := 22) rfl rfl ?_
  refine K_iconst (v := nI 0) dX2_init_22 (pc' := 23) rfl (by decide) ?_
  refine Y_puti (by decide) fX2_21 (fun _ => Nat.le_of_ble_eq_true rfl) (by decide) (by decide) rfl rfl dX2_init_23 (pc' := 26) rfl ?_
  refine K_iconst (v := nI 0) dX2_init_26 (pc' := 27) rfl (by decide) ?_
  refine K_istore_n dX2_init_27 (pc' := 28) rfl (j := 1) rfl (by decide) rfl (l' := [some (.ref (dv_q 189)), some (.int (nI 0))]) rfl ?_
  refine lX2_189 h _ (fun _ => rfl) ?_ 80 0 _ _ _ rfl rfl rfl rfl
  refine K_eq (hy_end (by decide) (by decide) (by decide) rfl rfl) ?_
  exact K_eqs (hx_gd (S := SZ L xs) (fun dA b => rfl)) (K_vret dX2_init_55 rfl ⟨Nat.le_of_ble_eq_true rfl, Nat.le_of_ble_eq_true rfl⟩)
set_option maxRecDepth 100000 in
theorem lX2_352 (h : gC) (fl : Nat → List Value) (hfl : ∀ b, (fl b)[1]? = some (.ref (b + 354))) {Q : dv_ZT} (hE : dv_K yX2_init cX2_init 2 none (rI 2 162 2320) 162 2320 55 [some (.ref (dv_q 352)), some (.int (nI 80))] [] 515 (hy 352 2 fl 354 (fT 354 80) (SZ L xs) h) Q) :
    ∀ (k j cs ss N : Nat), j + k = 80 → cs = 2 + 2 * j → ss = 160 + 27 * j → N = 355 + 2 * j → dv_K yX2_init cX2_init 2 none (rI 2 162 2320) cs ss 28 [some (.ref (dv_q 352)), some (.int (nI j))] [] N (hy 352 2 fl 354 (fT 354 j) (SZ L xs) h) Q := by
  intro k
  induction k with
  | zero =>
    intro j cs ss N hj h1 h2 h3
    have hj : j = 80 := by omega
    subst hj; subst h1; subst h2; subst h3
    refine K_iload_n dX2_init_28 (pc' := 29) rfl rfl ?_
    refine K_bipush (v := nI 80) dX2_init_29 (pc' := 31) rfl (by decide) ?_
    exact K_icmp_ge dX2_init_31 (pt := 55) (by decide) (pc' := 34) rfl (fun _ => hE) (fun q => absurd (by decide : nI 80 ≤ nI 80) q)
  | succ k ih =>
    intro j cs ss N hj h1 h2 h3
    have hj8 : j < 80 := by omega
    subst h1; subst h2; subst h3
    refine K_iload_n dX2_init_28 (pc' := 29) rfl rfl ?_
    refine K_bipush (v := nI 80) dX2_init_29 (pc' := 31) rfl (by decide) ?_
    refine K_icmp_ge dX2_init_31 (pt := 55) (by decide) (pc' := 34) rfl (fun q => absurd ((nI_leI (by decide) (by omega)).mp q) (by omega)) (fun _ => ?_)
    refine K_aload_n dX2_init_34 (pc' := 35) rfl rfl ?_
    refine K_getr (t := 354) fX2_17 (hy_o (by decide)) hfl (by omega) (by decide) (by decide) dX2_init_35 (pc' := 38) rfl ?_
    refine K_iload_n dX2_init_38 (pc' := 39) rfl rfl ?_
    refine K_new tyX4 kX4 tyX4_ok clX2_15 inX4 ilX4 fsX4 (by omega) ⟨by show 2 + 2 * j + 1 ≤ 162; omega, by show 160 + 27 * j + 3 ≤ 2320; omega⟩ dX2_init_39 (pc' := 42) rfl ?_
    refine K_dup dX2_init_42 (pc' := 43) rfl rfl ?_
    refine K_bipush (v := nI 24) dX2_init_43 (pc' := 45) rfl (by decide) ?_
    refine K_call [.int (nI 24)] (iX4q (L := L) (xs := xs) _ (355 + 2 * j) 24 (by omega) (kq_Q hj8).1 (kq_Q hj8).2.1 (kq_Q hj8).2.2 (by decide) (by decide) (by omega) (by omega) (by omega) (by omega) (by omega) gu_at) miX4 mlX2_25 (by omega) dX2_init_45 (pc' := 48) rfl rfl (by simp [Value.category]) ⟨Nat.le_of_ble_eq_true rfl, Nat.le_of_ble_eq_true rfl⟩ ⟨by show 2 + 2 * j + 1 + 1 ≤ 162; omega, by show 160 + 27 * j + 3 + 24 ≤ 2320; omega⟩ ?_
    refine K_eqs (hy_gd (M' := 355 + 2 * j + 2) (by decide) (by omega)) ?_
    refine K_aast (a := 354) (j := j) (len := 80) hy_r (fun dA b => (hy_x (by decide) (by omega) dA b).trans (cellT (by rw [dv_q_14 (by omega)]; exact (kq_Q hj8).1) (by rw [dv_q_14 (by omega), dv_p_13 (by omega) (by omega)]; omega))) rfl hj8 (by decide) (by omega) (by omega) (by decide) (by omega) dX2_init_48 (pc' := 49) rfl ?_
    refine K_eqs hy_up ?_
    refine K_iinc (v := nI (j + 1)) dX2_init_49 (pc' := 52) rfl rfl (nI_ad j 1) (by decide) rfl rfl ?_
    refine K_goto dX2_init_52 (pc' := 28) (by decide) ?_
    exact ih (j + 1) _ _ _ (by omega) (by show 2 + 2 * j + 1 + 1 = 2 + 2 * (j + 1); omega) (by show 160 + 27 * j + 3 + 24 = 160 + 27 * (j + 1); omega) (by omega)
set_option maxRecDepth 100000 in
set_option maxHeartbeats 1000000 in
theorem iX2_352 (h : gC) (hh : ∀ dA b, h dA b 352 = .inr (2, [.null, .null, .int 0])) : dv_I yX2_init cX2_init 2 (rI 2 162 2320) [.ref (dv_q 352)] 353 h 515 (gd 352 (SZ L xs) h) := by
  refine dv_I_of [some (.ref (dv_q 352)), none] (by decide) (fun _ _ => Nat.le_of_ble_eq_true rfl) (fun _ _ => rfl) ?_
  refine K_eqs (hx_0 (S := SZ L xs) hh) ?_
  refine K_aload_n dX2_init_0 (pc' := 1) rfl rfl ?_
  refine K_obj obX2 (by decide) ⟨Nat.le_of_ble_eq_true rfl, Nat.le_of_ble_eq_true rfl⟩ dX2_init_1 (pc' := 4) rfl ?_
  refine K_aload_n dX2_init_4 (pc' := 5) rfl rfl ?_
  refine K_bipush (v := nI 80) dX2_init_5 (pc' := 7) rfl (by decide) ?_
  refine X_newa ar_boolean ra_boolean (fun _ => rfl) (len := 80) rfl (by decide) (by decide) (by decide) ⟨Nat.le_of_ble_eq_true rfl, Nat.le_of_ble_eq_true rfl⟩ dX2_init_7 (pc' := 9) rfl (by decide) (fun dA b => cellR rfl (by decide) rfl (SZ_r (by decide) (by decide) (by decide))) ?_
  refine X_putr fX2_9 dcX2 rfl (fun _ => Nat.le_of_ble_eq_true rfl) (by decide) (by decide) (by decide) (fun _ => rfl) (fun _ => rfl) dX2_init_9 (pc' := 12) rfl ?_
  refine K_aload_n dX2_init_12 (pc' := 13) rfl rfl ?_
  refine K_bipush (v := nI 80) dX2_init_13 (pc' := 15) rfl (by decide) ?_
  refine K_anew (len := 80) clX2_15 rfl (by decide) (by decide) ⟨Nat.le_of_ble_eq_true rfl, Nat.le_of_ble_eq_true rfl⟩ dX2_init_15 (pc' := 18) rfl ?_
  change dv_K _ _ _ _ _ _ _ _ _ _ _ (hy 352 2 _ 354 (fun _ _ => none) (SZ L xs) h) _
  refine Y_putr (by decide) fX2_17 dcX2 rfl (fun _ => Nat.le_of_ble_eq_true rfl) (by decide) (by decide) (by decide) (fun _ => rfl) (fun _ => rfl) dX2_init_18 (pc' := 21) rfl ?_
  refine K_aload_n dX2_init_21 (pc' := 22) rfl rfl ?_
  refine K_iconst (v := nI 0) dX2_init_22 (pc' := 23) rfl (by decide) ?_
  refine Y_puti (by decide) fX2_21 (fun _ => Nat.le_of_ble_eq_true rfl) (by decide) (by decide) rfl rfl dX2_init_23 (pc' := 26) rfl ?_
  refine K_iconst (v := nI 0) dX2_init_26 (pc' := 27) rfl (by decide) ?_
  refine K_istore_n dX2_init_27 (pc' := 28) rfl (j := 1) rfl (by decide) rfl (l' := [some (.ref (dv_q 352)), some (.int (nI 0))]) rfl ?_
  refine lX2_352 h _ (fun _ => rfl) ?_ 80 0 _ _ _ rfl rfl rfl rfl
  refine K_eq (hy_end (by decide) (by decide) (by decide) rfl rfl) ?_
  exact K_eqs (hx_gd (S := SZ L xs) (fun dA b => rfl)) (K_vret dX2_init_55 rfl ⟨Nat.le_of_ble_eq_true rfl, Nat.le_of_ble_eq_true rfl⟩)
end
