/-- the state when all is made: nothing told yet -/
def SZ (L : Int32) (xs : Nat → Int32) : dv_S := (fun a k => if a = 100000 then L else if (a = 19 ∧ k = 1) ∨ (a = 516 ∧ k = 4) then 1 else 0, fun a i => if a = 100000 then xs i else if a = 20 ∧ i = 0 then 1 else if a = 518 ∧ i = 0 then -1 else 0, fun _ _ => 0)
def SY (L : Int32) (xs : Nat → Int32) : dv_S := ((SZ L xs).1, fun _ _ => 0, fun _ _ => 0)
theorem SZ_f {L : Int32} {xs : Nat → Int32} {a : Nat} (k : Nat) (h : a ≠ 100000) (h1 : a ≠ 19) (h2 : a ≠ 516) : (SZ L xs).1 a k = 0 := by simp [SZ, h, h1, h2]
theorem SZ_r {L : Int32} {xs : Nat → Int32} {a : Nat} (h : a ≠ 100000) (h1 : a ≠ 20) (h2 : a ≠ 518) : (SZ L xs).2.1 a = fun _ => 0 := by funext i; simp [SZ, h, h1, h2]
/-- the cell at the i-th place behind b -/
def dv_co (dA : Nat → ClassId) (b : Nat) (S : dv_S) (i : Nat) : va_E := dv_cell dA b S (dv_q i)
theorem dv_q_14 {i : Nat} (h : 14 ≤ i) : dv_q i = i - 1 := by unfold dv_q; rw [if_neg (by omega), if_neg (by omega)]
theorem dv_p_13 {a : Nat} (h : 13 ≤ a) (h2 : a < 544) : dv_p a = a + 1 := by unfold dv_p; rw [if_neg (by omega), if_neg (by omega)]
theorem cellR {dA : Nat → ClassId} {b : Nat} {S : dv_S} {N t len : Nat} (hk : dv_kd (dv_q N) = t) (ht : t = 9 ∨ t = 10 ∨ t = 12) (hl : dv_ln (dv_q N) = len) (hS : S.2.1 (dv_q N) = fun _ => 0) : dv_co dA b S N = .inl (dA t, len, .inl (fun _ => 0)) := by rw [dv_co, dv_cell_i hk ht, hl, hS, dv_mk_0]
theorem cellL {dA : Nat → ClassId} {b : Nat} {S : dv_S} {N len : Nat} (hk : dv_kd (dv_q N) = 11) (hl : dv_ln (dv_q N) = len) (hS : S.2.2 (dv_q N) = fun _ => 0) : dv_co dA b S N = .inl (dA 11, len, .inr (.inl (fun _ => 0))) := by rw [dv_co, dv_cell_l hk, hl, hS]
theorem cellK {dA : Nat → ClassId} {b : Nat} {S : dv_S} {N len : Nat} (hk : dv_kd (dv_q N) = 14) (hl : dv_ln (dv_q N) = len) (hS : S.2.1 12 = fun _ => 0) : dv_co dA b S N = .inl (dA 11, len, .inr (.inl (fun _ => 0))) := by
  rw [dv_co, dv_cell_k hk, hl]
  have : dv_ky S.2.1 = fun _ => 0 := by
    funext i
    unfold dv_ky
    rw [hS]
    show lg_cb 0 0 = 0
    decide
  rw [this]
theorem cellT {dA : Nat → ClassId} {b : Nat} {S : dv_S} {a : Nat} (hk : dv_kd (dv_q a) = 4) (hp : dv_p (dv_q a + 1) = a + 1) : dv_co dA b S a = .inr (4, [.ref (b + (a + 1)), .int (S.1 (dv_q a) 1), .int (S.1 (dv_q a) 2)]) := by
  rw [dv_co, dv_cell_o hk (by decide)]
  simp [dv_fl, hk, dv_nf, dv_fv, dv_rf, List.range_succ, hp]
def hx (o ci : Nat) (fl : Nat → List Value) (S : dv_S) (g : gC) : gC := fun dA b x => if x = o then .inr (ci, fl b) else if o < x then dv_co dA b S x else g dA b x
def gd (a : Nat) (S : dv_S) (h : gC) : gC := fun dA b x => if a ≤ x then dv_co dA b S x else h dA b x
theorem hx_o {o ci : Nat} {fl : Nat → List Value} {S : dv_S} {g : gC} (dA : Nat → ClassId) (b : Nat) : hx o ci fl S g dA b o = .inr (ci, fl b) := by simp [hx]
theorem hx_0 {o ci : Nat} {fs : List Value} {S : dv_S} {h : gC} (hh : ∀ dA b, h dA b o = .inr (ci, fs)) : ∀ (dA : Nat → ClassId) (b a : Nat), a < o + 1 → h dA b a = hx o ci (fun _ => fs) S h dA b a := by
  intro dA b a ha
  by_cases q : a = o
  · subst q; rw [hx_o, hh]
  · simp only [hx, if_neg q, if_neg (show ¬ o < a by omega)]
theorem hx_gd {o ci N : Nat} {fl : Nat → List Value} {S : dv_S} {h : gC} (he : ∀ dA b, .inr (ci, fl b) = dv_co dA b S o) : ∀ (dA : Nat → ClassId) (b a : Nat), a < N → hx o ci fl S h dA b a = gd o S h dA b a := by
  intro dA b a _
  by_cases q : a = o
  · subst q; rw [hx_o, he dA]; simp [gd]
  · by_cases q2 : o < a
    · simp only [hx, gd, if_neg q, if_pos q2, if_pos (show o ≤ a by omega)]
    · simp only [hx, gd, if_neg q, if_neg q2, if_neg (show ¬ o ≤ a by omega)]
theorem gd_hx {o ci N N' : Nat} {fl : Nat → List Value} {S : dv_S} {g : gC} {e : (Nat → ClassId) → Nat → va_E} (ho : o < N) : ∀ (dA : Nat → ClassId) (b a : Nat), a < N' → gd N S (gu (hx o ci fl S g) N e) dA b a = hx o ci fl S g dA b a := by
  intro dA b a _
  by_cases q : N ≤ a
  · simp only [gd, hx, if_pos q, if_neg (show ¬ a = o by omega), if_pos (show o < a by omega)]
  · simp only [gd, gu, if_neg q, if_neg (show ¬ a = N by omega)]
theorem gu_hx {o ci N : Nat} {fl : Nat → List Value} {S : dv_S} {g : gC} {e : (Nat → ClassId) → Nat → va_E} (ho : o < N) (he : ∀ dA b, dv_co dA b S N = e dA b) : ∀ (dA : Nat → ClassId) (b a : Nat), a < N + 1 → gu (hx o ci fl S g) N e dA b a = hx o ci fl S g dA b a := by
  intro dA b a _
  by_cases q : a = N
  · subst q
    simp only [gu, hx, if_true, if_neg (show ¬ a = o by omega), if_pos ho]; exact (he dA b).symm
  · simp only [gu, if_neg q]
theorem gu_o {o ci N : Nat} {fl fl' : Nat → List Value} {S : dv_S} {g : gC} : ∀ (dA : Nat → ClassId) (b a : Nat), a < N → gu (hx o ci fl S g) o (fun _ b => .inr (ci, fl' b)) dA b a = hx o ci fl' S g dA b a := by
  intro dA b a _
  by_cases q : a = o
  · subst q; simp [gu, hx]
  · simp only [gu, hx, if_neg q]
theorem gu_at {h : gC} {N : Nat} {e : (Nat → ClassId) → Nat → va_E} (dA : Nat → ClassId) (b : Nat) : gu h N e dA b N = e dA b := by simp [gu]
section
variable {y : MethodName} {cc : ByteArray} {n : Nat} {ret : Option FieldType} {R : Room} {cs ss pc pc' : Nat} {l l' : List (Option Value)} {st : List Value} {N o ci : Nat} {fl : Nat → List Value} {S : dv_S} {g : gC} {Q : dv_ZT}
theorem X_newa {atype : ArrayType} {t len : Nat} {x : Int32} {z : (Nat → Int32) ⊕ (Nat → Int64) ⊕ (Nat → UInt32) ⊕ (Nat → UInt64) ⊕ (Nat → Option Nat)} (harr : Cond.arrayClass (newarray.typeOf atype) ∈ dv_T) (hRA : ∀ (dC : Nat → ClassId) (dI : Nat → Nat → Nat) (dA : Nat → ClassId) (s : State), va_K (dC, dI) vwCl (dv_tys dA) s → s.vm.findClass ("[" ++ (newarray.typeOf atype).toString) = some (dA t)) (hcell : ∀ cA : ClassId, vp_cell cA (len, z) = arrV cA len (fun _ => defaultValue (newarray.typeOf atype)))
    (hx0 : x = nI len) (hlen : len ≤ 2000) (hby : componentBytes (newarray.typeOf atype) ≤ 8) (hN : N < 545) (hcs : cs + 1 ≤ R.cells ∧ ss + len ≤ R.slots) (hd : decode cc pc = .ok (.newarray atype, 2)) (hp : pc + 2 = pc') (ho : o < N) (hS : ∀ dA b, dv_co dA b S N = .inl (dA t, len, z))
    (k : dv_K y cc n ret R (cs + 1) (ss + len) pc' l (.ref (dv_q N) :: st) (N + 1) (hx o ci fl S g) Q) : dv_K y cc n ret R cs ss pc l (.int x :: st) N (hx o ci fl S g) Q :=
  K_newa harr hRA hcell hx0 hlen hby hN hcs hd hp (K_eqs (gu_hx ho hS) k)
theorem X_puti {idx k : Nat} {ty : FieldType} {v : Int32} (hF : dv_F y.cls idx ci k false ty) (hlen : ∀ b, k < (fl b).length) (ha : o < N) (h544 : o < 545) (hn : narrow ty (.int v) = .int v) (hfit : fits ty (.int v) = true) (hd : decode cc pc = .ok (.putfield idx, 3)) (hp : pc + 3 = pc')
    (kk : dv_K y cc n ret R cs ss pc' l st N (hx o ci (fun b => (fl b).set k (.int v)) S g) Q) : dv_K y cc n ret R cs ss pc l (.int v :: .ref (dv_q o) :: st) N (hx o ci fl S g) Q :=
  K_puti hF hx_o hlen ha h544 hn hfit hd hp (K_eqs gu_o kk)
theorem X_putr {idx k t : Nat} {ty : FieldType} (hF : dv_F y.cls idx ci k true ty) (hdc : ∀ C Tf Nf, vwCl[ci]? = some (C, Tf, Nf) → ∀ k, k < Nf → (Tf k).1 = y.cls) (hin2 : y.name = "<init>") (hlen : ∀ b, k < (fl b).length) (ha : o < N) (h544 : o < 545) (ht : t < 545) (hn : ∀ q, narrow ty (.ref q) = .ref q) (hfit : ∀ q, fits ty (.ref q) = true) (hd : decode cc pc = .ok (.putfield idx, 3)) (hp : pc + 3 = pc')
    (kk : dv_K y cc n ret R cs ss pc' l st N (hx o ci (fun b => (fl b).set k (.ref (b + t))) S g) Q) : dv_K y cc n ret R cs ss pc l (.ref (dv_q t) :: .ref (dv_q o) :: st) N (hx o ci fl S g) Q :=
  K_putr hF hdc hin2 hx_o hlen ha h544 ht hn hfit hd hp (K_eqs gu_o kk)
end
theorem ar_int : Cond.arrayClass (newarray.typeOf .int) ∈ dv_T := dv_T_in (i := 86) (by decide +kernel) rfl
theorem ar_long : Cond.arrayClass (newarray.typeOf .long) ∈ dv_T := dv_T_in (i := 109) (by decide +kernel) rfl
theorem ar_boolean : Cond.arrayClass (newarray.typeOf .boolean) ∈ dv_T := dv_T_in (i := 204) (by decide +kernel) rfl
theorem ar_byte : Cond.arrayClass (newarray.typeOf .byte) ∈ dv_T := dv_T_in (i := 830) (by decide +kernel) rfl
theorem ra_byte : ∀ (dC : Nat → ClassId) (dI : Nat → Nat → Nat) (dA : Nat → ClassId) (s : State), va_K (dC, dI) vwCl (dv_tys dA) s → s.vm.findClass ("[" ++ (newarray.typeOf .byte).toString) = some (dA 9) := fun _ _ dA _ h => (h.2 0 (dA 9, .byte) rfl).2
theorem ra_int : ∀ (dC : Nat → ClassId) (dI : Nat → Nat → Nat) (dA : Nat → ClassId) (s : State), va_K (dC, dI) vwCl (dv_tys dA) s → s.vm.findClass ("[" ++ (newarray.typeOf .int).toString) = some (dA 10) := fun _ _ dA _ h => (h.2 1 (dA 10, .int) rfl).2
theorem ra_long : ∀ (dC : Nat → ClassId) (dI : Nat → Nat → Nat) (dA : Nat → ClassId) (s : State), va_K (dC, dI) vwCl (dv_tys dA) s → s.vm.findClass ("[" ++ (newarray.typeOf .long).toString) = some (dA 11) := fun _ _ dA _ h => (h.2 2 (dA 11, .long) rfl).2
theorem ra_boolean : ∀ (dC : Nat → ClassId) (dI : Nat → Nat → Nat) (dA : Nat → ClassId) (s : State), va_K (dC, dI) vwCl (dv_tys dA) s → s.vm.findClass ("[" ++ (newarray.typeOf .boolean).toString) = some (dA 12) := fun _ _ dA _ h => (h.2 3 (dA 12, .boolean) rfl).2
theorem miX0 : dv_mi yX0_init cX0_init 1 0 := ⟨⟨dv_T_in (i := 114) (by decide +kernel) rfl, dv_T_in (i := 51) (by decide +kernel) rfl, ⟨by decide +kernel, by decide +kernel⟩, by decide +kernel⟩, rfl, dv_T_in (i := 113) (by decide +kernel) rfl⟩
theorem obX0 : Cond.methodLink RX0 3 Lib.objectInit ∈ dv_T := dv_T_in (i := 115) (by decide +kernel) rfl
theorem dcX0 : ∀ C Tf Nf, vwCl[0]? = some (C, Tf, Nf) → ∀ k, k < Nf → (Tf k).1 = RX0 := by
  intro C Tf Nf h
  cases h
  decide +kernel
theorem fsX0 : ∀ j, j < 6 → defaultValue (tyX0 j) = vp_V [.null, .null, .null, .null, .null, .int 0] j := by decide +kernel
theorem inX0 : Cond.instantiable RX0 6 ∈ dv_T := dv_T_in (i := 111) (by decide +kernel) rfl
theorem ilX0 : Cond.initialized RX0 ∈ dv_T := dv_T_in (i := 51) (by decide +kernel) rfl
theorem miX1 : dv_mi yX1_init cX1_init 1 0 := ⟨⟨dv_T_in (i := 91) (by decide +kernel) rfl, dv_T_in (i := 50) (by decide +kernel) rfl, ⟨by decide +kernel, by decide +kernel⟩, by decide +kernel⟩, rfl, dv_T_in (i := 90) (by decide +kernel) rfl⟩
theorem obX1 : Cond.methodLink RX1 3 Lib.objectInit ∈ dv_T := dv_T_in (i := 92) (by decide +kernel) rfl
theorem dcX1 : ∀ C Tf Nf, vwCl[1]? = some (C, Tf, Nf) → ∀ k, k < Nf → (Tf k).1 = RX1 := by
  intro C Tf Nf h
  cases h
  decide +kernel
theorem fsX1 : ∀ j, j < 5 → defaultValue (tyX1 j) = vp_V [.null, .null, .null, .null, .int 0] j := by decide +kernel
theorem inX1 : Cond.instantiable RX1 5 ∈ dv_T := dv_T_in (i := 88) (by decide +kernel) rfl
theorem ilX1 : Cond.initialized RX1 ∈ dv_T := dv_T_in (i := 50) (by decide +kernel) rfl
theorem miX2 : dv_mi yX2_init cX2_init 2 0 := ⟨⟨dv_T_in (i := 190) (by decide +kernel) rfl, dv_T_in (i := 55) (by decide +kernel) rfl, ⟨by decide +kernel, by decide +kernel⟩, by decide +kernel⟩, rfl, dv_T_in (i := 189) (by decide +kernel) rfl⟩
theorem obX2 : Cond.methodLink RX2 3 Lib.objectInit ∈ dv_T := dv_T_in (i := 191) (by decide +kernel) rfl
theorem dcX2 : ∀ C Tf Nf, vwCl[2]? = some (C, Tf, Nf) → ∀ k, k < Nf → (Tf k).1 = RX2 := by
  intro C Tf Nf h
  cases h
  decide +kernel
theorem fsX2 : ∀ j, j < 3 → defaultValue (tyX2 j) = vp_V [.null, .null, .int 0] j := by decide +kernel
theorem inX2 : Cond.instantiable RX2 3 ∈ dv_T := dv_T_in (i := 187) (by decide +kernel) rfl
theorem ilX2 : Cond.initialized RX2 ∈ dv_T := dv_T_in (i := 55) (by decide +kernel) rfl
theorem miX3 : dv_mi yX3_init cX3_init 1 0 := ⟨⟨dv_T_in (i := 139) (by decide +kernel) rfl, dv_T_in (i := 52) (by decide +kernel) rfl, ⟨by decide +kernel, by decide +kernel⟩, by decide +kernel⟩, rfl, dv_T_in (i := 138) (by decide +kernel) rfl⟩
theorem obX3 : Cond.methodLink RX3 3 Lib.objectInit ∈ dv_T := dv_T_in (i := 140) (by decide +kernel) rfl
theorem dcX3 : ∀ C Tf Nf, vwCl[3]? = some (C, Tf, Nf) → ∀ k, k < Nf → (Tf k).1 = RX3 := by
  intro C Tf Nf h
  cases h
  decide +kernel
theorem fsX3 : ∀ j, j < 2 → defaultValue (tyX3 j) = vp_V [.null, .int 0] j := by decide +kernel
theorem inX3 : Cond.instantiable RX3 2 ∈ dv_T := dv_T_in (i := 136) (by decide +kernel) rfl
theorem ilX3 : Cond.initialized RX3 ∈ dv_T := dv_T_in (i := 52) (by decide +kernel) rfl
theorem miX4 : dv_mi yX4_init cX4_init 2 1 := ⟨⟨dv_T_in (i := 74) (by decide +kernel) rfl, dv_T_in (i := 49) (by decide +kernel) rfl, ⟨by decide +kernel, by decide +kernel⟩, by decide +kernel⟩, rfl, dv_T_in (i := 73) (by decide +kernel) rfl⟩
theorem obX4 : Cond.methodLink RX4 3 Lib.objectInit ∈ dv_T := dv_T_in (i := 75) (by decide +kernel) rfl
theorem dcX4 : ∀ C Tf Nf, vwCl[4]? = some (C, Tf, Nf) → ∀ k, k < Nf → (Tf k).1 = RX4 := by
  intro C Tf Nf h
  cases h
  decide +kernel
theorem fsX4 : ∀ j, j < 3 → defaultValue (tyX4 j) = vp_V [.null, .int 0, .int 0] j := by decide +kernel
theorem inX4 : Cond.instantiable RX4 3 ∈ dv_T := dv_T_in (i := 71) (by decide +kernel) rfl
theorem ilX4 : Cond.initialized RX4 ∈ dv_T := dv_T_in (i := 49) (by decide +kernel) rfl
theorem miX5 : dv_mi yX5_init cX5_init 2 0 := ⟨⟨dv_T_in (i := 152) (by decide +kernel) rfl, dv_T_in (i := 53) (by decide +kernel) rfl, ⟨by decide +kernel, by decide +kernel⟩, by decide +kernel⟩, rfl, dv_T_in (i := 151) (by decide +kernel) rfl⟩
theorem obX5 : Cond.methodLink RX5 3 Lib.objectInit ∈ dv_T := dv_T_in (i := 153) (by decide +kernel) rfl
theorem dcX5 : ∀ C Tf Nf, vwCl[5]? = some (C, Tf, Nf) → ∀ k, k < Nf → (Tf k).1 = RX5 := by
  intro C Tf Nf h
  cases h
  decide +kernel
theorem fsX5 : ∀ j, j < 4 → defaultValue (tyX5 j) = vp_V [.null, .null, .null, .int 0] j := by decide +kernel
theorem inX5 : Cond.instantiable RX5 4 ∈ dv_T := dv_T_in (i := 149) (by decide +kernel) rfl
theorem ilX5 : Cond.initialized RX5 ∈ dv_T := dv_T_in (i := 53) (by decide +kernel) rfl
theorem miX6 : dv_mi yX6_init cX6_init 1 0 := ⟨⟨dv_T_in (i := 174) (by decide +kernel) rfl, dv_T_in (i := 54) (by decide +kernel) rfl, ⟨by decide +kernel, by decide +kernel⟩, by decide +kernel⟩, rfl, dv_T_in (i := 173) (by decide +kernel) rfl⟩
theorem obX6 : Cond.methodLink RX6 3 Lib.objectInit ∈ dv_T := dv_T_in (i := 175) (by decide +kernel) rfl
theorem dcX6 : ∀ C Tf Nf, vwCl[6]? = some (C, Tf, Nf) → ∀ k, k < Nf → (Tf k).1 = RX6 := by
  intro C Tf Nf h
  cases h
  decide +kernel
theorem fsX6 : ∀ j, j < 3 → defaultValue (tyX6 j) = vp_V [.null, .null, .int 0] j := by decide +kernel
theorem inX6 : Cond.instantiable RX6 3 ∈ dv_T := dv_T_in (i := 171) (by decide +kernel) rfl
theorem ilX6 : Cond.initialized RX6 ∈ dv_T := dv_T_in (i := 54) (by decide +kernel) rfl
theorem miX7 : dv_mi yX7_init cX7_init 1 0 := ⟨⟨dv_T_in (i := 66) (by decide +kernel) rfl, dv_T_in (i := 48) (by decide +kernel) rfl, ⟨by decide +kernel, by decide +kernel⟩, by decide +kernel⟩, rfl, dv_T_in (i := 65) (by decide +kernel) rfl⟩
theorem obX7 : Cond.methodLink RX7 1 Lib.objectInit ∈ dv_T := dv_T_in (i := 67) (by decide +kernel) rfl
theorem dcX7 : ∀ C Tf Nf, vwCl[7]? = some (C, Tf, Nf) → ∀ k, k < Nf → (Tf k).1 = RX7 := by
  intro C Tf Nf h
  cases h
  decide +kernel
theorem fsX7 : ∀ j, j < 15 → defaultValue (tyX7 j) = vp_V [.null, .null, .null, .null, .null, .null, .null, .null, .null, .null, .null, .null, .null, .int 0, .int 0] j := by decide +kernel
theorem inX7 : Cond.instantiable RX7 15 ∈ dv_T := dv_T_in (i := 63) (by decide +kernel) rfl
theorem ilX7 : Cond.initialized RX7 ∈ dv_T := dv_T_in (i := 48) (by decide +kernel) rfl
theorem miX8 : dv_mi yX8_init cX8_init 1 0 := ⟨⟨dv_T_in (i := 851) (by decide +kernel) rfl, dv_T_in (i := 56) (by decide +kernel) rfl, ⟨by decide +kernel, by decide +kernel⟩, by decide +kernel⟩, rfl, dv_T_in (i := 850) (by decide +kernel) rfl⟩
theorem obX8 : Cond.methodLink RX8 34 Lib.objectInit ∈ dv_T := dv_T_in (i := 852) (by decide +kernel) rfl
theorem dcX8 : ∀ C Tf Nf, vwCl[8]? = some (C, Tf, Nf) → ∀ k, k < Nf → (Tf k).1 = RX8 := by
  intro C Tf Nf h
  cases h
  decide +kernel
theorem fsX8 : ∀ j, j < 38 → defaultValue (tyX8 j) = vp_V [.int 0, .int 0, .null, .int 0, .int 0, .int 0, .int 0, .null, .null, .null, .null, .null, .null, .null, .null, .null, .int 0, .int 0, .null, .null, .null, .null, .null, .null, .null, .null, .int 0, .int 0, .null, .null, .null, .null, .null, .null, .null, .null, .int 0, .int 0] j := by decide +kernel
theorem inX8 : Cond.instantiable RX8 38 ∈ dv_T := dv_T_in (i := 848) (by decide +kernel) rfl
theorem ilX8 : Cond.initialized RX8 ∈ dv_T := dv_T_in (i := 56) (by decide +kernel) rfl
theorem clL_8 : Cond.classLink RL 8 RX7 ∈ dv_T := dv_T_in (i := 62) (by decide +kernel) rfl
theorem mlL_19 : Cond.methodLink RL 19 yX7_init ∈ dv_T := dv_T_in (i := 64) (by decide +kernel) rfl
theorem clX7_7 : Cond.classLink RX7 7 RX4 ∈ dv_T := dv_T_in (i := 70) (by decide +kernel) rfl
theorem mlX7_11 : Cond.methodLink RX7 11 yX4_init ∈ dv_T := dv_T_in (i := 72) (by decide +kernel) rfl
theorem clX7_27 : Cond.classLink RX7 27 RX1 ∈ dv_T := dv_T_in (i := 87) (by decide +kernel) rfl
theorem clX7_34 : Cond.classLink RX7 34 RX0 ∈ dv_T := dv_T_in (i := 110) (by decide +kernel) rfl
theorem clX7_41 : Cond.classLink RX7 41 RX3 ∈ dv_T := dv_T_in (i := 135) (by decide +kernel) rfl
theorem mlX7_43 : Cond.methodLink RX7 43 yX3_init ∈ dv_T := dv_T_in (i := 137) (by decide +kernel) rfl
theorem clX7_48 : Cond.classLink RX7 48 RX5 ∈ dv_T := dv_T_in (i := 148) (by decide +kernel) rfl
theorem mlX7_50 : Cond.methodLink RX7 50 yX5_init ∈ dv_T := dv_T_in (i := 150) (by decide +kernel) rfl
theorem clX5_18 : Cond.classLink RX5 18 RX4 ∈ dv_T := dv_T_in (i := 154) (by decide +kernel) rfl
theorem mlX5_28 : Cond.methodLink RX5 28 yX4_init ∈ dv_T := dv_T_in (i := 156) (by decide +kernel) rfl
theorem clX7_55 : Cond.classLink RX7 55 RX6 ∈ dv_T := dv_T_in (i := 170) (by decide +kernel) rfl
theorem clX7_62 : Cond.classLink RX7 62 RX2 ∈ dv_T := dv_T_in (i := 186) (by decide +kernel) rfl
theorem mlX7_64 : Cond.methodLink RX7 64 yX2_init ∈ dv_T := dv_T_in (i := 188) (by decide +kernel) rfl
theorem clX2_15 : Cond.classLink RX2 15 RX4 ∈ dv_T := dv_T_in (i := 192) (by decide +kernel) rfl
theorem mlX2_25 : Cond.methodLink RX2 25 yX4_init ∈ dv_T := dv_T_in (i := 193) (by decide +kernel) rfl
theorem clL_20 : Cond.classLink RL 20 RX8 ∈ dv_T := dv_T_in (i := 847) (by decide +kernel) rfl
theorem mlL_22 : Cond.methodLink RL 22 yX8_init ∈ dv_T := dv_T_in (i := 849) (by decide +kernel) rfl
