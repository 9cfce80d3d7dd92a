theorem dv_lt {a : Nat} (h : dv_kd a ≠ 99) : a < 545 := by
  refine Nat.lt_of_not_le fun q => h ?_
  unfold dv_kd
  rw [if_neg (by omega), if_neg (by omega), if_neg (by omega), if_neg (by omega), if_neg (by omega), if_neg (by omega)]
  rw [List.getD_eq_getElem?_getD, List.getElem?_eq_none (by simp; omega)]
  rfl
def dv_cl (ci : Nat) (C : String) (T : u_T) (N : Nat) : Prop := vwCl[ci]? = some (C, T, N) ∧ ci < 9 ∧ N = dv_nf ci ∧ (∀ w ∈ u_ws C T N, w ∈ dv_T) ∧ ∃ ty0 : Nat → FieldType, (∀ k, k < N → parseFieldDescriptor (T k).2.2.1 = some (ty0 k)) ∧ (∀ a, a < N → ∀ b, b < N → a ≠ b → (T a).2.1 ≠ (T b).2.1)
/-- entry idx of own's table is field k of class ci, of type ty -/
def dv_F (own : String) (idx ci k : Nat) (fin : Bool) (ty : FieldType) : Prop := ∃ (C : String) (T : u_T) (N : Nat), dv_cl ci C T N ∧ k < N ∧ Cond.fieldLink own idx (T k).1 (T k).2.1 (T k).2.2.1 ∈ dv_T ∧ (T k).2.2.2 = fin ∧ parseFieldDescriptor (T k).2.2.1 = some ty
theorem dv_tr_ref {scr b a : Nat} (h : a < 545) : dv_tr scr b (.ref a) = .ref (b + dv_p a) := by
  show Value.ref (if a = 100000 then scr else b + dv_p a) = _
  rw [if_neg (by omega)]
theorem dv_tr_scr {scr b : Nat} : dv_tr scr b (.ref 100000) = .ref scr := by
  show Value.ref (if 100000 = 100000 then scr else b + dv_p 100000) = _
  rw [if_pos rfl]
theorem dv_rf_lt {a k t : Nat} (h : dv_rf a k = some t) : t < 545 := by
  unfold dv_rf at h
  split at h
  · rename_i h4
    split at h
    · cases h
      have h1 := dv_lt (a := a) (by rw [h4]; decide)
      have : ¬ a = 544 := fun q => by subst q; exact absurd h4 (by decide)
      omega
    · cases h
  · split at h
    · have := List.mem_of_getElem? h
      revert this
      simp only [List.mem_cons, List.not_mem_nil, or_false]
      omega
    · repeat' split at h
      all_goals first
        | (cases h; omega)
        | (cases h; rename_i h2 _; have h1 := dv_lt (a := a) (by rw [h2]; decide)
           have q1 : ¬ a = 544 := fun q => by subst q; exact absurd h2 (by decide)
           have q2 : ¬ a = 543 := fun q => by subst q; exact absurd h2 (by decide)
           omega)
        | cases h
section
variable {y : MethodName} {cc : ByteArray} {n : Nat} {ret : Option FieldType} {R : Room} {cs ss pc pc' : Nat} {l l' : List (Option Value)} {st : List Value} {S : dv_S} {Q : Option Value → dv_S → Prop}
theorem J_geti {a idx ci k : Nat} {fin : Bool} {ty : FieldType} (hF : dv_F y.cls idx ci k fin ty) (ha : dv_kd a = ci) (hr : dv_rf a k = none) (hd : decode cc pc = .ok (.getfield idx, 3)) (hp : pc + 3 = pc') (kk : dv_J y cc n ret R cs ss pc' l (.int (S.1 a k) :: st) S Q) : dv_J y cc n ret R cs ss pc l (.ref a :: st) S Q := by
  intro la b scr dC dI dA p e s m args below meth c H locs ls hc hl hP hS hX
  subst hp
  obtain ⟨C, T, N, ⟨h1, h9, hN, hin, ty0, hty, hnm⟩, hk, hlk, -, -⟩ := hF
  have h545 := dv_lt (a := a) (by omega)
  obtain ⟨q0, hq⟩ := dv_get dA b S h545
  rw [dv_cell_o ha h9] at hq
  show W _ _ _ _ _ _ _ _ _ _ _ _ _ _ _ (F0 m pc ls (dv_tr scr b (.ref a) :: st.map (dv_tr scr b)))
  rw [dv_tr_ref h545]
  refine va_get hc.1 hc.2.1 hc.2.2.2.2.2.2.1 hin hc.2.2.2.2.2.1 hc.2.2.2.2.2.2.2.1 hP q0 hq h1 k hk (hc.2.2.2.2.2.2.1 _ hlk) (fun _ h => h) (v := .int (S.1 a k)) ?_ hd (kk la b scr dC dI dA p e s m args below meth c H locs ls hc hl hP hS hX)
  rw [dv_fl_at ha (hN ▸ hk)]
  simp [dv_fv, hr]
theorem J_getr {a idx ci k t : Nat} {fin : Bool} {ty : FieldType} (hF : dv_F y.cls idx ci k fin ty) (ha : dv_kd a = ci) (hr : dv_rf a k = some t) (hd : decode cc pc = .ok (.getfield idx, 3)) (hp : pc + 3 = pc') (kk : dv_J y cc n ret R cs ss pc' l (.ref t :: st) S Q) : dv_J y cc n ret R cs ss pc l (.ref a :: st) S Q := by
  intro la b scr dC dI dA p e s m args below meth c H locs ls hc hl hP hS hX
  subst hp
  obtain ⟨C, T, N, ⟨h1, h9, hN, hin, ty0, hty, hnm⟩, hk, hlk, -, -⟩ := hF
  have h545 := dv_lt (a := a) (by omega)
  obtain ⟨q0, hq⟩ := dv_get dA b S h545
  rw [dv_cell_o ha h9] at hq
  show W _ _ _ _ _ _ _ _ _ _ _ _ _ _ _ (F0 m pc ls (dv_tr scr b (.ref a) :: st.map (dv_tr scr b)))
  rw [dv_tr_ref h545]
  refine va_get hc.1 hc.2.1 hc.2.2.2.2.2.2.1 hin hc.2.2.2.2.2.1 hc.2.2.2.2.2.2.2.1 hP q0 hq h1 k hk (hc.2.2.2.2.2.2.1 _ hlk) (fun _ h => h) (v := dv_tr scr b (.ref t)) ?_ hd (kk la b scr dC dI dA p e s m args below meth c H locs ls hc hl hP hS hX)
  rw [dv_fl_at ha (hN ▸ hk), dv_tr_ref (dv_rf_lt hr)]
  simp [dv_fv, hr]
theorem dv_kd_scr : dv_kd 100000 = 99 := by decide
theorem J_put0 {a idx ci k : Nat} {ty : FieldType} {v : Int32} (hF : dv_F y.cls idx ci k false ty) (ha : dv_kd a = ci) (hr : dv_rf a k = none) (hn : narrow ty (.int v) = .int v) (hfit : fits ty (.int v) = true) (hd : decode cc pc = .ok (.putfield idx, 3)) (hp : pc + 3 = pc') (kk : dv_J y cc n ret R cs ss pc' l st (dv_u S.1 a k v, S.2) Q) : dv_J y cc n ret R cs ss pc l (.int v :: .ref a :: st) S Q := by
  intro la b scr dC dI dA p e s m args below meth c H locs ls hc hl hP hS hX
  subst hp
  obtain ⟨C, T, N, ⟨h1, h9, hN, hin, ty0, hty, hnm⟩, hk, hlk, hfin, hdy⟩ := hF
  have h545 := dv_lt (a := a) (by omega)
  obtain ⟨q0, hq⟩ := dv_get dA b S h545
  have hq' := hq
  rw [dv_cell_o ha h9] at hq
  show W _ _ _ _ _ _ _ _ _ _ _ _ _ _ _ (F0 m pc ls (.int v :: dv_tr scr b (.ref a) :: st.map (dv_tr scr b)))
  rw [dv_tr_ref h545]
  refine va_put hc.1 hc.2.1 hc.2.2.2.2.2.2.1 hin ty0 hty hnm hc.2.2.2.2.2.1 hc.2.2.2.2.2.2.2.1 hP (dv_D dA b S) hS q0 hq h1 k hk (hc.2.2.2.2.2.2.1 _ hlk) (fun _ h => h) hfin hdy hn hfit (by rw [dv_fl_len ha]; exact hN ▸ hk) hd (fun H1 locs1 hP1 _ hS1 => ?_)
  rw [dv_set (S' := (dv_u S.1 a k v, S.2)) h545 hq' (by rw [dv_cell_o ha h9, dv_fl_set hr]) (fun x hx => dv_cell_F (dv_u_row _ _ hx) rfl rfl rfl)] at hP1
  refine kk la b scr dC dI dA p e s m args below meth c H1 locs1 ls hc hl hP1 hS1 ?_
  have h0 : dv_L (dv_u S.1 a k v, S.2) = dv_L S := by
    show (dv_u S.1 a k v 100000 0).toNatClampNeg = _
    rw [dv_u_ne _ _ (by rintro ⟨q, -⟩; omega)]; rfl
  rw [h0]; exact hX
theorem J_puti {a idx ci k : Nat} {v : Int32} (hF : dv_F y.cls idx ci k false .int) (ha : dv_kd a = ci) (hr : dv_rf a k = none) (hd : decode cc pc = .ok (.putfield idx, 3)) (hp : pc + 3 = pc') (kk : dv_J y cc n ret R cs ss pc' l st (dv_u S.1 a k v, S.2) Q) : dv_J y cc n ret R cs ss pc l (.int v :: .ref a :: st) S Q :=
  J_put0 hF ha hr rfl rfl hd hp kk
theorem J_putz {a idx ci k : Nat} {v : Int32} (hF : dv_F y.cls idx ci k false .boolean) (ha : dv_kd a = ci) (hr : dv_rf a k = none) (hv : v = 0 ∨ v = 1) (hd : decode cc pc = .ok (.putfield idx, 3)) (hp : pc + 3 = pc') (kk : dv_J y cc n ret R cs ss pc' l st (dv_u S.1 a k v, S.2) Q) : dv_J y cc n ret R cs ss pc l (.int v :: .ref a :: st) S Q := by
  rcases hv with rfl | rfl
  · exact J_put0 hF ha hr (by decide) (by decide) hd hp kk
  · exact J_put0 hF ha hr (by decide) (by decide) hd hp kk
theorem dv_j {i : Int32} {j N : Nat} (hi : i = nI j) (hj : j < N) (hN : N < 2 ^ 31) : vp_in i N ∧ i.toNatClampNeg = j := by
  subst hi; exact ⟨vp_in_nI hj hN, nI_clamp (by omega)⟩
theorem dv_mk_upd {n j : Nat} {f : Nat → Int32} {v : Int32} (h : j < n) : upd (dv_mk n f) j v = dv_mk n (upd f j v) := by
  funext x
  by_cases hx : x = j
  · subst hx; simp [upd, dv_mk, h]
  · simp [upd, dv_mk, hx]
theorem dv_j12 {a j : Nat} (h : j < dv_ln a) : ¬ (a = 12 ∧ 100 ≤ j) := by
  rintro ⟨rfl, q⟩
  have : dv_ln 12 = 24 := by decide
  omega
theorem J_iald {a j : Nat} {i : Int32} (ha : dv_kd a = 10) (hi : i = nI j) (hj : j < dv_ln a) (hd : decode cc pc = .ok (.iaload, 1)) (hp : pc + 1 = pc') (kk : dv_J y cc n ret R cs ss pc' l (.int (S.2.1 a j) :: st) S Q) : dv_J y cc n ret R cs ss pc l (.int i :: .ref a :: st) S Q := by
  intro la b scr dC dI dA p e s m args below meth c H locs ls hc hl hP hS hX
  subst hp
  have h545 := dv_lt (a := a) (by omega)
  obtain ⟨h1, h2⟩ := dv_j hi hj (dv_ln_lt a)
  obtain ⟨q0, hq⟩ := dv_get dA b S h545
  rw [dv_cell_i ha (by decide)] at hq
  show W _ _ _ _ _ _ _ _ _ _ _ _ _ _ _ (F0 m pc ls (.int i :: dv_tr scr b (.ref a) :: st.map (dv_tr scr b)))
  rw [dv_tr_ref h545]
  refine va_iald hc.1 hc.2.1 hc.2.2.2.2.2.2.2.1 hP q0 1 hq rfl h1 hd ?_
  rw [h2, dv_mk_in _ hj]
  exact kk la b scr dC dI dA p e s m args below meth c H locs ls hc hl hP hS hX
theorem J_bald {a j : Nat} {i : Int32} (ha : dv_kd a = 9) (hi : i = nI j) (hj : j < dv_ln a) (hd : decode cc pc = .ok (.baload, 1)) (hp : pc + 1 = pc') (kk : dv_J y cc n ret R cs ss pc' l (.int (S.2.1 a j) :: st) S Q) : dv_J y cc n ret R cs ss pc l (.int i :: .ref a :: st) S Q := by
  intro la b scr dC dI dA p e s m args below meth c H locs ls hc hl hP hS hX
  subst hp
  have h545 := dv_lt (a := a) (by omega)
  obtain ⟨h1, h2⟩ := dv_j hi hj (dv_ln_lt a)
  obtain ⟨q0, hq⟩ := dv_get dA b S h545
  rw [dv_cell_i ha (by decide)] at hq
  show W _ _ _ _ _ _ _ _ _ _ _ _ _ _ _ (F0 m pc ls (.int i :: dv_tr scr b (.ref a) :: st.map (dv_tr scr b)))
  rw [dv_tr_ref h545]
  refine va_bald hc.1 hc.2.1 hc.2.2.2.2.2.2.2.1 hP q0 0 hq rfl h1 hd ?_
  rw [h2, dv_mk_in _ hj]
  exact kk la b scr dC dI dA p e s m args below meth c H locs ls hc hl hP hS hX
theorem J_zald {a j : Nat} {i : Int32} (ha : dv_kd a = 12) (hi : i = nI j) (hj : j < dv_ln a) (hd : decode cc pc = .ok (.baload, 1)) (hp : pc + 1 = pc') (kk : dv_J y cc n ret R cs ss pc' l (.int (S.2.1 a j) :: st) S Q) : dv_J y cc n ret R cs ss pc l (.int i :: .ref a :: st) S Q := by
  intro la b scr dC dI dA p e s m args below meth c H locs ls hc hl hP hS hX
  subst hp
  have h545 := dv_lt (a := a) (by omega)
  obtain ⟨h1, h2⟩ := dv_j hi hj (dv_ln_lt a)
  obtain ⟨q0, hq⟩ := dv_get dA b S h545
  rw [dv_cell_i ha (by decide)] at hq
  show W _ _ _ _ _ _ _ _ _ _ _ _ _ _ _ (F0 m pc ls (.int i :: dv_tr scr b (.ref a) :: st.map (dv_tr scr b)))
  rw [dv_tr_ref h545]
  refine va_zald hc.1 hc.2.1 hc.2.2.2.2.2.2.2.1 hP q0 3 hq rfl h1 hd ?_
  rw [h2, dv_mk_in _ hj]
  exact kk la b scr dC dI dA p e s m args below meth c H locs ls hc hl hP hS hX
theorem J_lald {a j : Nat} {i : Int32} (ha : dv_kd a = 11) (hi : i = nI j) (hj : j < dv_ln a) (hd : decode cc pc = .ok (.laload, 1)) (hp : pc + 1 = pc') (kk : dv_J y cc n ret R cs ss pc' l (.long (S.2.2 a j) :: st) S Q) : dv_J y cc n ret R cs ss pc l (.int i :: .ref a :: st) S Q := by
  intro la b scr dC dI dA p e s m args below meth c H locs ls hc hl hP hS hX
  subst hp
  have h545 := dv_lt (a := a) (by omega)
  obtain ⟨h1, h2⟩ := dv_j hi hj (dv_ln_lt a)
  obtain ⟨q0, hq⟩ := dv_get dA b S h545
  rw [dv_cell_l ha] at hq
  show W _ _ _ _ _ _ _ _ _ _ _ _ _ _ _ (F0 m pc ls (.int i :: dv_tr scr b (.ref a) :: st.map (dv_tr scr b)))
  rw [dv_tr_ref h545]
  refine va_lald hc.1 hc.2.1 hc.2.2.2.2.2.2.2.1 hP q0 2 hq rfl h1 hd ?_
  rw [h2]
  exact kk la b scr dC dI dA p e s m args below meth c H locs ls hc hl hP hS hX
theorem J_kald {a j : Nat} {i : Int32} (ha : dv_kd a = 14) (hi : i = nI j) (hj : j < dv_ln a) (hd : decode cc pc = .ok (.laload, 1)) (hp : pc + 1 = pc') (kk : dv_J y cc n ret R cs ss pc' l (.long (dv_ky S.2.1 j) :: st) S Q) : dv_J y cc n ret R cs ss pc l (.int i :: .ref a :: st) S Q := by
  intro la b scr dC dI dA p e s m args below meth c H locs ls hc hl hP hS hX
  subst hp
  have h545 := dv_lt (a := a) (by omega)
  obtain ⟨h1, h2⟩ := dv_j hi hj (dv_ln_lt a)
  obtain ⟨q0, hq⟩ := dv_get dA b S h545
  rw [dv_cell_k ha] at hq
  show W _ _ _ _ _ _ _ _ _ _ _ _ _ _ _ (F0 m pc ls (.int i :: dv_tr scr b (.ref a) :: st.map (dv_tr scr b)))
  rw [dv_tr_ref h545]
  refine va_lald hc.1 hc.2.1 hc.2.2.2.2.2.2.2.1 hP q0 2 hq rfl h1 hd ?_
  rw [h2]
  exact kk la b scr dC dI dA p e s m args below meth c H locs ls hc hl hP hS hX
theorem J_aald {a j : Nat} {i : Int32} (ha : dv_kd a = 13) (hi : i = nI j) (hj : j < dv_ln a) (hd : decode cc pc = .ok (.aaload, 1)) (hp : pc + 1 = pc') (kk : dv_J y cc n ret R cs ss pc' l (.ref (dv_ra a j) :: st) S Q) : dv_J y cc n ret R cs ss pc l (.int i :: .ref a :: st) S Q := by
  intro la b scr dC dI dA p e s m args below meth c H locs ls hc hl hP hS hX
  subst hp
  have h545 := dv_lt (a := a) (by omega)
  obtain ⟨h1, h2⟩ := dv_j hi hj (dv_ln_lt a)
  obtain ⟨q0, hq⟩ := dv_get dA b S h545
  rw [dv_cell_q ha] at hq
  show W _ _ _ _ _ _ _ _ _ _ _ _ _ _ _ (F0 m pc ls (.int i :: dv_tr scr b (.ref a) :: st.map (dv_tr scr b)))
  rw [dv_tr_ref h545]
  refine va_aldq hc.1 hc.2.1 hc.2.2.2.2.2.2.2.1 hP q0 4 hq rfl h1 hd ?_
  rw [h2]
  have h3 : dv_ra a j ≠ 100000 := by
    have : dv_ln a < 2000 := by
      have h13 : ∀ x, x < 545 → dv_kd x = 13 → dv_ln x < 2000 := by decide +kernel
      exact h13 a h545 ha
    unfold dv_ra; omega
  have h4 := kk la b scr dC dI dA p e s m args below meth c H locs ls hc hl hP hS hX
  have h5 : dv_tr scr b (.ref (dv_ra a j)) = .ref (b + dv_p (dv_ra a j)) := by
    show Value.ref (if dv_ra a j = 100000 then scr else b + dv_p (dv_ra a j)) = _
    rw [if_neg h3]
  rw [List.map_cons, h5] at h4
  exact h4
theorem dv_u_upd (f : Nat → Nat → Int32) (a k : Nat) (v : Int32) : dv_u f a k v a = upd (f a) k v := by
  funext x; simp [dv_u, upd]
theorem dv_u_updL (f : Nat → Nat → Int64) (a k : Nat) (v : Int64) : dv_u f a k v a = vp_updL (f a) k v := by
  funext x; simp [dv_u, vp_updL]
theorem J_iast {a j : Nat} {i v : Int32} (ha : dv_kd a = 10) (hi : i = nI j) (hj : j < dv_ln a) (hd : decode cc pc = .ok (.iastore, 1)) (hp : pc + 1 = pc') (kk : dv_J y cc n ret R cs ss pc' l st (S.1, dv_u S.2.1 a j v, S.2.2) Q) : dv_J y cc n ret R cs ss pc l (.int v :: .int i :: .ref a :: st) S Q := by
  intro la b scr dC dI dA p e s m args below meth c H locs ls hc hl hP hS hX
  subst hp
  have h545 := dv_lt (a := a) (by omega)
  obtain ⟨h1, h2⟩ := dv_j hi hj (dv_ln_lt a)
  obtain ⟨q0, hq⟩ := dv_get dA b S h545
  have hq' := hq
  rw [dv_cell_i ha (by decide)] at hq
  show W _ _ _ _ _ _ _ _ _ _ _ _ _ _ _ (F0 m pc ls (.int v :: .int i :: dv_tr scr b (.ref a) :: st.map (dv_tr scr b)))
  rw [dv_tr_ref h545]
  refine va_iast hc.1 hc.2.1 hc.2.2.2.2.2.2.2.1 hP (dv_D dA b S) hS q0 1 hq rfl h1 hd (fun H1 locs1 hP1 _ hS1 => ?_)
  rw [h2] at hP1
  rw [dv_set (S' := (S.1, dv_u S.2.1 a j v, S.2.2)) h545 hq' (by rw [dv_cell_i ha (by decide), dv_mk_upd hj]; simp only [dv_u_upd]) (fun x hx => dv_cell_F rfl (dv_u_row _ _ hx) rfl (dv_ky_u (dv_j12 hj)))] at hP1
  refine kk la b scr dC dI dA p e s m args below meth c H1 locs1 ls hc hl hP1 hS1 ?_
  show va_X scr (dv_L S) (dv_u S.2.1 a j v 100000) s s.heap
  rw [dv_u_row _ _ (by omega)]; exact hX
theorem J_bast {a j : Nat} {i v : Int32} (ha : dv_kd a = 9) (hi : i = nI j) (hj : j < dv_ln a) (hd : decode cc pc = .ok (.bastore, 1)) (hp : pc + 1 = pc') (kk : dv_J y cc n ret R cs ss pc' l st (S.1, dv_u S.2.1 a j v.toInt8.toInt32, S.2.2) Q) : dv_J y cc n ret R cs ss pc l (.int v :: .int i :: .ref a :: st) S Q := by
  intro la b scr dC dI dA p e s m args below meth c H locs ls hc hl hP hS hX
  subst hp
  have h545 := dv_lt (a := a) (by omega)
  obtain ⟨h1, h2⟩ := dv_j hi hj (dv_ln_lt a)
  obtain ⟨q0, hq⟩ := dv_get dA b S h545
  have hq' := hq
  rw [dv_cell_i ha (by decide)] at hq
  show W _ _ _ _ _ _ _ _ _ _ _ _ _ _ _ (F0 m pc ls (.int v :: .int i :: dv_tr scr b (.ref a) :: st.map (dv_tr scr b)))
  rw [dv_tr_ref h545]
  refine va_bast hc.1 hc.2.1 hc.2.2.2.2.2.2.2.1 hP (dv_D dA b S) hS q0 0 hq rfl h1 hd (fun H1 locs1 hP1 _ hS1 => ?_)
  rw [h2, vp_nar_byte] at hP1
  rw [dv_set (S' := (S.1, dv_u S.2.1 a j v.toInt8.toInt32, S.2.2)) h545 hq' (by rw [dv_cell_i ha (by decide), dv_mk_upd hj]; simp only [dv_u_upd]) (fun x hx => dv_cell_F rfl (dv_u_row _ _ hx) rfl (dv_ky_u (dv_j12 hj)))] at hP1
  refine kk la b scr dC dI dA p e s m args below meth c H1 locs1 ls hc hl hP1 hS1 ?_
  show va_X scr (dv_L S) (dv_u S.2.1 a j v.toInt8.toInt32 100000) s s.heap
  rw [dv_u_row _ _ (by omega)]; exact hX
theorem J_zast {a j : Nat} {i v : Int32} (ha : dv_kd a = 12) (hi : i = nI j) (hj : j < dv_ln a) (hv : v = 0 ∨ v = 1) (hd : decode cc pc = .ok (.bastore, 1)) (hp : pc + 1 = pc') (kk : dv_J y cc n ret R cs ss pc' l st (S.1, dv_u S.2.1 a j v, S.2.2) Q) : dv_J y cc n ret R cs ss pc l (.int v :: .int i :: .ref a :: st) S Q := by
  intro la b scr dC dI dA p e s m args below meth c H locs ls hc hl hP hS hX
  subst hp
  have h545 := dv_lt (a := a) (by omega)
  obtain ⟨h1, h2⟩ := dv_j hi hj (dv_ln_lt a)
  obtain ⟨q0, hq⟩ := dv_get dA b S h545
  have hq' := hq
  rw [dv_cell_i ha (by decide)] at hq
  show W _ _ _ _ _ _ _ _ _ _ _ _ _ _ _ (F0 m pc ls (.int v :: .int i :: dv_tr scr b (.ref a) :: st.map (dv_tr scr b)))
  rw [dv_tr_ref h545]
  have hnv : vp_nar .boolean v = v := by rcases hv with rfl | rfl <;> decide
  refine va_zast hc.1 hc.2.1 hc.2.2.2.2.2.2.2.1 hP (dv_D dA b S) hS q0 3 hq rfl h1 hd (fun H1 locs1 hP1 _ hS1 => ?_)
  rw [h2, hnv] at hP1
  rw [dv_set (S' := (S.1, dv_u S.2.1 a j v, S.2.2)) h545 hq' (by rw [dv_cell_i ha (by decide), dv_mk_upd hj]; simp only [dv_u_upd]) (fun x hx => dv_cell_F rfl (dv_u_row _ _ hx) rfl (dv_ky_u (dv_j12 hj)))] at hP1
  refine kk la b scr dC dI dA p e s m args below meth c H1 locs1 ls hc hl hP1 hS1 ?_
  show va_X scr (dv_L S) (dv_u S.2.1 a j v 100000) s s.heap
  rw [dv_u_row _ _ (by omega)]; exact hX
theorem J_last {a j : Nat} {i : Int32} {v : Int64} (ha : dv_kd a = 11) (hi : i = nI j) (hj : j < dv_ln a) (hd : decode cc pc = .ok (.lastore, 1)) (hp : pc + 1 = pc') (kk : dv_J y cc n ret R cs ss pc' l st (S.1, S.2.1, dv_u S.2.2 a j v) Q) : dv_J y cc n ret R cs ss pc l (.long v :: .int i :: .ref a :: st) S Q := by
  intro la b scr dC dI dA p e s m args below meth c H locs ls hc hl hP hS hX
  subst hp
  have h545 := dv_lt (a := a) (by omega)
  obtain ⟨h1, h2⟩ := dv_j hi hj (dv_ln_lt a)
  obtain ⟨q0, hq⟩ := dv_get dA b S h545
  have hq' := hq
  rw [dv_cell_l ha] at hq
  show W _ _ _ _ _ _ _ _ _ _ _ _ _ _ _ (F0 m pc ls (.long v :: .int i :: dv_tr scr b (.ref a) :: st.map (dv_tr scr b)))
  rw [dv_tr_ref h545]
  refine va_last hc.1 hc.2.1 hc.2.2.2.2.2.2.2.1 hP (dv_D dA b S) hS q0 2 hq rfl h1 hd (fun H1 locs1 hP1 _ hS1 => ?_)
  rw [h2] at hP1
  rw [dv_set (S' := (S.1, S.2.1, dv_u S.2.2 a j v)) h545 hq' (by rw [dv_cell_l ha]; simp only [dv_u_updL]) (fun x hx => dv_cell_F rfl rfl (dv_u_row _ _ hx) rfl)] at hP1
  exact kk la b scr dC dI dA p e s m args below meth c H1 locs1 ls hc hl hP1 hS1 hX
theorem dv_k14 {x : Nat} (h : dv_kd x = 14) : x = 544 := by
  have h1 := dv_lt (a := x) (by omega)
  have key : ∀ x, x < 545 → dv_kd x = 14 → x = 544 := by decide +kernel
  exact key x h1 h
theorem J_kast {a j : Nat} {i : Int32} {v : Int64} (ha : dv_kd a = 14) (hi : i = nI j) (hj : j < dv_ln a) (hd : decode cc pc = .ok (.lastore, 1)) (hp : pc + 1 = pc') (kk : dv_J y cc n ret R cs ss pc' l st (S.1, dv_kw S.2.1 j v, S.2.2) Q) : dv_J y cc n ret R cs ss pc l (.long v :: .int i :: .ref a :: st) S Q := by
  intro la b scr dC dI dA p e s m args below meth c H locs ls hc hl hP hS hX
  subst hp
  have h545 := dv_lt (a := a) (by omega)
  obtain ⟨h1, h2⟩ := dv_j hi hj (dv_ln_lt a)
  obtain ⟨q0, hq⟩ := dv_get dA b S h545
  have hq' := hq
  rw [dv_cell_k ha] at hq
  show W _ _ _ _ _ _ _ _ _ _ _ _ _ _ _ (F0 m pc ls (.long v :: .int i :: dv_tr scr b (.ref a) :: st.map (dv_tr scr b)))
  rw [dv_tr_ref h545]
  refine va_last hc.1 hc.2.1 hc.2.2.2.2.2.2.2.1 hP (dv_D dA b S) hS q0 2 hq rfl h1 hd (fun H1 locs1 hP1 _ hS1 => ?_)
  rw [h2] at hP1
  have hky : dv_ky (dv_kw S.2.1 j v) = vp_updL (dv_ky S.2.1) j v := by
    funext x; rw [dv_ky_w]; simp [vp_updL]
  have hoth : ∀ x, x ≠ a → dv_cell dA b (S.1, dv_kw S.2.1 j v, S.2.2) x = dv_cell dA b S x := by
    intro x hx
    refine dv_cell_F' rfl ?_ rfl (fun hk => absurd (dv_k14 hk) (by rw [dv_k14 ha] at hx; exact hx))
    by_cases h12 : x = 12
    · subst h12
      funext i
      by_cases hi : i < dv_ln 12
      · rw [dv_mk_in _ hi, dv_mk_in _ hi]
        exact dv_kw_12 _ _ _ (by have : dv_ln 12 = 24 := by decide
                                 omega)
      · simp [dv_mk, hi]
    · show dv_mk _ (dv_kw S.2.1 j v x) = _
      rw [dv_kw_row _ _ _ h12]
  rw [dv_set (S' := (S.1, dv_kw S.2.1 j v, S.2.2)) h545 hq' (by rw [dv_cell_k ha]; exact congrArg (fun g => (.inl (dA 11, dv_ln a, .inr (.inl g)) : va_E)) hky) hoth] at hP1
  refine kk la b scr dC dI dA p e s m args below meth c H1 locs1 ls hc hl hP1 hS1 ?_
  show va_X scr (dv_L S) (dv_kw S.2.1 j v 100000) s s.heap
  rw [dv_kw_row _ _ _ (by decide)]; exact hX
theorem J_alen {a : Nat} (ha : dv_kd a = 10) (hd : decode cc pc = .ok (.arraylength, 1)) (hp : pc + 1 = pc') (kk : dv_J y cc n ret R cs ss pc' l (.int (nI (dv_ln a)) :: st) S Q) : dv_J y cc n ret R cs ss pc l (.ref a :: st) S Q := by
  intro la b scr dC dI dA p e s m args below meth c H locs ls hc hl hP hS hX
  subst hp
  have h545 := dv_lt (a := a) (by omega)
  obtain ⟨q0, hq⟩ := dv_get dA b S h545
  rw [dv_cell_i ha (by decide)] at hq
  show W _ _ _ _ _ _ _ _ _ _ _ _ _ _ _ (F0 m pc ls (dv_tr scr b (.ref a) :: st.map (dv_tr scr b)))
  rw [dv_tr_ref h545]
  exact va_alen hc.1 hc.2.1 hc.2.2.2.2.2.2.2.1 hP q0 1 hq (ty := .int) rfl (v := nI (dv_ln a)) rfl hd (kk la b scr dC dI dA p e s m args below meth c H locs ls hc hl hP hS hX)
/-- the script -/
theorem J_slen (hd : decode cc pc = .ok (.arraylength, 1)) (hp : pc + 1 = pc') (kk : dv_J y cc n ret R cs ss pc' l (.int (nI (dv_L S)) :: st) S Q) : dv_J y cc n ret R cs ss pc l (.ref 100000 :: st) S Q := by
  intro la b scr dC dI dA p e s m args below meth c H locs ls hc hl hP hS hX
  subst hp
  have hsb := hc.2.2.2.2.2.2.2.2.1
  have hbs := hc.2.2.2.2.2.2.2.2.2.1
  show W _ _ _ _ _ _ _ _ _ _ _ _ _ _ _ (F0 m pc ls (dv_tr scr b (.ref 100000) :: st.map (dv_tr scr b)))
  rw [dv_tr_scr]
  exact va_slen hc.1 hc.2.1 hX (by omega) (A := fun q => b ≤ q) (by simp only [Nat.not_le]; exact hsb) hS hd (kk la b scr dC dI dA p e s m args below meth c H locs ls hc hl hP hS hX)
theorem J_sld {j : Nat} {i : Int32} (hi : i = nI j) (hj : j < dv_L S) (hL : dv_L S < 2 ^ 31) (hd : decode cc pc = .ok (.iaload, 1)) (hp : pc + 1 = pc') (kk : dv_J y cc n ret R cs ss pc' l (.int (S.2.1 100000 j) :: st) S Q) : dv_J y cc n ret R cs ss pc l (.int i :: .ref 100000 :: st) S Q := by
  intro la b scr dC dI dA p e s m args below meth c H locs ls hc hl hP hS hX
  subst hp
  have hsb := hc.2.2.2.2.2.2.2.2.1
  have hbs := hc.2.2.2.2.2.2.2.2.2.1
  obtain ⟨h1, h2⟩ := dv_j hi hj hL
  show W _ _ _ _ _ _ _ _ _ _ _ _ _ _ _ (F0 m pc ls (.int i :: dv_tr scr b (.ref 100000) :: st.map (dv_tr scr b)))
  rw [dv_tr_scr]
  refine va_sld hc.1 hc.2.1 hX (by omega) (A := fun q => b ≤ q) (by simp only [Nat.not_le]; exact hsb) hS h1 hd ?_
  rw [h2]
  exact kk la b scr dC dI dA p e s m args below meth c H locs ls hc hl hP hS hX
/-- the ends -/
theorem dv_end {scr b : Nat} {dC : Nat → ClassId} {dI : Nat → Nat → Nat} {dA : Nat → ClassId} {p : Program} {s : State} {m : MethodId} {args : Array Value} {meth : Method} {c : Code} {H : Heap} {locs : List Loc} {r : Option Value} (hc : dv_cx y cc n ret scr b dC dI dA p s m args meth c) (hP : va_P (dC, dI) vwCl (dv_ws dA b S) H) (hS : va_S (fun q => b ≤ q) s.heap H locs) (hX : va_X scr (dv_L S) (S.2.1 100000) s s.heap) (hq : Q r S) (t : State) (ht : t.heap = H) (hw : s.WarmedH t.vm) : dv_Q dC dI dA scr b Q args s (.returned (r.map (dv_tr scr b))) t := by
  have hsb := hc.2.2.2.2.2.2.2.2.1
  have hbs := hc.2.2.2.2.2.2.2.2.2.1
  refine ⟨r, S, rfl, hq, by rw [ht]; exact hP, ?_, hS.F ht⟩
  rw [ht]
  exact va_X.moved hw.alike (va_X.kept hX (hS.2.1 scr (by omega) (by simp only [Nat.not_le]; exact hsb)))
theorem J_iret {v : Int32} (hd : decode cc pc = .ok (.ireturn, 1)) (hr : ret = some .int) (hcs : cs ≤ R.cells ∧ ss ≤ R.slots) (hq : Q (some (.int v)) S) : dv_J y cc n ret R cs ss pc l [.int v] S Q := by
  intro la b scr dC dI dA p e s m args below meth c H locs ls hc hl hP hS hX
  refine W.widen hcs.1 hcs.2 ?_
  exact W.iret hc.1 hc.2.1 (hc.2.2.2.1.trans hr) (dv_end (r := some (.int v)) hc hP hS hX hq) hS.2.2 hd hc.2.2.2.2.1
theorem J_zret {v : Int32} (hd : decode cc pc = .ok (.ireturn, 1)) (hr : ret = some .boolean) (hv : v = 0 ∨ v = 1) (hcs : cs ≤ R.cells ∧ ss ≤ R.slots) (hq : Q (some (.int v)) S) : dv_J y cc n ret R cs ss pc l [.int v] S Q := by
  intro la b scr dC dI dA p e s m args below meth c H locs ls hc hl hP hS hX
  refine W.widen hcs.1 hcs.2 ?_
  exact W.zret hc.1 hc.2.1 (hc.2.2.2.1.trans hr) (by rcases hv with rfl | rfl <;> decide) (dv_end (r := some (.int v)) hc hP hS hX hq) hS.2.2 hd hc.2.2.2.2.1
theorem J_vret (hd : decode cc pc = .ok (.return_, 1)) (hr : ret = none) (hcs : cs ≤ R.cells ∧ ss ≤ R.slots) (hq : Q none S) : dv_J y cc n ret R cs ss pc l [] S Q := by
  intro la b scr dC dI dA p e s m args below meth c H locs ls hc hl hP hS hX
  refine W.widen hcs.1 hcs.2 ?_
  exact W.vret hc.1 hc.2.1 (hc.2.2.2.1.trans hr) (dv_end (r := none) hc hP hS hX hq) hS.2.2 hd hc.2.2.2.2.1
theorem J_lret {v : Int64} (hd : decode cc pc = .ok (.lreturn, 1)) (hr : ret = some .long) (hcs : cs ≤ R.cells ∧ ss ≤ R.slots) (hq : Q (some (.long v)) S) : dv_J y cc n ret R cs ss pc l [.long v] S Q := by
  intro la b scr dC dI dA p e s m args below meth c H locs ls hc hl hP hS hX
  refine W.widen hcs.1 hcs.2 ?_
  exact W.lret hc.1 hc.2.1 (hc.2.2.2.1.trans hr) (dv_end (r := some (.long v)) hc hP hS hX hq) hS.2.2 hd hc.2.2.2.2.1
theorem J_aret {a : Nat} {C : String} (hd : decode cc pc = .ok (.areturn, 1)) (hr : ret = some (.object C)) (hcs : cs ≤ R.cells ∧ ss ≤ R.slots) (hq : Q (some (.ref a)) S) : dv_J y cc n ret R cs ss pc l [.ref a] S Q := by
  intro la b scr dC dI dA p e s m args below meth c H locs ls hc hl hP hS hX
  refine W.widen hcs.1 hcs.2 ?_
  exact W.aret hc.1 hc.2.1 (hc.2.2.2.1.trans hr) (Or.inl ⟨C, rfl⟩) (Or.inr ⟨_, rfl⟩) (dv_end (r := some (.ref a)) hc hP hS hX hq) hS.2.2 hd hc.2.2.2.2.1
/-- behind a call -/
theorem dv_after {scr b : Nat} {dC : Nat → ClassId} {dI : Nat → Nat → Nat} {dA : Nat → ClassId} {p : Program} {la : Launch} {e : Env} {s : State} {m : MethodId} {args a : Array Value} {below : List Frame} {meth : Method} {c : Code} {H : Heap} {locs : List Loc} {ls : Array Slot} {mc ms : Nat} {rest st0 : List Value} {Qc : Option Value → dv_S → Prop} {Qw : State → Prop}
    (hr : va_Run p la e R s m args below meth c H locs cs ss mc ms (F0 m pc ls st0) rest (dv_Q dC dI dA scr b Qc a) (fun q => b ≤ q)) (hS : va_S (fun q => b ≤ q) s.heap H locs) (hsb : scr < b) (hbs : b ≤ s.heap.size)
    (kk : ∀ (r : Option Value) (S' : dv_S) (H1 : Heap) (locs1 : List Loc), Qc r S' → va_P (dC, dI) vwCl (dv_ws dA b S') H1 → va_X scr (dv_L S') (S'.2.1 100000) s s.heap → va_S (fun q => b ≤ q) s.heap H1 locs1 → W p la e R s m args below meth c H1 locs1 (cs + mc) (ss + ms) Qw (F0 m (pc + 3) ls ((r.map (dv_tr scr b)).toList ++ rest))) : W p la e R s m args below meth c H locs cs ss Qw (F0 m pc ls st0) := by
  intro T hT X
  obtain ⟨v, st₀, t, T', L, h0, X', hL, e1, e2, ⟨r, S', hv, hq, hP1, hX1, hz, hk⟩, sg⟩ := hr T hT X
  cases hv
  rw [h0] at hz hk
  have hS1 : va_S (fun q => b ≤ q) s.heap T'.heap (locs ++ L) := by
    refine ⟨Nat.le_trans hS.1 (by rw [e1]; exact hz), fun q h1 h2 => ?_, fun q hq => ?_⟩
    · rw [e1, hk q (Nat.lt_of_lt_of_le h1 hS.1) h2]; exact hS.2.1 q h1 h2
    · rcases List.mem_append.mp hq with h | h
      · exact hS.2.2 q h
      · exact hL q h
  have hX2 : va_X scr (dv_L S') (S'.2.1 100000) s s.heap := by
    have h3 : va_X scr (dv_L S') (S'.2.1 100000) s t.heap := va_X.moved (Vm.Alike.symm (by rw [← e2]; exact X'.warmed.alike)) hX1
    refine va_X.kept h3 ?_
    have h4 := hS1.2.1 scr (by omega) (by simp only [Nat.not_le]; exact hsb)
    rw [e1] at h4
    exact h4.symm
  obtain ⟨t2, a1, b1⟩ := kk r S' T'.heap (locs ++ L) hq (by rw [e1]; exact hP1) hX2 hS1 T' rfl X'
  exact ⟨t2, sg t2 a1, b1⟩
def dv_mf (y : MethodName) (cc : ByteArray) (n : Nat) (ret : Option FieldType) (np : Nat) : Prop := Cond.code y cc n ret ∈ dv_T ∧ Cond.initialized y.cls ∈ dv_T ∧ (y.cls ≠ "java/lang/invoke/MethodHandle" ∧ y.cls ≠ "java/lang/invoke/VarHandle") ∧ (parseMethodDescriptor y.desc).map (fun d => d.parameters.length) = some np
def dv_mv (y : MethodName) (cc : ByteArray) (n : Nat) (ret : Option FieldType) (np ci : Nat) : Prop := dv_mf y cc n ret np ∧ Cond.instanceMethod y ∈ dv_T ∧ Cond.selects y.cls y y ∈ dv_T ∧ ∃ T N, dv_cl ci y.cls T N
def dv_ms (y : MethodName) (cc : ByteArray) (n : Nat) (ret : Option FieldType) (np : Nat) : Prop := dv_mf y cc n ret np ∧ Cond.static y ∈ dv_T
theorem dv_good {y' : MethodName} {cc' : ByteArray} {n' : Nat} {ret' : Option FieldType} (h : Cond.code y' cc' n' ret' ∈ dv_T) : GoodIn dv_T (dv_wm y' cc' n' ret') := by
  intro w hw
  have h1 : w ∈ dv_T := by
    rcases List.mem_cons.mp hw with rfl | h2
    · exact h
    · exact h2
  exact ⟨h1, good_of_word (List.mem_filter.mp h1).2⟩
theorem dv_blind {av : List Value} {scr b : Nat} {dC : Nat → ClassId} {dI : Nat → Nat → Nat} {dA : Nat → ClassId} : FrameBlind (va_Pc (av.map (dv_tr scr b)) (fun U => b ≤ U.heap.size ∧ va_K (dC, dI) vwCl (dv_tys dA) U ∧ va_P (dC, dI) vwCl (dv_ws dA b S) U.heap ∧ va_X scr (dv_L S) (S.2.1 100000) U U.heap ∧ dv_nw U)) := by
  intro a U g mk q
  obtain ⟨q0, q1, q2, q3, q4, q5⟩ := q
  exact ⟨q0, q1, va_K.moved (u := U) (U := U.calling g mk a) (Vm.Alike.refl U.vm) q2, q3, va_X.moved (u := U) (U := U.calling g mk a) (Vm.Alike.refl U.vm) q4, dv_nw.same (s := U) (U := U.calling g mk a) rfl q5⟩
theorem J_callv {y' : MethodName} {cc' : ByteArray} {n' : Nat} {ret' : Option FieldType} {R' : Room} {Qc : Option Value → dv_S → Prop} {a ci idx : Nat} (As : List Value) {rest : List Value} (hM : dv_M y' cc' n' ret' R' (.ref a :: As) S Qc) (hf : dv_mv y' cc' n' ret' As.length ci) (hlk : Cond.methodLink y.cls idx y' ∈ dv_T) (ha : dv_kd a = ci) (hd : decode cc pc = .ok (.invokevirtual idx, 3)) (hp : pc + 3 = pc') (hst : st = As.reverse ++ .ref a :: rest) (hrm : (rest.map fun v => v.category).sum ≤ 8) (hR : R'.frames + 1 ≤ R.frames ∧ 8 + (n' + 11) + R'.locals ≤ R.locals) (hcs : cs + R'.cells ≤ R.cells ∧ ss + R'.slots ≤ R.slots)
    (kk : ∀ (r : Option Value) (S' : dv_S), Qc r S' → dv_J y cc n ret R (cs + R'.cells) (ss + R'.slots) pc' l (r.toList ++ rest) S' Q) : dv_J y cc n ret R cs ss pc l st S Q := by
  intro la b scr dC dI dA p e s m args below meth c H locs ls hc hl hP hS hX
  subst hp
  subst hst
  obtain ⟨⟨f1, f2, f3, f4⟩, f5, f6, T, N, f7, f8, f9, -⟩ := hf
  have hsb := hc.2.2.2.2.2.2.2.2.1
  have hbs := hc.2.2.2.2.2.2.2.2.2.1
  have hts := hc.2.2.2.2.2.2.1
  have h545 := dv_lt (a := a) (by omega)
  obtain ⟨q0, hq⟩ := dv_get dA b S h545
  rw [dv_cell_o ha f8] at hq
  have hK := hc.2.2.2.2.2.2.2.1
  refine dv_after (va_runV (b := b + dv_p a) (As := As.map (dv_tr scr b)) (rest := rest.map (dv_tr scr b)) (C := y'.cls) ⟨hc.1, hc.2.1, hc.2.2.1, hc.2.2.2.2.2.1, hts⟩ (hM la b scr dC dI dA hsb) (n := As.length) (mc := R'.cells) (ms := R'.slots)
    ⟨callB_of As.length hts (dv_good f1) rfl rfl rfl (hts _ f2) (hts _ hlk) ⟨f3.1, f3.2, f4⟩ hR, hts _ f5, hts _ f6⟩
    ⟨dv_blind, va_recv hK hP f7 hq, fun U hU hW => ⟨?_, ?_, va_K.moved hW.alike hK, ?_, ?_, hc.2.2.2.2.2.2.2.2.2.2.warm hW⟩⟩ rfl (List.length_map _) hl.1 ?_ ?_ hd hcs) hS hsb hbs (fun r S' H1 locs1 hqc hP1 hX1 hS1 => ?_)
  · rw [List.map_cons, dv_tr_ref h545]
  · rw [hU]; exact Nat.le_trans hbs hS.1
  · rw [hU]; exact hP
  · rw [hU]; exact va_X.moved hW.alike (va_X.kept hX (hS.2.1 scr (by omega) (by simp only [Nat.not_le]; exact hsb)))
  · show (As.reverse ++ Value.ref a :: rest).map (dv_tr scr b) = _
    rw [List.map_append, List.map_reverse, List.map_cons, dv_tr_ref h545]
  · show 2 * 0 + _ ≤ 8
    rw [List.map_map]
    have : ((fun v : Value => v.category) ∘ dv_tr scr b) = fun v => v.category := by funext v; exact dv_tr_cat scr b v
    rw [this]; omega
  · have h := kk r S' hqc la b scr dC dI dA p e s m args below meth c H1 locs1 ls hc hl hP1 hS1 hX1
    have h5 : (r.toList ++ rest).map (dv_tr scr b) = (r.map (dv_tr scr b)).toList ++ rest.map (dv_tr scr b) := by
      cases r <;> simp
    rw [h5] at h
    exact h
theorem J_calls {y' : MethodName} {cc' : ByteArray} {n' : Nat} {ret' : Option FieldType} {R' : Room} {Qc : Option Value → dv_S → Prop} {idx : Nat} (As : List Value) {rest : List Value} (hM : dv_M y' cc' n' ret' R' As S Qc) (hf : dv_ms y' cc' n' ret' As.length) (hlk : Cond.methodLink y.cls idx y' ∈ dv_T) (hd : decode cc pc = .ok (.invokestatic idx, 3)) (hp : pc + 3 = pc') (hst : st = As.reverse ++ rest) (hrm : (rest.map fun v => v.category).sum ≤ 8) (hR : R'.frames + 1 ≤ R.frames ∧ 8 + (n' + 11) + R'.locals ≤ R.locals) (hcs : cs + R'.cells ≤ R.cells ∧ ss + R'.slots ≤ R.slots)
    (kk : ∀ (r : Option Value) (S' : dv_S), Qc r S' → dv_J y cc n ret R (cs + R'.cells) (ss + R'.slots) pc' l (r.toList ++ rest) S' Q) : dv_J y cc n ret R cs ss pc l st S Q := by
  intro la b scr dC dI dA p e s m args below meth c H locs ls hc hl hP hS hX
  subst hp
  subst hst
  obtain ⟨⟨f1, f2, f3, f4⟩, f5⟩ := hf
  have hsb := hc.2.2.2.2.2.2.2.2.1
  have hbs := hc.2.2.2.2.2.2.2.2.2.1
  have hts := hc.2.2.2.2.2.2.1
  have hK := hc.2.2.2.2.2.2.2.1
  refine dv_after (va_runS (As := As.map (dv_tr scr b)) (rest := rest.map (dv_tr scr b)) ⟨hc.1, hc.2.1, hc.2.2.1, hc.2.2.2.2.2.1, hts⟩ (hM la b scr dC dI dA hsb) (n := As.length) (mc := R'.cells) (ms := R'.slots)
    ⟨callB_of As.length hts (dv_good f1) rfl rfl rfl (hts _ f2) (hts _ hlk) ⟨f3.1, f3.2, f4⟩ hR, hts _ f5⟩
    ⟨dv_blind, fun U hU hW => ⟨rfl, ?_, va_K.moved hW.alike hK, ?_, ?_, hc.2.2.2.2.2.2.2.2.2.2.warm hW⟩⟩ rfl (List.length_map _) hl.1 ?_ ?_ hd hcs) hS hsb hbs (fun r S' H1 locs1 hqc hP1 hX1 hS1 => ?_)
  · rw [hU]; exact Nat.le_trans hbs hS.1
  · rw [hU]; exact hP
  · rw [hU]; exact va_X.moved hW.alike (va_X.kept hX (hS.2.1 scr (by omega) (by simp only [Nat.not_le]; exact hsb)))
  · show (As.reverse ++ rest).map (dv_tr scr b) = _
    rw [List.map_append, List.map_reverse]
  · show 2 * 0 + _ ≤ 8
    rw [List.map_map]
    have : ((fun v : Value => v.category) ∘ dv_tr scr b) = fun v => v.category := by funext v; exact dv_tr_cat scr b v
    rw [this]; omega
  · have h := kk r S' hqc la b scr dC dI dA p e s m args below meth c H1 locs1 ls hc hl hP1 hS1 hX1
    have h5 : (r.toList ++ rest).map (dv_tr scr b) = (r.map (dv_tr scr b)).toList ++ rest.map (dv_tr scr b) := by
      cases r <;> simp
    rw [h5] at h
    exact h
theorem J_calln {y' : MethodName} {cc' : ByteArray} {n' : Nat} {ret' : Option FieldType} {R' : Room} {Qc : Option Value → dv_S → Prop} {idx : Nat} (As : List Value) {rest : List Value} (hM : dv_M y' cc' n' ret' R' As S Qc) (hf : dv_ms y' cc' n' ret' As.length) (hlk : (y.cls, idx, y') ∈ dv_NL) (hd : decode cc pc = .ok (.invokestatic idx, 3)) (hp : pc + 3 = pc') (hst : st = As.reverse ++ rest) (hrm : (rest.map fun v => v.category).sum ≤ 8) (hR : R'.frames + 1 ≤ R.frames ∧ 8 + (n' + 11) + R'.locals ≤ R.locals) (hcs : cs + R'.cells ≤ R.cells ∧ ss + R'.slots ≤ R.slots)
    (kk : ∀ (r : Option Value) (S' : dv_S), Qc r S' → dv_J y cc n ret R (cs + R'.cells) (ss + R'.slots) pc' l (r.toList ++ rest) S' Q) : dv_J y cc n ret R cs ss pc l st S Q := by
  intro la b scr dC dI dA p e s m args below meth c H locs ls hc hl hP hS hX
  subst hp
  subst hst
  obtain ⟨⟨f1, f2, f3, f4⟩, f5⟩ := hf
  have hsb := hc.2.2.2.2.2.2.2.2.1
  have hbs := hc.2.2.2.2.2.2.2.2.2.1
  have hts := hc.2.2.2.2.2.2.1
  have hK := hc.2.2.2.2.2.2.2.1
  refine dv_after (va_runSN (host := "NameHouse") (As := As.map (dv_tr scr b)) (rest := rest.map (dv_tr scr b)) ⟨hc.1, hc.2.1, hc.2.2.1, hc.2.2.2.2.2.1, hts⟩ (hM la b scr dC dI dA hsb) (n := As.length) (mc := R'.cells) (ms := R'.slots)
    ⟨va_cnB As.length hts (dv_good f1) rfl rfl rfl (hc.2.2.2.2.2.2.2.2.2.2 _ hlk) (hts _ f2) ⟨f3.1, f3.2, f4⟩ hR, hts _ f5, trivial⟩
    ⟨dv_blind, fun U hU hW => ⟨rfl, ?_, va_K.moved hW.alike hK, ?_, ?_, hc.2.2.2.2.2.2.2.2.2.2.warm hW⟩⟩ rfl (List.length_map _) hl.1 ?_ ?_ hd hcs) hS hsb hbs (fun r S' H1 locs1 hqc hP1 hX1 hS1 => ?_)
  · rw [hU]; exact Nat.le_trans hbs hS.1
  · rw [hU]; exact hP
  · rw [hU]; exact va_X.moved hW.alike (va_X.kept hX (hS.2.1 scr (by omega) (by simp only [Nat.not_le]; exact hsb)))
  · show (As.reverse ++ rest).map (dv_tr scr b) = _
    rw [List.map_append, List.map_reverse]
  · show 2 * 0 + _ ≤ 8
    rw [List.map_map]
    have : ((fun v : Value => v.category) ∘ dv_tr scr b) = fun v => v.category := by funext v; exact dv_tr_cat scr b v
    rw [this]; omega
  · have h := kk r S' hqc la b scr dC dI dA p e s m args below meth c H1 locs1 ls hc hl hP1 hS1 hX1
    have h5 : (r.toList ++ rest).map (dv_tr scr b) = (r.map (dv_tr scr b)).toList ++ rest.map (dv_tr scr b) := by
      cases r <;> simp
    rw [h5] at h
    exact h
theorem J_ldc2 {idx : Nat} {v : Int64} (hk : Cond.constantLong y.cls idx v ∈ dv_T) (hd : decode cc pc = .ok (.ldc2_w idx, 3)) (hp : pc + 3 = pc') (k : dv_J y cc n ret R cs ss pc' l (.long v :: st) S Q) : dv_J y cc n ret R cs ss pc l st S Q := by
  intro la b scr dC dI dA p e s m args below meth c H locs ls hc hl hP hS hX
  subst hp
  exact lv_ldc2 hc.1 hc.2.1 hc.2.2.2.2.2.1 (hc.2.2.2.2.2.2.1 _ hk) hd (k la b scr dC dI dA p e s m args below meth c H locs ls hc hl hP hS hX)
end
