/-! THE MACHINE OVER A FIXED LAYOUT: the class, the reference and the law's own row lie at known places behind b; what moves is numbers (S). -/
def dv_T : List Cond := lw_tbl.filter goodWord
theorem dv_T_in {w : Cond} {i : Nat} (h : lw_tbl[i]? = some w) (hg : goodWord w = true) : w ∈ dv_T := List.mem_filter.mpr ⟨List.mem_of_getElem? h, hg⟩
abbrev dv_S : Type := (Nat → Nat → Int32) × (Nat → Nat → Int32) × (Nat → Nat → Int64)
def dv_u {α : Type} (f : Nat → Nat → α) (a k : Nat) (v : α) : Nat → Nat → α := fun x y => if x = a ∧ y = k then v else f x y
theorem dv_u_eq {α : Type} (f : Nat → Nat → α) (a k : Nat) (v : α) : dv_u f a k v a k = v := by simp [dv_u]
theorem dv_u_ne {α : Type} (f : Nat → Nat → α) {a k x y : Nat} (v : α) (h : ¬ (x = a ∧ y = k)) : dv_u f a k v x y = f x y := by simp only [dv_u, if_neg h]
theorem dv_u_row {α : Type} (f : Nat → Nat → α) {a k x : Nat} (v : α) (h : x ≠ a) : dv_u f a k v x = f x := by funext y; simp [dv_u, h]
def dv_kd (a : Nat) : Nat :=
  if a < 25 then [7, 4, 10, 4, 10, 4, 10, 4, 10, 1, 10, 10, 10, 0, 11, 10, 10, 10, 10, 3, 10, 5, 10, 10, 13].getD a 99
  else if a < 185 then (if a % 2 = 1 then 4 else 10)
  else if a < 191 then [6, 10, 10, 2, 12, 13].getD (a - 185) 99
  else if a < 351 then (if a % 2 = 1 then 4 else 10)
  else if a < 354 then [2, 12, 13].getD (a - 351) 99
  else if a < 514 then (if a % 2 = 0 then 4 else 10)
  else [12, 10, 8, 9, 10, 10, 10, 10, 10, 10, 9, 10, 10, 9, 10, 10, 10, 10, 10, 9, 9, 12, 12, 9, 9, 9, 10, 10, 10, 11, 14].getD (a - 514) 99
def dv_ln (a : Nat) : Nat :=
  if a < 25 then [0, 0, 200, 0, 24, 0, 24, 0, 24, 0, 24, 24, 24, 0, 60, 60, 60, 60, 60, 0, 20, 0, 80, 80, 80].getD a 0
  else if a < 185 then 24
  else if a < 191 then [0, 150, 150, 0, 80, 80].getD (a - 185) 0
  else if a < 351 then 24
  else if a < 354 then [0, 80, 80].getD (a - 351) 0
  else if a < 514 then 24
  else [80, 80, 0, 200, 20, 80, 80, 80, 150, 150, 1920, 24, 24, 720, 60, 60, 60, 60, 60, 24, 312, 80, 80, 1920, 1920, 1920, 80, 80, 80, 1, 24].getD (a - 514) 0
def dv_nf (ci : Nat) : Nat := [6, 5, 3, 2, 3, 4, 3, 15, 38].getD ci 0
def dv_rf (a k : Nat) : Option Nat :=
  if dv_kd a = 4 then (if k = 0 then some (a + 1) else none)
  else if dv_kd a = 7 then ([1, 3, 5, 7, 9, 13, 19, 21, 185, 188, 351, 514, 515] : List Nat)[k]?
  else if dv_kd a = 8 then (if k = 2 then some 517 else if 7 ≤ k ∧ k < 16 then some (511 + k) else if 18 ≤ k ∧ k < 26 then some (509 + k) else if 28 ≤ k ∧ k < 36 then some (507 + k) else none)
  else if dv_kd a = 1 then (if k < 3 then some (10 + k) else if k = 3 then some 544 else none)
  else if dv_kd a = 0 then (if k < 5 then some (14 + k) else none)
  else if dv_kd a = 3 then (if k = 0 then some 20 else none)
  else if dv_kd a = 5 then (if k < 3 then some (22 + k) else none)
  else if dv_kd a = 6 then (if k < 2 then some (186 + k) else none)
  else if dv_kd a = 2 then (if k < 2 then some (a + 1 + k) else none)
  else none
def dv_ra (a j : Nat) : Nat := a + 1 + 2 * j
/-- how far behind b a place lies: the keys' row (544) lies behind the three rows of Cut, all that comes behind it one further -/
def dv_p (a : Nat) : Nat := if a < 13 then a else if a = 544 then 13 else a + 1
def dv_q (i : Nat) : Nat := if i < 13 then i else if i = 13 then 544 else i - 1
theorem dv_p_lt {a : Nat} (h : a < 545) : dv_p a < 545 := by unfold dv_p; split; omega; split <;> omega
theorem dv_q_lt {i : Nat} (h : i < 545) : dv_q i < 545 := by unfold dv_q; split; omega; split <;> omega
theorem dv_qp {a : Nat} (h : a < 545) : dv_q (dv_p a) = a := by
  unfold dv_p
  split
  · rename_i h1; unfold dv_q; rw [if_pos h1]
  · split
    · rename_i h1; subst h1; rfl
    · unfold dv_q; rw [if_neg (by omega), if_neg (by omega)]; omega
theorem dv_pq {i : Nat} (h : i < 545) : dv_p (dv_q i) = i := by
  unfold dv_q
  split
  · rename_i h1; unfold dv_p; rw [if_pos h1]
  · split
    · rename_i h1; subst h1; rfl
    · unfold dv_p; rw [if_neg (by omega), if_neg (by omega)]; omega
/-- a value's place is told from b on; 100000 is the script -/
def dv_tr (scr b : Nat) : Value → Value
  | .ref a => .ref (if a = 100000 then scr else b + dv_p a)
  | v => v
theorem dv_tr_cat (scr b : Nat) (v : Value) : (dv_tr scr b v).category = v.category := by cases v <;> rfl
def dv_fv (b : Nat) (S : dv_S) (a k : Nat) : Value := match dv_rf a k with
  | some t => .ref (b + dv_p t)
  | none => .int (S.1 a k)
def dv_fl (b : Nat) (S : dv_S) (a : Nat) : List Value := (List.range (dv_nf (dv_kd a))).map (dv_fv b S a)
/-- two ints as a long, and back -/
def lg_cb (lo hi : Int32) : Int64 := Int64.ofBitVec (hi.toBitVec ++ lo.toBitVec)
def lg_lo (v : Int64) : Int32 := Int32.ofBitVec (v.toBitVec.extractLsb' 0 32)
def lg_hi (v : Int64) : Int32 := Int32.ofBitVec (v.toBitVec.extractLsb' 32 32)
theorem lg_cb_id (v : Int64) : lg_cb (lg_lo v) (lg_hi v) = v := by
  apply Int64.toBitVec_inj.1
  show (v.toBitVec.extractLsb' 32 32 ++ v.toBitVec.extractLsb' 0 32 : BitVec 64) = v.toBitVec
  apply BitVec.eq_of_getLsbD_eq
  intro i hi
  rw [BitVec.getLsbD_append]
  by_cases h : i < 32
  · simp [h]
  · rw [if_neg h, BitVec.getLsbD_extractLsb']
    simp [show i - 32 < 32 by omega, show 32 + (i - 32) = i by omega]
/-- the keys' row is kept behind the ends of row 12, two ints a key -/
def dv_ky (G : Nat → Nat → Int32) (i : Nat) : Int64 := lg_cb (G 12 (100 + 2 * i)) (G 12 (101 + 2 * i))
def dv_kw (G : Nat → Nat → Int32) (j : Nat) (v : Int64) : Nat → Nat → Int32 := dv_u (dv_u G 12 (100 + 2 * j) (lg_lo v)) 12 (101 + 2 * j) (lg_hi v)
theorem dv_ky_w (G : Nat → Nat → Int32) (j : Nat) (v : Int64) (i : Nat) : dv_ky (dv_kw G j v) i = if i = j then v else dv_ky G i := by
  unfold dv_ky dv_kw
  by_cases h : i = j
  · subst h
    rw [if_pos rfl, dv_u_ne _ _ (by omega), dv_u_eq, dv_u_eq, lg_cb_id]
  · rw [if_neg h, dv_u_ne _ _ (by omega), dv_u_ne _ _ (by omega), dv_u_ne _ _ (by omega), dv_u_ne _ _ (by omega)]
theorem dv_ky_u {G : Nat → Nat → Int32} {a j : Nat} {v : Int32} (h : ¬ (a = 12 ∧ 100 ≤ j)) : dv_ky (dv_u G a j v) = dv_ky G := by
  funext i
  unfold dv_ky
  rw [dv_u_ne _ _ (by omega), dv_u_ne _ _ (by omega)]
theorem dv_kw_row (G : Nat → Nat → Int32) (j : Nat) (v : Int64) {x : Nat} (h : x ≠ 12) : dv_kw G j v x = G x := by
  unfold dv_kw
  rw [dv_u_row _ _ h, dv_u_row _ _ h]
theorem dv_kw_12 (G : Nat → Nat → Int32) (j : Nat) (v : Int64) {i : Nat} (h : i < 100) : dv_kw G j v 12 i = G 12 i := by
  unfold dv_kw
  rw [dv_u_ne _ _ (by omega), dv_u_ne _ _ (by omega)]
/-- what of a row is in its cell -/
def dv_mk (n : Nat) (f : Nat → Int32) : Nat → Int32 := fun j => if j < n then f j else 0
theorem dv_mk_in {n j : Nat} (f : Nat → Int32) (h : j < n) : dv_mk n f j = f j := by simp only [dv_mk, if_pos h]
theorem dv_mk_0 (n : Nat) : dv_mk n (fun _ => 0) = fun _ => 0 := by funext j; simp [dv_mk]
def dv_cell (dA : Nat → ClassId) (b : Nat) (S : dv_S) (a : Nat) : va_E :=
  if dv_kd a < 9 then .inr (dv_kd a, dv_fl b S a)
  else if dv_kd a = 13 then .inl (dA 13, dv_ln a, .inr (.inr (.inr (.inr (fun j => some (b + dv_p (dv_ra a j)))))))
  else if dv_kd a = 11 then .inl (dA 11, dv_ln a, .inr (.inl (S.2.2 a)))
  else if dv_kd a = 14 then .inl (dA 11, dv_ln a, .inr (.inl (dv_ky S.2.1)))
  else .inl (dA (dv_kd a), dv_ln a, .inl (dv_mk (dv_ln a) (S.2.1 a)))
def dv_ad (b : Nat) : List Nat := (List.range 545).map (fun i => b + i)
def dv_ws (dA : Nat → ClassId) (b : Nat) (S : dv_S) : va_W := [] ++ va_pl (dv_ad b) (fun q => dv_cell dA b S (dv_q (q - b)))
def dv_tys (dA : Nat → ClassId) : List (ClassId × FieldType) := [(dA 9, .byte), (dA 10, .int), (dA 11, .long), (dA 12, .boolean), (dA 13, .object "NameHouse$Text")]
theorem dv_get (dA : Nat → ClassId) (b : Nat) (S : dv_S) {a : Nat} (h : a < 545) : ∃ k : Nat, (dv_ws dA b S)[k]? = some (b + dv_p a, dv_cell dA b S a) := by
  obtain ⟨k, hk⟩ := va_pl_get (X := []) (L := dv_ad b) (f := fun q => dv_cell dA b S (dv_q (q - b))) (a := b + dv_p a) (List.mem_map.mpr ⟨dv_p a, List.mem_range.mpr (dv_p_lt h), rfl⟩)
  exact ⟨k, by rw [Nat.add_sub_cancel_left, dv_qp h] at hk; exact hk⟩
theorem dv_D (dA : Nat → ClassId) (b : Nat) (S : dv_S) : va_D (fun q => b ≤ q) (dv_ws dA b S) := by
  have key : ∀ (i : Nat) (q : Nat × va_E), (dv_ws dA b S)[i]? = some q → q.1 = b + i := by
    intro i q h
    simp only [dv_ws, va_pl, dv_ad, List.nil_append, List.map_map, List.getElem?_map, Option.map_eq_some_iff] at h
    obtain ⟨j, hj, rfl⟩ := h
    rw [List.getElem?_eq_some_iff] at hj
    obtain ⟨hlt, hj⟩ := hj
    simp at hj
    simp [hj]
  refine ⟨fun i j p q hi hj h => ?_, fun k q hk => ?_⟩
  · have h1 := key i p hi
    have h2 := key j q hj
    omega
  · have h1 := key k q hk
    show b ≤ q.1
    omega
theorem dv_set {dA : Nat → ClassId} {b : Nat} {S S' : dv_S} {a k : Nat} {e : va_E} (h : a < 545) (hk : (dv_ws dA b S)[k]? = some (b + dv_p a, dv_cell dA b S a)) (he : dv_cell dA b S' a = e) (ho : ∀ x, x ≠ a → dv_cell dA b S' x = dv_cell dA b S x) : (dv_ws dA b S).set k (b + dv_p a, e) = dv_ws dA b S' := by
  have hk' : ([] ++ va_pl (dv_ad b) (fun q => dv_cell dA b S (dv_q (q - b))))[k]? = some (b + dv_p a, (fun q => dv_cell dA b S (dv_q (q - b))) (b + dv_p a)) := by
    show (dv_ws dA b S)[k]? = some (b + dv_p a, dv_cell dA b S (dv_q (b + dv_p a - b)))
    rw [Nat.add_sub_cancel_left, dv_qp h]; exact hk
  have h1 := va_pl_set (e := e) (dv_D dA b S) (a := b + dv_p a) (List.mem_map.mpr ⟨dv_p a, List.mem_range.mpr (dv_p_lt h), rfl⟩) hk'
  show (dv_ws dA b S).set k (b + dv_p a, e) = _
  refine h1.trans ?_
  show [] ++ va_pl (dv_ad b) _ = [] ++ va_pl (dv_ad b) _
  simp only [List.nil_append, va_pl]
  refine List.map_congr_left fun q hq => ?_
  obtain ⟨i, hi5, rfl⟩ := List.mem_map.mp hq
  have hi5 := List.mem_range.mp hi5
  by_cases hi : i = dv_p a
  · subst hi
    rw [va_up_self, Nat.add_sub_cancel_left, dv_qp h, he]
  · rw [va_up_ne _ _ (by omega), Nat.add_sub_cancel_left, ho (dv_q i) (fun q => hi (by rw [← q, dv_pq hi5]))]
theorem dv_cell_o {dA : Nat → ClassId} {b : Nat} {S : dv_S} {a ci : Nat} (h : dv_kd a = ci) (h9 : ci < 9) : dv_cell dA b S a = .inr (ci, dv_fl b S a) := by
  subst h; simp only [dv_cell, if_pos h9]
theorem dv_cell_q {dA : Nat → ClassId} {b : Nat} {S : dv_S} {a : Nat} (h : dv_kd a = 13) : dv_cell dA b S a = .inl (dA 13, dv_ln a, .inr (.inr (.inr (.inr (fun j => some (b + dv_p (dv_ra a j))))))) := by
  simp [dv_cell, h]
theorem dv_cell_l {dA : Nat → ClassId} {b : Nat} {S : dv_S} {a : Nat} (h : dv_kd a = 11) : dv_cell dA b S a = .inl (dA 11, dv_ln a, .inr (.inl (S.2.2 a))) := by
  simp [dv_cell, h]
theorem dv_cell_k {dA : Nat → ClassId} {b : Nat} {S : dv_S} {a : Nat} (h : dv_kd a = 14) : dv_cell dA b S a = .inl (dA 11, dv_ln a, .inr (.inl (dv_ky S.2.1))) := by
  simp [dv_cell, h]
theorem dv_cell_i {dA : Nat → ClassId} {b : Nat} {S : dv_S} {a t : Nat} (h : dv_kd a = t) (ht : t = 9 ∨ t = 10 ∨ t = 12) : dv_cell dA b S a = .inl (dA t, dv_ln a, .inl (dv_mk (dv_ln a) (S.2.1 a))) := by
  rcases ht with rfl | rfl | rfl <;> simp [dv_cell, h]
theorem dv_fl_at {b : Nat} {S : dv_S} {a k ci : Nat} (h : dv_kd a = ci) (hk : k < dv_nf ci) : (dv_fl b S a)[k]? = some (dv_fv b S a k) := by
  subst h; simp [dv_fl, hk]
theorem dv_fl_len {b : Nat} {S : dv_S} {a ci : Nat} (h : dv_kd a = ci) : (dv_fl b S a).length = dv_nf ci := by
  subst h; simp [dv_fl]
theorem dv_fl_set {b : Nat} {S : dv_S} {a k : Nat} {v : Int32} (hr : dv_rf a k = none) : (dv_fl b S a).set k (.int v) = dv_fl b (dv_u S.1 a k v, S.2) a := by
  apply List.ext_getElem?
  intro j
  by_cases hj : j = k
  · subst hj
    by_cases hl : j < dv_nf (dv_kd a)
    · rw [List.getElem?_set_self (by rw [dv_fl_len rfl]; exact hl), dv_fl_at rfl hl]
      simp [dv_fv, hr, dv_u]
    · rw [List.getElem?_eq_none (by simp [dv_fl]; omega), List.getElem?_eq_none (by simp [dv_fl]; omega)]
  · rw [List.getElem?_set_ne (Ne.symm hj)]
    by_cases hl : j < dv_nf (dv_kd a)
    · rw [dv_fl_at rfl hl, dv_fl_at rfl hl]
      simp [dv_fv, dv_u, hj]
    · rw [List.getElem?_eq_none (by simp [dv_fl]; omega), List.getElem?_eq_none (by simp [dv_fl]; omega)]
theorem dv_cell_F' {dA : Nat → ClassId} {b : Nat} {S S' : dv_S} {x : Nat} (h1 : S'.1 x = S.1 x) (h2 : dv_mk (dv_ln x) (S'.2.1 x) = dv_mk (dv_ln x) (S.2.1 x)) (h3 : S'.2.2 x = S.2.2 x) (h4 : dv_kd x = 14 → dv_ky S'.2.1 = dv_ky S.2.1) : dv_cell dA b S' x = dv_cell dA b S x := by
  have h5 : dv_fv b S' x = dv_fv b S x := by funext k; simp [dv_fv, h1]
  by_cases hk : dv_kd x = 14
  · rw [dv_cell_k hk, dv_cell_k hk, h4 hk]
  · simp only [dv_cell, dv_fl, h2, h3, h5, if_neg hk]
theorem dv_cell_F {dA : Nat → ClassId} {b : Nat} {S S' : dv_S} {x : Nat} (h1 : S'.1 x = S.1 x) (h2 : S'.2.1 x = S.2.1 x) (h3 : S'.2.2 x = S.2.2 x) (h4 : dv_ky S'.2.1 = dv_ky S.2.1) : dv_cell dA b S' x = dv_cell dA b S x :=
  dv_cell_F' h1 (by rw [h2]) h3 (fun _ => h4)
theorem dv_ln_lt (a : Nat) : dv_ln a < 2 ^ 31 := by
  have key : ∀ (l : List Nat) (i : Nat), (∀ x ∈ l, x ≤ 1920) → l.getD i 0 ≤ 1920 := by
    intro l i h
    rw [List.getD_eq_getElem?_getD]
    cases hq : l[i]? with
    | none => simp
    | some x => exact h x (List.mem_of_getElem? hq)
  have : dv_ln a ≤ 1920 := by
    unfold dv_ln
    split
    · exact key _ _ (by decide)
    · split
      · decide
      · split
        · exact key _ _ (by decide)
        · split
          · decide
          · split
            · exact key _ _ (by decide)
            · split
              · decide
              · exact key _ _ (by decide)
  omega
/-- locals: by their places; what isn't known or is a second half is none -/
def dv_pr (scr b : Nat) : Nat → List (Option Value) → List (Nat × Value)
  | _, [] => []
  | i, none :: l => dv_pr scr b (i + 1) l
  | i, some v :: l => (i, dv_tr scr b v) :: dv_pr scr b (i + 1) l
theorem dv_pr_in {scr b : Nat} : ∀ (l : List (Option Value)) (j i : Nat) (v : Value), l[i]? = some (some v) → (j + i, dv_tr scr b v) ∈ dv_pr scr b j l
  | [], j, i, v, h => by simp at h
  | x :: l, j, 0, v, h => by
    have hx : x = some v := by simpa using h
    subst hx
    simp [dv_pr]
  | x :: l, j, i + 1, v, h => by
    have h1 : l[i]? = some (some v) := by simpa using h
    have h2 := dv_pr_in (scr := scr) (b := b) l (j + 1) i v h1
    rw [show j + 1 + i = j + (i + 1) by omega] at h2
    cases x with
    | none => exact h2
    | some w => exact List.mem_cons_of_mem _ h2
theorem dv_pr_of {scr b : Nat} : ∀ (l : List (Option Value)) (j : Nat) (q : Nat × Value), q ∈ dv_pr scr b j l → ∃ (i : Nat) (v : Value), q = (j + i, dv_tr scr b v) ∧ l[i]? = some (some v)
  | [], j, q, h => by simp [dv_pr] at h
  | none :: l, j, q, h => by
    obtain ⟨i, v, h1, h2⟩ := dv_pr_of l (j + 1) q h
    exact ⟨i + 1, v, by rw [h1, show j + 1 + i = j + (i + 1) by omega], by simpa using h2⟩
  | some w :: l, j, q, h => by
    rcases List.mem_cons.mp h with h | h
    · exact ⟨0, w, h, by simp⟩
    · obtain ⟨i, v, h1, h2⟩ := dv_pr_of l (j + 1) q h
      exact ⟨i + 1, v, by rw [h1, show j + 1 + i = j + (i + 1) by omega], by simpa using h2⟩
def dv_lr (scr b : Nat) (ls : Array Slot) (n : Nat) (l : List (Option Value)) : Prop := lv_has ls n (dv_pr scr b 0 l)
/-- no long stands just ahead of place i -/
def dv_ok (l : List (Option Value)) (i : Nat) : Bool := match i with
  | 0 => true
  | j + 1 => match l[j]? with
    | some (some (.long _)) => false
    | some (some (.double _)) => false
    | _ => true
theorem dv_ok_spec {l : List (Option Value)} {j : Nat} {v : Value} (h : dv_ok l (j + 1) = true) (hj : l[j]? = some (some v)) : v.category = 1 := by
  simp only [dv_ok, hj] at h
  cases v <;> first | rfl | cases h
theorem dv_lr_at {scr b n i : Nat} {ls : Array Slot} {l : List (Option Value)} {v : Value} (h : dv_lr scr b ls n l) (hv : l[i]? = some (some v)) : ls[i]? = some (.val (dv_tr scr b v)) := by
  have h1 := h.2.2 _ (dv_pr_in l 0 i v hv)
  simpa using h1
theorem dv_lr_set {scr b n i : Nat} {ls' : Array Slot} {l : List (Option Value)} {v : Value} (h : lv_has ls' n ((i, dv_tr scr b v) :: (dv_pr scr b 0 l).filter (fun q => !(q.1 == i) && !(q.1 + 1 == i && q.2.category == 2)))) (hok : dv_ok l i = true) : dv_lr scr b ls' n (l.set i (some v)) := by
  refine ⟨h.1, h.2.1, fun q hq => h.2.2 q ?_⟩
  obtain ⟨j, w, rfl, hj⟩ := dv_pr_of _ _ _ hq
  rw [Nat.zero_add] at *
  by_cases hji : j = i
  · subst hji
    rw [List.getElem?_set_self (by have := (List.getElem?_eq_some_iff.mp hj).1; simpa using this)] at hj
    cases hj
    exact List.mem_cons_self
  · rw [List.getElem?_set_ne (Ne.symm hji)] at hj
    refine List.mem_cons_of_mem _ (List.mem_filter.mpr ⟨?_, ?_⟩)
    · have := dv_pr_in (scr := scr) (b := b) l 0 j w hj
      rwa [Nat.zero_add] at this
    · by_cases hj1 : j + 1 = i
      · subst hj1
        have := dv_ok_spec hok hj
        simp [dv_tr_cat, this]
      · simp [hji, hj1]
theorem dv_lr_set2 {scr b n i : Nat} {ls' : Array Slot} {l : List (Option Value)} {v : Value} (h : lv_has ls' n ((i, dv_tr scr b v) :: (dv_pr scr b 0 l).filter (fun q => !(q.1 == i) && (!(q.1 == i + 1) && !(q.1 + 1 == i && q.2.category == 2))))) (hok : dv_ok l i = true) : dv_lr scr b ls' n ((l.set i (some v)).set (i + 1) none) := by
  refine ⟨h.1, h.2.1, fun q hq => h.2.2 q ?_⟩
  obtain ⟨j, w, rfl, hj⟩ := dv_pr_of _ _ _ hq
  rw [Nat.zero_add] at *
  by_cases hj2 : j = i + 1
  · subst hj2
    rw [List.getElem?_set_self (by have := (List.getElem?_eq_some_iff.mp hj).1; simpa using this)] at hj
    cases hj
  rw [List.getElem?_set_ne (Ne.symm hj2)] at hj
  by_cases hji : j = i
  · subst hji
    rw [List.getElem?_set_self (by have := (List.getElem?_eq_some_iff.mp hj).1; simpa using this)] at hj
    cases hj
    exact List.mem_cons_self
  · rw [List.getElem?_set_ne (Ne.symm hji)] at hj
    refine List.mem_cons_of_mem _ (List.mem_filter.mpr ⟨?_, ?_⟩)
    · have := dv_pr_in (scr := scr) (b := b) l 0 j w hj
      rwa [Nat.zero_add] at this
    · by_cases hj1 : j + 1 = i
      · subst hj1
        have := dv_ok_spec hok hj
        simp [dv_tr_cat, this]; omega
      · simp [hji, hj1, hj2]
/-- the links between the class and its nested ones -/
def dv_NL : List (String × Nat × MethodName) := [(RX4, 34, yX7_isDigit), (RX4, 37, yX7_isLetter), (RX4, 40, yX7_isSmall), (RX4, 43, yX7_isGreat), (RX1, 56, yX7_smallOf), (RX1, 41, yX7_isDigit), (RX1, 76, yX7_isGreat), (RX1, 71, yX7_isSmall)]
def dv_nw (U : State) : Prop := ∀ q ∈ dv_NL, va_Nw (.methodLinkNest q.1 q.2.1 q.2.2 "NameHouse") U
theorem dv_nw.warm {s U : State} (hW : s.WarmedH U.vm) (h : dv_nw s) : dv_nw U := fun q hq => va_Nw.warmM hW (h q hq)
theorem dv_nw.same {s U : State} (hv : s.vm = U.vm) (h : dv_nw s) : dv_nw U := fun q hq => va_Nw.same rfl hv (h q hq)
def dv_L (S : dv_S) : Nat := (S.1 100000 0).toNatClampNeg
def dv_cx (y : MethodName) (cc : ByteArray) (n : Nat) (ret : Option FieldType) (scr b : Nat) (dC : Nat → ClassId) (dI : Nat → Nat → Nat) (dA : Nat → ClassId) (p : Program) (s : State) (m : MethodId) (args : Array Value) (meth : Method) (c : Code) : Prop :=
  p.tables.exec = Jvm.exec ∧ c.code = cc ∧ c.maxLocals = n ∧ meth.sig.returnType = ret ∧ meth.locks = false ∧ s.vm.findClass y.cls = some m.cls ∧ (∀ w ∈ dv_T, w.before args s = true) ∧ va_K (dC, dI) vwCl (dv_tys dA) s ∧ scr < b ∧ b ≤ s.heap.size ∧ dv_nw s
def dv_Q (dC : Nat → ClassId) (dI : Nat → Nat → Nat) (dA : Nat → ClassId) (scr b : Nat) (Q : Option Value → dv_S → Prop) : Array Value → State → Outcome → State → Prop := fun _ st oc t =>
  ∃ (r : Option Value) (S' : dv_S), oc = .returned (r.map (dv_tr scr b)) ∧ Q r S' ∧ va_P (dC, dI) vwCl (dv_ws dA b S') t.heap ∧ va_X scr (dv_L S') (S'.2.1 100000) t t.heap ∧ va_F (fun q => b ≤ q) st t
/-- from here on the method comes to its end with Q -/
def dv_J (y : MethodName) (cc : ByteArray) (n : Nat) (ret : Option FieldType) (R : Room) (cs ss pc : Nat) (l : List (Option Value)) (st : List Value) (S : dv_S) (Q : Option Value → dv_S → Prop) : Prop :=
  ∀ (la : Launch) (b scr : Nat) (dC : Nat → ClassId) (dI : Nat → Nat → Nat) (dA : Nat → ClassId) (p : Program) (e : Env) (s : State) (m : MethodId) (args : Array Value) (below : List Frame) (meth : Method) (c : Code) (H : Heap) (locs : List Loc) (ls : Array Slot),
    dv_cx y cc n ret scr b dC dI dA p s m args meth c → dv_lr scr b ls n l → va_P (dC, dI) vwCl (dv_ws dA b S) H → va_S (fun q => b ≤ q) s.heap H locs → va_X scr (dv_L S) (S.2.1 100000) s s.heap →
    W p la e R s m args below meth c H locs cs ss (MQ below (dv_Q dC dI dA scr b Q) args s R.cells R.slots (fun q => b ≤ q)) (F0 m pc ls (st.map (dv_tr scr b)))
abbrev dv_wm (y : MethodName) (cc : ByteArray) (n : Nat) (ret : Option FieldType) : List Cond := .code y cc n ret :: dv_T
/-- the method, called with av where S stands, returns with Q -/
def dv_M (y : MethodName) (cc : ByteArray) (n : Nat) (ret : Option FieldType) (R : Room) (av : List Value) (S : dv_S) (Q : Option Value → dv_S → Prop) : Prop :=
  ∀ (la : Launch) (b scr : Nat) (dC : Nat → ClassId) (dI : Nat → Nat → Nat) (dA : Nat → ClassId), scr < b →
    Met la y (dv_wm y cc n ret) R (va_Pc (av.map (dv_tr scr b)) (fun U => b ≤ U.heap.size ∧ va_K (dC, dI) vwCl (dv_tys dA) U ∧ va_P (dC, dI) vwCl (dv_ws dA b S) U.heap ∧ va_X scr (dv_L S) (S.2.1 100000) U U.heap ∧ dv_nw U)) (dv_Q dC dI dA scr b Q) R.cells R.slots (fun q => b ≤ q)
theorem dv_M_of {y : MethodName} {cc : ByteArray} {n : Nat} {ret : Option FieldType} {R : Room} {av : List Value} {S : dv_S} {Q : Option Value → dv_S → Prop} (l0 : List (Option Value)) (hy : plainName y.cls = true) (hn : ∀ scr b, (lg_sl (av.map (dv_tr scr b))).length ≤ n) (hl0 : ∀ scr b, lv_args 0 (av.map (dv_tr scr b)) = dv_pr scr b 0 l0)
    (k : dv_J y cc n ret R 0 0 0 l0 [] S Q) : dv_M y cc n ret R av S Q := by
  intro la b scr dC dI dA hsb
  refine Met.ofW (cc := cc) (maxL := n) (ret := ret) hy rfl ?_
  intro p e s m args below meth c s₁ B hml hv
  obtain ⟨rfl, hbs, hK, hP, hX, hnw⟩ := hv
  have hts := atoms_spec (ws := dv_wm y cc n ret) B.pre
  have hown : s.vm.findClass y.cls = some m.cls := findClass_of_methodNamed B.named
  have hl := lv_entry (av.map (dv_tr scr b)) (n := n) (hn scr b)
  rw [hl0 scr b] at hl
  rw [lg_entry_eq]
  exact k la b scr dC dI dA p e s m _ below meth c s.heap [] _ ⟨B.exec, B.bytes, hml, B.returns, B.notSynchronized, hown, fun w hw => hts w (List.mem_cons_of_mem _ hw), hK, hsb, hbs, hnw⟩ hl hP va_S.rf hX
