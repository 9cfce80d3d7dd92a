/-- how often the PATTERN of t is there among the kind x -/
def wo (pt kd : Nat → Int32) (n : Nat) (x : Int32) (t : Nat) : Nat := dv_ct (fun u => decide (kd u = x) && decide (pt u = pt t)) n
/-- the WAY of a kind: among the first t, and how often -/
def wy (pt kd : Nat → Int32) (n : Nat) (x : Int32) : Nat → Int32 × Nat
  | 0 => (-2, 0)
  | t + 1 => if kd t = x ∧ ((wy pt kd n x t).2 < wo pt kd n x t ∨ (wo pt kd n x t = (wy pt kd n x t).2 ∧ pt t < (wy pt kd n x t).1)) then (pt t, wo pt kd n x t) else wy pt kd n x t
theorem wy_le (pt kd : Nat → Int32) (n : Nat) (x : Int32) : ∀ t, (wy pt kd n x t).2 ≤ n
  | 0 => Nat.zero_le _
  | t + 1 => by
    rw [wy]; split
    · exact dv_ct_le _ _
    · exact wy_le pt kd n x t
theorem wy_y {pt kd : Nat → Int32} {n t : Nat} {x : Int32} (h : kd t = x) (h2 : (wy pt kd n x t).2 < wo pt kd n x t ∨ (wo pt kd n x t = (wy pt kd n x t).2 ∧ pt t < (wy pt kd n x t).1)) : wy pt kd n x (t + 1) = (pt t, wo pt kd n x t) := by rw [wy, if_pos ⟨h, h2⟩]
theorem wy_n {pt kd : Nat → Int32} {n t : Nat} {x : Int32} (h : ¬ (kd t = x ∧ ((wy pt kd n x t).2 < wo pt kd n x t ∨ (wo pt kd n x t = (wy pt kd n x t).2 ∧ pt t < (wy pt kd n x t).1)))) : wy pt kd n x (t + 1) = wy pt kd n x t := by rw [wy, if_neg h]
def wyI (S : dv_S) (w : Nat) (x : Int32) (i : Nat) (S1 : dv_S) : Prop := sc S S1 ∧ ∀ t, t < i → S.2.1 23 t = x → S1.2.1 515 t = ptS S w t
theorem wyI0 (S : dv_S) (w : Nat) (x : Int32) : wyI S w x 0 S := ⟨sc.rf S, fun t h => absurd h (Nat.not_lt_zero t)⟩
theorem wyI1 {S S1 : dv_S} {w i : Nat} {x : Int32} (h : wyI S w x i S1) (hk : ¬ S.2.1 23 i = x) : wyI S w x (i + 1) S1 := ⟨h.1, lt_s h.2 (fun q => absurd q hk)⟩
theorem sc.u515 {S S' : dv_S} (h : sc S S') (k : Nat) (v : Int32) : sc S (S'.1, dv_u S'.2.1 515 k v, S'.2.2) := ⟨h.1, fun a a1 a2 a3 a4 a5 => (dv_u_row _ _ a5).trans (h.2.1 a a1 a2 a3 a4 a5), h.2.2⟩
theorem sc.u18 {S S' : dv_S} (h : sc S S') (k : Nat) (v : Int32) : sc S (S'.1, dv_u S'.2.1 18 k v, S'.2.2) := ⟨h.1, fun a a1 a2 a3 a4 a5 => (dv_u_row _ _ a4).trans (h.2.1 a a1 a2 a3 a4 a5), h.2.2⟩
theorem wyI2 {S S1 S2 : dv_S} {w i : Nat} {x : Int32} {f : Nat → Int32} {m : Nat} (h : wyI S w x i S1) (hi : i < 80) (hs : dv_spl S1 f m S2) : wyI S w x (i + 1) (S2.1, dv_u S2.2.1 515 i (ptS S1 w i), S2.2.2) := by
  refine ⟨(h.1.tr hs.sc).u515 _ _, fun t ht hk => ?_⟩
  show dv_u S2.2.1 515 i (ptS S1 w i) 515 t = _
  by_cases hti : t = i
  · subst hti; rw [dv_u_eq, h.1.pt w hi]
  · rw [dv_u_ne _ _ (by rintro ⟨-, q⟩; exact hti q), hs.2.1 515 (by decide) (by decide) (by decide)]
    exact h.2 t (by omega) hk
theorem sc.g {S S' : dv_S} (h : sc S S') {a : Nat} (ha : (a ≠ 10 ∧ a ≠ 11 ∧ a ≠ 12 ∧ a ≠ 18 ∧ a ≠ 515)) : S'.2.1 a = S.2.1 a := h.2.1 a ha.1 ha.2.1 ha.2.2.1 ha.2.2.2.1 ha.2.2.2.2
theorem wyI_ct {S S1 : dv_S} {w n : Nat} {x : Int32} (h : wyI S w x n S1) (p : Int32) : dv_ct (fun t => decide (S1.2.1 23 t = x) && decide (S1.2.1 515 t = p)) n = dv_ct (fun u => decide (S.2.1 23 u = x) && decide (ptS S w u = p)) n := by
  refine dv_ct_cong fun k hk => ?_
  rw [h.1.g (by decide)]
  by_cases hx : S.2.1 23 k = x
  · rw [h.2 k hk hx]
  · simp [hx]
/-- the cut of f's first n stands in S -/
def csp (S : dv_S) (f : Nat → Int32) (n : Nat) : Prop := S.1 9 4 = nI (cu f n n).1 ∧ (∀ j, j < n → S.2.1 10 j = ch_lo (f j)) ∧ (∀ j, j < (cu f n n).1 → S.2.1 11 j = nI ((cu f n n).2.1 j) ∧ S.2.1 12 j = nI ((cu f n n).2.2 j)) ∧ (∀ j, j < (cu f n n).1 → dv_ky S.2.1 j = pk_g f (cu f n n) j)
theorem dv_spl.csp {S S' : dv_S} {f : Nat → Int32} {n : Nat} (h : dv_spl S f n S') : csp S' f n := ⟨by rw [h.1, dv_u_eq], h.2.2.2.1, h.2.2.2.2⟩
theorem csp.spl {S : dv_S} {f : Nat → Int32} {n : Nat} (h : csp S f n) : dv_spl S f n S := ⟨by rw [dv_ui _ _ _ _ h.1], fun _ _ _ _ => rfl, rfl, h.2.1, h.2.2⟩
theorem csp.fr {S S' : dv_S} {f : Nat → Int32} {n : Nat} (h : csp S f n) (h1 : S'.1 9 4 = S.1 9 4) (h2 : S'.2.1 10 = S.2.1 10) (h3 : S'.2.1 11 = S.2.1 11) (h4 : S'.2.1 12 = S.2.1 12) : csp S' f n := by
  have hk : dv_ky S'.2.1 = dv_ky S.2.1 := by funext j; unfold dv_ky; rw [h4]
  unfold csp; rw [h1, h2, h3, h4, hk]; exact h
theorem sc.spl {S S1 S2 : dv_S} {t : Nat} (h : sc S S1) (ht : t < 80) (hs : dv_spl S1 (S1.2.1 (25 + 2 * t + 1)) (dn (S1.1 (25 + 2 * t) 1)) S2) : dv_spl S1 (S.2.1 (25 + 2 * t + 1)) (dn (S.1 (25 + 2 * t) 1)) S2 := by
  rw [h.row (kd_T ht).1, h.1 (25 + 2 * t) 1 (by omega)] at hs; exact hs
/-- OPENED -/
def opS (S : dv_S) (w : Nat) (o : Option Nat) : Int32 := dv_op (dv_gm (S.2.1 16) w) 60 (dv_oi o)
/-- USED of one word more -/
def ub (u : Nat → Int32) (x : Int32) : Nat → Int32 := fun j => if nI j = x then u j + 1 else u j
def up (S : dv_S) (w : Nat) (f : Nat → Int32) (m : Nat) (u : Nat → Int32) : Nat → Nat → Int32
  | 0 => u
  | k + 1 => ub (up S w f m u k) (opS S w (pk_w S w f m k))
/-- USED by the first t things -/
def ut (S : dv_S) (w : Nat) : Nat → Nat → Int32
  | 0 => fun _ => 0
  | t + 1 => up S w (S.2.1 (25 + 2 * t + 1)) (dn (S.1 (25 + 2 * t) 1)) (ut S w t) (cu (S.2.1 (25 + 2 * t + 1)) (dn (S.1 (25 + 2 * t) 1)) (dn (S.1 (25 + 2 * t) 1))).1
/-- Book.addUsed -/
def ubS (S : dv_S) (w : Nat) (x : Int32) : dv_S := if 0 ≤ x ∧ x < nI w then (S.1, dv_u S.2.1 18 (dn x) (S.2.1 18 (dn x) + 1), S.2.2) else S
theorem qX0_addUsedG (d : Nat) (S : dv_S) (w : Nat) (x : Int32) (hn : S.1 13 5 = nI w) (hm : w ≤ 60) : dv_M yX0_addUsed cX0_addUsed 2 none (dv_rm (d + 1)) [.ref 13, .int x] S (fun r S' => r = none ∧ S' = ubS S w x) := by
  by_cases h : 0 ≤ x ∧ x < nI w
  · obtain ⟨j, hj, rfl⟩ := dv_idx rfl (by omega) (decide_eq_true h)
    rw [show ubS S w (nI j) = (S.1, dv_u S.2.1 18 j (S.2.1 18 j + 1), S.2.2) by rw [ubS, if_pos h, dn_nI (by omega)]]
    exact qX0_addUsed d S j w hn hj hm
  · rw [show ubS S w x = S from if_neg h]
    exact qX0_addUsedN d S x (by rw [hn]; exact decide_eq_false h)
theorem ubS_at {S : dv_S} {w : Nat} {x : Int32} {j : Nat} (hw : w ≤ 60) (hj : j < w) : (ubS S w x).2.1 18 j = ub (S.2.1 18) x j := by
  unfold ubS ub
  by_cases h : 0 ≤ x ∧ x < nI w
  · rw [if_pos h]
    obtain ⟨i, hi, rfl⟩ := dv_idx rfl (by omega) (decide_eq_true h)
    rw [dn_nI (by omega)]
    by_cases hji : j = i
    · subst hji; rw [if_pos rfl]; exact dv_u_eq _ _ _ _
    · rw [if_neg (by rw [nI_eq (by omega) (by omega)]; exact hji)]
      exact dv_u_ne _ _ (by rintro ⟨-, q⟩; exact hji q)
  · rw [if_neg h, if_neg]
    rintro rfl
    exact h ⟨nI_pos' (by omega), nI_lt hj (by omega)⟩
theorem ubS_sc {S S' : dv_S} (h : sc S S') (w : Nat) (x : Int32) : sc S (ubS S' w x) := by
  unfold ubS; split
  · exact h.u18 _ _
  · exact h
theorem ubS_csp {S : dv_S} {f : Nat → Int32} {n : Nat} (h : csp S f n) (w : Nat) (x : Int32) : csp (ubS S w x) f n := by
  unfold ubS; split
  · refine h.fr rfl ?_ ?_ ?_ <;> (funext y; simp [dv_u])
  · exact h
def cuI (S : dv_S) (w i : Nat) (S1 : dv_S) : Prop := sc S S1 ∧ ∀ j, j < w → S1.2.1 18 j = ut S w i j
theorem cuI0 (S : dv_S) (w : Nat) : cuI S w 0 (S.1, dv_rw S.2.1 18 (fun _ => 0) w, S.2.2) := by
  refine ⟨⟨fun _ _ _ => rfl, fun a _ _ _ a4 _ => dv_rw_row a4, rfl⟩, fun j hj => ?_⟩
  show dv_rw S.2.1 18 (fun _ => 0) w 18 j = 0
  exact if_pos ⟨rfl, hj⟩
def cuK (S : dv_S) (w i k : Nat) (S1 : dv_S) : Prop := sc S S1 ∧ csp S1 (S.2.1 (25 + 2 * i + 1)) (dn (S.1 (25 + 2 * i) 1)) ∧ ∀ j, j < w → S1.2.1 18 j = up S w (S.2.1 (25 + 2 * i + 1)) (dn (S.1 (25 + 2 * i) 1)) (ut S w i) k j
theorem cuK0 {S S1 S2 : dv_S} {w i : Nat} (h : cuI S w i S1) (hi : i < 80) (hs : dv_spl S1 (S1.2.1 (25 + 2 * i + 1)) (dn (S1.1 (25 + 2 * i) 1)) S2) : cuK S w i 0 S2 := by
  refine ⟨h.1.tr hs.sc, (h.1.spl hi hs).csp, fun j hj => ?_⟩
  rw [hs.2.1 18 (by decide) (by decide) (by decide)]; exact h.2 j hj
theorem cuK1 {S S1 : dv_S} {w i k : Nat} (hw : w ≤ 60) (h : cuK S w i k S1) : cuK S w i (k + 1) (ubS S1 w (opS S w (pk_w S w (S.2.1 (25 + 2 * i + 1)) (dn (S.1 (25 + 2 * i) 1)) k))) := by
  refine ⟨ubS_sc h.1 _ _, ubS_csp h.2.1 _ _, fun j hj => ?_⟩
  rw [ubS_at hw hj, up]
  unfold ub
  rw [h.2.2 j hj]
theorem cuK2 {S S1 : dv_S} {w i k : Nat} (h : cuK S w i k S1) (hk : k = (cu (S.2.1 (25 + 2 * i + 1)) (dn (S.1 (25 + 2 * i) 1)) (dn (S.1 (25 + 2 * i) 1))).1) : cuI S w (i + 1) S1 := by
  subst hk; exact ⟨h.1, h.2.2⟩
