/-! the reference -/
def dv_ro (f : Nat → Nat → Int32) (a n : Nat) (g : Nat → Int32) (k : Nat) : Nat → Nat → Int32 := fun x y => if x = a ∧ n ≤ y ∧ y < n + k then g (y - n) else f x y
theorem dv_ro_0 (f : Nat → Nat → Int32) (a n : Nat) (g : Nat → Int32) : dv_ro f a n g 0 = f := by funext x y; simp only [dv_ro]; rw [if_neg (by omega)]
theorem dv_ro_s (f : Nat → Nat → Int32) (a n : Nat) (g : Nat → Int32) (k : Nat) : dv_u (dv_ro f a n g k) a (n + k) (g k) = dv_ro f a n g (k + 1) := by
  funext x y
  simp only [dv_u, dv_ro]
  by_cases h : x = a
  · subst h
    by_cases h2 : y = n + k
    · subst h2
      rw [if_pos ⟨rfl, rfl⟩, if_pos ⟨rfl, by omega, by omega⟩, Nat.add_sub_cancel_left]
    · rw [if_neg (by omega)]
      by_cases h3 : n ≤ y ∧ y < n + k
      · rw [if_pos ⟨rfl, h3⟩, if_pos ⟨rfl, by omega, by omega⟩]
      · rw [if_neg (by omega), if_neg (by omega)]
  · rw [if_neg (by omega), if_neg (by omega), if_neg (by omega)]
theorem dv_ro_row {f : Nat → Nat → Int32} {a x n : Nat} {g : Nat → Int32} {k : Nat} (h : x ≠ a) : dv_ro f a n g k x = f x := by funext y; simp [dv_ro, h]
theorem dv_ro_in {f : Nat → Nat → Int32} {a n : Nat} {g : Nat → Int32} {k j : Nat} (h : j < k) : dv_ro f a n g k a (n + j) = g j := by
  unfold dv_ro; rw [if_pos ⟨rfl, by omega, by omega⟩, Nat.add_sub_cancel_left]
theorem dv_ro_out {f : Nat → Nat → Int32} {a n : Nat} {g : Nat → Int32} {k y : Nat} (h : y < n ∨ n + k ≤ y) : dv_ro f a n g k a y = f a y := by
  unfold dv_ro; rw [if_neg (by omega)]
def fv5 (xa xb xc xd xe : Int32) (i : Nat) : Int32 := if i < 4 then xa else if i < 8 then xb else if i < 12 then xc else if i < 16 then xd else xe
def fbt (xa xb xc xd xe : Int32) (i : Nat) : Int32 := ((fv5 xa xb xc xd xe i) >>> ((24 - 8 * (nI i - nI i / 4 * 4)) &&& 31)).toInt8.toInt32.toInt8.toInt32
def fdR (S : dv_S) (n : Nat) (xa xb xc xd xe : Int32) (i : Nat) : dv_S := (dv_u (dv_u S.1 516 0 0) 516 3 (nI (n + i)), dv_ro S.2.1 517 n (fbt xa xb xc xd xe) i, S.2.2)
theorem fdR_0 {S : dv_S} {n : Nat} (xa xb xc xd xe : Int32) (h : S.1 516 3 = nI n) : (dv_u S.1 516 0 0, S.2) = fdR S n xa xb xc xd xe 0 := by
  unfold fdR
  rw [dv_ro_0, dv_ui _ 516 3 _ (by rw [dv_u_ne _ _ (by decide)]; exact h)]
theorem fdR_s (S : dv_S) (n : Nat) (xa xb xc xd xe : Int32) (i : Nat) : (dv_u (fdR S n xa xb xc xd xe i).1 516 3 (nI (n + (i + 1))), dv_u (fdR S n xa xb xc xd xe i).2.1 517 (n + i) (fbt xa xb xc xd xe i), (fdR S n xa xb xc xd xe i).2.2) = fdR S n xa xb xc xd xe (i + 1) := by
  unfold fdR; simp only [dv_uu, dv_ro_s]
theorem fdR_n (S : dv_S) (n : Nat) (xa xb xc xd xe : Int32) (i : Nat) : (fdR S n xa xb xc xd xe i).1 516 3 = nI (n + i) := by
  show dv_u (dv_u S.1 516 0 0) 516 3 (nI (n + i)) 516 3 = _
  rw [dv_u_eq]
/-- the first k of A and B are the same -/
def rsm (A B : Nat → Int32) : Nat → Bool
  | 0 => true
  | k + 1 => rsm A B k && decide (A k = B k)
theorem rsm_iff {A B : Nat → Int32} : ∀ {k : Nat}, rsm A B k = true ↔ ∀ j, j < k → A j = B j
  | 0 => by simp [rsm]
  | k + 1 => by
    rw [rsm, Bool.and_eq_true, rsm_iff, decide_eq_true_eq]
    exact ⟨fun h => lt_s h.1 h.2, fun h => ⟨fun j hj => h j (by omega), h k (by omega)⟩⟩
theorem rsm_rd {A B : Nat → Int32} {n m : Nat} : (decide (n = m) && rsm A B n) = decide (dv_rd A n = dv_rd B m) := by
  rw [Bool.eq_iff_iff, Bool.and_eq_true, rsm_iff, decide_eq_true_eq, decide_eq_true_eq, dv_rd_eq]
theorem rsm_no {A B : Nat → Int32} {n m k : Nat} (hk : k ≤ n) (h : (decide (n = m) && rsm A B k) = false) : decide (dv_rd A n = dv_rd B m) = false := by
  refine decide_eq_false fun q => ?_
  rw [dv_rd_eq] at q
  rw [decide_eq_true q.1, Bool.true_and] at h
  have := rsm_iff.mpr (fun j hj => q.2 j (by omega) : ∀ j, j < k → A j = B j)
  rw [h] at this; cases this
theorem nm_sp {l : List Int32} (h1 : 1 ≤ l.length ∧ l.length ≤ 24) (h2 : ch_d (l.headD 0) = false) : nm_ok l = (l.all ch_n && l.any ch_l) := by
  unfold nm_ok; rw [decide_eq_true h1, h2]; simp
abbrev rS (S : dv_S) : dv_S := (dv_u S.1 516 0 0, S.2)
abbrev rT (S : dv_S) (x : Int32) : dv_S := (dv_u S.1 516 1 x, S.2)
