def usS (S : dv_S) (u : Nat) : Nat := dn (S.2.1 186 u)
def utS (S : dv_S) (u : Nat) : Nat := dn (S.2.1 187 u)
theorem dv_oi_eq {o : Option Nat} {m : Nat} (h : ∀ j, o = some j → j < 2 ^ 31) (hm : m < 2 ^ 31) : dv_oi o = nI m ↔ o = some m := by
  cases o with
  | none =>
    simp only [dv_oi, reduceCtorEq, iff_false]
    intro q
    have := nI_pos hm
    rw [← q] at this
    exact this (by decide)
  | some j =>
    simp only [dv_oi, Option.some.injEq]
    exact nI_eq (h j rfl) hm
/-- does use u mean another thing then -/
def cl_st (S : dv_S) (n u : Nat) : Bool := !decide (cl_tm (hmS S) (fun t => wi S (usS S u) (hmS S t) && decide (tx S (nn S true t) = tx S (nn S true (utS S u)))) n = some (utS S u))
