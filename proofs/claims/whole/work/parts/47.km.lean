theorem cl_tm_some {hm : Nat → Nat} {ok : Nat → Bool} : ∀ {n u : Nat}, cl_tm hm ok n = some u ↔ u < n ∧ ok u = true ∧ (∀ t, t < n → ok t = true → hm t ≤ hm u) ∧ (∀ t, t < u → ok t = true → hm t < hm u)
  | 0, u => by simp [cl_tm]
  | n + 1, u => by
    have ih := fun v => cl_tm_some (hm := hm) (ok := ok) (n := n) (u := v)
    cases h0 : cl_tm hm ok n with
    | none =>
      have hno : ∀ t, t < n → ok t = false := by
        intro t ht
        cases hk : ok t with
        | false => rfl
        | true =>
          exfalso
          have key : ∀ m, m ≤ n → (∃ t, t < m ∧ ok t = true) → cl_tm hm ok m ≠ none := by
            intro m
            induction m with
            | zero => rintro - ⟨t, ht, -⟩; omega
            | succ m ihm =>
              rintro hm1 ⟨t, ht, hk⟩
              cases hc : cl_tm hm ok m with
              | some w => simp only [cl_tm, hc]; split <;> simp
              | none =>
                have : t = m := by
                  refine Classical.byContradiction fun q => ihm (by omega) ⟨t, by omega, hk⟩ hc
                subst this
                simp [cl_tm, hc, hk]
          exact key n (Nat.le_refl _) ⟨t, ht, hk⟩ h0
      simp only [cl_tm, h0]
      cases hk : ok n with
      | true =>
        rw [if_pos rfl]
        constructor
        · intro q; cases q
          refine ⟨by omega, hk, fun t ht ho => ?_, fun t ht ho => ?_⟩
          · by_cases htn : t = n
            · rw [htn]; exact Nat.le_refl _
            · rw [hno t (by omega)] at ho; cases ho
          · rw [hno t ht] at ho; cases ho
        · rintro ⟨q1, q2, -, -⟩
          by_cases hun : u = n
          · rw [hun]
          · rw [hno u (by omega)] at q2; cases q2
      | false =>
        rw [if_neg (by decide)]
        constructor
        · intro q; cases q
        · rintro ⟨q1, q2, -, -⟩
          by_cases hun : u = n
          · rw [hun, hk] at q2; cases q2
          · rw [hno u (by omega)] at q2; cases q2
    | some w =>
      obtain ⟨w1, w2, w3, w4⟩ := (ih w).mp h0
      simp only [cl_tm, h0]
      by_cases hc : ok n = true ∧ hm w < hm n
      · rw [if_pos hc]
        constructor
        · intro q; cases q
          refine ⟨by omega, hc.1, fun t ht ho => ?_, fun t ht ho => ?_⟩
          · by_cases htn : t = n
            · rw [htn]; exact Nat.le_refl _
            · have := w3 t (by omega) ho; omega
          · have := w3 t (by omega) ho; omega
        · rintro ⟨q1, q2, q3, q4⟩
          by_cases hun : u = n
          · rw [hun]
          · have a1 := q3 n (by omega) hc.1
            have a2 := w3 u (by omega) q2
            omega
      · rw [if_neg hc]
        constructor
        · intro q; cases q
          refine ⟨by omega, w2, fun t ht ho => ?_, w4⟩
          by_cases htn : t = n
          · subst htn
            have : ¬ hm u < hm t := fun z => hc ⟨ho, z⟩
            omega
          · exact w3 t (by omega) ho
        · rintro ⟨q1, q2, q3, q4⟩
          by_cases hun : u = n
          · subst hun
            have a1 := q4 w w1 w2
            exact absurd ⟨q2, a1⟩ hc
          · have e := (ih u).mpr ⟨by omega, q2, fun t ht ho => q3 t (by omega) ho, q4⟩
            rw [h0] at e; exact e
theorem cl_tm_none {hm : Nat → Nat} {ok : Nat → Bool} {n : Nat} (h : ∀ t, t < n → ok t = false) : cl_tm hm ok n = none := by
  cases hc : cl_tm hm ok n with
  | none => rfl
  | some u =>
    obtain ⟨h1, h2, -⟩ := cl_tm_some.mp hc
    rw [h u h1] at h2; cases h2
/-- the reference's names, rows nr and sr -/
def rNm (S : dv_S) (nr sr n : Nat) (N : Nat → List Int32) : Prop := ∀ t, t < n → S.2.1 sr t = nI (N t).length ∧ (N t).length ≤ 24 ∧ dv_rd (fun z => S.2.1 nr (24 * t + z)) (N t).length = N t
/-- the scopes around one another -/
def rAn (S : dv_S) (sn : Nat) (an : Nat → Nat → Bool) : Prop := ∀ s, s < sn → an s s = true ∧ (∀ q, q < sn → an s q = true → q ≤ s) ∧ ((S.2.1 518 s = -1 ∧ ∀ q, q < sn → q ≠ s → an s q = false) ∨ (∃ p, p < s ∧ S.2.1 518 s = nI p ∧ ∀ q, q < sn → q ≠ s → an s q = an p q))
def rw_T (S : dv_S) (n : Nat) : Prop := S.1 516 5 = nI n ∧ n ≤ 80
def rw_S (S : dv_S) (n sn : Nat) (hm : Nat → Nat) (an : Nat → Nat → Bool) : Prop := S.1 516 4 = nI sn ∧ sn ≤ 20 ∧ (∀ t, t < n → S.2.1 519 t = nI (hm t) ∧ hm t < sn) ∧ rAn S sn an
def rw_U (S : dv_S) (n sn un : Nat) (us ut : Nat → Nat) : Prop := S.1 516 6 = nI un ∧ un ≤ 150 ∧ ∀ u, u < un → S.2.1 522 u = nI (us u) ∧ us u < sn ∧ S.2.1 523 u = nI (ut u) ∧ ut u < n
theorem mo_1 {S : dv_S} {n sn p s : Nat} {hm : Nat → Nat} {an : Nat → Nat → Bool} {N : Nat → List Int32} {L : List Int32} (hS : rw_S S n sn hm an) (hx : ∀ x, x ≤ s → an p x = an s x) (hc : ∀ t, t < n → (fun t => an p (hm t) && decide (N t = L)) t = true → hm t ≤ s) (hi : ∀ j, j < n → ¬ (hm j = s ∧ N j = L)) (hq : ∀ q, q < sn → q ≠ s → an s q = false) : ∀ t, t < n → (fun t => an p (hm t) && decide (N t = L)) t = false := by
  intro t ht
  cases hk : (fun t => an p (hm t) && decide (N t = L)) t with
  | false => rfl
  | true =>
    exfalso
    have h1 := hc t ht hk
    have hk2 : an p (hm t) = true ∧ N t = L := by simpa using hk
    by_cases hs : hm t = s
    · exact hi t ht ⟨hs, hk2.2⟩
    · have := hq (hm t) (hS.2.2.1 t ht).2 hs
      rw [← hx _ h1, hk2.1] at this; cases this
theorem mo_2 {S : dv_S} {n sn p s r : Nat} {hm : Nat → Nat} {an : Nat → Nat → Bool} {N : Nat → List Int32} {L : List Int32} (hS : rw_S S n sn hm an) (hs : s < sn) (hx : ∀ x, x ≤ s → an p x = an s x) (hc : ∀ t, t < n → (fun t => an p (hm t) && decide (N t = L)) t = true → hm t ≤ s) (hi : ∀ j, j < n → ¬ (hm j = s ∧ N j = L)) (hr : r < s) (hq : ∀ q, q < sn → q ≠ s → an s q = an r q) : an p r = true ∧ (∀ x, x ≤ r → an p x = an r x) ∧ (∀ t, t < n → (fun t => an p (hm t) && decide (N t = L)) t = true → hm t ≤ r) := by
  have hA := hS.2.2.2
  refine ⟨?_, fun x hx2 => ?_, fun t ht hk => ?_⟩
  · rw [hx r (by omega), hq r (by omega) (by omega)]; exact (hA r (by omega)).1
  · rw [hx x (by omega), hq x (by omega) (by omega)]
  · have h1 := hc t ht hk
    have hk2 : an p (hm t) = true ∧ N t = L := by simpa using hk
    by_cases he : hm t = s
    · exact absurd ⟨he, hk2.2⟩ (hi t ht)
    · have h3 := hk2.1
      rw [hx _ h1, hq _ (hS.2.2.1 t ht).2 he] at h3
      exact (hA r (by omega)).2.1 _ (hS.2.2.1 t ht).2 h3
theorem mo_3 {n p s t : Nat} {hm : Nat → Nat} {an : Nat → Nat → Bool} {N : Nat → List Int32} {L : List Int32} (ha : an p s = true) (hc : ∀ t, t < n → (fun t => an p (hm t) && decide (N t = L)) t = true → hm t ≤ s) (ht : t < n) (h1 : hm t = s) (h2 : N t = L) (hi : ∀ j, j < t → ¬ (hm j = s ∧ N j = L)) : cl_tm hm (fun t => an p (hm t) && decide (N t = L)) n = some t := by
  rw [cl_tm_some]
  refine ⟨ht, by simp [h1, ha, h2], fun j hj hk => by rw [h1]; exact hc j hj hk, fun j hj hk => ?_⟩
  have h3 := hc j (by omega) hk
  have hk2 : an p (hm j) = true ∧ N j = L := by simpa using hk
  have : hm j ≠ s := fun q => hi j hj ⟨q, hk2.2⟩
  omega
theorem mt_1 {S : dv_S} {sn u s r q h : Nat} {an : Nat → Nat → Bool} (hA : rAn S sn an) (hs : s < sn) (hq : q < sn) (hh : h < sn) (hx : ∀ x, x ≤ s → an u x = an s x) (has : an u s = true) (hah : an u h = true) (hhs : h ≤ s) (hne : ¬ s = h) (hr : r < s) (hy : ∀ x, x < sn → x ≠ s → an s x = an r x) : h ≤ r ∧ an u r = true ∧ (∀ x, x ≤ r → an u x = an r x) ∧ ((an u q && decide (s < q)) || decide (s = q)) = (an u q && decide (r < q)) := by
  have h1 : an r h = true := by rw [← hy h hh (by omega), ← hx h hhs]; exact hah
  have h2 := (hA r (by omega)).2.1 h hh h1
  refine ⟨h2, ?_, fun x hx2 => ?_, ?_⟩
  · rw [hx r (by omega), hy r (by omega) (by omega)]; exact (hA r (by omega)).1
  · rw [hx x (by omega), hy x (by omega) (by omega)]
  · by_cases hsq : s = q
    · subst hsq; rw [has]; simp [hr]
    · by_cases hlt : s < q
      · have : r < q := by omega
        simp [hsq, hlt, this]
      · rw [decide_eq_false hlt, decide_eq_false hsq, Bool.and_false, Bool.false_or]
        by_cases hrq : r < q
        · have h3 : an u q = false := by
            cases hk : an u q with
            | false => rfl
            | true =>
              rw [hx q (by omega), hy q hq (by omega)] at hk
              have := (hA r (by omega)).2.1 q hq hk
              omega
          rw [h3]; rfl
        · rw [decide_eq_false hrq, Bool.and_false]
def dv_ex (p : Nat → Bool) : Nat → Bool
  | 0 => false
  | i + 1 => dv_ex p i || p i
theorem dv_ex_iff {p : Nat → Bool} : ∀ {n : Nat}, dv_ex p n = true ↔ ∃ j, j < n ∧ p j = true
  | 0 => by simp [dv_ex]
  | n + 1 => by
    rw [dv_ex, Bool.or_eq_true, dv_ex_iff]
    constructor
    · rintro (⟨j, hj, hp⟩ | hp)
      · exact ⟨j, by omega, hp⟩
      · exact ⟨n, by omega, hp⟩
    · rintro ⟨j, hj, hp⟩
      by_cases h : j = n
      · subst h; exact Or.inr hp
      · exact Or.inl ⟨j, by omega, hp⟩
theorem dv_fo_iff {p : Nat → Bool} {n : Nat} : (dv_fo p n).isSome = true ↔ ∃ j, j < n ∧ p j = true := by
  constructor
  · intro h
    cases hc : dv_fo p n with
    | none => rw [hc] at h; cases h
    | some j => exact ⟨j, (dv_fo_spec hc).1, (dv_fo_spec hc).2.1⟩
  · rintro ⟨j, hj, hp⟩; exact dv_fo_yes hj hp
theorem dv_ex_fo (p : Nat → Bool) (n : Nat) : dv_ex p n = (dv_fo p n).isSome := by rw [Bool.eq_iff_iff, dv_ex_iff, dv_fo_iff]
theorem dv_fo_cong {p q : Nat → Bool} {n : Nat} (h : ∀ j, j < n → p j = q j) : dv_fo p n = dv_fo q n := by
  cases hc : dv_fo q n with
  | none => exact dv_fo_none (fun j hj => (h j hj).trans (dv_fo_no hc j hj))
  | some i =>
    obtain ⟨h1, h2, h3⟩ := dv_fo_spec hc
    exact dv_fo_some h1 ((h i h1).trans h2) (fun j hj => (h j (by omega)).trans (h3 j hj))
/-- the tape taken -/
abbrev rK (S : dv_S) : dv_S := (dv_u S.1 516 3 0, S.2)
/-- a new thing -/
def rTh (S : dv_S) (n q : Nat) (y : Int32) (k i : Nat) : dv_S := (S.1, dv_ro (dv_u (dv_u (dv_u S.2.1 519 n (nI q)) 520 n y) 521 n (nI k)) 524 (24 * n) (fun j => (S.2.1 517 j).toInt8.toInt32) i, S.2.2)
theorem rTh_row (S : dv_S) (n q : Nat) (y : Int32) (k i : Nat) {a : Nat} (h : a ≠ 519 ∧ a ≠ 520 ∧ a ≠ 521 ∧ a ≠ 524) : (rTh S n q y k i).2.1 a = S.2.1 a := by
  show dv_ro (dv_u (dv_u (dv_u S.2.1 519 n (nI q)) 520 n y) 521 n (nI k)) 524 (24 * n) (fun j => (S.2.1 517 j).toInt8.toInt32) i a = _
  rw [dv_ro_row h.2.2.2, dv_u_row _ _ h.2.2.1, dv_u_row _ _ h.2.1, dv_u_row _ _ h.1]
def rThE (S : dv_S) (n q : Nat) (y : Int32) (k : Nat) : dv_S := (dv_u (dv_u S.1 516 5 (nI (n + 1))) 516 36 0, dv_u (rTh S n q y k k).2.1 535 n 0, S.2.2)
def rUs (S : dv_S) (un q u : Nat) : dv_S := (dv_u (dv_u S.1 516 6 (nI (un + 1))) 516 36 0, dv_u (dv_u S.2.1 522 un (nI q)) 523 un (nI u), S.2.2)
def rSc (S : dv_S) (p n : Nat) : dv_S := (dv_u S.1 516 4 (nI (n + 1)), dv_u S.2.1 518 n (nI p), S.2.2)
theorem dv_oi_ge {o : Option Nat} (h : ∀ j, o = some j → j < 2 ^ 31) : 0 ≤ dv_oi o ↔ o.isSome = true := by
  cases o with
  | none => simp [dv_oi]
  | some j => simp [dv_oi, nI_pos' (h j rfl)]
