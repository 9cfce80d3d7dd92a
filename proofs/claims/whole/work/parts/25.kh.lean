def dn (x : Int32) : Nat := x.toNatClampNeg
theorem dn_nI {n : Nat} (h : n < 2 ^ 31) : dn (nI n) = n := nI_clamp h
/-- a text's size is a size -/
def tl (S : dv_S) (a : Nat) : Prop := S.1 a 1 = nI (dn (S.1 a 1)) ∧ dn (S.1 a 1) ≤ 24
/-- what a text holds -/
def tx (S : dv_S) (a : Nat) : List Int32 := dv_rd (S.2.1 (a + 1)) (dn (S.1 a 1))
/-- where a thing's name lies, now or then -/
def nn (S : dv_S) (th : Bool) (t : Nat) : Nat := if th = true ∧ ¬ S.2.1 189 t = 0 then 191 + 2 * t else 25 + 2 * t
theorem nn_kd (S : dv_S) (th : Bool) {t : Nat} (h : t < 80) : dv_kd (nn S th t) = 4 ∧ dv_kd (nn S th t + 1) = 10 ∧ dv_ln (nn S th t + 1) = 24 := by
  unfold nn; split
  · exact kd_P h
  · exact kd_T h
/-- things: how many, their names -/
def cw_T (S : dv_S) (n : Nat) : Prop := S.1 21 3 = nI n ∧ n ≤ 80 ∧ ∀ t, t < n → tl S (25 + 2 * t) ∧ (¬ S.2.1 189 t = 0 → tl S (191 + 2 * t))
theorem cw_T.tl {S : dv_S} {n t : Nat} (h : cw_T S n) (ht : t < n) (th : Bool) : tl S (nn S th t) := by
  unfold nn; split
  · rename_i q; exact (h.2.2 t ht).2 q.2
  · exact (h.2.2 t ht).1
theorem qX7_nn (d : Nat) (S : dv_S) (j n : Nat) (th : Bool) (hT : cw_T S n) (hj : j < n) : dv_M yX7_nameNowOrThen cX7_nameNowOrThen 3 (some (.object "NameHouse$Text")) (dv_rm (d + 2)) [.ref 0, .int (nI j), .int (dv_b th)] S (fun r S' => r = some (.ref (nn S th j)) ∧ S' = S) := by
  cases th with
  | false =>
    have h := qX7_nameNow d S j n hT.1 hj hT.2.1
    rw [show nn S false j = 25 + 2 * j from if_neg (by simp)]
    exact h
  | true =>
    have h := qX7_nameThen d S j n hT.1 hj hT.2.1
    have e : nn S true j = (if S.2.1 189 j = 0 then 25 + 2 * j else 191 + 2 * j) := by
      unfold nn
      by_cases q : S.2.1 189 j = 0 <;> simp [q]
    rw [e]
    exact h
theorem qX4_sm (d : Nat) (S : dv_S) (a o : Nat) (ha : dv_kd a = 4 ∧ dv_kd (a + 1) = 10 ∧ dv_ln (a + 1) = 24) (ho : dv_kd o = 4 ∧ dv_kd (o + 1) = 10 ∧ dv_ln (o + 1) = 24) (hta : tl S a) (hto : tl S o) : dv_M yX4_same cX4_same 3 (some .boolean) (dv_rm (d + 0)) [.ref a, .ref o] S (fun r S' => r = some (.int (dv_b (decide (tx S a = tx S o)))) ∧ S' = S) :=
  qX4_same d S a o _ _ ha.1 ha.2.1 hta.1 (by rw [ha.2.2]; exact hta.2) ho.1 ho.2.1 hto.1 (by rw [ho.2.2]; exact hto.2)
theorem kd_tk : dv_kd 3 = 4 ∧ dv_kd (3 + 1) = 10 ∧ dv_ln (3 + 1) = 24 := ⟨kd_3, kd_4, ln_4⟩
theorem dv_fo_yes {p : Nat → Bool} {n i : Nat} (hi : i < n) (hp : p i = true) : (dv_fo p n).isSome = true := by
  cases h : dv_fo p n with
  | some j => rfl
  | none => have := dv_fo_no h i hi; rw [hp] at this; cases this
/-- the thing meant: of those that are right the first in the innermost home -/
def cl_tm (hm : Nat → Nat) (ok : Nat → Bool) : Nat → Option Nat
  | 0 => none
  | t + 1 => match cl_tm hm ok t with
    | none => if ok t = true then some t else none
    | some u => if ok t = true ∧ hm u < hm t then some t else some u
def cl_hm (hm : Nat → Nat) (o : Option Nat) : Int32 := match o with
  | none => -1
  | some u => nI (hm u)
theorem cl_tm_lt (hm : Nat → Nat) (ok : Nat → Bool) : ∀ n u, cl_tm hm ok n = some u → u < n
  | 0, u, h => by cases h
  | n + 1, u, h => by
    cases h0 : cl_tm hm ok n with
    | none =>
      simp only [cl_tm, h0] at h
      split at h
      · cases h; omega
      · cases h
    | some w =>
      have := cl_tm_lt hm ok n w h0
      simp only [cl_tm, h0] at h
      split at h
      · cases h; omega
      · cases h; omega
/-- is scope p in scope q -/
def wi (S : dv_S) (p q : Nat) : Bool := decide ((S.2.1 20 p >>> (nI q &&& 31)) &&& 1 = 1)
/-- scopes, and the things' homes -/
def cw_S (S : dv_S) (n sn : Nat) : Prop := S.1 19 1 = nI sn ∧ sn ≤ 20 ∧ ∀ t, t < n → S.2.1 22 t = nI (dn (S.2.1 22 t)) ∧ dn (S.2.1 22 t) < sn
/-- uses -/
def cw_U (S : dv_S) (n sn un : Nat) : Prop := S.1 185 2 = nI un ∧ un ≤ 150 ∧ ∀ u, u < un → S.2.1 186 u = nI (dn (S.2.1 186 u)) ∧ dn (S.2.1 186 u) < sn ∧ S.2.1 187 u = nI (dn (S.2.1 187 u)) ∧ dn (S.2.1 187 u) < n
def hmS (S : dv_S) (t : Nat) : Nat := dn (S.2.1 22 t)
theorem cl_tm_n {hm : Nat → Nat} {ok : Nat → Bool} {t : Nat} (h : ok t = false) : cl_tm hm ok (t + 1) = cl_tm hm ok t := by
  cases h0 : cl_tm hm ok t <;> simp [cl_tm, h0, h]
theorem cl_tm_k {hm : Nat → Nat} {ok : Nat → Bool} {t : Nat} (h : nI (hm t) ≤ cl_hm hm (cl_tm hm ok t)) (h1 : hm t < 2 ^ 31) (h2 : ∀ u, u < t → hm u < 2 ^ 31) : cl_tm hm ok (t + 1) = cl_tm hm ok t := by
  cases h0 : cl_tm hm ok t with
  | none =>
    rw [h0] at h
    exact absurd (show nI (hm t) < 0 from Int32.lt_of_le_of_lt h (show (-1 : Int32) < 0 by decide)) (nI_pos h1)
  | some u =>
    rw [h0] at h
    have hu := cl_tm_lt hm ok t u h0
    have h : nI (hm t) ≤ nI (hm u) := h
    rw [nI_leI h1 (h2 u hu)] at h
    simp only [cl_tm, h0]
    rw [if_neg (by rintro ⟨-, q⟩; omega)]
theorem cl_tm_y {hm : Nat → Nat} {ok : Nat → Bool} {t : Nat} (h : ¬ nI (hm t) ≤ cl_hm hm (cl_tm hm ok t)) (h1 : hm t < 2 ^ 31) (h2 : ∀ u, u < t → hm u < 2 ^ 31) (hk : ok t = true) : cl_tm hm ok (t + 1) = some t := by
  cases h0 : cl_tm hm ok t with
  | none => simp [cl_tm, h0, hk]
  | some u =>
    rw [h0] at h
    have hu := cl_tm_lt hm ok t u h0
    have h : ¬ nI (hm t) ≤ nI (hm u) := h
    rw [nI_leI h1 (h2 u hu)] at h
    simp only [cl_tm, h0]
    rw [if_pos ⟨hk, by omega⟩]
