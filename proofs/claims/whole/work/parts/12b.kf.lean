theorem dv_up {n : Nat} {P : Nat → Prop} (h : ∀ i, i ≤ n → (∀ j, i < j → j ≤ n → P j) → P i) : ∀ i, i ≤ n → P i := by
  have key : ∀ k i, n - i < k → i ≤ n → P i := by
    intro k
    induction k with
    | zero => intro i hk; omega
    | succ k ih =>
      intro i hk hi
      exact h i hi (fun j h1 h2 => ih j (by omega) h2)
  intro i hi
  exact key (n - i + 1) i (by omega) hi
theorem dv_ge {n i : Nat} (hi : i ≤ n) (hn : n < 2 ^ 31) (h : nI n ≤ nI i) : i = n := by
  rw [nI_leI hn (by omega)] at h; omega
theorem dv_nge {n i : Nat} (hi : i ≤ n) (hn : n < 2 ^ 31) (h : ¬ nI n ≤ nI i) : i < n := by
  rw [nI_leI hn (by omega)] at h; omega
/-- the first n of a row -/
def dv_rd (f : Nat → Int32) (n : Nat) : List Int32 := (List.range n).map f
theorem dv_rd_s (f : Nat → Int32) (n : Nat) : dv_rd f (n + 1) = dv_rd f n ++ [f n] := by simp [dv_rd, List.range_succ]
theorem dv_rd_0 (f : Nat → Int32) : dv_rd f 0 = [] := rfl
theorem dv_rd_len (f : Nat → Int32) (n : Nat) : (dv_rd f n).length = n := by simp [dv_rd]
theorem dv_rd_at {f : Nat → Int32} {n i : Nat} (h : i < n) : (dv_rd f n)[i]? = some (f i) := by simp [dv_rd, h]
theorem dv_rd_eq {f g : Nat → Int32} {n m : Nat} : dv_rd f n = dv_rd g m ↔ n = m ∧ ∀ i, i < n → f i = g i := by
  constructor
  · intro h
    have hl : n = m := by have := congrArg List.length h; simpa [dv_rd_len] using this
    subst hl
    refine ⟨rfl, fun i hi => ?_⟩
    have h1 := dv_rd_at (f := f) hi
    rw [h, dv_rd_at hi] at h1
    exact (Option.some.inj h1).symm
  · rintro ⟨rfl, h⟩
    refine List.map_congr_left fun i hi => h i (List.mem_range.mp hi)
/-- the first n of row a are g's -/
def dv_rw (f : Nat → Nat → Int32) (a : Nat) (g : Nat → Int32) (n : Nat) : Nat → Nat → Int32 := fun x y => if x = a ∧ y < n then g y else f x y
theorem dv_rw_0 (f : Nat → Nat → Int32) (a : Nat) (g : Nat → Int32) : dv_rw f a g 0 = f := by funext x y; simp [dv_rw]
theorem dv_rw_s (f : Nat → Nat → Int32) (a : Nat) (g : Nat → Int32) (n : Nat) : dv_u (dv_rw f a g n) a n (g n) = dv_rw f a g (n + 1) := by
  funext x y
  simp only [dv_u, dv_rw]
  by_cases h : x = a
  · subst h
    by_cases h2 : y = n
    · subst h2; simp
    · by_cases h3 : y < n
      · simp [h2, h3]; intro h4; omega
      · have h4 : ¬ y < n + 1 := by omega
        simp [h2, h3, h4]
  · simp [h]
theorem dv_rw_row {f : Nat → Nat → Int32} {a x : Nat} {g : Nat → Int32} {n : Nat} (h : x ≠ a) : dv_rw f a g n x = f x := by funext y; simp [dv_rw, h]
theorem dv_uu {α : Type} (f : Nat → Nat → α) (a k : Nat) (v w : α) : dv_u (dv_u f a k v) a k w = dv_u f a k w := by
  funext x y; simp only [dv_u]; split <;> rfl
theorem dv_us {α : Type} (f : Nat → Nat → α) {a k a' k' : Nat} (v w : α) (h : ¬ (a = a' ∧ k = k')) : dv_u (dv_u f a k v) a' k' w = dv_u (dv_u f a' k' w) a k v := by
  funext x y; simp only [dv_u]
  by_cases h1 : x = a ∧ y = k
  · obtain ⟨rfl, rfl⟩ := h1
    simp [h]
  · simp [h1]
theorem dv_ui {α : Type} (f : Nat → Nat → α) (a k : Nat) (v : α) (h : f a k = v) : dv_u f a k v = f := by
  funext x y; simp only [dv_u]; split
  · rename_i q; obtain ⟨rfl, rfl⟩ := q; exact h.symm
  · rfl
def ch_s (x : Int32) : Bool := decide (97 ≤ x ∧ x ≤ 122)
def ch_g (x : Int32) : Bool := decide (65 ≤ x ∧ x ≤ 90)
def ch_d (x : Int32) : Bool := decide (48 ≤ x ∧ x ≤ 57)
def ch_l (x : Int32) : Bool := ch_s x || ch_g x
def ch_n (x : Int32) : Bool := ch_l x || ch_d x || decide (x = 95)
/-- a NAME -/
def nm_ok (l : List Int32) : Bool := decide (1 ≤ l.length ∧ l.length ≤ 24) && !(ch_d (l.headD 0)) && l.all ch_n && l.any ch_l
/-- a WORD's letters -/
def wd_ok (l : List Int32) : Bool := decide (1 ≤ l.length ∧ l.length ≤ 12) && l.all ch_s

theorem dv_idx {x m : Int32} {n : Nat} (hm : m = nI n) (hn : n < 2 ^ 31) (h : decide (0 ≤ x ∧ x < m) = true) : ∃ j : Nat, j < n ∧ x = nI j := by
  have h := of_decide_eq_true h
  subst hm
  rcases pk_ix x hn with q | q | q
  · exact absurd h.1 (Int32.not_le.mpr q)
  · exact absurd h.2 (Int32.not_lt.mpr q)
  · exact q
/-- place x of a row of n, or 0 -/
def dv_gx (f : Nat → Int32) (n : Nat) (x : Int32) : Int32 := if 0 ≤ x ∧ x < nI n then f x.toNatClampNeg else 0
theorem dv_gx_in {f : Nat → Int32} {n j : Nat} (hj : j < n) (hn : n < 2 ^ 31) : dv_gx f n (nI j) = f j := by
  unfold dv_gx
  rw [if_pos ⟨nI_pos' (by omega), nI_lt hj hn⟩, nI_clamp (by omega)]
theorem dv_gx_out {f : Nat → Int32} {n : Nat} {x : Int32} (h : decide (0 ≤ x ∧ x < nI n) = false) : dv_gx f n x = 0 := by
  unfold dv_gx
  rw [if_neg (of_decide_eq_false h)]
theorem dv_gx_ge {f : Nat → Int32} {n j : Nat} (hj : n ≤ j) (hn : j < 2 ^ 31) : dv_gx f n (nI j) = 0 := by
  unfold dv_gx
  rw [if_neg]
  rintro ⟨-, h⟩
  exact nI_nlt hj hn h
/-- a byte behind a text -/
def dv_ap (S : dv_S) (a n : Nat) (b : Int32) : dv_S := (dv_u S.1 a 1 (nI (n + 1)), dv_u S.2.1 (a + 1) n b, S.2.2)
theorem dv_ap_n (S : dv_S) (a n : Nat) (b : Int32) : (dv_ap S a n b).1 a 1 = nI (n + 1) := by simp [dv_ap, dv_u]
/-- a text is the first i of g -/
def dv_tx (S : dv_S) (a i : Nat) (g : Nat → Int32) : dv_S := (dv_u (dv_u S.1 a 1 (nI i)) a 2 0, dv_rw S.2.1 (a + 1) g i, S.2.2)
theorem dv_tx_n (S : dv_S) (a i : Nat) (g : Nat → Int32) : (dv_tx S a i g).1 a 1 = nI i := by simp [dv_tx, dv_u]
theorem dv_tx_0 (S : dv_S) (a : Nat) (g : Nat → Int32) : (dv_u (dv_u S.1 a 1 0) a 2 0, S.2) = dv_tx S a 0 g := by simp [dv_tx, dv_rw_0, nI_0]
theorem dv_tx_s (S : dv_S) (a i : Nat) (g : Nat → Int32) : dv_ap (dv_tx S a i g) a i (g i) = dv_tx S a (i + 1) g := by
  simp only [dv_ap, dv_tx, dv_rw_s]
  rw [dv_us _ (a := a) (k := 2) _ _ (by simp), dv_uu]
theorem dv_all_s (p : Int32 → Bool) (f : Nat → Int32) (i : Nat) : (dv_rd f (i + 1)).all p = ((dv_rd f i).all p && p (f i)) := by simp [dv_rd_s]
theorem dv_any_s (p : Int32 → Bool) (f : Nat → Int32) (i : Nat) : (dv_rd f (i + 1)).any p = ((dv_rd f i).any p || p (f i)) := by simp [dv_rd_s]
theorem dv_all_le {p : Int32 → Bool} {f : Nat → Int32} {i n : Nat} (h : i < n) (hp : p (f i) = false) : (dv_rd f n).all p = false := by
  rw [List.all_eq_false]
  exact ⟨f i, List.mem_map.mpr ⟨i, List.mem_range.mpr h, rfl⟩, by simp [hp]⟩
theorem dv_rd_hd {f : Nat → Int32} {n : Nat} (h : 0 < n) : (dv_rd f n).headD 0 = f 0 := by
  cases n with
  | zero => omega
  | succ n => simp [dv_rd, List.range_succ_eq_map]
/-- is the first letter great -/
def st_gf (l : List Int32) : Bool := match l.find? ch_l with
  | some x => ch_g x
  | none => false
theorem ch_sg {x : Int32} (h : ch_s x = true) : ch_g x = false := by
  simp only [ch_s, ch_g, decide_eq_true_eq, decide_eq_false_iff_not, Int32.le_iff_toInt_le] at *
  have e1 : (97 : Int32).toInt = 97 := by decide
  have e2 : (90 : Int32).toInt = 90 := by decide
  omega
theorem st_gf_s (l : List Int32) (x : Int32) : st_gf (l ++ [x]) = (st_gf l || (ch_g x && !l.any ch_s)) := by
  induction l with
  | nil =>
    simp only [st_gf, List.nil_append, List.find?_cons, List.find?_nil, List.any_nil, Bool.not_false, Bool.and_true, Bool.false_or]
    cases h : ch_l x with
    | true => rfl
    | false => simp only [ch_l, Bool.or_eq_false_iff] at h; simp [h.2]
  | cons a l ih =>
    by_cases ha : ch_l a = true
    · simp only [st_gf, List.cons_append, List.find?_cons, ha]
      cases hg : ch_g a with
      | true => simp
      | false =>
        have : ch_s a = true := by simpa [ch_l, hg] using ha
        simp [this]
    · have ha' : ch_l a = false := by simpa using ha
      have hs : ch_s a = false := by simp only [ch_l, Bool.or_eq_false_iff] at ha'; exact ha'.1
      simp only [st_gf, List.cons_append, List.find?_cons, ha'] at ih ⊢
      rw [ih]
      simp [hs]
/-- STYLE -/
def st_of (l : List Int32) : Int32 := if (l.any (fun x => decide (x = 95)) && !l.any ch_g) = true then 2 else if (l.any (fun x => decide (x = 95)) && !l.any ch_s) = true then 3 else if st_gf l = true then 1 else 0
/-- a letter made small, made great -/
def ch_lo (x : Int32) : Int32 := if ch_g x = true then x - 65 + 97 else x
def ch_up (x : Int32) : Int32 := if ch_s x = true then x - 97 + 65 else x
theorem dv_n24 : (24 : Int32) = nI 24 := by decide
theorem dv_n12 : (12 : Int32) = nI 12 := by decide
theorem dv_n60 : (60 : Int32) = nI 60 := by decide
theorem dv_n80 : (80 : Int32) = nI 80 := by decide
theorem dv_n20 : (20 : Int32) = nI 20 := by decide
theorem dv_n150 : (150 : Int32) = nI 150 := by decide
theorem dv_n200 : (200 : Int32) = nI 200 := by decide
theorem dv_n1 : (1 : Int32) = nI 1 := by decide
/-- the first place below n where p holds -/
def dv_fo (p : Nat → Bool) (n : Nat) : Option Nat := (List.range n).find? p
theorem dv_fo_some {p : Nat → Bool} {n i : Nat} (hi : i < n) (hp : p i = true) (h : ∀ j, j < i → p j = false) : dv_fo p n = some i := by
  unfold dv_fo
  rw [List.find?_range_eq_some]
  exact ⟨hp, List.mem_range.mpr hi, fun j hj => by simp [h j hj]⟩
theorem dv_fo_none {p : Nat → Bool} {n : Nat} (h : ∀ j, j < n → p j = false) : dv_fo p n = none := by
  unfold dv_fo
  rw [List.find?_eq_none]
  intro x hx
  simp [h x (List.mem_range.mp hx)]
theorem dv_fo_spec {p : Nat → Bool} {n i : Nat} (h : dv_fo p n = some i) : i < n ∧ p i = true ∧ ∀ j, j < i → p j = false := by
  unfold dv_fo at h
  rw [List.find?_range_eq_some] at h
  exact ⟨List.mem_range.mp h.2.1, h.1, fun j hj => by simpa using h.2.2 j hj⟩
theorem dv_fo_no {p : Nat → Bool} {n : Nat} (h : dv_fo p n = none) : ∀ j, j < n → p j = false := by
  unfold dv_fo at h
  rw [List.find?_eq_none] at h
  intro j hj
  simpa using h j (List.mem_range.mpr hj)
def dv_oi (o : Option Nat) : Int32 := match o with
  | some j => nI j
  | none => -2
/-- how many below n -/
def dv_ct (p : Nat → Bool) : Nat → Nat
  | 0 => 0
  | n + 1 => dv_ct p n + (if p n then 1 else 0)
theorem dv_ct_le (p : Nat → Bool) : ∀ n, dv_ct p n ≤ n
  | 0 => Nat.le_refl _
  | n + 1 => by
    have := dv_ct_le p n
    simp only [dv_ct]
    split <;> omega
theorem dv_ct_t {p : Nat → Bool} {n : Nat} (h : p n = true) : nI (dv_ct p n) + 1 = nI (dv_ct p (n + 1)) := by simp [dv_ct, h, nI_1]
theorem dv_ct_f {p : Nat → Bool} {n : Nat} (h : p n = false) : nI (dv_ct p n) = nI (dv_ct p (n + 1)) := by simp [dv_ct, h]
theorem dv_ct_cong {p q : Nat → Bool} : ∀ {n : Nat}, (∀ k, k < n → p k = q k) → dv_ct p n = dv_ct q n
  | 0, _ => rfl
  | n + 1, h => by rw [dv_ct, dv_ct, dv_ct_cong (fun k hk => h k (by omega)), h n (by omega)]
theorem dv_has {j n : Nat} {m : Int32} (hj : j < n) (hn : m = nI n) (h31 : n < 2 ^ 31) : decide (0 ≤ nI j ∧ nI j < m) = true := by
  subst hn
  exact decide_eq_true ⟨nI_pos' (by omega), nI_lt hj h31⟩
/-- place x of a row of n, or -1 -/
def dv_gm (f : Nat → Int32) (n : Nat) (x : Int32) : Int32 := if 0 ≤ x ∧ x < nI n then f x.toNatClampNeg else -1
theorem dv_gm_in {f : Nat → Int32} {n j : Nat} (hj : j < n) (hn : n < 2 ^ 31) : dv_gm f n (nI j) = f j := by
  unfold dv_gm
  rw [if_pos ⟨nI_pos' (by omega), nI_lt hj hn⟩, nI_clamp (by omega)]
theorem dv_gm_out {f : Nat → Int32} {n : Nat} {x : Int32} (h : decide (0 ≤ x ∧ x < nI n) = false) : dv_gm f n x = -1 := by
  unfold dv_gm
  rw [if_neg (of_decide_eq_false h)]
/-- OPENED, k times at most -/
def dv_op (sh : Int32 → Int32) : Nat → Int32 → Int32
  | 0, x => x
  | k + 1, x => if sh x = -1 then x else dv_op sh k (sh x)
/-- HEAD among the first n: of those of the group of p the first with the greatest u -/
def dv_hd (g u : Nat → Int32) (x : Int32) : Nat → Option Nat
  | 0 => none
  | j + 1 => if (decide (g j = x) && (match dv_hd g u x j with | none => true | some h => decide (u h < u j))) = true then some j else dv_hd g u x j
theorem dv_hd_lt (g u : Nat → Int32) (x : Int32) : ∀ n h, dv_hd g u x n = some h → h < n
  | 0, h, q => by cases q
  | n + 1, h, q => by
    unfold dv_hd at q
    by_cases hc : (decide (g n = x) && (match dv_hd g u x n with | none => true | some h => decide (u h < u n))) = true
    · rw [if_pos hc] at q; cases q; omega
    · rw [if_neg hc] at q; have := dv_hd_lt g u x n h q; omega
theorem dv_oi_lt {o : Option Nat} {n : Nat} (h : ∀ j, o = some j → j < n) (hn : n < 2 ^ 31) : decide (0 ≤ dv_oi o ∧ dv_oi o < nI n) = o.isSome := by
  cases o with
  | none => simp [dv_oi]
  | some j => simp only [dv_oi, Option.isSome]; exact decide_eq_true ⟨nI_pos' (by have := h j rfl; omega), nI_lt (h j rfl) hn⟩
theorem dv_oi_m2 {o : Option Nat} (h : ∀ j, o = some j → j < 2 ^ 31) : dv_oi o = -2 ↔ o = none := by
  cases o with
  | none => simp [dv_oi]
  | some j =>
    simp only [dv_oi, reduceCtorEq, iff_false]
    intro q
    have := nI_pos (h j rfl)
    rw [q] at this
    exact this (by decide)
theorem dv_ct_sf {p : Nat → Bool} {n : Nat} (h : p n = false) : dv_ct p (n + 1) = dv_ct p n := by simp [dv_ct, h]
theorem dv_ct_st {p : Nat → Bool} {n : Nat} (h : p n = true) : dv_ct p (n + 1) = dv_ct p n + 1 := by simp [dv_ct, h]
theorem dv_hd_n {g u : Nat → Int32} {x : Int32} {j : Nat} (h : ¬ g j = x) : dv_hd g u x (j + 1) = dv_hd g u x j := by
  rw [dv_hd]; simp [h]
theorem dv_hd_0 {g u : Nat → Int32} {x : Int32} {j : Nat} (h : g j = x) (h0 : dv_hd g u x j = none) : dv_hd g u x (j + 1) = some j := by
  rw [dv_hd, h0]; simp [h]
theorem dv_hd_y {g u : Nat → Int32} {x : Int32} {j k : Nat} (h : g j = x) (h0 : dv_hd g u x j = some k) (hu : u k < u j) : dv_hd g u x (j + 1) = some j := by
  rw [dv_hd, h0]; simp [h, hu]
theorem dv_hd_k {g u : Nat → Int32} {x : Int32} {j k : Nat} (h : g j = x) (h0 : dv_hd g u x j = some k) (hu : ¬ u k < u j) : dv_hd g u x (j + 1) = dv_hd g u x j := by
  rw [dv_hd, h0]; simp [h, hu]
/-- a rename counts again -/
def dv_pa (o ia : Nat) (S : dv_S) (j : Nat) : dv_S := if S.2.1 ia j = 0 then (dv_u S.1 o 2 (S.1 o 2 + 1), dv_u S.2.1 ia j 1, S.2.2) else S
theorem dv_b_inj {p q : Bool} : dv_b p = dv_b q ↔ p = q := by cases p <;> cases q <;> decide
/-- the PARTS that were cut last -/
def dv_cut (S : dv_S) (c : Nat) (fr to : Nat → Nat) : Prop := S.1 9 4 = nI c ∧ c ≤ 24 ∧ ∀ i, i < c → S.2.1 11 i = nI (fr i) ∧ S.2.1 12 i = nI (to i) ∧ fr i < to i ∧ to i ≤ 24
/-- is there a cut between l and r (x behind r) -/
def cu_a (l r x : Int32) : Bool := (ch_d l != ch_d r) || (ch_g r && (ch_s l || (ch_g l && ch_s x)))
/-- letters as a number -/
def cu_k (f : Nat → Int32) : Nat → Int64
  | 0 => 0
  | n + 1 => cu_k f n * 32 + (f n - 97 + 1).toInt64
theorem dv_n0 : (0 : Int32) = nI 0 := by decide
theorem dv_p1 {i : Nat} (h : 0 < i) : nI i - 1 = nI (i - 1) := by
  obtain ⟨j, rfl⟩ : ∃ j, i = j + 1 := ⟨i - 1, by omega⟩
  rw [nI_pred]; rfl
