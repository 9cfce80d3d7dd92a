abbrev rcu (S C : dv_S) (t : Nat) : Prop := S.1 516 16 = nI (pnS C t) ∧ ∀ j, j < pnS C t → S.2.1 525 j = nI ((cu (nfS C t) (nlS C t) (nlS C t)).2.1 j) ∧ S.2.1 526 j = nI ((cu (nfS C t) (nlS C t) (nlS C t)).2.2 j)
theorem rsm_mo {A B : Nat → Int32} {b : Bool} {k n : Nat} (hk : k ≤ n) (h : (b && rsm A B k) = false) : (b && rsm A B n) = false := by
  rw [Bool.and_eq_false_iff] at h ⊢
  rcases h with h | h
  · exact Or.inl h
  · right
    cases hr : rsm A B n with
    | false => rfl
    | true =>
      have := rsm_iff.mpr (fun j hj => rsm_iff.mp hr j (by omega) : ∀ j, j < k → A j = B j)
      rw [h] at this; cases this
theorem RX_wk {S C : dv_S} {n w : Nat} {wl : Nat → Nat → Int32} {wm : Nat → Nat} (hX : RX S C n w wl wm) {t i v : Nat} (ht : t < n) (hi : i < pnS C t) (hv : v < w) : (decide (wm v = (cu (nfS C t) (nlS C t) (nlS C t)).2.2 i - (cu (nfS C t) (nlS C t) (nlS C t)).2.1 i) && rsm (fun z => ch_lo (nfS C t ((cu (nfS C t) (nlS C t) (nlS C t)).2.1 i + z))) (wl v) (wm v)) = decide (C.2.2 14 v = pk_k (nfS C t) (nlS C t) i) := by
  have h1 := hX.2.2.1 t ht
  have h2 := hX.2.2.2 v hv
  rw [h2.2.2.2.2.1]
  exact wk_eq h1.2.1 (fun k hk => (h1.2.2.1 k hk).2) hi h2.2.1 h2.2.2.1 (fun k hk => (h2.2.2.2.1 k hk).2)
theorem dv_op_m2 {g : Nat → Int32} {w : Nat} : ∀ k, dv_op (dv_gm g w) k (-2) = -2
  | 0 => rfl
  | k + 1 => by
    rw [dv_op, if_pos (dv_gm_out (decide_eq_false fun q => absurd q.1 (by decide)))]
/-- from j to m -/
def ryn (p : Int32 → Bool) (f : Nat → Int32) (m j : Nat) : Bool := dv_ex (fun k => decide (j ≤ k) && p (f k)) m
theorem ryn_m (p : Int32 → Bool) (f : Nat → Int32) (m : Nat) : ryn p f m m = false := by
  cases h : ryn p f m m with
  | false => rfl
  | true =>
    obtain ⟨j, hj, hp⟩ := dv_ex_iff.mp h
    rw [Bool.and_eq_true, decide_eq_true_eq] at hp
    omega
theorem ryn_s (p : Int32 → Bool) (f : Nat → Int32) {m j : Nat} (hj : j < m) : ryn p f m j = (ryn p f m (j + 1) || p (f j)) := by
  rw [Bool.eq_iff_iff, Bool.or_eq_true]
  unfold ryn
  rw [dv_ex_iff, dv_ex_iff]
  constructor
  · rintro ⟨k, hk, hp⟩
    rw [Bool.and_eq_true, decide_eq_true_eq] at hp
    by_cases h : k = j
    · subst h; exact Or.inr hp.2
    · exact Or.inl ⟨k, hk, by rw [Bool.and_eq_true, decide_eq_true_eq]; exact ⟨by omega, hp.2⟩⟩
  · rintro (⟨k, hk, hp⟩ | hp)
    · rw [Bool.and_eq_true, decide_eq_true_eq] at hp
      exact ⟨k, hk, by rw [Bool.and_eq_true, decide_eq_true_eq]; exact ⟨by omega, hp.2⟩⟩
    · exact ⟨j, hj, by rw [hp]; simp⟩
theorem ryn_0 (p : Int32 → Bool) (f : Nat → Int32) (m : Nat) : ryn p f m 0 = (dv_rd f m).any p := by
  rw [Bool.eq_iff_iff, List.any_eq_true]
  unfold ryn
  rw [dv_ex_iff]
  constructor
  · rintro ⟨k, hk, hp⟩
    exact ⟨f k, List.mem_map.mpr ⟨k, List.mem_range.mpr hk, rfl⟩, by simpa using hp⟩
  · rintro ⟨x, hx, hp⟩
    obtain ⟨k, hk, rfl⟩ := List.mem_map.mp hx
    exact ⟨k, List.mem_range.mp hk, by simpa using hp⟩
/-- the first letter from j on, or 0 -/
def rfi (f : Nat → Int32) (m j : Nat) : Int32 := match dv_fo (fun k => decide (j ≤ k) && ch_l (f k)) m with
  | some k => f k
  | none => 0
theorem rfi_m (f : Nat → Int32) (m : Nat) : rfi f m m = 0 := by
  unfold rfi
  rw [dv_fo_none (fun k hk => by rw [decide_eq_false (by omega)]; rfl)]
theorem rfi_y {f : Nat → Int32} {m j : Nat} (hj : j < m) (h : ch_l (f j) = true) : rfi f m j = f j := by
  unfold rfi
  rw [dv_fo_some hj (by simp [h]) (fun k hk => by rw [decide_eq_false (by omega)]; rfl)]
theorem rfi_n {f : Nat → Int32} {m j : Nat} (h : ch_l (f j) = false) : rfi f m j = rfi f m (j + 1) := by
  unfold rfi
  rw [dv_fo_cong (q := fun k => decide (j + 1 ≤ k) && ch_l (f k)) (fun k hk => by
    by_cases hkj : k = j
    · subst hkj; simp [h]
    · by_cases hk2 : j ≤ k
      · rw [decide_eq_true hk2, decide_eq_true (by omega)]
      · rw [decide_eq_false hk2, decide_eq_false (by omega)])]
theorem rfi_0 (f : Nat → Int32) (m : Nat) : ch_g (rfi f m 0) = st_gf (dv_rd f m) := by
  unfold rfi st_gf dv_rd
  rw [List.find?_map]
  have e : dv_fo (fun k => decide (0 ≤ k) && ch_l (f k)) m = (List.range m).find? (ch_l ∘ f) := by
    unfold dv_fo
    congr 1
  rw [e]
  cases (List.range m).find? (ch_l ∘ f) with
  | none => exact (by decide : ch_g 0 = false)
  | some k => rfl
theorem st_ryn (f : Nat → Int32) (m : Nat) : st_of (dv_rd f m) = if (ryn (fun x => decide (x = 95)) f m 0 && !ryn ch_g f m 0) = true then 2 else if (ryn (fun x => decide (x = 95)) f m 0 && !ryn ch_s f m 0) = true then 3 else if ch_g (rfi f m 0) = true then 1 else 0 := by
  unfold st_of; rw [ryn_0, ryn_0, ryn_0, rfi_0]
theorem RX_rd {S C : dv_S} {n w t : Nat} {wl : Nat → Nat → Int32} {wm : Nat → Nat} (hX : RX S C n w wl wm) (ht : t < n) : dv_rd (fun z => S.2.1 524 (24 * t + z)) (nlS C t) = tx C (25 + 2 * t) := by
  show _ = dv_rd (nfS C t) (nlS C t)
  rw [dv_rd_eq]
  exact ⟨rfl, fun k hk => ((hX.2.2.1 t ht).2.2.1 k hk).1⟩
