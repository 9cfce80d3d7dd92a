theorem cu_ft (f : Nat → Int32) (n : Nat) : ∀ i j, j < (cu f n i).1 → (cu f n i).2.1 j < (cu f n i).2.2 j ∧ (cu f n i).2.2 j ≤ i
  | 0, j, h => absurd h (Nat.not_lt_zero j)
  | i + 1, j, h => by
    have ih := cu_ft f n i
    by_cases hf : f i = 95
    · rw [cu_1 hf] at h ⊢
      have := ih j h; omega
    · cases hb : cu_b f n i with
      | true =>
        rw [cu_2 hf hb] at h ⊢
        have h : j < (cu f n i).1 + 1 := h
        show cu_u _ _ _ j < cu_u _ _ _ j ∧ cu_u _ _ _ j ≤ i + 1
        by_cases hj : j = (cu f n i).1
        · subst hj; rw [cu_us, cu_us]; omega
        · rw [cu_un _ _ hj, cu_un _ _ hj]
          have := ih j (by omega); omega
      | false =>
        rw [cu_3 hf hb] at h ⊢
        have h : j < (cu f n i).1 := h
        have h2 := ih j h
        show (cu f n i).2.1 j < cu_u _ _ _ j ∧ cu_u _ _ _ j ≤ i + 1
        by_cases hj : j = (cu f n i).1 - 1
        · subst hj; rw [cu_us]; omega
        · rw [cu_un _ _ hj]; omega
theorem dv_spl_cut {S S' : dv_S} {f : Nat → Int32} {n : Nat} (h : dv_spl S f n S') (hn : n ≤ 24) : dv_cut S' (cu f n n).1 (cu f n n).2.1 (cu f n n).2.2 := by
  obtain ⟨h1, h2, h3, h4, h5, -⟩ := h
  have hc := cu_le f n n
  refine ⟨by rw [h1, dv_u_eq], by omega, fun i hi => ?_⟩
  have h6 := cu_ft f n n i hi
  exact ⟨(h5 i hi).1, (h5 i hi).2, h6.1, by omega⟩
theorem cu_k_cong {f g : Nat → Int32} : ∀ {n : Nat}, (∀ k, k < n → f k = g k) → cu_k f n = cu_k g n
  | 0, _ => rfl
  | n + 1, h => by rw [cu_k, cu_k, cu_k_cong (fun k hk => h k (by omega)), h n (by omega)]
/-- PART i of a name as a key -/
def pk_k (f : Nat → Int32) (n i : Nat) : Int64 := pk_g f (cu f n n) i
theorem qX1_key (d : Nat) (S S' : dv_S) (f : Nat → Int32) (n i : Nat) (h : dv_spl S f n S') (hn : n ≤ 24) (hi : i < (cu f n n).1) : dv_M yX1_keyOf cX1_keyOf 2 (some .long) (dv_rm (d + 4)) [.ref 9, .int (nI i)] S' (fun r S'' => r = some (.long (pk_k f n i)) ∧ S'' = S') := by
  have h1 := qX1_keyOf (d + 3) S' (cu f n n).1 (cu f n n).2.1 (cu f n n).2.2 i (dv_spl_cut h hn) hi
  rw [h.2.2.2.2.2 i hi] at h1
  exact h1
/-- which WORD PART i of a name is -/
def pk_w (S : dv_S) (w : Nat) (f : Nat → Int32) (n i : Nat) : Option Nat := dv_fo (fun j => decide (S.2.2 14 j = pk_k f n i)) w
/-- its PATTERN, of the first k PARTS -/
def pk_p (S : dv_S) (w : Nat) (f : Nat → Int32) (n : Nat) : Nat → Int32
  | 0 => 0
  | k + 1 => pk_p S w f n k * 16 + (dv_gx (S.2.1 15) w (dv_oi (pk_w S w f n k)) &&& -(dv_gx (S.2.1 15) w (dv_oi (pk_w S w f n k))))
