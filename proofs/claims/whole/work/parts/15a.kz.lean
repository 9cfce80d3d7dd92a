/-- the key of m letters: 0 if they are too many or not all small letters -/
def kz (g : Nat → Int32) (m : Nat) : Int64 := if m ≤ 12 ∧ ∀ k, k < m → ch_s (g k) = true then cu_k g m else 0
theorem kz_y {g : Nat → Int32} {m : Nat} (h : m ≤ 12) (hs : ∀ k, k < m → ch_s (g k) = true) : kz g m = cu_k g m := by
  unfold kz; rw [if_pos ⟨h, hs⟩]
theorem kz_l {g : Nat → Int32} {m : Nat} (h : ¬ m ≤ 12) : kz g m = 0 := by
  unfold kz; rw [if_neg (fun q => h q.1)]
theorem kz_n {g : Nat → Int32} {m k : Nat} (hk : k < m) (hs : ch_s (g k) = false) : kz g m = 0 := by
  unfold kz; rw [if_neg (fun q => by rw [q.2 k hk] at hs; cases hs)]
theorem kz_kc {f g : Nat → Int32} : ∀ {n : Nat}, (∀ k, k < n → f k = g k) → cu_k f n = cu_k g n
  | 0, _ => rfl
  | n + 1, h => by rw [cu_k, cu_k, kz_kc (fun k hk => h k (by omega)), h n (by omega)]
theorem kz_c {f g : Nat → Int32} {m : Nat} (h : ∀ k, k < m → f k = g k) : kz f m = kz g m := by
  by_cases h1 : m ≤ 12
  · by_cases h2 : ∀ k, k < m → ch_s (g k) = true
    · rw [kz_y h1 h2, kz_y h1 (fun k hk => by rw [h k hk]; exact h2 k hk), kz_kc h]
    · unfold kz
      rw [if_neg (fun q => h2 (fun k hk => by rw [← h k hk]; exact q.2 k hk)), if_neg (fun q => h2 q.2)]
  · rw [kz_l h1, kz_l h1]
