/-- the fresh house and the fresh reference agree -/
theorem Rel_0 {L : Int32} {xs : Nat → Int32} {S : dv_S} (h1 : A_scr L xs S) (h2 : S.1 516 1 = S.1 0 14) (t1 : S.1 1 1 = 0) (t2 : S.1 516 3 = 0) (s1 : S.1 19 1 = 1) (s2 : S.1 516 4 = 1) (s3 : S.2.1 20 0 = 1) (s4 : S.2.1 518 0 = -1) (n1 : S.1 21 3 = 0) (n2 : S.1 516 5 = 0) (u1 : S.1 185 2 = 0) (u2 : S.1 516 6 = 0) (w1 : S.1 13 5 = 0) (w2 : S.1 516 17 = 0) (o1 : S.1 7 1 = 0) (o2 : S.1 516 26 = 0) (p1 : S.1 188 2 = 0) (p2 : ∀ t, t < 80 → S.2.1 189 t = 0) (b1 : S.1 0 13 = 0) (b2 : S.1 516 36 = 0) : Rel L xs S := by
  have hw : wi S 0 0 = true := by unfold wi; rw [s3]; decide
  refine ⟨0, 1, 0, 0, 0, fun _ _ => 0, fun _ => 0, h1, h2, ⟨t1, by decide, t2, fun k hk => absurd hk (Nat.not_lt_zero k)⟩, ⟨s1, by decide, by decide, s2, ?_, ?_⟩, ⟨⟨n1, n2, by decide⟩, fun t ht => absurd ht (Nat.not_lt_zero t)⟩, ⟨⟨u1, u2, by decide⟩, fun t ht => absurd ht (Nat.not_lt_zero t)⟩, ⟨⟨w1, w2, by decide⟩, fun t ht => absurd ht (Nat.not_lt_zero t)⟩, ⟨0, by decide, o1, o2, fun t ht => absurd ht (Nat.not_lt_zero t)⟩, ⟨fun t ht q => absurd (p2 t ht) q, ?_, fun t ht => absurd ht (Nat.not_lt_zero t)⟩, ⟨fun t ht => absurd ht (Nat.not_lt_zero t), fun t ht => absurd ht (Nat.not_lt_zero t)⟩, ⟨by rw [b1, b2], fun q => absurd b1 q⟩⟩
  · intro s hs
    obtain rfl : s = 0 := by omega
    refine ⟨hw, fun q hq _ => by omega, Or.inl ⟨s4, fun q hq z => absurd (by omega : q = 0) z⟩⟩
  · intro s hs
    obtain rfl : s = 0 := by omega
    exact ⟨1, by decide, s3⟩
  · rw [dv_ct_cong (q := fun _ => false) (fun t ht => by rw [p2 t ht]; decide), dv_ct_ff]; exact p1
