/-- the same but for what is scratch in the class: the cut, USED's row, the patterns -/
def sc (S S' : dv_S) : Prop := (∀ a k, ¬ (a = 9 ∧ k = 4) → S'.1 a k = S.1 a k) ∧ (∀ a, a ≠ 10 → a ≠ 11 → a ≠ 12 → a ≠ 18 → a ≠ 515 → S'.2.1 a = S.2.1 a) ∧ S'.2.2 = S.2.2
theorem sc.rf (S : dv_S) : sc S S := ⟨fun _ _ _ => rfl, fun _ _ _ _ _ _ => rfl, rfl⟩
theorem sc.tr {S S' S'' : dv_S} (h : sc S S') (h' : sc S' S'') : sc S S'' := ⟨fun a k q => (h'.1 a k q).trans (h.1 a k q), fun a a1 a2 a3 a4 a5 => (h'.2.1 a a1 a2 a3 a4 a5).trans (h.2.1 a a1 a2 a3 a4 a5), h'.2.2.trans h.2.2⟩
theorem dv_spl.sc {S S' : dv_S} {f : Nat → Int32} {n : Nat} (h : dv_spl S f n S') : sc S S' := ⟨fun a k q => by rw [h.1, dv_u_ne _ _ q], fun a a1 a2 a3 _ _ => h.2.1 a a1 a2 a3, h.2.2.1⟩
theorem sc.row {S S' : dv_S} (h : sc S S') {a : Nat} (h1 : dv_kd a = 4) : S'.2.1 (a + 1) = S.2.1 (a + 1) := by
  refine h.2.1 (a + 1) ?_ ?_ ?_ ?_ ?_
  · intro q; rw [show a = 9 by omega, kd_9] at h1; cases h1
  · intro q; rw [show a = 10 by omega, kd_10] at h1; cases h1
  · intro q; rw [show a = 11 by omega, kd_11] at h1; cases h1
  · intro q; rw [show a = 17 by omega, kd_17] at h1; cases h1
  · intro q; rw [show a = 514 by omega, kd_514] at h1; cases h1
theorem sc.txe {S S' : dv_S} (h : sc S S') {a : Nat} (h1 : dv_kd a = 4) : tx S' a = tx S a := by
  unfold tx
  rw [h.row h1, h.1 a 1 (by omega)]
theorem sc.tle {S S' : dv_S} (h : sc S S') {a : Nat} (h1 : tl S a) : tl S' a := by
  unfold tl
  rw [h.1 a 1 (by omega)]; exact h1
theorem sc.T {S S' : dv_S} (h : sc S S') {n : Nat} (hT : cw_T S n) : cw_T S' n := by
  refine ⟨by rw [h.1 21 3 (by omega)]; exact hT.1, hT.2.1, fun t ht => ⟨h.tle (hT.2.2 t ht).1, fun q => h.tle ((hT.2.2 t ht).2 ?_)⟩⟩
  rw [h.2.1 189 (by decide) (by decide) (by decide) (by decide) (by decide)] at q; exact q
theorem sc.w {S S' : dv_S} (h : sc S S') (w : Nat) (f : Nat → Int32) (n i : Nat) : pk_w S' w f n i = pk_w S w f n i := by
  unfold pk_w; rw [h.2.2]
theorem sc.p {S S' : dv_S} (h : sc S S') (w : Nat) (f : Nat → Int32) (n : Nat) : ∀ k, pk_p S' w f n k = pk_p S w f n k
  | 0 => rfl
  | k + 1 => by rw [pk_p, pk_p, h.p w f n k, h.w, h.2.1 15 (by decide) (by decide) (by decide) (by decide) (by decide)]
/-- PATTERN of thing t -/
def ptS (S : dv_S) (w t : Nat) : Int32 := pk_p S w (S.2.1 (25 + 2 * t + 1)) (dn (S.1 (25 + 2 * t) 1)) (min (cu (S.2.1 (25 + 2 * t + 1)) (dn (S.1 (25 + 2 * t) 1)) (dn (S.1 (25 + 2 * t) 1))).1 4)
theorem sc.pt {S S' : dv_S} (h : sc S S') (w : Nat) {t : Nat} (ht : t < 80) : ptS S' w t = ptS S w t := by
  unfold ptS
  rw [h.row (kd_T ht).1, h.1 (25 + 2 * t) 1 (by omega), h.p]
