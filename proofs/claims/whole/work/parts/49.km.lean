/-- the reference's things and words are those of C -/
def RX (S C : dv_S) (n w : Nat) (wl : Nat → Nat → Int32) (wm : Nat → Nat) : Prop :=
  (S.1 516 5 = nI n ∧ n ≤ 80) ∧ (S.1 516 17 = nI w ∧ w ≤ 60) ∧
  (∀ t, t < n → S.2.1 521 t = nI (nlS C t) ∧ nlS C t ≤ 24 ∧ (∀ k, k < nlS C t → S.2.1 524 (24 * t + k) = nfS C t k ∧ ch_n (nfS C t k) = true) ∧ S.2.1 520 t = C.2.1 23 t) ∧
  (∀ j, j < w → S.2.1 528 j = nI (wm j) ∧ 1 ≤ wm j ∧ wm j ≤ 12 ∧ (∀ k, k < wm j → S.2.1 527 (12 * j + k) = wl j k ∧ ch_s (wl j k) = true) ∧ C.2.2 14 j = cu_k (wl j) (wm j) ∧ S.2.1 529 j = C.2.1 15 j ∧ S.2.1 530 j = C.2.1 16 j ∧ S.2.1 531 j = C.2.1 17 j ∧ (C.2.1 16 j = -1 ∨ ∃ i, i < w ∧ C.2.1 16 j = nI i))
theorem RX_fr {Fs : List (Nat × Nat)} {Gs : List Nat} {S S' C : dv_S} {n w : Nat} {wl : Nat → Nat → Int32} {wm : Nat → Nat} (h : fr Fs Gs S S') (hX : RX S C n w wl wm) (h1 : (516, 5) ∉ Fs ∧ (516, 17) ∉ Fs) (h2 : 520 ∉ Gs ∧ 521 ∉ Gs ∧ 524 ∉ Gs ∧ 527 ∉ Gs ∧ 528 ∉ Gs ∧ 529 ∉ Gs ∧ 530 ∉ Gs ∧ 531 ∉ Gs) : RX S' C n w wl wm := by
  unfold RX
  rw [h.1 516 5 h1.1, h.1 516 17 h1.2, h.2.1 520 h2.1, h.2.1 521 h2.2.1, h.2.1 524 h2.2.2.1, h.2.1 527 h2.2.2.2.1, h.2.1 528 h2.2.2.2.2.1, h.2.1 529 h2.2.2.2.2.2.1, h.2.1 530 h2.2.2.2.2.2.2.1, h.2.1 531 h2.2.2.2.2.2.2.2]
  exact hX
/-- where a PART begins, as the reference asks -/
def rbg (a b c : Int32) : Bool := decide (a = 95) || (ch_s a && ch_g b) || (ch_g a && ch_g b && ch_s c) || (ch_d a != ch_d b)
def raa (f : Nat → Int32) (i : Nat) : Int32 := if i = 0 then 95 else f (i - 1)
def rcc (f : Nat → Int32) (m i : Nat) : Int32 := if i + 1 < m then f (i + 1) else 95
theorem ch_gs {x : Int32} (h : ch_g x = true) : ch_s x = false := by
  cases hs : ch_s x with
  | false => rfl
  | true => rw [ch_sg hs] at h; cases h
theorem rbg_b {f : Nat → Int32} {m i : Nat} (hm : m ≤ 24) (hi : i < m) : rbg (raa f i) (f i) (rcc f m i) = cu_b f m i := by
  unfold cu_b
  by_cases h0 : i = 0
  · subst h0; simp [rbg, raa]
  · have e1 : raa f i = f (i - 1) := if_neg h0
    have e2 : ch_s (rcc f m i) = ch_s (dv_gx f m (nI (i + 1))) := by
      unfold rcc
      by_cases h1 : i + 1 < m
      · rw [if_pos h1, dv_gx_in h1 (by omega)]
      · rw [if_neg h1, dv_gx_ge (by omega) (by omega)]; decide
    rw [e1, decide_eq_false h0, Bool.false_or]
    unfold rbg cu_a
    rw [e2]
    generalize f (i - 1) = a
    generalize f i = b
    generalize dv_gx f m (nI (i + 1)) = c
    cases decide (a = 95) <;> cases ch_s a <;> cases ch_g a <;> cases ch_g b <;> cases ch_s c <;> cases ch_d a <;> cases ch_d b <;> rfl
theorem cu_some {f : Nat → Int32} {m : Nat} : ∀ {j : Nat}, ¬ f j = 95 → 1 ≤ (cu f m (j + 1)).1
  | 0, h => by
    rw [cu_2 h (by simp [cu_b])]
    show 1 ≤ (cu f m 0).1 + 1
    omega
  | j + 1, h => by
    cases hb : cu_b f m (j + 1) with
    | true => rw [cu_2 h hb]; show 1 ≤ (cu f m (j + 1)).1 + 1; omega
    | false =>
      rw [cu_3 h hb]
      show 1 ≤ (cu f m (j + 1)).1
      refine cu_some (fun q => ?_)
      unfold cu_b at hb
      rw [Nat.add_sub_cancel, decide_eq_true q] at hb
      simp at hb
theorem cu_nb {f : Nat → Int32} {m i : Nat} (hb : cu_b f m i = false) : 1 ≤ i ∧ ¬ f (i - 1) = 95 ∧ ch_d (f (i - 1)) = ch_d (f i) := by
  unfold cu_b at hb
  rw [Bool.or_eq_false_iff, Bool.or_eq_false_iff, decide_eq_false_iff_not, decide_eq_false_iff_not] at hb
  refine ⟨by omega, hb.1.2, ?_⟩
  have h := hb.2
  unfold cu_a at h
  rw [Bool.or_eq_false_iff] at h
  cases h1 : ch_d (f (i - 1)) <;> cases h2 : ch_d (f i) <;> rw [h1, h2] at h <;> first | rfl | exact absurd h.1 (by decide)
theorem cu_pos {f : Nat → Int32} {m i : Nat} (hb : cu_b f m i = false) : 1 ≤ (cu f m i).1 := by
  obtain ⟨h1, h2, -⟩ := cu_nb hb
  obtain ⟨j, rfl⟩ : ∃ j, i = j + 1 := ⟨i - 1, by omega⟩
  exact cu_some h2
/-- the reference's cut -/
def rcI (S C : dv_S) (t i : Nat) (S1 : dv_S) : Prop := fr [(516, 16)] [525, 526] S S1 ∧ S1.1 516 16 = nI (cu (nfS C t) (nlS C t) i).1 ∧ ∀ j, j < (cu (nfS C t) (nlS C t) i).1 → S1.2.1 525 j = nI ((cu (nfS C t) (nlS C t) i).2.1 j) ∧ S1.2.1 526 j = nI ((cu (nfS C t) (nlS C t) i).2.2 j)
theorem rcI0 (S C : dv_S) (t : Nat) : rcI S C t 0 (dv_u S.1 516 16 0, S.2) := by
  refine ⟨⟨fun a k q => dv_u_ne S.1 _ (by simpa using q), fun _ _ => rfl, rfl⟩, ?_, fun j hj => absurd hj (Nat.not_lt_zero j)⟩
  show dv_u S.1 516 16 0 516 16 = _
  rw [dv_u_eq]; rfl
theorem rcI1 {S C S1 : dv_S} {t i : Nat} (h : rcI S C t i S1) (hf : nfS C t i = 95) : rcI S C t (i + 1) S1 := by
  unfold rcI; rw [cu_1 hf]; exact h
theorem rcI2 {S C S1 : dv_S} {t i : Nat} (h : rcI S C t i S1) (hf : ¬ nfS C t i = 95) (hb : cu_b (nfS C t) (nlS C t) i = true) : rcI S C t (i + 1) (dv_u S1.1 516 16 (nI ((cu (nfS C t) (nlS C t) i).1 + 1)), dv_u (dv_u S1.2.1 525 (cu (nfS C t) (nlS C t) i).1 (nI i)) 526 (cu (nfS C t) (nlS C t) i).1 (nI (i + 1)), S1.2.2) := by
  obtain ⟨h1, h2, h3⟩ := h
  unfold rcI
  rw [cu_2 hf hb]
  generalize hc : (cu (nfS C t) (nlS C t) i).1 = c at *
  refine ⟨⟨fun a k q => ?_, fun a q => ?_, h1.2.2⟩, ?_, fun j hj => ?_⟩
  · show dv_u S1.1 516 16 (nI (c + 1)) a k = _
    rw [dv_u_ne _ _ (by simpa using q)]; exact h1.1 a k q
  · show dv_u (dv_u S1.2.1 525 c (nI i)) 526 c (nI (i + 1)) a = _
    simp only [List.mem_cons, List.not_mem_nil, or_false, not_or] at q
    rw [dv_u_row _ _ q.2, dv_u_row _ _ q.1]; exact h1.2.1 a (by simpa using q)
  · show dv_u S1.1 516 16 (nI (c + 1)) 516 16 = _
    rw [dv_u_eq]
  · show dv_u (dv_u S1.2.1 525 c (nI i)) 526 c (nI (i + 1)) 525 j = nI (cu_u _ c i j) ∧ dv_u (dv_u S1.2.1 525 c (nI i)) 526 c (nI (i + 1)) 526 j = nI (cu_u _ c (i + 1) j)
    have hj : j < c + 1 := hj
    rw [dv_u_row _ _ (show (525 : Nat) ≠ 526 by decide)]
    by_cases hjc : j = c
    · subst hjc; rw [dv_u_eq, dv_u_eq, cu_us, cu_us]; exact ⟨rfl, rfl⟩
    · rw [dv_u_ne _ _ (by omega), dv_u_ne _ _ (by omega), dv_u_row _ _ (show (526 : Nat) ≠ 525 by decide), cu_un _ _ hjc, cu_un _ _ hjc]
      exact h3 j (by omega)
theorem rcI3 {S C S1 : dv_S} {t i : Nat} (h : rcI S C t i S1) (hf : ¬ nfS C t i = 95) (hb : cu_b (nfS C t) (nlS C t) i = false) : rcI S C t (i + 1) (S1.1, dv_u S1.2.1 526 ((cu (nfS C t) (nlS C t) i).1 - 1) (nI (i + 1)), S1.2.2) := by
  obtain ⟨h1, h2, h3⟩ := h
  unfold rcI
  rw [cu_3 hf hb]
  generalize hc : (cu (nfS C t) (nlS C t) i).1 = c at *
  refine ⟨⟨h1.1, fun a q => ?_, h1.2.2⟩, h2, fun j hj => ?_⟩
  · show dv_u S1.2.1 526 (c - 1) (nI (i + 1)) a = _
    have q2 := q
    simp only [List.mem_cons, List.not_mem_nil, or_false, not_or] at q2
    rw [dv_u_row _ _ q2.2]; exact h1.2.1 a q
  · show dv_u S1.2.1 526 (c - 1) (nI (i + 1)) 525 j = _ ∧ dv_u S1.2.1 526 (c - 1) (nI (i + 1)) 526 j = nI (cu_u _ (c - 1) (i + 1) j)
    have hj : j < c := hj
    rw [dv_u_row _ _ (show (525 : Nat) ≠ 526 by decide)]
    refine ⟨(h3 j hj).1, ?_⟩
    by_cases hjc : j = c - 1
    · subst hjc; rw [dv_u_eq, cu_us]
    · rw [dv_u_ne _ _ (by omega), cu_un _ _ hjc]; exact (h3 j hj).2
/-- what lies in a PART -/
theorem cu_mid (f : Nat → Int32) (m : Nat) : ∀ i, (∀ j, j < (cu f m i).1 → ∀ k, (cu f m i).2.1 j ≤ k → k < (cu f m i).2.2 j → ¬ f k = 95 ∧ ((cu f m i).2.1 j < k → cu_b f m k = false)) ∧ (∀ l, i = l + 1 → ¬ f l = 95 → 1 ≤ (cu f m i).1 ∧ (cu f m i).2.2 ((cu f m i).1 - 1) = i)
  | 0 => ⟨fun j hj => absurd hj (Nat.not_lt_zero j), fun l hl => by omega⟩
  | i + 1 => by
    obtain ⟨ih1, ih2⟩ := cu_mid f m i
    by_cases hf : f i = 95
    · rw [cu_1 hf]
      exact ⟨ih1, fun l hl q => absurd (show f l = 95 by rw [← show i = l by omega]; exact hf) q⟩
    · cases hb : cu_b f m i with
      | true =>
        rw [cu_2 hf hb]
        generalize hc : (cu f m i).1 = c at *
        refine ⟨fun j hj k => ?_, fun l hl q => ⟨by show 1 ≤ c + 1; omega, ?_⟩⟩
        · have hj : j < c + 1 := hj
          show cu_u _ c i j ≤ k → k < cu_u _ c (i + 1) j → ¬ f k = 95 ∧ (cu_u _ c i j < k → cu_b f m k = false)
          by_cases hjc : j = c
          · subst hjc
            rw [cu_us, cu_us]
            intro h1 h2
            rw [show k = i by omega]
            exact ⟨hf, fun q => by omega⟩
          · rw [cu_un _ _ hjc, cu_un _ _ hjc]
            exact ih1 j (by omega) k
        · show cu_u _ c (i + 1) (c + 1 - 1) = i + 1
          rw [Nat.add_sub_cancel, cu_us]
      | false =>
        rw [cu_3 hf hb]
        obtain ⟨n1, n2, n3⟩ := cu_nb hb
        have h2 := ih2 (i - 1) (by omega) n2
        generalize hc : (cu f m i).1 = c at *
        refine ⟨fun j hj k => ?_, fun l hl q => ⟨h2.1, ?_⟩⟩
        · have hj : j < c := hj
          show (cu f m i).2.1 j ≤ k → k < cu_u _ (c - 1) (i + 1) j → ¬ f k = 95 ∧ ((cu f m i).2.1 j < k → cu_b f m k = false)
          by_cases hjc : j = c - 1
          · subst hjc
            rw [cu_us]
            intro a1 a2
            by_cases hk : k = i
            · subst hk; exact ⟨hf, fun _ => hb⟩
            · exact ih1 (c - 1) hj k a1 (by rw [h2.2]; omega)
          · rw [cu_un _ _ hjc]
            exact ih1 j hj k
        · show cu_u _ (c - 1) (i + 1) (c - 1) = i + 1
          rw [cu_us]
/-- a PART that begins with no digit is all letters -/
theorem cu_let {f : Nat → Int32} {m j : Nat} (hn : ∀ k, k < m → ch_n (f k) = true) (hj : j < (cu f m m).1) (hd : ch_d (f ((cu f m m).2.1 j)) = false) : ∀ k, k < (cu f m m).2.2 j - (cu f m m).2.1 j → ch_l (f ((cu f m m).2.1 j + k)) = true := by
  have hft := cu_ft f m m j hj
  have key : ∀ k, k < (cu f m m).2.2 j - (cu f m m).2.1 j → ch_d (f ((cu f m m).2.1 j + k)) = false := by
    intro k
    induction k with
    | zero => intro _; exact hd
    | succ k ih =>
      intro hk
      have h1 := ih (by omega)
      have h2 := ((cu_mid f m m).1 j hj ((cu f m m).2.1 j + (k + 1)) (by omega) (by omega)).2 (by omega)
      have h3 := (cu_nb h2).2.2
      rw [show (cu f m m).2.1 j + (k + 1) - 1 = (cu f m m).2.1 j + k by omega, h1] at h3
      exact h3.symm
  intro k hk
  have h1 := key k hk
  have h2 := ((cu_mid f m m).1 j hj ((cu f m m).2.1 j + k) (by omega) (by omega)).1
  have h3 := hn ((cu f m m).2.1 j + k) (by omega)
  unfold ch_n at h3
  rw [h1, decide_eq_false h2, Bool.or_false, Bool.or_false] at h3
  exact h3
theorem ch_lo_l {x : Int32} (h : ch_l x = true) : ch_s (ch_lo x) = true := by
  unfold ch_l at h
  cases hs : ch_s x with
  | true => rw [ch_lo_s hs]; exact hs
  | false =>
    rw [hs, Bool.false_or] at h
    have hg := of_decide_eq_true h
    have hx : ¬ x < 0 := fun q => absurd (Int32.lt_of_le_of_lt hg.1 q) (by decide)
    obtain ⟨j, hj, rfl⟩ := nI_of hx
    have h1 := hg.1
    have h2 := hg.2
    rw [show (65 : Int32) = nI 65 by decide, nI_leI (by decide) hj] at h1
    rw [show (90 : Int32) = nI 90 by decide, nI_leI hj (by decide)] at h2
    unfold ch_lo ch_s
    rw [h, if_pos rfl, show (65 : Int32) = nI 65 by decide, show (97 : Int32) = nI 97 by decide, show (122 : Int32) = nI 122 by decide, pk_sub h1, nI_add]
    exact decide_eq_true ⟨nI_le (by omega) (by omega), nI_le (by omega) (by omega)⟩
theorem ch_lo_d {x : Int32} : ch_d (ch_lo x) = ch_d x := by
  unfold ch_lo
  cases hg : ch_g x with
  | false => rfl
  | true =>
    have hs := ch_lo_l (x := x) (by unfold ch_l; rw [hg, Bool.or_true])
    unfold ch_lo at hs
    rw [hg] at hs
    obtain ⟨t, h1, h2, h3⟩ := ch_nat hs
    have e1 : ch_d (if true = true then x - 65 + 97 else x) = false := by
      rw [h3]; unfold ch_d
      refine decide_eq_false fun q => ?_
      rw [show (57 : Int32) = nI 57 by decide, nI_leI (by omega) (by omega)] at q; omega
    rw [e1]
    have hg2 := of_decide_eq_true hg
    unfold ch_d
    refine (decide_eq_false fun q => ?_).symm
    exact absurd (Int32.le_trans hg2.1 q.2) (by decide)
theorem ch_ds {x : Int32} (h : ch_d x = true) : ch_s x = false := by
  cases hs : ch_s x with
  | false => rfl
  | true =>
    obtain ⟨t, h1, h2, h3⟩ := ch_nat hs
    rw [h3] at h
    have h := (of_decide_eq_true h).2
    rw [show (57 : Int32) = nI 57 by decide, nI_leI (by omega) (by omega)] at h; omega
/-- of a NAME's PART the first letter says whether it is a number -/
theorem pk_old {f : Nat → Int32} {m i : Nat} (hn : ∀ k, k < m → ch_n (f k) = true) (hi : i < (cu f m m).1) : pk_k f m i = if (decide (12 < (cu f m m).2.2 i - (cu f m m).2.1 i) || ch_d (ch_lo (f ((cu f m m).2.1 i)))) = true then 0 else cu_k (fun k => ch_lo (f ((cu f m m).2.1 i + k))) ((cu f m m).2.2 i - (cu f m m).2.1 i) := by
  have hft := cu_ft f m m i hi
  unfold pk_k pk_g
  by_cases hc : (decide (12 < (cu f m m).2.2 i - (cu f m m).2.1 i) || ch_d (ch_lo (f ((cu f m m).2.1 i)))) = true
  · rw [if_pos hc]
    rw [Bool.or_eq_true] at hc
    rcases hc with hc | hc
    · have hc := of_decide_eq_true hc
      exact kz_l (by omega)
    · exact kz_n (k := 0) (by omega) (ch_ds hc)
  · rw [if_neg hc]
    have hc := Bool.eq_false_iff.mpr hc
    rw [Bool.or_eq_false_iff, decide_eq_false_iff_not, ch_lo_d] at hc
    exact kz_y (by omega) (fun k hk => ch_lo_l (cu_let hn hi hc.2 k hk))
/-- a word is a PART just if their keys are the same -/
theorem wk_eq {f g : Nat → Int32} {m i k : Nat} (hm : m ≤ 24) (hn : ∀ k, k < m → ch_n (f k) = true) (hi : i < (cu f m m).1) (hk1 : 1 ≤ k) (hk : k ≤ 12) (hg : ∀ j, j < k → ch_s (g j) = true) : (decide (k = (cu f m m).2.2 i - (cu f m m).2.1 i) && rsm (fun z => ch_lo (f ((cu f m m).2.1 i + z))) g k) = decide (cu_k g k = pk_k f m i) := by
  have hft := cu_ft f m m i hi
  have hgk : cu_k g k = lN (ck (fun j => cd (g j)) k) := cu_k_ck hg
  have hc1 : ∀ j, j < k → 1 ≤ cd (g j) ∧ cd (g j) < 32 := fun j hj => cd_ok (hg j hj)
  have hp := ck_pos (v := fun j => cd (g j)) (n := k) (by omega) (fun j hj => (hc1 j hj).1)
  have h62 := ck_62 (v := fun j => cd (g j)) hk (fun j hj => (hc1 j hj).2)
  have h0 : ¬ cu_k g k = 0 := by
    rw [hgk, show (0 : Int64) = lN 0 by decide, pk_lEQ (by omega) (by omega)]; omega
  rw [pk_old hn hi]
  generalize hA : (cu f m m).2.1 i = A at *
  generalize hB : (cu f m m).2.2 i = B at *
  by_cases hc : (decide (12 < B - A) || ch_d (ch_lo (f A))) = true
  · rw [if_pos hc, decide_eq_false h0]
    rw [Bool.or_eq_true] at hc
    rcases hc with hc | hc
    · have hc := of_decide_eq_true hc
      rw [decide_eq_false (by omega)]; rfl
    · rw [Bool.and_eq_false_iff]
      right
      cases hr : rsm (fun z => ch_lo (f (A + z))) g k with
      | false => rfl
      | true =>
        have := rsm_iff.mp hr 0 (by omega)
        have e : ch_lo (f A) = g 0 := this
        have hs := hg 0 (by omega)
        rw [e] at hc
        obtain ⟨t, h1, h2, h3⟩ := ch_nat hs
        rw [h3] at hc
        have hc := (of_decide_eq_true hc).2
        rw [show (57 : Int32) = nI 57 by decide, nI_leI (by omega) (by omega)] at hc; omega
  · rw [if_neg hc]
    have hc := Bool.eq_false_iff.mpr hc
    rw [Bool.or_eq_false_iff, decide_eq_false_iff_not] at hc
    rw [ch_lo_d] at hc
    have hl := cu_let hn hi (by rw [hA]; exact hc.2)
    rw [hA, hB] at hl
    have hs : ∀ z, z < B - A → ch_s (ch_lo (f (A + z))) = true := fun z hz => ch_lo_l (hl z hz)
    have hfk := cu_k_ck (g := fun z => ch_lo (f (A + z))) hs
    rw [hgk, hfk]
    have hc2 : ∀ j, j < B - A → 1 ≤ cd (ch_lo (f (A + j))) ∧ cd (ch_lo (f (A + j))) < 32 := fun j hj => cd_ok (hs j hj)
    have h622 := ck_62 (v := fun j => cd (ch_lo (f (A + j)))) (n := B - A) (by omega) (fun j hj => (hc2 j hj).2)
    rw [Bool.eq_iff_iff, Bool.and_eq_true, decide_eq_true_eq, decide_eq_true_eq, pk_lEQ (by omega) (by omega), rsm_iff]
    constructor
    · rintro ⟨e1, e2⟩
      rw [← e1]
      have : ∀ n, n ≤ k → ck (fun j => cd (g j)) n = ck (fun j => cd (ch_lo (f (A + j)))) n := by
        intro n
        induction n with
        | zero => intro _; simp only [ck]
        | succ n ih => intro h; rw [ck, ck, ih (by omega), ← e2 n (by omega)]
      exact this k (Nat.le_refl _)
    · intro h
      obtain ⟨e1, e2⟩ := ck_inj hc1 hc2 h
      refine ⟨e1, fun j hj => ?_⟩
      exact (cd_inj (hg j hj) (hs j (by omega)) (e2 j hj)).symm
/-- OPENED stays among the words -/
theorem op_rng {g : Nat → Int32} {w : Nat} (hw : w ≤ 60) (hg : ∀ j, j < w → g j = -1 ∨ ∃ i, i < w ∧ g j = nI i) : ∀ k x, (x = -2 ∨ ∃ j, j < w ∧ x = nI j) → (dv_op (dv_gm g w) k x = -2 ∨ ∃ j, j < w ∧ dv_op (dv_gm g w) k x = nI j)
  | 0, x, h => h
  | k + 1, x, h => by
    rw [dv_op]
    rcases h with rfl | ⟨j, hj, rfl⟩
    · rw [if_pos (dv_gm_out (by
        refine decide_eq_false fun q => absurd q.1 (by decide)))]
      exact Or.inl rfl
    · rw [dv_gm_in hj (by omega)]
      rcases hg j hj with e | ⟨i, hi, e⟩
      · rw [if_pos e]; exact Or.inr ⟨j, hj, rfl⟩
      · rw [if_neg (by rw [e]; exact nI_m1 (by omega)), e]
        exact op_rng hw hg k _ (Or.inr ⟨i, hi, rfl⟩)
theorem dv_oi_rng {o : Option Nat} {w : Nat} (h : ∀ j, o = some j → j < w) : dv_oi o = -2 ∨ ∃ j, j < w ∧ dv_oi o = nI j := by
  cases o with
  | none => exact Or.inl rfl
  | some j => exact Or.inr ⟨j, h j rfl, rfl⟩
theorem pk_w_lt {S : dv_S} {w : Nat} {f : Nat → Int32} {m i : Nat} : ∀ j, pk_w S w f m i = some j → j < w := fun j h => (dv_fo_spec h).1
theorem RX_op {S C : dv_S} {n w : Nat} {wl : Nat → Nat → Int32} {wm : Nat → Nat} (hX : RX S C n w wl wm) (o : Option Nat) (ho : ∀ j, o = some j → j < w) : opS C w o = -2 ∨ ∃ j, j < w ∧ opS C w o = nI j :=
  op_rng hX.2.1.2 (fun j hj => (hX.2.2.2 j hj).2.2.2.2.2.2.2.2) 60 _ (dv_oi_rng ho)
/-- the reference's USED -/
def ruI (S C : dv_S) (w i : Nat) (S1 : dv_S) : Prop := fr [(516, 16)] [525, 526, 532] S S1 ∧ ∀ j, j < w → S1.2.1 532 j = ut C w i j
def ruK (S C : dv_S) (w i k : Nat) (S1 : dv_S) : Prop := fr [(516, 16)] [525, 526, 532] S S1 ∧ (S1.1 516 16 = nI (pnS C i) ∧ ∀ j, j < pnS C i → S1.2.1 525 j = nI ((cu (nfS C i) (nlS C i) (nlS C i)).2.1 j) ∧ S1.2.1 526 j = nI ((cu (nfS C i) (nlS C i) (nlS C i)).2.2 j)) ∧ ∀ j, j < w → S1.2.1 532 j = up C w (nfS C i) (nlS C i) (ut C w i) k j
theorem ruI0 (S C : dv_S) (w : Nat) : ruI S C w 0 (S.1, dv_rw S.2.1 532 (fun _ => 0) w, S.2.2) := by
  refine ⟨⟨fun _ _ _ => rfl, fun a q => dv_rw_row (by simp only [List.mem_cons, List.not_mem_nil, or_false, not_or] at q; exact q.2.2), rfl⟩, fun j hj => ?_⟩
  show dv_rw S.2.1 532 (fun _ => 0) w 532 j = 0
  exact if_pos ⟨rfl, hj⟩
theorem ruK0 {S C S1 S2 : dv_S} {w i : Nat} (h : ruI S C w i S1) (hc : rcI S1 C i (nlS C i) S2) : ruK S C w i 0 S2 := by
  refine ⟨h.1.tr (hc.1.mono (by decide) (by decide)), hc.2, fun j hj => ?_⟩
  rw [hc.1.2.1 532 (by decide)]; exact h.2 j hj
theorem ruK1 {S C S1 : dv_S} {w i k j : Nat} (h : ruK S C w i k S1) (hw : w ≤ 60) (hj : j < w) (hx : opS C w (pk_w C w (nfS C i) (nlS C i) k) = nI j) : ruK S C w i (k + 1) (S1.1, dv_u S1.2.1 532 j (S1.2.1 532 j + 1), S1.2.2) := by
  obtain ⟨h1, h2, h3⟩ := h
  refine ⟨⟨h1.1, fun a q => ?_, h1.2.2⟩, ⟨h2.1, fun z hz => ?_⟩, fun z hz => ?_⟩
  · show dv_u S1.2.1 532 j (S1.2.1 532 j + 1) a = _
    rw [dv_u_row _ _ (by simp only [List.mem_cons, List.not_mem_nil, or_false, not_or] at q; exact q.2.2)]
    exact h1.2.1 a q
  · show dv_u S1.2.1 532 j (S1.2.1 532 j + 1) 525 z = _ ∧ dv_u S1.2.1 532 j (S1.2.1 532 j + 1) 526 z = _
    rw [dv_u_row _ _ (show (525 : Nat) ≠ 532 by decide), dv_u_row _ _ (show (526 : Nat) ≠ 532 by decide)]
    exact h2.2 z hz
  · show dv_u S1.2.1 532 j (S1.2.1 532 j + 1) 532 z = _
    rw [up, hx]
    unfold ub
    by_cases hzj : z = j
    · subst hzj; rw [dv_u_eq, if_pos rfl, h3 z hz]
    · rw [dv_u_ne _ _ (by omega), if_neg (by rw [nI_eq (by omega) (by omega)]; exact hzj), h3 z hz]
theorem ruK2 {S C S1 : dv_S} {w i k : Nat} (h : ruK S C w i k S1) (hw : w ≤ 60) (hx : opS C w (pk_w C w (nfS C i) (nlS C i) k) = -2) : ruK S C w i (k + 1) S1 := by
  refine ⟨h.1, h.2.1, fun z hz => ?_⟩
  rw [up, hx]
  unfold ub
  rw [if_neg (nI_m2 (by omega))]; exact h.2.2 z hz
theorem ruK3 {S C S1 : dv_S} {w i k : Nat} (h : ruK S C w i k S1) (hk : k = pnS C i) : ruI S C w (i + 1) S1 := by
  subst hk; exact ⟨h.1, h.2.2⟩
def dv_om (o : Option Nat) : Int32 := match o with
  | some j => nI j
  | none => -1
theorem dv_om_m1 {o : Option Nat} (h : ∀ j, o = some j → j < 2 ^ 31) : dv_om o = -1 ↔ o = none := by
  cases o with
  | none => simp [dv_om]
  | some j => simp only [dv_om, reduceCtorEq, iff_false]; exact nI_m1 (h j rfl)
theorem dv_hd_is {g u : Nat → Int32} {x : Int32} : ∀ {n j : Nat}, j < n → g j = x → ∃ h, dv_hd g u x n = some h
  | 0, j, hj, _ => absurd hj (Nat.not_lt_zero j)
  | n + 1, j, hj, hg => by
    by_cases hjn : j = n
    · subst hjn
      cases hh : dv_hd g u x j with
      | none => exact ⟨j, dv_hd_0 hg hh⟩
      | some k =>
        by_cases hu : u k < u j
        · exact ⟨j, dv_hd_y hg hh hu⟩
        · exact ⟨k, by rw [dv_hd_k hg hh hu, hh]⟩
    · obtain ⟨h, hh⟩ := dv_hd_is (g := g) (u := u) (x := x) (n := n) (j := j) (by omega) hg
      by_cases hgn : g n = x
      · by_cases hu : u h < u n
        · exact ⟨n, dv_hd_y hgn hh hu⟩
        · exact ⟨h, by rw [dv_hd_k hgn hh hu, hh]⟩
      · exact ⟨h, by rw [dv_hd_n hgn, hh]⟩
