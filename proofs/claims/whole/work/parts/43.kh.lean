theorem cuI_og {S S1 : dv_S} {w n t : Nat} {wl : Nat → Nat → Int32} {wm : Nat → Nat} (h : cuI S w n S1) (ht : t < 80) : ofS S1 w wl wm (S1.2.1 18) t (pnS S1 t) = olS S w wl wm n t ∧ (nm_ok (ofS S1 w wl wm (S1.2.1 18) t (pnS S1 t)) && !decide (ofS S1 w wl wm (S1.2.1 18) t (pnS S1 t) = tx S1 (25 + 2 * t))) = ogS S w wl wm n t := by
  have e1 : ofS S1 w wl wm (S1.2.1 18) t (pnS S1 t) = olS S w wl wm n t := by rw [sc_pn h.1 ht, cuI_ol h ht]; rfl
  have e2 : tx S1 (25 + 2 * t) = tx S (25 + 2 * t) := h.1.txe (kd_T ht).1
  exact ⟨e1, by rw [e1, e2]; rfl⟩
theorem ogS_len {S : dv_S} {w n t : Nat} {wl : Nat → Nat → Int32} {wm : Nat → Nat} (h : ogS S w wl wm n t = true) : (olS S w wl wm n t).length ≤ 24 := by
  unfold ogS at h
  rw [Bool.and_eq_true] at h
  exact (nm_len h.1).2
theorem tr1_fr (S : dv_S) (t : Nat) : fr [(354 + 2 * t, 1), (354 + 2 * t, 2), (351, 2)] [354 + 2 * t + 1, 352] S (tr1 S t) := by
  have e3 := tx_fr S (354 + 2 * t) (dn (S.1 (25 + 2 * t) 1)) (S.2.1 (25 + 2 * t + 1))
  have e2 := pa_fr 351 352 (dv_tx S (354 + 2 * t) (dn (S.1 (25 + 2 * t) 1)) (S.2.1 (25 + 2 * t + 1))) t
  exact (e3.mono (by simp) (by simp)).tr (e2.mono (by simp) (by simp))
theorem trn_189 (S : dv_S) {t : Nat} (ht : t ≤ 80) : (trn S t).2.1 189 = S.2.1 189 := (trn_F S t ht).2.1 189 (by decide) (fun j hj => by omega)
theorem trn_n {S : dv_S} {t : Nat} (h : S.2.1 189 t = 0) : trn S (t + 1) = trn S t := by rw [trn, if_pos h]
theorem trn_y {S : dv_S} {t : Nat} (ht : t < 80) (h : ¬ S.2.1 189 t = 0) : dv_tx (tr1 (trn S t) t) (25 + 2 * t) (dn (S.1 (191 + 2 * t) 1)) ((tr1 (trn S t) t).2.1 (191 + 2 * t + 1)) = trn S (t + 1) := by
  rw [trn, if_neg h, (tr1_fr (trn S t) t).2.1 (191 + 2 * t + 1) (by simp <;> omega), (trn_F S t (by omega)).2.1 (191 + 2 * t + 1) (by omega) (fun j hj => by omega)]
theorem trn_at (S : dv_S) {t : Nat} (ht : t < 80) : (trn S t).1 21 3 = S.1 21 3 ∧ (trn S t).1 (25 + 2 * t) 1 = S.1 (25 + 2 * t) 1 ∧ (tr1 (trn S t) t).1 21 3 = S.1 21 3 ∧ (tr1 (trn S t) t).1 (191 + 2 * t) 1 = S.1 (191 + 2 * t) 1 := by
  have h := (trn_F S t (by omega)).1
  have e := (tr1_fr (trn S t) t).1
  refine ⟨h 21 3 (by decide) (fun j hj => by omega), h _ _ (by omega) (fun j hj => by omega), ?_, ?_⟩
  · rw [e 21 3 (by simp <;> omega)]; exact h 21 3 (by decide) (fun j hj => by omega)
  · rw [e (191 + 2 * t) 1 (by simp <;> omega)]; exact h _ _ (by omega) (fun j hj => by omega)
theorem bkn_n {S : dv_S} {t : Nat} (h : S.2.1 352 t = 0) : bkn S (t + 1) = bkn S t := by rw [bkn, if_pos h]
theorem bkn_y {S : dv_S} {t : Nat} (ht : t < 80) (h : ¬ S.2.1 352 t = 0) : dv_tx (bkn S t) (25 + 2 * t) (dn (S.1 (354 + 2 * t) 1)) ((bkn S t).2.1 (354 + 2 * t + 1)) = bkn S (t + 1) := by
  rw [bkn, if_neg h, (bkn_F S t (by omega)).2.1 (354 + 2 * t + 1) (fun j hj => by omega)]
theorem nnS_fr (S : dv_S) : fr [(188, 2)] [189] S (nnS S) := by
  refine ⟨fun a k q => ?_, fun a q => dv_rw_row (by simpa using q), rfl⟩
  show dv_u S.1 188 2 0 a k = _
  rw [dv_u_ne _ _ (by simpa using q)]
theorem nnS_189 (S : dv_S) {t : Nat} (h : t < 80) : (nnS S).2.1 189 t = 0 := by
  show dv_rw S.2.1 189 (fun _ => 0) 80 189 t = _
  exact if_pos ⟨rfl, h⟩
theorem nnS_T {S : dv_S} {n : Nat} (hT : cw_T S n) : cw_T (nnS S) n := by
  have h80 := hT.2.1
  have h := nnS_fr S
  exact ⟨by rw [h.1 21 3 (by decide)]; exact hT.1, hT.2.1, fun t ht => ⟨h.tle (by simp) (hT.2.2 t ht).1, fun q => absurd (nnS_189 S (by omega)) q⟩⟩
/-- the renames that are offered, of the first i -/
def rnI (Z : dv_S) (w : Nat) (wl : Nat → Nat → Int32) (wm : Nat → Nat) (n i : Nat) (S2 : dv_S) : Prop :=
  (∀ a k, (a, k) ∉ sgF → (a, k) ≠ (188, 2) → (∀ j, j < i → a ≠ 191 + 2 * j) → S2.1 a k = Z.1 a k) ∧
  (∀ a, a ∉ sgG → a ≠ 189 → (∀ j, j < i → a ≠ 192 + 2 * j) → S2.2.1 a = Z.2.1 a) ∧ S2.2.2 = Z.2.2 ∧
  (∀ j, j < w → S2.2.1 18 j = ut Z w n j) ∧
  (∀ j, j < i → S2.2.1 189 j = dv_b (ogS Z w wl wm n j) ∧ (ogS Z w wl wm n j = true → tv S2 (191 + 2 * j) (olS Z w wl wm n j))) ∧
  (∀ j, i ≤ j → j < 80 → S2.2.1 189 j = 0) ∧ S2.1 188 2 = nI (dv_ct (ogS Z w wl wm n) i)
theorem rnI_T {Z S2 : dv_S} {w n i : Nat} {wl : Nat → Nat → Int32} {wm : Nat → Nat} (h : rnI Z w wl wm n i S2) (hi : i ≤ n) (hT : cw_T Z n) : cw_T S2 n := by
  obtain ⟨h1, h2, h3, h4, h5, h6, h7⟩ := h
  have h80 := hT.2.1
  refine ⟨by rw [h1 21 3 (by decide) (by decide) (fun j hj => by omega)]; exact hT.1, h80, fun t ht => ⟨?_, fun q => ?_⟩⟩
  · have := (hT.2.2 t ht).1
    unfold tl; rw [h1 (25 + 2 * t) 1 (by simp <;> omega) (by simp) (fun j hj => by omega)]; exact this
  · by_cases hti : t < i
    · have e := h5 t hti
      cases hg : ogS Z w wl wm n t with
      | false => rw [e.1, hg] at q; exact absurd rfl q
      | true => exact tv_tl (e.2 hg)
    · exact absurd (h6 t (by omega) (by omega)) q
theorem rnI_B {Z S2 : dv_S} {w n i : Nat} {wl : Nat → Nat → Int32} {wm : Nat → Nat} (h : rnI Z w wl wm n i S2) (hB : cw_B Z w wl wm) : cw_B S2 w wl wm := by
  unfold cw_B; rw [h.1 13 5 (by decide) (by decide) (fun j hj => by omega), h.2.2.1]; exact hB
theorem rnI0 {Z S1 : dv_S} {w n : Nat} {wl : Nat → Nat → Int32} {wm : Nat → Nat} (h : cuI Z w n S1) (h0 : ∀ j, j < 80 → Z.2.1 189 j = 0) (h1 : Z.1 188 2 = 0) : rnI Z w wl wm n 0 S1 := by
  refine ⟨fun a k q _ _ => h.1.1 a k (fun z => q (by rw [z.1, z.2]; decide)), fun a q _ _ => ?_, h.1.2.2, h.2, fun j hj => absurd hj (Nat.not_lt_zero j), fun j _ hj => ?_, ?_⟩
  · simp only [List.mem_cons, List.not_mem_nil, or_false, not_or] at q
    exact h.1.g ⟨q.2.1, q.2.2.1, q.2.2.2.1, q.2.2.2.2.1, q.2.2.2.2.2⟩
  · rw [h.1.g (by decide)]; exact h0 j hj
  · rw [h.1.1 188 2 (by decide), h1]; rfl
theorem rnI_ol {Z S2 : dv_S} {w n i : Nat} {wl : Nat → Nat → Int32} {wm : Nat → Nat} (h : rnI Z w wl wm n i S2) (hi : i < 80) : ofS S2 w wl wm (S2.2.1 18) i (pnS S2 i) = olS Z w wl wm n i ∧ (nm_ok (ofS S2 w wl wm (S2.2.1 18) i (pnS S2 i)) && !decide (ofS S2 w wl wm (S2.2.1 18) i (pnS S2 i) = tx S2 (25 + 2 * i))) = ogS Z w wl wm n i := by
  have er : S2.2.1 (25 + 2 * i + 1) = Z.2.1 (25 + 2 * i + 1) := h.2.1 _ (by simp <;> omega) (by omega) (fun j hj => by omega)
  have ef : S2.1 (25 + 2 * i) 1 = Z.1 (25 + 2 * i) 1 := h.1 _ _ (by simp <;> omega) (by simp) (fun j hj => by omega)
  have e1 : ofS S2 w wl wm (S2.2.1 18) i (pnS S2 i) = olS Z w wl wm n i := by
    rw [show pnS S2 i = pnS Z i by unfold pnS; rw [er, ef]]
    exact ofS_eq (h.2.1 17 (by decide) (by decide) (fun j hj => by omega)) (h.2.1 16 (by decide) (by decide) (fun j hj => by omega)) h.2.2.1 er ef h.2.2.2.1
  have e2 : tx S2 (25 + 2 * i) = tx Z (25 + 2 * i) := by unfold tx; rw [er, ef]
  exact ⟨e1, by rw [e1, e2]; rfl⟩
theorem rnI_n {Z S2 S3 : dv_S} {w n i : Nat} {wl : Nat → Nat → Int32} {wm : Nat → Nat} (h : rnI Z w wl wm n i S2) (hi : i < 80) (hf : sf S2 S3) (hg : ogS Z w wl wm n i = false) : rnI Z w wl wm n (i + 1) S3 := by
  obtain ⟨h1, h2, h3, h4, h5, h6, h7⟩ := h
  refine ⟨fun a k q1 q2 q3 => ?_, fun a q1 q2 q3 => ?_, hf.2.2.trans h3, fun j hj => ?_, ?_, fun j hj hj2 => ?_, ?_⟩
  · rw [hf.1 a k q1]; exact h1 a k q1 q2 (fun j hj => q3 j (by omega))
  · rw [hf.2.1 a (fun z => q1 (by simp only [List.mem_cons, List.not_mem_nil, or_false] at z ⊢; omega))]; exact h2 a q1 q2 (fun j hj => q3 j (by omega))
  · rw [hf.2.1 18 (by decide)]; exact h4 j hj
  · rw [hf.2.1 189 (by decide)]
    intro j hj
    by_cases hji : j = i
    · subst hji
      rw [hg]; exact ⟨h6 j (Nat.le_refl _) hi, fun q => by cases q⟩
    · refine ⟨(h5 j (by omega)).1, fun q => ((h5 j (by omega)).2 q).of (hf.1 _ _ (by simp <;> omega)) (hf.2.1 _ (by simp <;> omega))⟩
  · rw [hf.2.1 189 (by decide)]; exact h6 j (by omega) hj2
  · rw [hf.1 188 2 (by decide), h7, dv_ct_sf hg]
theorem rnI_y {Z S2 S3 : dv_S} {w n i : Nat} {wl : Nat → Nat → Int32} {wm : Nat → Nat} (h : rnI Z w wl wm n i S2) (hi : i < 80) (hf : sf S2 S3) (hd : dt S3 (olS Z w wl wm n i)) (hg : ogS Z w wl wm n i = true) : rnI Z w wl wm n (i + 1) (dv_pa 188 189 (dv_tx S3 (191 + 2 * i) (min (olS Z w wl wm n i).length 24) (S3.2.1 6)) i) := by
  obtain ⟨h1, h2, h3, h4, h5, h6, h7⟩ := h
  have hl := ogS_len hg
  have e1 := tx_fr S3 (191 + 2 * i) (min (olS Z w wl wm n i).length 24) (S3.2.1 6)
  have e0 : (dv_tx S3 (191 + 2 * i) (min (olS Z w wl wm n i).length 24) (S3.2.1 6)).2.1 189 = S2.2.1 189 := by
    rw [e1.2.1 189 (by simp <;> omega), hf.2.1 189 (by decide)]
  have e2 : dv_pa 188 189 (dv_tx S3 (191 + 2 * i) (min (olS Z w wl wm n i).length 24) (S3.2.1 6)) i = (dv_u (dv_tx S3 (191 + 2 * i) (min (olS Z w wl wm n i).length 24) (S3.2.1 6)).1 188 2 ((dv_tx S3 (191 + 2 * i) (min (olS Z w wl wm n i).length 24) (S3.2.1 6)).1 188 2 + 1), dv_u (dv_tx S3 (191 + 2 * i) (min (olS Z w wl wm n i).length 24) (S3.2.1 6)).2.1 189 i 1, (dv_tx S3 (191 + 2 * i) (min (olS Z w wl wm n i).length 24) (S3.2.1 6)).2.2) := by
    unfold dv_pa; rw [if_pos (by rw [e0]; exact h6 i (Nat.le_refl _) hi)]
  have e3 := pa_fr 188 189 (dv_tx S3 (191 + 2 * i) (min (olS Z w wl wm n i).length 24) (S3.2.1 6)) i
  have et := tx_tv S3 (191 + 2 * i) (m := min (olS Z w wl wm n i).length 24) (S3.2.1 6) (by omega)
  rw [dt_rd hd hl] at et
  have e9 : ∀ j, (dv_pa 188 189 (dv_tx S3 (191 + 2 * i) (min (olS Z w wl wm n i).length 24) (S3.2.1 6)) i).2.1 189 j = if j = i then 1 else S2.2.1 189 j := by
    intro j
    rw [e2]
    show dv_u (dv_tx S3 (191 + 2 * i) (min (olS Z w wl wm n i).length 24) (S3.2.1 6)).2.1 189 i 1 189 j = _
    by_cases hji : j = i
    · subst hji; rw [dv_u_eq, if_pos rfl]
    · rw [dv_u_ne _ _ (by rintro ⟨-, q⟩; exact hji q), e0, if_neg hji]
  generalize hS4 : dv_pa 188 189 (dv_tx S3 (191 + 2 * i) (min (olS Z w wl wm n i).length 24) (S3.2.1 6)) i = S4 at *
  have g1 : ∀ a k, (a, k) ∉ sgF → (a, k) ≠ (188, 2) → a ≠ 191 + 2 * i → S4.1 a k = S2.1 a k := fun a k q1 q2 q3 => by
    rw [e3.1 a k (by simpa using q2), e1.1 a k (by simp <;> omega), hf.1 a k q1]
  have g2 : ∀ a, a ∉ sgG → a ≠ 189 → a ≠ 192 + 2 * i → S4.2.1 a = S2.2.1 a := fun a q1 q2 q3 => by
    rw [e3.2.1 a (by simpa using q2), e1.2.1 a (by simp <;> omega), hf.2.1 a (fun z => q1 (by simp only [List.mem_cons, List.not_mem_nil, or_false] at z ⊢; omega))]
  refine ⟨fun a k q1 q2 q3 => ?_, fun a q1 q2 q3 => ?_, ?_, fun j hj => ?_, fun j hj => ?_, fun j hj hj2 => ?_, ?_⟩
  · rw [g1 a k q1 q2 (q3 i (by omega))]; exact h1 a k q1 q2 (fun j hj => q3 j (by omega))
  · rw [g2 a q1 q2 (q3 i (by omega))]; exact h2 a q1 q2 (fun j hj => q3 j (by omega))
  · exact e3.2.2.trans (e1.2.2.trans (hf.2.2.trans h3))
  · rw [e3.2.1 18 (by decide), e1.2.1 18 (by simp <;> omega), hf.2.1 18 (by decide)]; exact h4 j hj
  · rw [e9 j]
    by_cases hji : j = i
    · subst hji
      rw [if_pos rfl, hg]
      exact ⟨rfl, fun _ => et.of (e3.1 _ _ (by simp)) (e3.2.1 _ (by simp <;> omega))⟩
    · rw [if_neg hji]
      refine ⟨(h5 j (by omega)).1, fun q => ((h5 j (by omega)).2 q).of (g1 _ _ (by simp <;> omega) (by simp) (by omega)) (g2 _ (by simp <;> omega) (by omega) (by omega))⟩
  · rw [e9 j, if_neg (by omega)]; exact h6 j (by omega) hj2
  · rw [e2]
    show dv_u (dv_tx S3 (191 + 2 * i) (min (olS Z w wl wm n i).length 24) (S3.2.1 6)).1 188 2 ((dv_tx S3 (191 + 2 * i) (min (olS Z w wl wm n i).length 24) (S3.2.1 6)).1 188 2 + 1) 188 2 = _
    rw [dv_u_eq, e1.1 188 2 (by simp <;> omega), hf.1 188 2 (by decide), h7, dv_ct_st hg, nI_1]
