def frP (P : Nat × Nat → Prop) (G : Nat → Prop) (S S' : dv_S) : Prop := (∀ a k, ¬ P (a, k) → S'.1 a k = S.1 a k) ∧ (∀ a, ¬ G a → S'.2.1 a = S.2.1 a)
theorem frP_tx {P : Nat × Nat → Prop} {G : Nat → Prop} {S S' : dv_S} (h : frP P G S S') {a : Nat} (h1 : ¬ P (a, 1)) (h2 : ¬ G (a + 1)) : tx S' a = tx S a := by
  unfold tx; rw [h.1 a 1 h1, h.2 (a + 1) h2]
theorem frP_tl {P : Nat × Nat → Prop} {G : Nat → Prop} {S S' : dv_S} (h : frP P G S S') {a : Nat} (h1 : ¬ P (a, 1)) (h2 : tl S a) : tl S' a := by
  unfold tl; rw [h.1 a 1 h1]; exact h2
theorem frP_N1 {P : Nat × Nat → Prop} {G : Nat → Prop} {S S' : dv_S} (h : frP P G S S') {nr sr t : Nat} {l : List Int32} (h1 : ¬ G nr ∧ ¬ G sr) (hN : rN1 S nr sr t l) : rN1 S' nr sr t l := by
  unfold rN1; rw [h.2 nr h1.1, h.2 sr h1.2]; exact hN
section
variable {P : Nat × Nat → Prop} {G : Nat → Prop} {S S' : dv_S} {n sn un w tn : Nat} {wl : Nat → Nat → Int32} {wm : Nat → Nat} {L : Int32} {xs : Nat → Int32}
theorem A_scr_P (h : frP P G S S') (h1 : ¬ P (100000, 0)) (h2 : ¬ G (100000)) (hA : A_scr L xs S) : A_scr L xs S' := by
  unfold A_scr; rw [h.1 _ _ h1, h.2 _ h2]; exact hA
theorem A_tr_P (h : frP P G S S') (h1 : ¬ P (516, 1) ∧ ¬ P (0, 14)) (hA : A_tr S) : A_tr S' := by
  unfold A_tr; rw [h.1 _ _ h1.1, h.1 _ _ h1.2]; exact hA
theorem A_tape_P (h : frP P G S S') (h1 : ¬ P (1, 1) ∧ ¬ P (516, 3)) (h2 : ¬ G (2) ∧ ¬ G (517)) (hA : A_tape tn S) : A_tape tn S' := by
  unfold A_tape; rw [h.1 _ _ h1.1, h.1 _ _ h1.2, h.2 _ h2.1, h.2 _ h2.2]; exact hA
theorem wi_P (h : frP P G S S') (h2 : ¬ G (20)) : wi S' = wi S := by
  funext p q; unfold wi; rw [h.2 _ h2]
theorem A_sc_P (h : frP P G S S') (h1 : ¬ P (19, 1) ∧ ¬ P (516, 4)) (h2 : ¬ G (20) ∧ ¬ G (518)) (hA : A_sc sn S) : A_sc sn S' := by
  unfold A_sc rAn; rw [wi_P h h2.1, h.1 _ _ h1.1, h.1 _ _ h1.2, h.2 _ h2.1, h.2 _ h2.2]; exact hA
theorem hm_P (h : frP P G S S') (h2 : ¬ G (22)) : hmS S' = hmS S := by
  funext t; unfold hmS; rw [h.2 _ h2]
theorem us_P (h : frP P G S S') (h2 : ¬ G (186)) : usS S' = usS S := by
  funext t; unfold usS; rw [h.2 _ h2]
theorem ut_P (h : frP P G S S') (h2 : ¬ G (187)) : utS S' = utS S := by
  funext t; unfold utS; rw [h.2 _ h2]
theorem A_th_P (h : frP P G S S') (h1 : ¬ P (21, 3) ∧ ¬ P (516, 5) ∧ ∀ t, t < 80 → ¬ P (25 + 2 * t, 1)) (h2 : ¬ G (22) ∧ ¬ G (23) ∧ ¬ G (519) ∧ ¬ G (520) ∧ ¬ G (521) ∧ ¬ G (524) ∧ ∀ t, t < 80 → ¬ G (25 + 2 * t + 1)) (hA : A_th n sn S) : A_th n sn S' := by
  have h80 := hA.1.2.2
  refine ⟨by rw [h.1 _ _ h1.1, h.1 _ _ h1.2.1]; exact hA.1, fun t ht => ?_⟩
  obtain ⟨a1, a2, a3, a4, a5⟩ := hA.2 t ht
  rw [hm_P h h2.1, h.2 _ h2.1, h.2 _ h2.2.1, h.2 _ h2.2.2.1, h.2 _ h2.2.2.2.1, frP_tx h (h1.2.2 t (by omega)) (h2.2.2.2.2.2.2 t (by omega))]
  exact ⟨a1, a2, frP_tl h (h1.2.2 t (by omega)) a3, a4, frP_N1 h ⟨h2.2.2.2.2.2.1, h2.2.2.2.2.1⟩ a5⟩
theorem A_us_P (h : frP P G S S') (h1 : ¬ P (185, 2) ∧ ¬ P (516, 6)) (h2 : ¬ G (186) ∧ ¬ G (187) ∧ ¬ G (522) ∧ ¬ G (523)) (hA : A_us n sn un S) : A_us n sn un S' := by
  unfold A_us; rw [us_P h h2.1, ut_P h h2.2.1, h.1 _ _ h1.1, h.1 _ _ h1.2, h.2 _ h2.1, h.2 _ h2.2.1, h.2 _ h2.2.2.1, h.2 _ h2.2.2.2]; exact hA
theorem A_bk_P (h : frP P G S S') (hl : S'.2.2 = S.2.2) (h1 : ¬ P (13, 5) ∧ ¬ P (516, 17)) (h2 : ¬ G (15) ∧ ¬ G (16) ∧ ¬ G (17) ∧ ¬ G (527) ∧ ¬ G (528) ∧ ¬ G (529) ∧ ¬ G (530) ∧ ¬ G (531)) (hA : A_bk w wl wm S) : A_bk w wl wm S' := by
  unfold A_bk; rw [hl, h.1 _ _ h1.1, h.1 _ _ h1.2, h.2 _ h2.1, h.2 _ h2.2.1, h.2 _ h2.2.2.1, h.2 _ h2.2.2.2.1, h.2 _ h2.2.2.2.2.1, h.2 _ h2.2.2.2.2.2.1, h.2 _ h2.2.2.2.2.2.2.1, h.2 _ h2.2.2.2.2.2.2.2]; exact hA
theorem A_out_P (h : frP P G S S') (h1 : ¬ P (7, 1) ∧ ¬ P (516, 26)) (h2 : ¬ G (8) ∧ ¬ G (533)) (hA : A_out S) : A_out S' := by
  unfold A_out; rw [h.1 _ _ h1.1, h.1 _ _ h1.2, h.2 _ h2.1, h.2 _ h2.2]; exact hA
theorem A_pe_P (h : frP P G S S') (hn : n ≤ 80) (h1 : ¬ P (188, 2) ∧ ∀ t, t < 80 → ¬ P (191 + 2 * t, 1)) (h2 : ¬ G (189) ∧ ¬ G (535) ∧ ¬ G (537) ∧ ¬ G (540) ∧ ∀ t, t < 80 → ¬ G (191 + 2 * t + 1)) (hA : A_pe n S) : A_pe n S' := by
  refine ⟨by rw [h.2 _ h2.1]; exact hA.1, by rw [h.1 _ _ h1.1, h.2 _ h2.1]; exact hA.2.1, fun t ht => ?_⟩
  obtain ⟨a1, a2⟩ := hA.2.2 t ht
  rw [h.2 _ h2.1, h.2 _ h2.2.1, frP_tx h (h1.2 t (by omega)) (h2.2.2.2.2 t (by omega))]
  exact ⟨a1, fun q => ⟨frP_tl h (h1.2 t (by omega)) (a2 q).1, (a2 q).2.1, frP_N1 h ⟨h2.2.2.1, h2.2.2.2.1⟩ (a2 q).2.2⟩⟩
theorem sfe_P {N : Nat → List Int32} (h : frP P G S S') (h2 : ¬ G (20) ∧ ¬ G (22) ∧ ¬ G (186) ∧ ¬ G (187)) (hA : sfe S n un N) : sfe S' n un N := by
  unfold sfe; rw [wi_P h h2.1, hm_P h h2.2.1, us_P h h2.2.2.1, ut_P h h2.2.2.2]; exact hA
theorem A_sf_P (h : frP P G S S') (hn : n ≤ 80) (hU : A_us n sn un S) (h1 : ∀ t, t < 80 → ¬ P (25 + 2 * t, 1)) (h2 : (¬ G (20) ∧ ¬ G (22) ∧ ¬ G (186) ∧ ¬ G (187)) ∧ ∀ t, t < 80 → ¬ G (25 + 2 * t + 1)) (hA : A_sf n un S) : A_sf n un S' :=
  sfe_P h h2.1 (sfe_cong hU (fun t ht => (frP_tx h (h1 t (by omega)) (h2.2 t (by omega))).symm) hA)
theorem PN_P (h : frP P G S S') {t : Nat} (ht : t < 80) (h1 : ¬ P (25 + 2 * t, 1) ∧ ¬ P (354 + 2 * t, 1)) (h2 : ¬ G (352) ∧ ¬ G (25 + 2 * t + 1) ∧ ¬ G (354 + 2 * t + 1)) : PNS S' t = PNS S t := by
  unfold PNS; rw [h.2 _ h2.1, frP_tx h h1.1 h2.2.1, frP_tx h h1.2 h2.2.2]
theorem A_bc_P (h : frP P G S S') (hn : n ≤ 80) (hU : A_us n sn un S) (h1 : (¬ P (516, 36) ∧ ¬ P (0, 13) ∧ ¬ P (516, 37) ∧ ¬ P (351, 2)) ∧ ∀ t, t < 80 → ¬ P (25 + 2 * t, 1) ∧ ¬ P (354 + 2 * t, 1)) (h2 : (¬ G (20) ∧ ¬ G (22) ∧ ¬ G (186) ∧ ¬ G (187)) ∧ ¬ G (352) ∧ ¬ G (539) ∧ ¬ G (542) ∧ ∀ t, t < 80 → ¬ G (25 + 2 * t + 1) ∧ ¬ G (354 + 2 * t + 1)) (hA : A_bc n un S) : A_bc n un S' := by
  have hp : ∀ t, t < n → PNS S' t = PNS S t := fun t ht => PN_P h (by omega) (h1.2 t (by omega)) ⟨h2.2.1, h2.2.2.2.2 t (by omega)⟩
  unfold A_bc
  rw [h.1 _ _ h1.1.1, h.1 _ _ h1.1.2.1, h.1 _ _ h1.1.2.2.1, h.1 _ _ h1.1.2.2.2, h.2 _ h2.2.1]
  refine ⟨hA.1, fun q => ?_⟩
  obtain ⟨a1, a2, a3⟩ := hA.2 q
  refine ⟨a1, fun t ht => ?_, sfe_P h h2.1 (sfe_cong hU (fun t ht => (hp t ht).symm) a3)⟩
  rw [hp t ht]
  exact ⟨fun z => frP_tl h (h1.2 t (by omega)).2 ((a2 t ht).1 z), (a2 t ht).2.1, frP_N1 h ⟨h2.2.2.1, h2.2.2.2.1⟩ (a2 t ht).2.2⟩
end
theorem frP_of {Fs : List (Nat × Nat)} {Gs : List Nat} {P : Nat × Nat → Prop} {G : Nat → Prop} {S S' : dv_S} (h : fr Fs Gs S S') (h1 : ∀ x ∈ Fs, P x) (h2 : ∀ x ∈ Gs, G x) : frP P G S S' := ⟨fun a k q => h.1 a k (fun z => q (h1 _ z)), fun a q => h.2.1 a (fun z => q (h2 _ z))⟩
theorem frP_tr {P : Nat × Nat → Prop} {G : Nat → Prop} {S S' S'' : dv_S} (h : frP P G S S') (h' : frP P G S' S'') : frP P G S S'' := ⟨fun a k q => (h'.1 a k q).trans (h.1 a k q), fun a q => (h'.2 a q).trans (h.2 a q)⟩
theorem RX_C {S C C' : dv_S} {P : Nat × Nat → Prop} {G : Nat → Prop} {n w : Nat} {wl : Nat → Nat → Int32} {wm : Nat → Nat} (h : frP P G C C') (hl : C'.2.2 = C.2.2) (h1 : ∀ t, t < 80 → ¬ P (25 + 2 * t, 1)) (h2 : ¬ G 15 ∧ ¬ G 16 ∧ ¬ G 17 ∧ ¬ G 23 ∧ ∀ t, t < 80 → ¬ G (25 + 2 * t + 1)) (hX : RX S C n w wl wm) : RX S C' n w wl wm := by
  obtain ⟨a, b, c, d⟩ := hX
  refine ⟨a, b, fun t ht => ?_, fun j hj => ?_⟩
  · have := c t ht
    have e1 : nlS C' t = nlS C t := by unfold nlS; rw [h.1 _ _ (h1 t (by omega))]
    have e2 : nfS C' t = nfS C t := h.2 _ (h2.2.2.2.2 t (by omega))
    rw [e1, e2, h.2 23 h2.2.2.2.1]; exact this
  · rw [hl, h.2 15 h2.1, h.2 16 h2.2.1, h.2 17 h2.2.2.1]; exact d j hj
/-! feed -/
def sh4 (j : Nat) : Int32 := if j = 0 then 24 else if j = 1 then 16 else if j = 2 then 8 else 0
def cby (xa xb xc xd xe : Int32) (i : Nat) : Int32 := (fv5 xa xb xc xd xe i >>> (sh4 (i % 4) &&& 31)) &&& 255
def apn (S : dv_S) (n : Nat) (g : Nat → Int32) : Nat → dv_S
  | 0 => S
  | i + 1 => dv_ap (apn S n g i) 1 (n + i) (g i)
theorem apn_eq {S : dv_S} {n : Nat} (g : Nat → Int32) (h : S.1 1 1 = nI n) : ∀ i, apn S n g i = (dv_u S.1 1 1 (nI (n + i)), dv_ro S.2.1 2 n g i, S.2.2)
  | 0 => by
    rw [apn, dv_ro_0, Nat.add_zero, dv_ui _ 1 1 _ h]
  | i + 1 => by
    rw [apn, apn_eq g h i]
    unfold dv_ap
    simp only [dv_uu, dv_ro_s]
    rfl
theorem cb_fb (xa xb xc xd xe : Int32) {i : Nat} (hi : i < 20) : fbt xa xb xc xd xe i = (cby xa xb xc xd xe i).toInt8.toInt32 := by
  have key : ∀ i, i < 20 → (24 - 8 * (nI i - nI i / 4 * 4) : Int32) = sh4 (i % 4) := by decide +kernel
  unfold fbt cby
  rw [key i hi]
  generalize (fv5 xa xb xc xd xe i >>> (sh4 (i % 4) &&& 31)) = v
  have e1 : (v &&& 255).toInt8 = v.toInt8 := by
    rw [Int32.toInt8_and, show (255 : Int32).toInt8 = -1 by decide, Int8.and_neg_one]
  rw [e1]
  simp
theorem cb_rg (xa xb xc xd xe : Int32) (i : Nat) : ∃ j, j < 256 ∧ cby xa xb xc xd xe i = nI j := pk_andE _ 8 (by decide)
