/-! THE GLUE: class and reference in one state -/
theorem dv_M_mono {y : MethodName} {cc : ByteArray} {n : Nat} {ret : Option FieldType} {R : Room} {av : List Value} {S : dv_S} {Q Q' : Option Value → dv_S → Prop} (h : dv_M y cc n ret R av S Q) (hQ : ∀ r S', Q r S' → Q' r S') : dv_M y cc n ret R av S Q' := by
  intro la b scr dC dI dA hsb p e h1 h2 h3 s m args below h4 h5 h6 h7
  obtain ⟨k, o, a1, a2, a3, a4, a5⟩ := h la b scr dC dI dA hsb p e h1 h2 h3 s m args below h4 h5 h6 h7
  obtain ⟨r, S', e1, e2, e3⟩ := a4
  exact ⟨k, o, a1, a2, a3, ⟨r, S', e1, hQ r S' e2, e3⟩, a5⟩
def fr2 (Fs : List (Nat × Nat)) (Gs : List Nat) (S S' : dv_S) : Prop := (∀ a k, (a, k) ∉ Fs → S'.1 a k = S.1 a k) ∧ (∀ a, a ∉ Gs → S'.2.1 a = S.2.1 a)
theorem fr_2 {Fs : List (Nat × Nat)} {Gs : List Nat} {S S' : dv_S} (h : fr Fs Gs S S') : fr2 Fs Gs S S' := ⟨h.1, h.2.1⟩
theorem fr2_tr {Fs : List (Nat × Nat)} {Gs : List Nat} {S S' S'' : dv_S} (h : fr2 Fs Gs S S') (h' : fr2 Fs Gs S' S'') : fr2 Fs Gs S S'' := ⟨fun a k q => (h'.1 a k q).trans (h.1 a k q), fun a q => (h'.2 a q).trans (h.2 a q)⟩
theorem fr2_mono {Fs Fs' : List (Nat × Nat)} {Gs Gs' : List Nat} {S S' : dv_S} (h : fr2 Fs Gs S S') (h1 : ∀ x ∈ Fs, x ∈ Fs') (h2 : ∀ x ∈ Gs, x ∈ Gs') : fr2 Fs' Gs' S S' := ⟨fun a k q => h.1 a k (fun z => q (h1 _ z)), fun a q => h.2 a (fun z => q (h2 _ z))⟩
theorem fr2_tx {Fs : List (Nat × Nat)} {Gs : List Nat} {S S' : dv_S} (h : fr2 Fs Gs S S') {a : Nat} (h1 : (a, 1) ∉ Fs) (h2 : a + 1 ∉ Gs) : tx S' a = tx S a := by
  unfold tx; rw [h.1 a 1 h1, h.2 (a + 1) h2]
theorem fr2_tl {Fs : List (Nat × Nat)} {Gs : List Nat} {S S' : dv_S} (h : fr2 Fs Gs S S') {a : Nat} (h1 : (a, 1) ∉ Fs) (h2 : tl S a) : tl S' a := by
  unfold tl; rw [h.1 a 1 h1]; exact h2
theorem fr2_N1 {Fs : List (Nat × Nat)} {Gs : List Nat} {S S' : dv_S} (h : fr2 Fs Gs S S') {nr sr t : Nat} {l : List Int32} (h1 : nr ∉ Gs ∧ sr ∉ Gs) (hN : rN1 S nr sr t l) : rN1 S' nr sr t l := by
  unfold rN1; rw [h.2 nr h1.1, h.2 sr h1.2]; exact hN
def PNS (S : dv_S) (t : Nat) : List Int32 := if S.2.1 352 t = 0 then tx S (25 + 2 * t) else tx S (354 + 2 * t)
def sfe (S : dv_S) (n un : Nat) (N : Nat → List Int32) : Prop := (∀ t, t < n → gdb (hmS S) N t = false) ∧ (∀ u, u < un → gst (hmS S) (wi S) (usS S) (utS S) N n u = false)
def A_scr (L : Int32) (xs : Nat → Int32) (S : dv_S) : Prop := S.1 100000 0 = L ∧ S.2.1 100000 = xs
def A_tr (S : dv_S) : Prop := S.1 516 1 = S.1 0 14
def A_tape (tn : Nat) (S : dv_S) : Prop := S.1 1 1 = nI tn ∧ tn ≤ 200 ∧ S.1 516 3 = nI tn ∧ ∀ k, k < tn → (∃ j, j < 256 ∧ S.2.1 2 k = nI j) ∧ S.2.1 517 k = (S.2.1 2 k).toInt8.toInt32
def A_sc (sn : Nat) (S : dv_S) : Prop := S.1 19 1 = nI sn ∧ 1 ≤ sn ∧ sn ≤ 20 ∧ S.1 516 4 = nI sn ∧ rAn S sn (wi S) ∧ ∀ s, s < sn → ∃ m, m < 2 ^ (s + 1) ∧ S.2.1 20 s = nI m
def A_th (n sn : Nat) (S : dv_S) : Prop := (S.1 21 3 = nI n ∧ S.1 516 5 = nI n ∧ n ≤ 80) ∧ ∀ t, t < n → (S.2.1 22 t = nI (hmS S t) ∧ hmS S t < sn ∧ S.2.1 519 t = nI (hmS S t)) ∧ S.2.1 520 t = S.2.1 23 t ∧ tl S (25 + 2 * t) ∧ nm_ok (tx S (25 + 2 * t)) = true ∧ rN1 S 524 521 t (tx S (25 + 2 * t))
def A_us (n sn un : Nat) (S : dv_S) : Prop := (S.1 185 2 = nI un ∧ S.1 516 6 = nI un ∧ un ≤ 150) ∧ ∀ u, u < un → S.2.1 186 u = nI (usS S u) ∧ usS S u < sn ∧ S.2.1 187 u = nI (utS S u) ∧ utS S u < n ∧ S.2.1 522 u = nI (usS S u) ∧ S.2.1 523 u = nI (utS S u)
def A_bk (w : Nat) (wl : Nat → Nat → Int32) (wm : Nat → Nat) (S : dv_S) : Prop := (S.1 13 5 = nI w ∧ S.1 516 17 = nI w ∧ w ≤ 60) ∧ ∀ j, j < w → S.2.2 14 j = cu_k (wl j) (wm j) ∧ (1 ≤ wm j ∧ wm j ≤ 12 ∧ ∀ k, k < wm j → ch_s (wl j k) = true ∧ S.2.1 527 (12 * j + k) = wl j k) ∧ S.2.1 528 j = nI (wm j) ∧ S.2.1 529 j = S.2.1 15 j ∧ S.2.1 530 j = S.2.1 16 j ∧ S.2.1 531 j = S.2.1 17 j ∧ (S.2.1 16 j = -1 ∨ ∃ i, i < w ∧ S.2.1 16 j = nI i) ∧ (∃ m, m < w ∧ S.2.1 17 j = nI m ∧ S.2.1 17 m = nI m)
def A_out (S : dv_S) : Prop := ∃ m, m ≤ 24 ∧ S.1 7 1 = nI m ∧ S.1 516 26 = nI m ∧ ∀ k, k < m → S.2.1 533 k = S.2.1 8 k
def A_pe (n : Nat) (S : dv_S) : Prop := (∀ t, t < 80 → ¬ S.2.1 189 t = 0 → t < n) ∧ S.1 188 2 = nI (dv_ct (fun t => decide (¬ S.2.1 189 t = 0)) 80) ∧ ∀ t, t < n → (S.2.1 535 t = 0 ↔ S.2.1 189 t = 0) ∧ (¬ S.2.1 189 t = 0 → tl S (191 + 2 * t) ∧ nm_ok (tx S (191 + 2 * t)) = true ∧ rN1 S 537 540 t (tx S (191 + 2 * t)))
def A_sf (n un : Nat) (S : dv_S) : Prop := sfe S n un (fun t => tx S (25 + 2 * t))
def A_bc (n un : Nat) (S : dv_S) : Prop := S.1 516 36 = S.1 0 13 ∧ (¬ S.1 0 13 = 0 → S.1 516 37 = S.1 351 2 ∧ (∀ t, t < n → (¬ S.2.1 352 t = 0 → tl S (354 + 2 * t)) ∧ nm_ok (PNS S t) = true ∧ rN1 S 539 542 t (PNS S t)) ∧ sfe S n un (PNS S))
section
variable {Fs : List (Nat × Nat)} {Gs : List Nat} {S S' : dv_S} {n sn un w tn : Nat} {wl : Nat → Nat → Int32} {wm : Nat → Nat} {L : Int32} {xs : Nat → Int32}
theorem A_scr_fr (h : fr2 Fs Gs S S') (h1 : (100000, 0) ∉ Fs) (h2 : 100000 ∉ Gs) (hA : A_scr L xs S) : A_scr L xs S' := by
  unfold A_scr; rw [h.1 _ _ h1, h.2 _ h2]; exact hA
theorem A_tr_fr (h : fr2 Fs Gs S S') (h1 : (516, 1) ∉ Fs ∧ (0, 14) ∉ Fs) (hA : A_tr S) : A_tr S' := by
  unfold A_tr; rw [h.1 _ _ h1.1, h.1 _ _ h1.2]; exact hA
theorem A_tape_fr (h : fr2 Fs Gs S S') (h1 : (1, 1) ∉ Fs ∧ (516, 3) ∉ Fs) (h2 : 2 ∉ Gs ∧ 517 ∉ Gs) (hA : A_tape tn S) : A_tape tn S' := by
  unfold A_tape; rw [h.1 _ _ h1.1, h.1 _ _ h1.2, h.2 _ h2.1, h.2 _ h2.2]; exact hA
theorem wi_fr (h : fr2 Fs Gs S S') (h2 : 20 ∉ Gs) : wi S' = wi S := by
  funext p q; unfold wi; rw [h.2 _ h2]
theorem A_sc_fr (h : fr2 Fs Gs S S') (h1 : (19, 1) ∉ Fs ∧ (516, 4) ∉ Fs) (h2 : 20 ∉ Gs ∧ 518 ∉ Gs) (hA : A_sc sn S) : A_sc sn S' := by
  unfold A_sc rAn; rw [wi_fr h h2.1, h.1 _ _ h1.1, h.1 _ _ h1.2, h.2 _ h2.1, h.2 _ h2.2]; exact hA
theorem hm_fr (h : fr2 Fs Gs S S') (h2 : 22 ∉ Gs) : hmS S' = hmS S := by
  funext t; unfold hmS; rw [h.2 _ h2]
theorem us_fr (h : fr2 Fs Gs S S') (h2 : 186 ∉ Gs) : usS S' = usS S := by
  funext t; unfold usS; rw [h.2 _ h2]
theorem ut_fr (h : fr2 Fs Gs S S') (h2 : 187 ∉ Gs) : utS S' = utS S := by
  funext t; unfold utS; rw [h.2 _ h2]
theorem A_th_fr (h : fr2 Fs Gs S S') (h1 : (21, 3) ∉ Fs ∧ (516, 5) ∉ Fs ∧ ∀ t, t < 80 → (25 + 2 * t, 1) ∉ Fs) (h2 : 22 ∉ Gs ∧ 23 ∉ Gs ∧ 519 ∉ Gs ∧ 520 ∉ Gs ∧ 521 ∉ Gs ∧ 524 ∉ Gs ∧ ∀ t, t < 80 → 25 + 2 * t + 1 ∉ Gs) (hA : A_th n sn S) : A_th n sn S' := by
  have h80 := hA.1.2.2
  refine ⟨by rw [h.1 _ _ h1.1, h.1 _ _ h1.2.1]; exact hA.1, fun t ht => ?_⟩
  obtain ⟨a1, a2, a3, a4, a5⟩ := hA.2 t ht
  rw [hm_fr h h2.1, h.2 _ h2.1, h.2 _ h2.2.1, h.2 _ h2.2.2.1, h.2 _ h2.2.2.2.1, fr2_tx h (h1.2.2 t (by omega)) (h2.2.2.2.2.2.2 t (by omega))]
  exact ⟨a1, a2, fr2_tl h (h1.2.2 t (by omega)) a3, a4, fr2_N1 h ⟨h2.2.2.2.2.2.1, h2.2.2.2.2.1⟩ a5⟩
theorem A_us_fr (h : fr2 Fs Gs S S') (h1 : (185, 2) ∉ Fs ∧ (516, 6) ∉ Fs) (h2 : 186 ∉ Gs ∧ 187 ∉ Gs ∧ 522 ∉ Gs ∧ 523 ∉ Gs) (hA : A_us n sn un S) : A_us n sn un S' := by
  unfold A_us; rw [us_fr h h2.1, ut_fr h h2.2.1, h.1 _ _ h1.1, h.1 _ _ h1.2, h.2 _ h2.1, h.2 _ h2.2.1, h.2 _ h2.2.2.1, h.2 _ h2.2.2.2]; exact hA
theorem A_bk_fr (h : fr2 Fs Gs S S') (hl : S'.2.2 = S.2.2) (h1 : (13, 5) ∉ Fs ∧ (516, 17) ∉ Fs) (h2 : 15 ∉ Gs ∧ 16 ∉ Gs ∧ 17 ∉ Gs ∧ 527 ∉ Gs ∧ 528 ∉ Gs ∧ 529 ∉ Gs ∧ 530 ∉ Gs ∧ 531 ∉ Gs) (hA : A_bk w wl wm S) : A_bk w wl wm S' := by
  unfold A_bk; rw [hl, h.1 _ _ h1.1, h.1 _ _ h1.2, h.2 _ h2.1, h.2 _ h2.2.1, h.2 _ h2.2.2.1, h.2 _ h2.2.2.2.1, h.2 _ h2.2.2.2.2.1, h.2 _ h2.2.2.2.2.2.1, h.2 _ h2.2.2.2.2.2.2.1, h.2 _ h2.2.2.2.2.2.2.2]; exact hA
theorem A_out_fr (h : fr2 Fs Gs S S') (h1 : (7, 1) ∉ Fs ∧ (516, 26) ∉ Fs) (h2 : 8 ∉ Gs ∧ 533 ∉ Gs) (hA : A_out S) : A_out S' := by
  unfold A_out; rw [h.1 _ _ h1.1, h.1 _ _ h1.2, h.2 _ h2.1, h.2 _ h2.2]; exact hA
theorem A_pe_fr (h : fr2 Fs Gs S S') (hn : n ≤ 80) (h1 : (188, 2) ∉ Fs ∧ ∀ t, t < 80 → (191 + 2 * t, 1) ∉ Fs) (h2 : 189 ∉ Gs ∧ 535 ∉ Gs ∧ 537 ∉ Gs ∧ 540 ∉ Gs ∧ ∀ t, t < 80 → 191 + 2 * t + 1 ∉ Gs) (hA : A_pe n S) : A_pe n S' := by
  refine ⟨by rw [h.2 _ h2.1]; exact hA.1, by rw [h.1 _ _ h1.1, h.2 _ h2.1]; exact hA.2.1, fun t ht => ?_⟩
  obtain ⟨a1, a2⟩ := hA.2.2 t ht
  rw [h.2 _ h2.1, h.2 _ h2.2.1, fr2_tx h (h1.2 t (by omega)) (h2.2.2.2.2 t (by omega))]
  exact ⟨a1, fun q => ⟨fr2_tl h (h1.2 t (by omega)) (a2 q).1, (a2 q).2.1, fr2_N1 h ⟨h2.2.2.1, h2.2.2.2.1⟩ (a2 q).2.2⟩⟩
theorem sfe_cong {N N' : Nat → List Int32} (hU : A_us n sn un S) (hN : ∀ t, t < n → N t = N' t) (h : sfe S n un N) : sfe S n un N' := by
  refine ⟨fun t ht => ?_, fun u hu => ?_⟩
  · rw [← gdb_cong hN ht]; exact h.1 t ht
  · rw [← gst_cong hN (hU.2 u hu).2.2.2.1]; exact h.2 u hu
theorem sfe_fr {N : Nat → List Int32} (h : fr2 Fs Gs S S') (h2 : 20 ∉ Gs ∧ 22 ∉ Gs ∧ 186 ∉ Gs ∧ 187 ∉ Gs) (hA : sfe S n un N) : sfe S' n un N := by
  unfold sfe; rw [wi_fr h h2.1, hm_fr h h2.2.1, us_fr h h2.2.2.1, ut_fr h h2.2.2.2]; exact hA
theorem A_sf_fr (h : fr2 Fs Gs S S') (hn : n ≤ 80) (hU : A_us n sn un S) (h1 : ∀ t, t < 80 → (25 + 2 * t, 1) ∉ Fs) (h2 : (20 ∉ Gs ∧ 22 ∉ Gs ∧ 186 ∉ Gs ∧ 187 ∉ Gs) ∧ ∀ t, t < 80 → 25 + 2 * t + 1 ∉ Gs) (hA : A_sf n un S) : A_sf n un S' :=
  sfe_fr h h2.1 (sfe_cong hU (fun t ht => (fr2_tx h (h1 t (by omega)) (h2.2 t (by omega))).symm) hA)
theorem PN_fr (h : fr2 Fs Gs S S') {t : Nat} (ht : t < 80) (h1 : (25 + 2 * t, 1) ∉ Fs ∧ (354 + 2 * t, 1) ∉ Fs) (h2 : 352 ∉ Gs ∧ 25 + 2 * t + 1 ∉ Gs ∧ 354 + 2 * t + 1 ∉ Gs) : PNS S' t = PNS S t := by
  unfold PNS; rw [h.2 _ h2.1, fr2_tx h h1.1 h2.2.1, fr2_tx h h1.2 h2.2.2]
theorem A_bc_fr (h : fr2 Fs Gs S S') (hn : n ≤ 80) (hU : A_us n sn un S) (h1 : ((516, 36) ∉ Fs ∧ (0, 13) ∉ Fs ∧ (516, 37) ∉ Fs ∧ (351, 2) ∉ Fs) ∧ ∀ t, t < 80 → (25 + 2 * t, 1) ∉ Fs ∧ (354 + 2 * t, 1) ∉ Fs) (h2 : (20 ∉ Gs ∧ 22 ∉ Gs ∧ 186 ∉ Gs ∧ 187 ∉ Gs) ∧ 352 ∉ Gs ∧ 539 ∉ Gs ∧ 542 ∉ Gs ∧ ∀ t, t < 80 → 25 + 2 * t + 1 ∉ Gs ∧ 354 + 2 * t + 1 ∉ Gs) (hA : A_bc n un S) : A_bc n un S' := by
  have hp : ∀ t, t < n → PNS S' t = PNS S t := fun t ht => PN_fr h (by omega) (h1.2 t (by omega)) ⟨h2.2.1, h2.2.2.2.2 t (by omega)⟩
  unfold A_bc
  rw [h.1 _ _ h1.1.1, h.1 _ _ h1.1.2.1, h.1 _ _ h1.1.2.2.1, h.1 _ _ h1.1.2.2.2, h.2 _ h2.2.1]
  refine ⟨hA.1, fun q => ?_⟩
  obtain ⟨a1, a2, a3⟩ := hA.2 q
  refine ⟨a1, fun t ht => ?_, sfe_fr h h2.1 (sfe_cong hU (fun t ht => (hp t ht).symm) a3)⟩
  rw [hp t ht]
  exact ⟨fun z => fr2_tl h (h1.2 t (by omega)).2 ((a2 t ht).1 z), (a2 t ht).2.1, fr2_N1 h ⟨h2.2.2.1, h2.2.2.2.1⟩ (a2 t ht).2.2⟩
end
/-- class and reference agree -/
def RelX (L : Int32) (xs : Nat → Int32) (n sn un w tn : Nat) (wl : Nat → Nat → Int32) (wm : Nat → Nat) (S : dv_S) : Prop :=
  A_scr L xs S ∧ A_tr S ∧ A_tape tn S ∧ A_sc sn S ∧ A_th n sn S ∧ A_us n sn un S ∧ A_bk w wl wm S ∧ A_out S ∧ A_pe n S ∧ A_sf n un S ∧ A_bc n un S
def Rel (L : Int32) (xs : Nat → Int32) (S : dv_S) : Prop := ∃ n sn un w tn wl wm, RelX L xs n sn un w tn wl wm S
abbrev scF : List (Nat × Nat) := [(9, 4), (5, 1), (5, 2), (3, 1), (3, 2), (516, 0), (516, 16), (516, 27)]
abbrev scG : List Nat := [6, 10, 11, 12, 18, 515, 514, 4, 525, 526, 532, 534, 536, 538, 541]
theorem RelX_sc {L : Int32} {xs : Nat → Int32} {n sn un w tn : Nat} {wl : Nat → Nat → Int32} {wm : Nat → Nat} {S S' : dv_S} (h : fr scF scG S S') (hR : RelX L xs n sn un w tn wl wm S) : RelX L xs n sn un w tn wl wm S' := by
  obtain ⟨r1, r2, r3, r4, r5, r6, r7, r8, r9, r10, r11⟩ := hR
  have h2 := fr_2 h
  have hn := r5.1.2.2
  refine ⟨A_scr_fr h2 (by decide) (by decide) r1, A_tr_fr h2 (by decide) r2, A_tape_fr h2 (by decide) (by decide) r3, A_sc_fr h2 (by decide) (by decide) r4, A_th_fr h2 ⟨by decide, by decide, fun t ht => by simp <;> omega⟩ ⟨by decide, by decide, by decide, by decide, by decide, by decide, fun t ht => by simp <;> omega⟩ r5, A_us_fr h2 (by decide) (by decide) r6, A_bk_fr h2 h.2.2 (by decide) (by decide) r7, A_out_fr h2 (by decide) (by decide) r8, A_pe_fr h2 hn ⟨by decide, fun t ht => by simp <;> omega⟩ ⟨by decide, by decide, by decide, by decide, fun t ht => by simp <;> omega⟩ r9, A_sf_fr h2 hn r6 (fun t ht => by simp <;> omega) ⟨by decide, fun t ht => by simp <;> omega⟩ r10, A_bc_fr h2 hn r6 ⟨by decide, fun t ht => ⟨by simp <;> omega, by simp <;> omega⟩⟩ ⟨by decide, by decide, by decide, by decide, fun t ht => ⟨by simp <;> omega, by simp <;> omega⟩⟩ r11⟩
section
variable {L : Int32} {xs : Nat → Int32} {n sn un w tn : Nat} {wl : Nat → Nat → Int32} {wm : Nat → Nat} {S : dv_S}
theorem RelX.T (h : RelX L xs n sn un w tn wl wm S) : cw_T S n := by
  obtain ⟨r1, r2, r3, r4, r5, r6, r7, r8, r9, r10, r11⟩ := h
  exact ⟨r5.1.1, r5.1.2.2, fun t ht => ⟨(r5.2 t ht).2.2.1, fun q => ((r9.2.2 t ht).2 q).1⟩⟩
theorem RelX.S' (h : RelX L xs n sn un w tn wl wm S) : cw_S S n sn := by
  obtain ⟨r1, r2, r3, r4, r5, r6, r7, r8, r9, r10, r11⟩ := h
  exact ⟨r4.1, r4.2.2.1, fun t ht => ⟨(r5.2 t ht).1.1, (r5.2 t ht).1.2.1⟩⟩
theorem RelX.U (h : RelX L xs n sn un w tn wl wm S) : cw_U S n sn un := by
  obtain ⟨r1, r2, r3, r4, r5, r6, r7, r8, r9, r10, r11⟩ := h
  exact ⟨r6.1.1, r6.1.2.2, fun u hu => ⟨(r6.2 u hu).1, (r6.2 u hu).2.1, (r6.2 u hu).2.2.1, (r6.2 u hu).2.2.2.1⟩⟩
theorem RelX.B (h : RelX L xs n sn un w tn wl wm S) : cw_B S w wl wm := by
  obtain ⟨r1, r2, r3, r4, r5, r6, r7, r8, r9, r10, r11⟩ := h
  exact ⟨r7.1.1, r7.1.2.2, fun j hj => ⟨(r7.2 j hj).1, (r7.2 j hj).2.1.1, (r7.2 j hj).2.1.2.1, fun k hk => ((r7.2 j hj).2.1.2.2 k hk).1⟩⟩
theorem nm_ch {l : List Int32} (h : nm_ok l = true) : ∀ x ∈ l, ch_n x = true := by
  unfold nm_ok at h
  simp only [Bool.and_eq_true, List.all_eq_true] at h
  exact h.1.2
theorem RelX.X (h : RelX L xs n sn un w tn wl wm S) : RX S S n w wl wm := by
  obtain ⟨r1, r2, r3, r4, r5, r6, r7, r8, r9, r10, r11⟩ := h
  refine ⟨⟨r5.1.2.1, r5.1.2.2⟩, ⟨r7.1.2.1, r7.1.2.2⟩, fun t ht => ?_, fun j hj => ?_⟩
  · obtain ⟨a1, a2, a3, a4, a5⟩ := r5.2 t ht
    have el : (tx S (25 + 2 * t)).length = nlS S t := dv_rd_len _ _
    refine ⟨by rw [a5.1, el], by rw [← el]; exact a5.2.1, fun k hk => ?_, a2⟩
    have e1 := rN1_at a5 (z := k) (by rw [el]; exact hk)
    have e2 : (tx S (25 + 2 * t)).getD k 0 = nfS S t k := by
      unfold tx; rw [List.getD_eq_getElem?_getD, dv_rd_at hk]; rfl
    rw [e1, e2]
    refine ⟨rfl, nm_ch a4 _ ?_⟩
    exact List.mem_map.mpr ⟨k, List.mem_range.mpr hk, rfl⟩
  · obtain ⟨b1, b2, b3, b4, b5, b6, b7, b8⟩ := r7.2 j hj
    exact ⟨b3, b2.1, b2.2.1, fun k hk => ⟨(b2.2.2 k hk).2, (b2.2.2 k hk).1⟩, b1, b4, b5, b6, b7⟩
theorem RelX.rT (h : RelX L xs n sn un w tn wl wm S) : rw_T S n := ⟨h.2.2.2.2.1.1.2.1, h.2.2.2.2.1.1.2.2⟩
theorem RelX.rS (h : RelX L xs n sn un w tn wl wm S) : rw_S S n sn (hmS S) (wi S) := by
  obtain ⟨r1, r2, r3, r4, r5, r6, r7, r8, r9, r10, r11⟩ := h
  exact ⟨r4.2.2.2.1, r4.2.2.1, fun t ht => ⟨(r5.2 t ht).1.2.2, (r5.2 t ht).1.2.1⟩, r4.2.2.2.2.1⟩
theorem RelX.rU (h : RelX L xs n sn un w tn wl wm S) : rw_U S n sn un (usS S) (utS S) := by
  obtain ⟨r1, r2, r3, r4, r5, r6, r7, r8, r9, r10, r11⟩ := h
  exact ⟨r6.1.2.1, r6.1.2.2, fun u hu => ⟨(r6.2 u hu).2.2.2.2.1, (r6.2 u hu).2.1, (r6.2 u hu).2.2.2.2.2, (r6.2 u hu).2.2.2.1⟩⟩
theorem RelX.rN (h : RelX L xs n sn un w tn wl wm S) : rwN S n (fun t => tx S (191 + 2 * t)) (fun t => tx S (25 + 2 * t)) := by
  obtain ⟨r1, r2, r3, r4, r5, r6, r7, r8, r9, r10, r11⟩ := h
  intro t ht
  refine ⟨(r5.2 t ht).2.2.2.2, nm_ch (r5.2 t ht).2.2.2.1, fun q => ?_⟩
  have z := (r9.2.2 t ht).2 (fun e => q ((r9.2.2 t ht).1.mpr e))
  exact ⟨z.2.2, nm_ch z.2.1⟩
theorem RelX.Nm (h : RelX L xs n sn un w tn wl wm S) : rNm S 524 521 n (fun t => tx S (25 + 2 * t)) := fun t ht => (h.2.2.2.2.1.2 t ht).2.2.2.2
end
theorem rS_sc (S : dv_S) : fr scF scG S (rS S) := ⟨fun a k q => dv_u_ne S.1 _ (fun z => q (by rw [z.1, z.2]; decide)), fun _ _ => rfl, rfl⟩
theorem sc_sc {S S' : dv_S} (h : sc S S') : fr scF scG S S' := h.fr.mono (by decide) (by decide)
theorem rcF_sc {S S' : dv_S} (h : rcF S S') : fr scF scG S S' := h.mono (by decide) (by decide)
