theorem A_th_nw {P : Nat × Nat → Prop} {G : Nat → Prop} {S S' : dv_S} {n sn : Nat} {N : Nat → List Int32} (h : frP P G S S') (h1 : ¬ P (21, 3) ∧ ¬ P (516, 5)) (h2 : ¬ G 22 ∧ ¬ G 23 ∧ ¬ G 519 ∧ ¬ G 520) (hN : ∀ t, t < n → tv S' (25 + 2 * t) (N t) ∧ nm_ok (N t) = true ∧ rN1 S' 524 521 t (N t)) (hA : A_th n sn S) : A_th n sn S' := by
  refine ⟨by rw [h.1 _ _ h1.1, h.1 _ _ h1.2]; exact hA.1, fun t ht => ?_⟩
  obtain ⟨a1, a2, a3, a4, a5⟩ := hA.2 t ht
  obtain ⟨b1, b2, b3⟩ := hN t ht
  rw [hm_P h h2.1, h.2 _ h2.1, h.2 _ h2.2.1, h.2 _ h2.2.2.1, h.2 _ h2.2.2.2, tv_tx b1]
  exact ⟨a1, a2, tv_tl b1, b2, b3⟩
theorem A_sf_nw {P : Nat × Nat → Prop} {G : Nat → Prop} {S S' : dv_S} {n sn un : Nat} {N : Nat → List Int32} (h : frP P G S S') (h2 : ¬ G 20 ∧ ¬ G 22 ∧ ¬ G 186 ∧ ¬ G 187) (hU : A_us n sn un S) (hN : ∀ t, t < n → tx S' (25 + 2 * t) = N t) (hA : sfe S n un N) : A_sf n un S' :=
  sfe_P h h2 (sfe_cong hU (fun t ht => (hN t ht).symm) hA)
theorem tv_fr {Fs : List (Nat × Nat)} {Gs : List Nat} {S S' : dv_S} {a : Nat} {l : List Int32} (h : fr Fs Gs S S') (h1 : (a, 1) ∉ Fs) (h2 : a + 1 ∉ Gs) (hv : tv S a l) : tv S' a l := hv.of (h.1 a 1 h1) (h.2.1 _ h2)
theorem bkn_tv (S : dv_S) : ∀ m, m ≤ 80 → ∀ t, t < m → tl S (25 + 2 * t) → (¬ S.2.1 352 t = 0 → tl S (354 + 2 * t)) → tv (bkn S m) (25 + 2 * t) (PNS S t)
  | 0, _, t, h, _, _ => absurd h (Nat.not_lt_zero t)
  | m + 1, hm, t, ht, h1, h2 => by
    by_cases hq : t = m
    · subst hq
      by_cases hc : S.2.1 352 t = 0
      · rw [bkn_n hc]
        unfold PNS; rw [if_pos hc]
        have e := bkn_F S t (by omega)
        exact (tl_tv h1).of (e.1 _ 1 (fun j hj => by omega)) (e.2.1 _ (fun j hj => by omega))
      · rw [bkn, if_neg hc]
        unfold PNS; rw [if_neg hc]
        exact tx_tv (bkn S t) (25 + 2 * t) _ (h2 hc).2
    · have ih := bkn_tv S m (by omega) t (by omega) h1 h2
      by_cases hc : S.2.1 352 m = 0
      · rw [bkn_n hc]; exact ih
      · rw [bkn, if_neg hc]
        exact tv_fr (tx_fr (bkn S m) (25 + 2 * m) _ _) (by simp; omega) (by simp; omega) ih
def pB (F : List (Nat × Nat)) : Nat × Nat → Prop := fun x => x ∈ F ∨ x.1 = 351 ∨ ∃ j, j < 80 ∧ (x.1 = 25 + 2 * j ∨ x.1 = 354 + 2 * j)
def gB (F : List Nat) : Nat → Prop := fun x => x ∈ F ∨ x = 352 ∨ ∃ j, j < 80 ∧ (x = 26 + 2 * j ∨ x = 355 + 2 * j)
theorem pB_n {F : List (Nat × Nat)} {a k : Nat} (h1 : (a, k) ∉ F) (h2 : a < 25 ∨ (183 < a ∧ a < 351) ∨ 512 < a) : ¬ pB F (a, k) := by
  rintro (h | h | ⟨j, hj, h⟩)
  · exact h1 h
  · simp at h; omega
  · simp at h; omega
theorem gB_n {F : List Nat} {a : Nat} (h1 : a ∉ F) (h2 : a < 26 ∨ (184 < a ∧ a < 352) ∨ 513 < a) : ¬ gB F a := by
  rintro (h | h | ⟨j, hj, h⟩)
  · exact h1 h
  · omega
  · omega
theorem frB_of {Fs F : List (Nat × Nat)} {Gs G : List Nat} {S S' : dv_S} (h : fr Fs Gs S S') (h1 : ∀ x ∈ Fs, x ∈ F) (h2 : ∀ x ∈ Gs, x ∈ G) : frP (pB F) (gB G) S S' := frP_of h (fun x hx => Or.inl (h1 x hx)) (fun x hx => Or.inl (h2 x hx))
section
variable {L : Int32} {xs : Nat → Int32} {n sn un w tn : Nat} {wl : Nat → Nat → Int32} {wm : Nat → Nat} {S : dv_S}
/-! back -/
theorem back_Rel (hR : RelX L xs n sn un w tn wl wm S) (hb : ¬ S.1 0 13 = 0) {S3 : dv_S} (hM : bcI (dv_u (rS (rfS (dv_u (bkn S n).1 0 13 0, (bkn S n).2) 0)).1 516 36 0, (rS (rfS (dv_u (bkn S n).1 0 13 0, (bkn S n).2) 0)).2) (PNS S) n S3) : Rel L xs (rT S3 0) := by
  obtain ⟨r1, r2, r3, r4, r5, r6, r7, r8, r9, r10, r11⟩ := hR
  have hn := r5.1.2.2
  obtain ⟨c1, c2, c3⟩ := r11.2 hb
  have hF := bkn_F S n hn
  have hv : ∀ t, t < n → tv (bkn S n) (25 + 2 * t) (PNS S t) := fun t ht => bkn_tv S n hn t ht (r5.2 t ht).2.2.1 (c2 t ht).1
  have e0 : frP (pB ((0, 13) :: (0, 14) :: (516, 36) :: (516, 1) :: scF)) (gB (524 :: 521 :: scG)) S (bkn S n) := ⟨fun a k q => hF.1 a k (fun j hj z => q (Or.inr (Or.inr ⟨j, by omega, Or.inl z⟩))), fun a q => hF.2.1 a (fun j hj z => q (Or.inr (Or.inr ⟨j, by omega, Or.inl z⟩)))⟩
  have el := hF.2.2
  generalize bkn S n = T at *
  have f1 : fr [(0, 13)] [] T (dv_u T.1 0 13 0, T.2) := ⟨fun a k q => dv_u_ne T.1 _ (by simpa using q), fun _ _ => rfl, rfl⟩
  have g1 : (dv_u T.1 0 13 0, T.2).1 0 13 = 0 := dv_u_eq T.1 0 13 0
  generalize (dv_u T.1 0 13 0, T.2) = T1 at *
  have f2 : fr [(0, 14), (516, 0)] [] T1 (rS (rfS T1 0)) := ((rf_fr T1 0).mono (by decide) (by decide)).tr ((rs_fr _).mono (by decide) (by decide))
  have g2 : (rS (rfS T1 0)).1 0 14 = 0 := by
    rw [(rs_fr _).1 0 14 (by decide)]
    exact dv_u_eq T1.1 0 14 0
  generalize rS (rfS T1 0) = T2 at *
  have f3 : fr [(516, 36)] [] T2 (dv_u T2.1 516 36 0, T2.2) := ⟨fun a k q => dv_u_ne T2.1 _ (by simpa using q), fun _ _ => rfl, rfl⟩
  have g3 : (dv_u T2.1 516 36 0, T2.2).1 516 36 = 0 := dv_u_eq T2.1 516 36 0
  generalize (dv_u T2.1 516 36 0, T2.2) = T3 at *
  obtain ⟨f4, hN⟩ := hM
  have f5 := rt_fr S3 0
  have g5 : (rT S3 0).1 516 1 = 0 := dv_u_eq S3.1 516 1 0
  generalize rT S3 0 = T5 at *
  have e1 : fr [(0, 13), (0, 14), (516, 0), (516, 36), (516, 1)] [524, 521] T T5 := (f1.mono (by decide) (by decide)).tr ((f2.mono (by decide) (by decide)).tr ((f3.mono (by decide) (by decide)).tr ((f4.mono (by decide) (by decide)).tr (f5.mono (by decide) (by decide)))))
  have e : frP (pB ((0, 13) :: (0, 14) :: (516, 36) :: (516, 1) :: scF)) (gB (524 :: 521 :: scG)) S T5 := frP_tr e0 (frB_of e1 (by decide) (by decide))
  have hl : T5.2.2 = S.2.2 := e1.2.2.trans el
  have hv5 : ∀ t, t < n → tv T5 (25 + 2 * t) (PNS S t) := fun t ht => tv_fr e1 (by simp; omega) (by simp; omega) (hv t ht)
  refine ⟨n, sn, un, w, tn, wl, wm, A_scr_P e (pB_n (by decide) (by omega)) (gB_n (by decide) (by omega)) r1, ?_, A_tape_P e ⟨pB_n (by decide) (by omega), pB_n (by decide) (by omega)⟩ ⟨gB_n (by decide) (by omega), gB_n (by decide) (by omega)⟩ r3, A_sc_P e ⟨pB_n (by decide) (by omega), pB_n (by decide) (by omega)⟩ ⟨gB_n (by decide) (by omega), gB_n (by decide) (by omega)⟩ r4, A_th_nw (N := PNS S) e ⟨pB_n (by decide) (by omega), pB_n (by decide) (by omega)⟩ ⟨gB_n (by decide) (by omega), gB_n (by decide) (by omega), gB_n (by decide) (by omega), gB_n (by decide) (by omega)⟩ (fun t ht => ⟨hv5 t ht, (c2 t ht).2.1, rN1_fr f5 (by decide) (hN t ht)⟩) r5, A_us_P e ⟨pB_n (by decide) (by omega), pB_n (by decide) (by omega)⟩ ⟨gB_n (by decide) (by omega), gB_n (by decide) (by omega), gB_n (by decide) (by omega), gB_n (by decide) (by omega)⟩ r6, A_bk_P e hl ⟨pB_n (by decide) (by omega), pB_n (by decide) (by omega)⟩ ⟨gB_n (by decide) (by omega), gB_n (by decide) (by omega), gB_n (by decide) (by omega), gB_n (by decide) (by omega), gB_n (by decide) (by omega), gB_n (by decide) (by omega), gB_n (by decide) (by omega), gB_n (by decide) (by omega)⟩ r7, A_out_P e ⟨pB_n (by decide) (by omega), pB_n (by decide) (by omega)⟩ ⟨gB_n (by decide) (by omega), gB_n (by decide) (by omega)⟩ r8, A_pe_P e hn ⟨pB_n (by decide) (by omega), fun t ht => pB_n (by simp; omega) (by omega)⟩ ⟨gB_n (by decide) (by omega), gB_n (by decide) (by omega), gB_n (by decide) (by omega), gB_n (by decide) (by omega), fun t ht => gB_n (by simp; omega) (by omega)⟩ r9, A_sf_nw e ⟨gB_n (by decide) (by omega), gB_n (by decide) (by omega), gB_n (by decide) (by omega), gB_n (by decide) (by omega)⟩ r6 (fun t ht => tv_tx (hv5 t ht)) c3, ?_⟩
  · show T5.1 516 1 = T5.1 0 14
    rw [g5, f5.1 0 14 (by decide), f4.1 0 14 (by decide), f3.1 0 14 (by decide), g2]
  · have x1 : T5.1 0 13 = 0 := by rw [f5.1 0 13 (by decide), f4.1 0 13 (by decide), f3.1 0 13 (by decide), f2.1 0 13 (by decide), g1]
    have x2 : T5.1 516 36 = 0 := by rw [f5.1 516 36 (by decide), f4.1 516 36 (by decide), g3]
    exact ⟨by rw [x1, x2], fun q => absurd x1 q⟩
end
