section
variable {L : Int32} {xs : Nat → Int32} {n sn un w tn : Nat} {wl : Nat → Nat → Int32} {wm : Nat → Nat} {S : dv_S}
def tuS (S : dv_S) (n : Nat) : dv_S := (dv_u (nnS (trn S n)).1 0 13 1, (nnS (trn S n)).2)
abbrev tuF : List (Nat × Nat) := (188, 2) :: (0, 13) :: (0, 14) :: (516, 36) :: (516, 37) :: (516, 1) :: scF
abbrev tuG : List Nat := 189 :: 535 :: 539 :: 542 :: 524 :: 521 :: scG
theorem tuS_fr (S : dv_S) (n : Nat) : fr [(188, 2), (0, 13)] [189] (trn S n) (tuS S n) := ((nnS_fr (trn S n)).mono (by decide) (by decide)).tr ⟨fun a k q => dv_u_ne (nnS (trn S n)).1 _ (by simp at q ⊢; omega), fun _ _ => rfl, rfl⟩
theorem tuS_P (S : dv_S) {n : Nat} (hn : n ≤ 80) : frP (pB tuF) (gB tuG) S (tuS S n) := by
  have hF := trn_F S n hn
  have e0 : frP (pB tuF) (gB tuG) S (trn S n) := ⟨fun a k q => hF.1 a k (fun z => q (Or.inr (Or.inl z))) (fun j hj => ⟨fun z => q (Or.inr (Or.inr ⟨j, by omega, Or.inl z⟩)), fun z => q (Or.inr (Or.inr ⟨j, by omega, Or.inr z⟩))⟩), fun a q => hF.2.1 a (fun z => q (Or.inr (Or.inl z))) (fun j hj => ⟨fun z => q (Or.inr (Or.inr ⟨j, by omega, Or.inl z⟩)), fun z => q (Or.inr (Or.inr ⟨j, by omega, Or.inr z⟩))⟩)⟩
  exact frP_tr e0 (frB_of (tuS_fr S n) (by decide) (by decide))
theorem turn_Rel (hR : RelX L xs n sn un w tn wl wm S) (hg : sfe S n un (tnN S)) {S1 S2 S3 : dv_S} (h1 : S1 = rS (rfS (tuS S n) 0)) (hA : fr [] [536, 538, 541] S1 S2) {TN : Nat → List Int32} (hTN : ∀ t, t < n → TN t = tnN S t) {x : Int32} (hx : x = nI (dv_ct (fun t => decide (¬ S.2.1 189 t = 0)) n)) (hM : tnI (dv_u S2.1 516 37 x, S2.2) TN (fun t => tx S (25 + 2 * t)) n n S3) : Rel L xs (rT (dv_u S3.1 516 36 1, S3.2) 0) := by
  obtain ⟨r1, r2, r3, r4, r5, r6, r7, r8, r9, r10, r11⟩ := hR
  have hn := r5.1.2.2
  obtain ⟨v1, v2, v3, v4⟩ := trn_all S n hn (fun t ht => ⟨(r5.2 t ht).2.2.1, fun q => ((r9.2.2 t ht).2 q).1⟩)
  have e0 := tuS_P S hn
  have f0 := tuS_fr S n
  have l0 := (trn_F S n hn).2.2
  have g13 : (tuS S n).1 0 13 = 1 := dv_u_eq (nnS (trn S n)).1 0 13 1
  have g188 : (tuS S n).1 188 2 = 0 := by
    show dv_u (dv_u (trn S n).1 188 2 0) 0 13 1 188 2 = 0
    rw [dv_u_ne _ _ (by decide), dv_u_eq]
  have g189 : ∀ t, t < 80 → (tuS S n).2.1 189 t = 0 := fun t ht => nnS_189 (trn S n) ht
  generalize tuS S n = T at *
  generalize trn S n = T0 at *
  have f2 : fr [(0, 14), (516, 0)] [] T S1 := by
    rw [h1]; exact ((rf_fr T 0).mono (by decide) (by decide)).tr ((rs_fr _).mono (by decide) (by decide))
  have g2 : S1.1 0 14 = 0 := by
    rw [h1, (rs_fr _).1 0 14 (by decide)]
    exact dv_u_eq T.1 0 14 0
  clear h1
  have f3 : fr [(516, 37)] [] S2 (dv_u S2.1 516 37 x, S2.2) := ⟨fun a k q => dv_u_ne S2.1 _ (by simpa using q), fun _ _ => rfl, rfl⟩
  have g3 : (dv_u S2.1 516 37 x, S2.2).1 516 37 = x := dv_u_eq S2.1 516 37 x
  generalize (dv_u S2.1 516 37 x, S2.2) = T3 at *
  obtain ⟨f4, hN, -⟩ := hM
  have f5 : fr [(516, 36)] [] S3 (dv_u S3.1 516 36 1, S3.2) := ⟨fun a k q => dv_u_ne S3.1 _ (by simpa using q), fun _ _ => rfl, rfl⟩
  have g5 : (dv_u S3.1 516 36 1, S3.2).1 516 36 = 1 := dv_u_eq S3.1 516 36 1
  generalize (dv_u S3.1 516 36 1, S3.2) = T5 at *
  have f6 := rt_fr T5 0
  have g6 : (rT T5 0).1 516 1 = 0 := dv_u_eq T5.1 516 1 0
  generalize rT T5 0 = T6 at *
  have e1 : fr [(0, 14), (516, 0), (516, 37), (516, 36), (516, 1)] [536, 538, 541, 535, 539, 542, 524, 521] T T6 := (f2.mono (by decide) (by decide)).tr ((hA.mono (by decide) (by decide)).tr ((f3.mono (by decide) (by decide)).tr ((f4.mono (by decide) (by decide)).tr ((f5.mono (by decide) (by decide)).tr (f6.mono (by decide) (by decide))))))
  have e : frP (pB tuF) (gB tuG) S T6 := frP_tr e0 (frB_of e1 (by decide) (by decide))
  have e2 : fr [(188, 2), (0, 13), (0, 14), (516, 0), (516, 37), (516, 36), (516, 1)] [189, 536, 538, 541, 535, 539, 542, 524, 521] T0 T6 := (f0.mono (by decide) (by decide)).tr (e1.mono (by decide) (by decide))
  have e3 : fr [(516, 36), (516, 1)] [] S3 T6 := (f5.mono (by decide) (by decide)).tr (f6.mono (by decide) (by decide))
  have hl : T6.2.2 = S.2.2 := e2.2.2.trans l0
  have hv6 : ∀ t, t < n → tv T6 (25 + 2 * t) (tnN S t) := fun t ht => tv_fr e2 (by simp <;> omega) (by simp <;> omega) (v1 t ht)
  have hw6 : ∀ t, t < n → ¬ S.2.1 189 t = 0 → tv T6 (354 + 2 * t) (tx S (25 + 2 * t)) := fun t ht q => tv_fr e2 (by simp <;> omega) (by simp <;> omega) (v2 t ht q)
  have h352 : ∀ t, t < n → (T6.2.1 352 t = 0 ↔ S.2.1 189 t = 0) := fun t ht => by
    rw [e2.2.1 352 (by decide), v3 t (by omega)]
    by_cases q : S.2.1 189 t = 0
    · simp [q, dv_b]
    · simp [q, dv_b, ht]
  have hP : ∀ t, t < n → PNS T6 t = tx S (25 + 2 * t) := fun t ht => by
    unfold PNS
    by_cases q : S.2.1 189 t = 0
    · rw [if_pos ((h352 t ht).mpr q), tv_tx (hv6 t ht)]
      unfold tnN; rw [if_pos q]
    · rw [if_neg (fun z => q ((h352 t ht).mp z)), tv_tx (hw6 t ht q)]
  have z1 : ∀ t, t < 80 → T6.2.1 189 t = 0 := fun t ht => by rw [e1.2.1 189 (by decide)]; exact g189 t ht
  have z2 : ∀ t, t < n → T6.2.1 535 t = 0 := fun t ht => by rw [e3.2.1 535 (by decide)]; exact (hN t ht).2.2
  have hok : ∀ t, t < n → nm_ok (tnN S t) = true := fun t ht => by
    unfold tnN; split
    · exact (r5.2 t ht).2.2.2.1
    · rename_i q; exact ((r9.2.2 t ht).2 q).2.1
  have x13 : T6.1 0 13 = 1 := by rw [e1.1 0 13 (by decide), g13]
  have x36 : T6.1 516 36 = 1 := by rw [f6.1 516 36 (by decide), g5]
  have x37 : T6.1 516 37 = x := by rw [e3.1 516 37 (by decide), f4.1 516 37 (by decide), g3]
  have x351 : T6.1 351 2 = x := by rw [e2.1 351 2 (by decide), v4, hx]
  refine ⟨n, sn, un, w, tn, wl, wm, A_scr_P e (pB_n (by decide) (by omega)) (gB_n (by decide) (by omega)) r1, ?_, A_tape_P e ⟨pB_n (by decide) (by omega), pB_n (by decide) (by omega)⟩ ⟨gB_n (by decide) (by omega), gB_n (by decide) (by omega)⟩ r3, A_sc_P e ⟨pB_n (by decide) (by omega), pB_n (by decide) (by omega)⟩ ⟨gB_n (by decide) (by omega), gB_n (by decide) (by omega)⟩ r4, A_th_nw (N := tnN S) e ⟨pB_n (by decide) (by omega), pB_n (by decide) (by omega)⟩ ⟨gB_n (by decide) (by omega), gB_n (by decide) (by omega), gB_n (by decide) (by omega), gB_n (by decide) (by omega)⟩ (fun t ht => ⟨hv6 t ht, hok t ht, rN1_fr e3 (by decide) (hTN t ht ▸ (hN t ht).2.1)⟩) r5, A_us_P e ⟨pB_n (by decide) (by omega), pB_n (by decide) (by omega)⟩ ⟨gB_n (by decide) (by omega), gB_n (by decide) (by omega), gB_n (by decide) (by omega), gB_n (by decide) (by omega)⟩ r6, A_bk_P e hl ⟨pB_n (by decide) (by omega), pB_n (by decide) (by omega)⟩ ⟨gB_n (by decide) (by omega), gB_n (by decide) (by omega), gB_n (by decide) (by omega), gB_n (by decide) (by omega), gB_n (by decide) (by omega), gB_n (by decide) (by omega), gB_n (by decide) (by omega), gB_n (by decide) (by omega)⟩ r7, A_out_P e ⟨pB_n (by decide) (by omega), pB_n (by decide) (by omega)⟩ ⟨gB_n (by decide) (by omega), gB_n (by decide) (by omega)⟩ r8, ?_, A_sf_nw e ⟨gB_n (by decide) (by omega), gB_n (by decide) (by omega), gB_n (by decide) (by omega), gB_n (by decide) (by omega)⟩ r6 (fun t ht => tv_tx (hv6 t ht)) hg, ?_⟩
  · show T6.1 516 1 = T6.1 0 14
    rw [g6, f6.1 0 14 (by decide), f5.1 0 14 (by decide), f4.1 0 14 (by decide), f3.1 0 14 (by decide), hA.1 0 14 (by decide), g2]
  · refine ⟨fun t ht q => absurd (z1 t ht) q, ?_, fun t ht => ⟨⟨fun _ => z1 t (by omega), fun _ => z2 t ht⟩, fun q => absurd (z1 t (by omega)) q⟩⟩
    rw [dv_ct_cong (q := fun _ => false) (fun t ht => by rw [z1 t ht]; decide), dv_ct_ff, e1.1 188 2 (by decide), g188]; rfl
  · refine ⟨by rw [x13, x36], fun _ => ⟨by rw [x37, x351], fun t ht => ⟨fun q => tv_tl (hw6 t ht (fun z => q ((h352 t ht).mpr z))), ?_, ?_⟩, sfe_P e ⟨gB_n (by decide) (by omega), gB_n (by decide) (by omega), gB_n (by decide) (by omega), gB_n (by decide) (by omega)⟩ (sfe_cong r6 (fun t ht => (hP t ht).symm) r10)⟩⟩
    · rw [hP t ht]; exact (r5.2 t ht).2.2.2.1
    · rw [hP t ht]; exact rN1_fr e3 (by decide) (hN t ht).1
end
