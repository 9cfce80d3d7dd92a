section
variable {L : Int32} {xs : Nat → Int32} {n sn un w tn : Nat} {wl : Nat → Nat → Int32} {wm : Nat → Nat} {S : dv_S}
theorem feed_Rel (hR : RelX L xs n sn un w tn wl wm S) (h : tn + 20 ≤ 200) (xa xb xc xd xe : Int32) : Rel L xs (fdR (dv_an (dv_an (dv_an (dv_an (dv_an S 1 (tn + 0) xa) 1 (tn + 4) xb) 1 (tn + 8) xc) 1 (tn + 12) xd) 1 (tn + 16) xe) tn xa xb xc xd xe 20) ∧ (dv_an (dv_an (dv_an (dv_an (dv_an S 1 (tn + 0) xa) 1 (tn + 4) xb) 1 (tn + 8) xc) 1 (tn + 12) xd) 1 (tn + 16) xe).1 516 3 = nI tn := by
  rw [show dv_an (dv_an (dv_an (dv_an (dv_an S 1 (tn + 0) xa) 1 (tn + 4) xb) 1 (tn + 8) xc) 1 (tn + 12) xd) 1 (tn + 16) xe = apn S tn (cby xa xb xc xd xe) 20 from rfl, apn_eq _ hR.2.2.1.1]
  obtain ⟨r1, r2, r3, r4, r5, r6, r7, r8, r9, r10, r11⟩ := hR
  have hn := r5.1.2.2
  have e1 : fr [(1, 1)] [2] S (dv_u S.1 1 1 (nI (tn + 20)), dv_ro S.2.1 2 tn (cby xa xb xc xd xe) 20, S.2.2) := ⟨fun a k q => dv_u_ne S.1 _ (by simpa using q), fun a q => dv_ro_row (f := S.2.1) (by simpa using q), rfl⟩
  have g1 : (dv_u S.1 1 1 (nI (tn + 20)), dv_ro S.2.1 2 tn (cby xa xb xc xd xe) 20, S.2.2).1 1 1 = nI (tn + 20) := dv_u_eq S.1 1 1 _
  have g2 : ∀ i, i < 20 → (dv_u S.1 1 1 (nI (tn + 20)), dv_ro S.2.1 2 tn (cby xa xb xc xd xe) 20, S.2.2).2.1 2 (tn + i) = cby xa xb xc xd xe i := fun i hi => dv_ro_in (f := S.2.1) (a := 2) hi
  have g3 : ∀ i, i < tn → (dv_u S.1 1 1 (nI (tn + 20)), dv_ro S.2.1 2 tn (cby xa xb xc xd xe) 20, S.2.2).2.1 2 i = S.2.1 2 i := fun i hi => dv_ro_out (f := S.2.1) (a := 2) (Or.inl hi)
  generalize (dv_u S.1 1 1 (nI (tn + 20)), dv_ro S.2.1 2 tn (cby xa xb xc xd xe) 20, S.2.2) = S1 at *
  have e2 : fr [(516, 0), (516, 3)] [517] S1 (fdR S1 tn xa xb xc xd xe 20) := by
    refine ⟨fun a k q => ?_, fun a q => dv_ro_row (f := S1.2.1) (by simpa using q), rfl⟩
    simp only [List.mem_cons, Prod.mk.injEq, List.not_mem_nil, or_false, not_or] at q
    show dv_u (dv_u S1.1 516 0 0) 516 3 (nI (tn + 20)) a k = _
    rw [dv_u_ne _ _ q.2, dv_u_ne _ _ q.1]
  have k1 := fdR_n S1 tn xa xb xc xd xe 20
  have k2 : ∀ i, i < 20 → (fdR S1 tn xa xb xc xd xe 20).2.1 517 (tn + i) = fbt xa xb xc xd xe i := fun i hi => dv_ro_in (f := S1.2.1) (a := 517) hi
  have k3 : ∀ i, i < tn → (fdR S1 tn xa xb xc xd xe 20).2.1 517 i = S1.2.1 517 i := fun i hi => dv_ro_out (f := S1.2.1) (a := 517) (Or.inl hi)
  generalize fdR S1 tn xa xb xc xd xe 20 = S4 at *
  have hf : fr [(1, 1), (516, 0), (516, 3)] [2, 517] S S4 := (e1.mono (by decide) (by decide)).tr (e2.mono (by decide) (by decide))
  have h2 := fr_2 hf
  refine ⟨⟨n, sn, un, w, tn + 20, wl, wm, A_scr_fr h2 (by decide) (by decide) r1, A_tr_fr h2 (by decide) r2, ⟨?_, h, k1, fun k hk => ?_⟩, A_sc_fr h2 (by decide) (by decide) r4, A_th_fr h2 ⟨by decide, by decide, fun t ht => by simp <;> omega⟩ ⟨by decide, by decide, by decide, by decide, by decide, by decide, fun t ht => by simp <;> omega⟩ r5, A_us_fr h2 (by decide) (by decide) r6, A_bk_fr h2 hf.2.2 (by decide) (by decide) r7, A_out_fr h2 (by decide) (by decide) r8, A_pe_fr h2 hn ⟨by decide, fun t ht => by simp <;> omega⟩ ⟨by decide, by decide, by decide, by decide, fun t ht => by simp <;> omega⟩ r9, A_sf_fr h2 hn r6 (fun t ht => by simp <;> omega) ⟨by decide, fun t ht => by simp <;> omega⟩ r10, A_bc_fr h2 hn r6 ⟨by decide, fun t ht => ⟨by simp <;> omega, by simp <;> omega⟩⟩ ⟨by decide, by decide, by decide, by decide, fun t ht => ⟨by simp <;> omega, by simp <;> omega⟩⟩ r11⟩, ?_⟩
  · rw [e2.1 1 1 (by decide)]; exact g1
  · rw [e2.2.1 2 (by decide)]
    by_cases hk2 : k < tn
    · rw [g3 k hk2, k3 k hk2, e1.2.1 517 (by decide)]; exact r3.2.2.2 k hk2
    · obtain ⟨i, rfl⟩ : ∃ i, k = tn + i := ⟨k - tn, by omega⟩
      rw [g2 i (by omega), k2 i (by omega)]
      exact ⟨cb_rg _ _ _ _ _ i, cb_fb _ _ _ _ _ (by omega)⟩
  · rw [e1.1 516 3 (by decide)]; exact r3.2.2.1
/-! renames -/
def pR : Nat × Nat → Prop := fun x => x ∈ ((188, 2) :: scF) ∨ ∃ j, j < 80 ∧ x.1 = 191 + 2 * j
def gR : Nat → Prop := fun a => a ∈ (189 :: 535 :: 537 :: 540 :: scG) ∨ ∃ j, j < 80 ∧ a = 192 + 2 * j
theorem pR_n {a k : Nat} (h1 : (a, k) ∉ ((188, 2) :: scF)) (h2 : a < 191 ∨ 350 < a) : ¬ pR (a, k) := by
  rintro (h | ⟨j, hj, h⟩)
  · exact h1 h
  · simp at h; omega
theorem gR_n {a : Nat} (h1 : a ∉ (189 :: 535 :: 537 :: 540 :: scG)) (h2 : a < 192 ∨ 350 < a) : ¬ gR a := by
  rintro (h | ⟨j, hj, h⟩)
  · exact h1 h
  · omega
theorem dv_b_dec (b : Bool) : decide (¬ dv_b b = 0) = b := by cases b <;> decide
theorem renames_Rel (hR : RelX L xs n sn un w tn wl wm S) {S1 S4 : dv_S} (hC : rnI (nnS S) w wl wm n n S1) (hM : rrI (rS S1) (nnS S) w wl wm n n S4) : Rel L xs S4 ∧ nI (dv_ct (fun z => decide (¬ S4.2.1 535 z = 0)) n) = nI (dv_ct (ogS (nnS S) w wl wm n) n) := by
  obtain ⟨r1, r2, r3, r4, r5, r6, r7, r8, r9, r10, r11⟩ := hR
  have hn := r5.1.2.2
  obtain ⟨c1, c2, c3, c4, c5, c6, c7⟩ := hC
  have eN := nnS_fr S
  have h1 : frP pR gR (nnS S) S1 := by
    refine ⟨fun a k q => ?_, fun a q => ?_⟩
    · refine c1 a k (fun z => q (Or.inl ?_)) (fun z => q (Or.inl ?_)) (fun j hj z => q (Or.inr ⟨j, by omega, z⟩))
      · revert z; generalize (a, k) = x; revert x; decide
      · rw [z]; simp
    · refine c2 a (fun z => q (Or.inl ?_)) (fun z => q (Or.inl ?_)) (fun j hj z => q (Or.inr ⟨j, by omega, z⟩))
      · revert a; intro a q z; clear q; revert a; decide
      · rw [z]; simp
  have h0 : frP pR gR S (nnS S) := frP_of eN (by intro x hx; left; simp only [List.mem_cons, List.not_mem_nil, or_false] at hx ⊢; exact Or.inl hx) (by intro x hx; left; simp only [List.mem_cons, List.not_mem_nil, or_false] at hx ⊢; exact Or.inl hx)
  have h3 : frP pR gR S1 S4 := by
    have e : fr [(516, 0), (516, 16), (516, 27)] [525, 526, 532, 534, 535, 537, 540] S1 S4 := ((rs_fr S1).mono (by decide) (by decide)).tr (hM.1.mono (by decide) (by decide))
    exact frP_of e (by intro x hx; left; revert x; decide) (by intro x hx; left; revert x; decide)
  have hh : frP pR gR S S4 := frP_tr h0 (frP_tr h1 h3)
  have hl : S4.2.2 = S.2.2 := by rw [hM.1.2.2, (rs_fr S1).2.2, c3, eN.2.2]
  have x189 : S4.2.1 189 = S1.2.1 189 := by rw [hM.1.2.1 189 (by decide)]
  have x535 : ∀ t, t < n → S4.2.1 535 t = dv_b (ogS (nnS S) w wl wm n t) := fun t ht => (hM.2 t ht).1
  have x188 : S4.1 188 2 = nI (dv_ct (ogS (nnS S) w wl wm n) n) := by rw [hM.1.1 188 2 (by decide), (rs_fr S1).1 188 2 (by decide)]; exact c7
  have c9 : A_pe n S4 := by
    refine ⟨fun t ht q => ?_, ?_, fun t ht => ?_⟩
    · rw [x189] at q
      refine Classical.byContradiction fun z => q (c6 t (by omega) ht)
    · rw [x188, x189, dv_ct_ext (n := n) (m := 80) hn (fun t ht q => Classical.byContradiction fun z => (of_decide_eq_true q) (c6 t (by omega) ht))]
      congr 1
      exact dv_ct_cong (fun t ht => by rw [(c5 t ht).1, dv_b_dec])
    · rw [x535 t ht, x189, (c5 t ht).1]
      refine ⟨Iff.rfl, fun q => ?_⟩
      have hg : ogS (nnS S) w wl wm n t = true := by
        cases hh : ogS (nnS S) w wl wm n t with
        | true => rfl
        | false => rw [hh] at q; exact absurd rfl q
      have tv1 := (c5 t ht).2 hg
      have tv4 : tv S4 (191 + 2 * t) (olS (nnS S) w wl wm n t) := tv1.of (by rw [hM.1.1 _ _ (by simp <;> omega), (rs_fr S1).1 _ _ (by simp <;> omega)]) (by rw [hM.1.2.1 _ (by simp <;> omega)])
      rw [tv_tx tv4]
      refine ⟨tv_tl tv4, ?_, (hM.2 t ht).2 hg⟩
      unfold ogS at hg; rw [Bool.and_eq_true] at hg; exact hg.1
  refine ⟨⟨n, sn, un, w, tn, wl, wm, A_scr_P hh (pR_n (by decide) (by omega)) (gR_n (by decide) (by omega)) r1, A_tr_P hh ⟨pR_n (by decide) (by omega), pR_n (by decide) (by omega)⟩ r2, A_tape_P hh ⟨pR_n (by decide) (by omega), pR_n (by decide) (by omega)⟩ ⟨gR_n (by decide) (by omega), gR_n (by decide) (by omega)⟩ r3, A_sc_P hh ⟨pR_n (by decide) (by omega), pR_n (by decide) (by omega)⟩ ⟨gR_n (by decide) (by omega), gR_n (by decide) (by omega)⟩ r4, A_th_P hh ⟨pR_n (by decide) (by omega), pR_n (by decide) (by omega), fun t ht => pR_n (by simp <;> omega) (by omega)⟩ ⟨gR_n (by decide) (by omega), gR_n (by decide) (by omega), gR_n (by decide) (by omega), gR_n (by decide) (by omega), gR_n (by decide) (by omega), gR_n (by decide) (by omega), fun t ht => gR_n (by simp <;> omega) (by omega)⟩ r5, A_us_P hh ⟨pR_n (by decide) (by omega), pR_n (by decide) (by omega)⟩ ⟨gR_n (by decide) (by omega), gR_n (by decide) (by omega), gR_n (by decide) (by omega), gR_n (by decide) (by omega)⟩ r6, A_bk_P hh hl ⟨pR_n (by decide) (by omega), pR_n (by decide) (by omega)⟩ ⟨gR_n (by decide) (by omega), gR_n (by decide) (by omega), gR_n (by decide) (by omega), gR_n (by decide) (by omega), gR_n (by decide) (by omega), gR_n (by decide) (by omega), gR_n (by decide) (by omega), gR_n (by decide) (by omega)⟩ r7, A_out_P hh ⟨pR_n (by decide) (by omega), pR_n (by decide) (by omega)⟩ ⟨gR_n (by decide) (by omega), gR_n (by decide) (by omega)⟩ r8, c9, A_sf_P hh hn r6 (fun t ht => pR_n (by simp <;> omega) (by omega)) ⟨⟨gR_n (by decide) (by omega), gR_n (by decide) (by omega), gR_n (by decide) (by omega), gR_n (by decide) (by omega)⟩, fun t ht => gR_n (by simp <;> omega) (by omega)⟩ r10, A_bc_P hh hn r6 ⟨⟨pR_n (by decide) (by omega), pR_n (by decide) (by omega), pR_n (by decide) (by omega), pR_n (by decide) (by omega)⟩, fun t ht => ⟨pR_n (by simp <;> omega) (by omega), pR_n (by simp <;> omega) (by omega)⟩⟩ ⟨⟨gR_n (by decide) (by omega), gR_n (by decide) (by omega), gR_n (by decide) (by omega), gR_n (by decide) (by omega)⟩, gR_n (by decide) (by omega), gR_n (by decide) (by omega), gR_n (by decide) (by omega), fun t ht => ⟨gR_n (by simp <;> omega) (by omega), gR_n (by simp <;> omega) (by omega)⟩⟩ r11⟩, ?_⟩
  congr 1
  exact dv_ct_cong (fun t ht => by rw [x535 t ht, dv_b_dec])
end
