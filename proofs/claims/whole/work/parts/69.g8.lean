section
variable {L : Int32} {xs : Nat → Int32} {n sn un w tn : Nat} {wl : Nat → Nat → Int32} {wm : Nat → Nat} {S : dv_S}
theorem thd_ok : ∀ t, t < 80 → (25 + 2 * t, 1) ∉ ([] : List (Nat × Nat)) := fun _ _ => by simp
/-- class refused or accepted with x, the reference with x: what stands between may change other cells -/
theorem trd {S1 S2 : dv_S} {x : Int32} (h : (rT S2 x).1 0 14 = x) : A_tr (rT S2 x) := by
  unfold A_tr
  rw [h]
  show dv_u S2.1 516 1 x 516 1 = x
  rw [dv_u_eq]
/-! none -/
theorem none_Rel (hR : RelX L xs n sn un w tn wl wm S) : Rel L xs ((rS (nnS S)).1, dv_rw (rS (nnS S)).2.1 535 (fun _ => 0) n, (rS (nnS S)).2.2) := by
  obtain ⟨r1, r2, r3, r4, r5, r6, r7, r8, r9, r10, r11⟩ := hR
  have hn := r5.1.2.2
  have e : fr [] [535] (rS (nnS S)) ((rS (nnS S)).1, dv_rw (rS (nnS S)).2.1 535 (fun _ => 0) n, (rS (nnS S)).2.2) := ⟨fun _ _ _ => rfl, fun a q => dv_rw_row (f := (rS (nnS S)).2.1) (by simpa using q), rfl⟩
  have hf : fr [(188, 2), (516, 0)] [189, 535] S ((rS (nnS S)).1, dv_rw (rS (nnS S)).2.1 535 (fun _ => 0) n, (rS (nnS S)).2.2) := ((nnS_fr S).mono (by decide) (by decide)).tr (((rs_fr _).mono (by decide) (by decide)).tr (e.mono (by decide) (by decide)))
  have h2 := fr_2 hf
  have z1 : ∀ t, t < 80 → ((rS (nnS S)).1, dv_rw (rS (nnS S)).2.1 535 (fun _ => 0) n, (rS (nnS S)).2.2).2.1 189 t = 0 := fun t ht => by
    rw [e.2.1 189 (by decide)]; exact nnS_189 S ht
  have z2 : ∀ t, t < n → ((rS (nnS S)).1, dv_rw (rS (nnS S)).2.1 535 (fun _ => 0) n, (rS (nnS S)).2.2).2.1 535 t = 0 := fun t ht => if_pos ⟨rfl, ht⟩
  refine ⟨n, sn, un, w, tn, wl, wm, A_scr_fr h2 (by decide) (by decide) r1, A_tr_fr h2 (by decide) r2, A_tape_fr h2 (by decide) (by decide) r3, A_sc_fr h2 (by decide) (by decide) r4, A_th_fr h2 ⟨by decide, by decide, fun t ht => by simp <;> omega⟩ ⟨by decide, by decide, by decide, by decide, by decide, by decide, fun t ht => by simp <;> omega⟩ r5, A_us_fr h2 (by decide) (by decide) r6, A_bk_fr h2 hf.2.2 (by decide) (by decide) r7, A_out_fr h2 (by decide) (by decide) r8, ?_, A_sf_fr h2 hn r6 (fun t ht => by simp <;> omega) ⟨by decide, fun t ht => by simp <;> omega⟩ r10, A_bc_fr h2 hn r6 ⟨by decide, fun t ht => ⟨by simp <;> omega, by simp <;> omega⟩⟩ ⟨by decide, by decide, by decide, by decide, fun t ht => ⟨by simp <;> omega, by simp <;> omega⟩⟩ r11⟩
  refine ⟨fun t ht q => absurd (z1 t ht) q, ?_, fun t ht => ⟨⟨fun _ => z1 t (by omega), fun _ => z2 t ht⟩, fun q => absurd (z1 t (by omega)) q⟩⟩
  rw [dv_ct_cong (q := fun _ => false) (fun t ht => by rw [z1 t ht]; decide), dv_ct_ff]
  show dv_u (dv_u S.1 188 2 0) 516 0 0 188 2 = _
  rw [dv_u_ne _ _ (by decide), dv_u_eq]; rfl
/-! shorts -/
theorem shorts_Rel (hR : RelX L xs n sn un w tn wl wm S) {j : Nat} {y : Int32} (hj : j < w) (hy : y = -1 ∨ ∃ i, i < w ∧ y = nI i) : Rel L xs (rT ((rS ((rfS S 0).1, dv_u (rfS S 0).2.1 16 j y, (rfS S 0).2.2)).1, dv_u (rS ((rfS S 0).1, dv_u (rfS S 0).2.1 16 j y, (rfS S 0).2.2)).2.1 530 j y, (rS ((rfS S 0).1, dv_u (rfS S 0).2.1 16 j y, (rfS S 0).2.2)).2.2) 0) := by
  obtain ⟨r1, r2, r3, r4, r5, r6, r7, r8, r9, r10, r11⟩ := hR
  have hn := r5.1.2.2
  have e16 : fr [] [16] (rfS S 0) ((rfS S 0).1, dv_u (rfS S 0).2.1 16 j y, (rfS S 0).2.2) := ⟨fun _ _ _ => rfl, fun a q => dv_u_row (rfS S 0).2.1 _ (by simpa using q), rfl⟩
  have g16 : ((rfS S 0).1, dv_u (rfS S 0).2.1 16 j y, (rfS S 0).2.2).2.1 16 = fun z => if z = j then y else S.2.1 16 z := by
    funext z
    show dv_u S.2.1 16 j y 16 z = _
    by_cases hz : z = j
    · rw [hz, dv_u_eq, if_pos rfl]
    · rw [dv_u_ne _ _ (by rintro ⟨-, q⟩; exact hz q), if_neg hz]
  generalize ((rfS S 0).1, dv_u (rfS S 0).2.1 16 j y, (rfS S 0).2.2) = S1 at *
  have e530 : fr [] [530] (rS S1) ((rS S1).1, dv_u (rS S1).2.1 530 j y, (rS S1).2.2) := ⟨fun _ _ _ => rfl, fun a q => dv_u_row (rS S1).2.1 _ (by simpa using q), rfl⟩
  have f1 : fr [(0, 14), (516, 0), (516, 1)] [16, 530] S (rS S1) := ((rf_fr S 0).mono (by decide) (by decide)).tr ((e16.mono (by decide) (by decide)).tr ((rs_fr S1).mono (by decide) (by decide)))
  have g530 : ((rS S1).1, dv_u (rS S1).2.1 530 j y, (rS S1).2.2).2.1 530 = fun z => if z = j then y else S.2.1 530 z := by
    funext z
    show dv_u S1.2.1 530 j y 530 z = _
    by_cases hz : z = j
    · rw [hz, dv_u_eq, if_pos rfl]
    · rw [dv_u_ne _ _ (by rintro ⟨-, q⟩; exact hz q), if_neg hz, e16.2.1 530 (by decide)]
  have g16b : ((rS S1).1, dv_u (rS S1).2.1 530 j y, (rS S1).2.2).2.1 16 = fun z => if z = j then y else S.2.1 16 z := by
    rw [e530.2.1 16 (by decide)]; exact g16
  have htr : (rT ((rS S1).1, dv_u (rS S1).2.1 530 j y, (rS S1).2.2) 0).1 0 14 = 0 := by
    rw [(rt_fr _ 0).1 0 14 (by decide), e530.1 0 14 (by decide), (rs_fr _).1 0 14 (by decide), e16.1 0 14 (by decide)]
    show dv_u S.1 0 14 0 0 14 = 0
    rw [dv_u_eq]
  generalize ((rS S1).1, dv_u (rS S1).2.1 530 j y, (rS S1).2.2) = S2 at *
  have hf : fr [(0, 14), (516, 0), (516, 1)] [16, 530] S (rT S2 0) := f1.tr ((e530.mono (by decide) (by decide)).tr ((rt_fr S2 0).mono (by decide) (by decide)))
  have h2 := fr_2 hf
  refine ⟨n, sn, un, w, tn, wl, wm, A_scr_fr h2 (by decide) (by decide) r1, trd (S1 := S) htr, A_tape_fr h2 (by decide) (by decide) r3, A_sc_fr h2 (by decide) (by decide) r4, A_th_fr h2 ⟨by decide, by decide, fun t ht => by simp <;> omega⟩ ⟨by decide, by decide, by decide, by decide, by decide, by decide, fun t ht => by simp <;> omega⟩ r5, A_us_fr h2 (by decide) (by decide) r6, ?_, A_out_fr h2 (by decide) (by decide) r8, A_pe_fr h2 hn ⟨by decide, fun t ht => by simp <;> omega⟩ ⟨by decide, by decide, by decide, by decide, fun t ht => by simp <;> omega⟩ r9, A_sf_fr h2 hn r6 (fun t ht => by simp <;> omega) ⟨by decide, fun t ht => by simp <;> omega⟩ r10, A_bc_fr h2 hn r6 ⟨by decide, fun t ht => ⟨by simp <;> omega, by simp <;> omega⟩⟩ ⟨by decide, by decide, by decide, by decide, fun t ht => ⟨by simp <;> omega, by simp <;> omega⟩⟩ r11⟩
  refine ⟨by rw [h2.1 13 5 (by decide), h2.1 516 17 (by decide)]; exact r7.1, fun i hi => ?_⟩
  obtain ⟨b1, b2, b3, b4, b5, b6, b7, b8⟩ := r7.2 i hi
  rw [hf.2.2, h2.2 527 (by decide), h2.2 528 (by decide), h2.2 529 (by decide), h2.2 15 (by decide), h2.2 531 (by decide), h2.2 17 (by decide), show (rT S2 0).2.1 530 = _ from g530, show (rT S2 0).2.1 16 = _ from g16b]
  refine ⟨b1, b2, b3, b4, ?_, b6, ?_, b8⟩
  · show (if i = j then y else S.2.1 530 i) = (if i = j then y else S.2.1 16 i)
    split
    · rfl
    · exact b5
  · show (if i = j then y else S.2.1 16 i) = -1 ∨ ∃ k, k < w ∧ (if i = j then y else S.2.1 16 i) = nI k
    split
    · exact hy
    · exact b7
/-! alike -/
theorem jg_ok {g : Nat → Int32} {w p q : Nat} (hw : w ≤ 60) (hp : p < w) (hq : q < w) (hg : ∀ j, j < w → ∃ m, m < w ∧ g j = nI m ∧ g m = nI m) : ∀ j, j < w → ∃ m, m < w ∧ (if g j = g q then g p else g j) = nI m ∧ (if g m = g q then g p else g m) = nI m := by
  intro j hj
  obtain ⟨mp, hmp, ep1, ep2⟩ := hg p hp
  by_cases h : g j = g q
  · refine ⟨mp, hmp, by rw [if_pos h, ep1], ?_⟩
    by_cases h3 : g mp = g q
    · rw [if_pos h3, ep1]
    · rw [if_neg h3, ep2]
  · obtain ⟨m, hm, e1, e2⟩ := hg j hj
    refine ⟨m, hm, by rw [if_neg h, e1], ?_⟩
    have h3 : ¬ g m = g q := by rw [e2, ← e1]; exact h
    rw [if_neg h3, e2]
theorem alike_Rel (hR : RelX L xs n sn un w tn wl wm S) {p q : Nat} (hp : p < w) (hq : q < w) : Rel L xs (rT (rJn (rS ((rfS S 0).1, dv_rw S.2.1 17 (fun k => if S.2.1 17 k = S.2.1 17 q then S.2.1 17 p else S.2.1 17 k) w, S.2.2)) p q w) 0) := by
  obtain ⟨r1, r2, r3, r4, r5, r6, r7, r8, r9, r10, r11⟩ := hR
  have hn := r5.1.2.2
  have e17 : fr [] [17] (rfS S 0) ((rfS S 0).1, dv_rw S.2.1 17 (fun k => if S.2.1 17 k = S.2.1 17 q then S.2.1 17 p else S.2.1 17 k) w, S.2.2) := ⟨fun _ _ _ => rfl, fun a z => dv_rw_row (f := S.2.1) (by simpa using z), rfl⟩
  have g17 : ∀ j, j < w → ((rfS S 0).1, dv_rw S.2.1 17 (fun k => if S.2.1 17 k = S.2.1 17 q then S.2.1 17 p else S.2.1 17 k) w, S.2.2).2.1 17 j = if S.2.1 17 j = S.2.1 17 q then S.2.1 17 p else S.2.1 17 j := fun j hj => if_pos ⟨rfl, hj⟩
  generalize ((rfS S 0).1, dv_rw S.2.1 17 (fun k => if S.2.1 17 k = S.2.1 17 q then S.2.1 17 p else S.2.1 17 k) w, S.2.2) = S1 at *
  have f1 : fr [(0, 14), (516, 0), (516, 1)] [17, 531] S (rS S1) := ((rf_fr S 0).mono (by decide) (by decide)).tr ((e17.mono (by decide) (by decide)).tr ((rs_fr S1).mono (by decide) (by decide)))
  have e531 : fr [] [531] (rS S1) (rJn (rS S1) p q w) := ⟨fun _ _ _ => rfl, fun a z => dv_rw_row (f := (rS S1).2.1) (by simpa using z), rfl⟩
  have x531 : (rS S1).2.1 531 = S.2.1 531 := by rw [(rs_fr _).2.1 531 (by decide), e17.2.1 531 (by decide)]
  have g531 : ∀ j, j < w → (rJn (rS S1) p q w).2.1 531 j = if S.2.1 531 j = S.2.1 531 q then S.2.1 531 p else S.2.1 531 j := fun j hj => by
    rw [← x531]; exact if_pos ⟨rfl, hj⟩
  have htr : (rT (rJn (rS S1) p q w) 0).1 0 14 = 0 := by
    rw [(rt_fr _ 0).1 0 14 (by decide), e531.1 0 14 (by decide), (rs_fr _).1 0 14 (by decide), e17.1 0 14 (by decide)]
    show dv_u S.1 0 14 0 0 14 = 0
    rw [dv_u_eq]
  have x17 : (rJn (rS S1) p q w).2.1 17 = S1.2.1 17 := by rw [e531.2.1 17 (by decide)]
  generalize rJn (rS S1) p q w = S2 at *
  have hf : fr [(0, 14), (516, 0), (516, 1)] [17, 531] S (rT S2 0) := f1.tr ((e531.mono (by decide) (by decide)).tr ((rt_fr S2 0).mono (by decide) (by decide)))
  have h2 := fr_2 hf
  refine ⟨n, sn, un, w, tn, wl, wm, A_scr_fr h2 (by decide) (by decide) r1, trd (S1 := S) htr, A_tape_fr h2 (by decide) (by decide) r3, A_sc_fr h2 (by decide) (by decide) r4, A_th_fr h2 ⟨by decide, by decide, fun t ht => by simp <;> omega⟩ ⟨by decide, by decide, by decide, by decide, by decide, by decide, fun t ht => by simp <;> omega⟩ r5, A_us_fr h2 (by decide) (by decide) r6, ?_, A_out_fr h2 (by decide) (by decide) r8, A_pe_fr h2 hn ⟨by decide, fun t ht => by simp <;> omega⟩ ⟨by decide, by decide, by decide, by decide, fun t ht => by simp <;> omega⟩ r9, A_sf_fr h2 hn r6 (fun t ht => by simp <;> omega) ⟨by decide, fun t ht => by simp <;> omega⟩ r10, A_bc_fr h2 hn r6 ⟨by decide, fun t ht => ⟨by simp <;> omega, by simp <;> omega⟩⟩ ⟨by decide, by decide, by decide, by decide, fun t ht => ⟨by simp <;> omega, by simp <;> omega⟩⟩ r11⟩
  have hgr : ∀ j, j < w → S.2.1 531 j = S.2.1 17 j := fun j hj => (r7.2 j hj).2.2.2.2.2.1
  refine ⟨by rw [h2.1 13 5 (by decide), h2.1 516 17 (by decide)]; exact r7.1, fun i hi => ?_⟩
  obtain ⟨b1, b2, b3, b4, b5, b6, b7, b8⟩ := r7.2 i hi
  have c17 : ∀ j, j < w → (rT S2 0).2.1 17 j = if S.2.1 17 j = S.2.1 17 q then S.2.1 17 p else S.2.1 17 j := fun j hj => by
    rw [show (rT S2 0).2.1 17 = S1.2.1 17 from x17]; exact g17 j hj
  rw [hf.2.2, h2.2 527 (by decide), h2.2 528 (by decide), h2.2 529 (by decide), h2.2 15 (by decide), h2.2 530 (by decide), h2.2 16 (by decide)]
  refine ⟨b1, b2, b3, b4, b5, ?_, b7, ?_⟩
  · rw [c17 i hi, show (rT S2 0).2.1 531 i = _ from g531 i hi, hgr i hi, hgr q hq, hgr p hp]
  · obtain ⟨m, hm, e1, e2⟩ := jg_ok r7.1.2.2 hp hq (fun j hj => (r7.2 j hj).2.2.2.2.2.2.2) i hi
    exact ⟨m, hm, by rw [c17 i hi, e1], by rw [c17 m hm, e2]⟩
end
