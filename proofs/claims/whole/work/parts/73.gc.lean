section
variable {L : Int32} {xs : Nat → Int32} {n sn un w tn : Nat} {wl : Nat → Nat → Int32} {wm : Nat → Nat} {S : dv_S}
/-! offer -/
theorem offer0_Rel (hR : RelX L xs n sn un w tn wl wm S) {S2 S3 : dv_S} (h1 : fr sgF sgG S S2) (h2 : ofF (rS (rfS S2 0)) S3) : Rel L xs (rT S3 0) := by
  refine ⟨n, sn, un, w, tn, wl, wm, RelX_tr ((h1.mono (by decide) (by decide)).tr (((rf_fr S2 0).mono (by decide) (by decide)).tr (((rs_fr _).mono (by decide) (by decide)).tr ((h2.mono (by decide) (by decide)).tr ((rt_fr S3 0).mono (by decide) (by decide)))))) ?_ hR⟩
  refine trd (S1 := S) ?_
  rw [(rt_fr S3 0).1 0 14 (by decide), h2.1 0 14 (by decide), (rs_fr _).1 0 14 (by decide)]
  exact dv_u_eq S2.1 0 14 0
theorem offerY_Rel (hR : RelX L xs n sn un w tn wl wm S) {S2 S3 : dv_S} {l : List Int32} (hl : l.length ≤ 24) (hc : ∀ x ∈ l, ch_n x = true) (h1 : fr sgF sgG S S2) (hd : dt S2 l) (h2 : ofF (rS (rfS (dv_tx S2 7 l.length (S2.2.1 6)) 0)) S3) (hm : mdt S3 l) : Rel L xs (rT (rOt S3 l.length l.length) 0) := by
  obtain ⟨r1, r2, r3, r4, r5, r6, r7, r8, r9, r10, r11⟩ := hR
  have hn := r5.1.2.2
  have e1 := tx_fr S2 7 l.length (S2.2.1 6)
  have t1 := tx_tv S2 7 (m := l.length) (S2.2.1 6) hl
  generalize dv_tx S2 7 l.length (S2.2.1 6) = T at *
  have k1 : (rS (rfS T 0)).1 0 14 = 0 := by
    rw [(rs_fr _).1 0 14 (by decide)]
    exact dv_u_eq T.1 0 14 0
  have e2 : fr [(0, 14), (516, 0)] [] T (rS (rfS T 0)) := ((rf_fr T 0).mono (by decide) (by decide)).tr ((rs_fr _).mono (by decide) (by decide))
  generalize rS (rfS T 0) = T2 at *
  have e3 : fr [(516, 26)] [533] S3 (rOt S3 l.length l.length) := ⟨fun a k q => dv_u_ne S3.1 _ (by simpa using q), fun a q => dv_rw_row (f := S3.2.1) (by simpa using q), rfl⟩
  have g1 := rOt_26 S3 l.length l.length
  have g2 : ∀ k, k < l.length → (rOt S3 l.length l.length).2.1 533 k = (S3.2.1 534 k).toInt8.toInt32 := fun k hk => if_pos ⟨rfl, hk⟩
  generalize rOt S3 l.length l.length = T3 at *
  have e4 := rt_fr T3 0
  have hA : A_tr (rT T3 0) := trd (S1 := S) (by rw [e4.1 0 14 (by decide), e3.1 0 14 (by decide), h2.1 0 14 (by decide)]; exact k1)
  generalize rT T3 0 = S4 at *
  have hf : fr ((7, 1) :: (7, 2) :: (516, 26) :: scF2) (8 :: 533 :: scG) S S4 := (h1.mono (by decide) (by decide)).tr ((e1.mono (by decide) (by decide)).tr ((e2.mono (by decide) (by decide)).tr ((h2.mono (by decide) (by decide)).tr ((e3.mono (by decide) (by decide)).tr (e4.mono (by decide) (by decide))))))
  have hh := fr_2 hf
  refine ⟨n, sn, un, w, tn, wl, wm, A_scr_fr hh (by decide) (by decide) r1, hA, A_tape_fr hh (by decide) (by decide) r3, A_sc_fr hh (by decide) (by decide) r4, A_th_fr hh ⟨by decide, by decide, fun t ht => by simp <;> omega⟩ ⟨by decide, by decide, by decide, by decide, by decide, by decide, fun t ht => by simp <;> omega⟩ r5, A_us_fr hh (by decide) (by decide) r6, A_bk_fr hh hf.2.2 (by decide) (by decide) r7, ⟨l.length, hl, ?_, ?_, fun k hk => ?_⟩, A_pe_fr hh hn ⟨by decide, fun t ht => by simp <;> omega⟩ ⟨by decide, by decide, by decide, by decide, fun t ht => by simp <;> omega⟩ r9, A_sf_fr hh hn r6 (fun t ht => by simp <;> omega) ⟨by decide, fun t ht => by simp <;> omega⟩ r10, A_bc_fr hh hn r6 ⟨by decide, fun t ht => ⟨by simp <;> omega, by simp <;> omega⟩⟩ ⟨by decide, by decide, by decide, by decide, fun t ht => ⟨by simp <;> omega, by simp <;> omega⟩⟩ r11⟩
  · have := t1.1
    rw [dv_rd_len] at this
    rw [e4.1 7 1 (by decide), e3.1 7 1 (by decide), h2.1 7 1 (by decide), e2.1 7 1 (by decide)]; exact this
  · rw [e4.1 516 26 (by decide)]; exact g1
  · rw [e4.2.1 533 (by decide), g2 k hk, hm.2.2 k hk, ch_by (all_at hc hk), e4.2.1 8 (by decide), e3.2.1 8 (by decide), h2.2.1 8 (by decide), e2.2.1 8 (by decide)]
    have h8 := t1.2.2
    rw [dv_rd_len, dv_rd_eq] at h8
    rw [h8.2 k hk, hd.2.2 k (by omega)]
/-! rename -/
theorem rename_Rel (hR : RelX L xs n sn un w tn wl wm S) {k t : Nat} (ht : t < n) (hktn : k ≤ tn) (hc : nm_ok (dv_rd (S.2.1 2) k) = true) : Rel L xs (rT (cpy ((rK (rS (rfS (rnS S k t) 0))).1, dv_u (rK (rS (rfS (rnS S k t) 0))).2.1 535 t 1, (rK (rS (rfS (rnS S k t) 0))).2.2) 537 540 t k ((rS (rfS (rnS S k t) 0)).2.1 517) k) 0) ∧ nI (dv_ct (fun z => decide (¬ (cpy ((rK (rS (rfS (rnS S k t) 0))).1, dv_u (rK (rS (rfS (rnS S k t) 0))).2.1 535 t 1, (rK (rS (rfS (rnS S k t) 0))).2.2) 537 540 t k ((rS (rfS (rnS S k t) 0)).2.1 517) k).2.1 535 z = 0)) n) = (rnS S k t).1 188 2 := by
  have hlen := nm_len hc
  rw [dv_rd_len] at hlen
  have htp := RelX_tp hR hktn hc
  obtain ⟨r1, r2, r3, r4, r5, r6, r7, r8, r9, r10, r11⟩ := hR
  have hn := r5.1.2.2
  have e0 := tc_fr S k
  have t0 := tc_0 S k
  have t4 : dv_rd ((dv_tc S k).2.1 4) (min k 24) = dv_rd (S.2.1 2) k := dv_tc_r S hlen.2
  unfold rnS
  generalize dv_tc S k = T at *
  have eY := tx_fr T (191 + 2 * t) (min k 24) (T.2.1 4)
  have tY := tx_tv T (191 + 2 * t) (m := min k 24) (T.2.1 4) (by omega)
  rw [t4] at tY
  generalize dv_tx T (191 + 2 * t) (min k 24) (T.2.1 4) = Y at *
  have eP := pa_fr 188 189 Y t
  have y189 : Y.2.1 189 = S.2.1 189 := by rw [eY.2.1 189 (by simp <;> omega), e0.2.1 189 (by decide)]
  have y188 : Y.1 188 2 = S.1 188 2 := by rw [eY.1 188 2 (by simp <;> omega), e0.1 188 2 (by decide)]
  have p189 : ∀ z, (dv_pa 188 189 Y t).2.1 189 z = if z = t then (if S.2.1 189 t = 0 then 1 else S.2.1 189 t) else S.2.1 189 z := by
    intro z
    unfold dv_pa
    rw [y189]
    by_cases h0 : S.2.1 189 t = 0
    · rw [if_pos h0, if_pos h0]
      show dv_u Y.2.1 189 t 1 189 z = _
      rw [u2, y189]
    · rw [if_neg h0, if_neg h0, y189]
      split
      · rename_i hz; rw [hz]
      · rfl
  have pf : ∀ z, decide (¬ (dv_pa 188 189 Y t).2.1 189 z = 0) = kpa (fun v => decide (¬ S.2.1 189 v = 0)) t z := by
    intro z
    rw [p189]
    unfold kpa
    by_cases hz : z = t
    · rw [if_pos hz, decide_eq_true hz, Bool.or_true]
      by_cases h0 : S.2.1 189 t = 0
      · rw [if_pos h0]; decide
      · rw [if_neg h0]; exact decide_eq_true h0
    · rw [if_neg hz, decide_eq_false hz, Bool.or_false]
  have pc : (dv_pa 188 189 Y t).1 188 2 = nI (dv_ct (fun z => decide (¬ (dv_pa 188 189 Y t).2.1 189 z = 0)) 80) := by
    rw [dv_ct_cong (fun z _ => pf z)]
    by_cases h0 : S.2.1 189 t = 0
    · rw [dv_ct_a (by simp [h0]), if_pos (by omega)]
      unfold dv_pa
      rw [y189, if_pos h0]
      show dv_u Y.1 188 2 (Y.1 188 2 + 1) 188 2 = _
      rw [dv_u_eq, y188, r9.2.1, nI_1]
    · rw [show (kpa (fun v => decide (¬ S.2.1 189 v = 0)) t) = (fun v => decide (¬ S.2.1 189 v = 0)) from funext fun z => by
        unfold kpa
        by_cases hz : z = t
        · subst hz; simp [h0]
        · simp [hz]]
      unfold dv_pa
      rw [y189, if_neg h0, y188]; exact r9.2.1
  generalize dv_pa 188 189 Y t = S1 at *
  have k1 : (rS (rfS S1 0)).1 0 14 = 0 := by
    rw [(rs_fr _).1 0 14 (by decide)]
    exact dv_u_eq S1.1 0 14 0
  have e2 : fr [(0, 14), (516, 0)] [] S1 (rS (rfS S1 0)) := ((rf_fr S1 0).mono (by decide) (by decide)).tr ((rs_fr _).mono (by decide) (by decide))
  generalize rS (rfS S1 0) = S2 at *
  have eK := rk_fr S2
  have k2 : (rK S2).1 516 3 = 0 := dv_u_eq S2.1 516 3 0
  generalize rK S2 = S2b at *
  have e535 : fr [] [535] S2b (S2b.1, dv_u S2b.2.1 535 t 1, S2b.2.2) := ⟨fun _ _ _ => rfl, fun a q => dv_u_row S2b.2.1 _ (by simpa using q), rfl⟩
  have g535 : ∀ z, (S2b.1, dv_u S2b.2.1 535 t 1, S2b.2.2).2.1 535 z = if z = t then 1 else S2b.2.1 535 z := fun z => u2 (f := S2b.2.1) z
  generalize (S2b.1, dv_u S2b.2.1 535 t 1, S2b.2.2) = X at *
  have p517 : S2.2.1 517 = S.2.1 517 := by rw [e2.2.1 517 (by decide), eP.2.1 517 (by decide), eY.2.1 517 (by simp <;> omega), e0.2.1 517 (by decide)]
  have eC := cpy_fr X 537 540 t k (S2.2.1 517) k
  have nC := cpy_N1 X (nr := 537) (sr := 540) (t := t) (l := k) (src := S2.2.1 517) (by decide) hlen.2 (fun z hz => by rw [p517, htp z hz]; exact ch_by (nm_ch hc _ (List.mem_map.mpr ⟨z, List.mem_range.mpr hz, rfl⟩)))
  have rdC : dv_rd (S2.2.1 517) k = dv_rd (S.2.1 2) k := by rw [p517, dv_rd_eq]; exact ⟨rfl, htp⟩
  rw [rdC] at nC
  have oC : ∀ z l, z ≠ t → rN1 X 537 540 z l → rN1 (cpy X 537 540 t k (S2.2.1 517) k) 537 540 z l := fun z l hz hl => cpy_ot _ (by decide) hlen.2 hz (Nat.le_refl _) hl
  generalize cpy X 537 540 t k (S2.2.1 517) k = E at *
  have e4 := rt_fr E 0
  have hA : A_tr (rT E 0) := trd (S1 := S) (by rw [e4.1 0 14 (by decide), eC.1 0 14 (by decide), e535.1 0 14 (by decide), eK.1 0 14 (by decide)]; exact k1)
  have xE : (rT E 0).2.1 = E.2.1 := rfl
  generalize rT E 0 = S4 at *
  have eU : fr ((188, 2) :: (191 + 2 * t, 1) :: (191 + 2 * t, 2) :: scF3) (189 :: (191 + 2 * t + 1) :: scG) S S2b := (e0.mono (by simp) (by simp)).tr ((eY.mono (by simp) (by simp)).tr ((eP.mono (by simp) (by simp)).tr ((e2.mono (by simp) (by simp)).tr (eK.mono (by simp) (by simp)))))
  have eV : fr [(516, 1)] [535, 537, 540] S2b S4 := (e535.mono (by simp) (by simp)).tr ((eC.mono (by simp) (by simp)).tr (e4.mono (by simp) (by simp)))
  have hf : fr ((188, 2) :: (191 + 2 * t, 1) :: (191 + 2 * t, 2) :: scF3) (535 :: 537 :: 540 :: 189 :: (191 + 2 * t + 1) :: scG) S S4 := (eU.mono (by simp) (by simp)).tr (eV.mono (by simp) (by simp))
  have h2 := fr_2 hf
  have x189 : S4.2.1 189 = S1.2.1 189 := by rw [eV.2.1 189 (by decide), eK.2.1 189 (by decide), e2.2.1 189 (by decide)]
  have x535 : ∀ z, S4.2.1 535 z = if z = t then 1 else S.2.1 535 z := fun z => by
    rw [e4.2.1 535 (by decide), eC.2.1 535 (by decide), g535, eU.2.1 535 (by simp <;> omega)]
  have c9 : A_pe n S4 := by
    refine ⟨fun z hz q => ?_, ?_, fun z hz => ?_⟩
    · rw [x189, p189] at q
      by_cases hzt : z = t
      · omega
      · rw [if_neg hzt] at q; exact r9.1 z hz q
    · rw [x189, eV.1 188 2 (by decide), eK.1 188 2 (by decide), e2.1 188 2 (by decide)]; exact pc
    · by_cases hzt : z = t
      · subst hzt
        have tv4 : tv S4 (191 + 2 * z) (dv_rd (S.2.1 2) k) := by
          refine tY.of ?_ ?_
          · rw [eV.1 _ _ (by simp <;> omega), eK.1 _ _ (by simp <;> omega), e2.1 _ _ (by simp <;> omega), eP.1 _ _ (by simp <;> omega)]
          · rw [eV.2.1 _ (by simp <;> omega), eK.2.1 _ (by simp), e2.2.1 _ (by simp), eP.2.1 _ (by simp <;> omega)]
        rw [x535, if_pos rfl, x189, p189, if_pos rfl, tv_tx tv4]
        refine ⟨⟨fun q => absurd q (by decide), fun q => ?_⟩, fun _ => ⟨tv_tl tv4, hc, rN1_fr e4 (by decide) nC⟩⟩
        by_cases h0 : S.2.1 189 z = 0
        · rw [if_pos h0] at q; exact absurd q (by decide)
        · rw [if_neg h0] at q; exact absurd q h0
      · rw [x535, if_neg hzt, x189, p189, if_neg hzt]
        obtain ⟨a1, a2⟩ := r9.2.2 z hz
        rw [fr2_tx h2 (a := 191 + 2 * z) (by simp <;> omega) (by simp <;> omega)]
        exact ⟨a1, fun q => ⟨fr2_tl h2 (by simp <;> omega) (a2 q).1, (a2 q).2.1, rN1_fr e4 (by decide) (oC z _ hzt (rN1_fr e535 (by decide) (rN1_fr eU (by simp <;> omega) (a2 q).2.2)))⟩⟩
  refine ⟨⟨n, sn, un, w, 0, wl, wm, A_scr_fr h2 (by simp <;> omega) (by simp <;> omega) r1, hA, A_tape0 ?_ ?_, A_sc_fr h2 ⟨by simp <;> omega, by simp <;> omega⟩ ⟨by simp <;> omega, by simp <;> omega⟩ r4, A_th_fr h2 ⟨by simp <;> omega, by simp <;> omega, fun z hz => by simp <;> omega⟩ ⟨by simp <;> omega, by simp <;> omega, by simp <;> omega, by simp <;> omega, by simp <;> omega, by simp <;> omega, fun z hz => by simp <;> omega⟩ r5, A_us_fr h2 ⟨by simp <;> omega, by simp <;> omega⟩ ⟨by simp <;> omega, by simp <;> omega, by simp <;> omega, by simp <;> omega⟩ r6, A_bk_fr h2 hf.2.2 ⟨by simp <;> omega, by simp <;> omega⟩ ⟨by simp <;> omega, by simp <;> omega, by simp <;> omega, by simp <;> omega, by simp <;> omega, by simp <;> omega, by simp <;> omega, by simp <;> omega⟩ r7, A_out_fr h2 ⟨by simp <;> omega, by simp <;> omega⟩ ⟨by simp <;> omega, by simp <;> omega⟩ r8, c9, A_sf_fr h2 hn r6 (fun z hz => by simp <;> omega) ⟨⟨by simp <;> omega, by simp <;> omega, by simp <;> omega, by simp <;> omega⟩, fun z hz => by simp <;> omega⟩ r10, A_bc_fr h2 hn r6 ⟨⟨by simp <;> omega, by simp <;> omega, by simp <;> omega, by simp <;> omega⟩, fun z hz => ⟨by simp <;> omega, by simp <;> omega⟩⟩ ⟨⟨by simp <;> omega, by simp <;> omega, by simp <;> omega, by simp <;> omega⟩, by simp <;> omega, by simp <;> omega, by simp <;> omega, fun z hz => ⟨by simp <;> omega, by simp <;> omega⟩⟩ r11⟩, ?_⟩
  · rw [eV.1 1 1 (by decide), eK.1 1 1 (by decide), e2.1 1 1 (by decide), eP.1 1 1 (by decide), eY.1 1 1 (by simp <;> omega)]; exact t0
  · rw [eV.1 516 3 (by decide)]; exact k2
  · have := pe_ct c9 hn
    rw [x189, xE] at this
    rw [this, pc]
end
