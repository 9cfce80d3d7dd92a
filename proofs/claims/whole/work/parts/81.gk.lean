section
variable {L : Int32} {xs : Nat → Int32} {n sn un w tn : Nat} {wl : Nat → Nat → Int32} {wm : Nat → Nat} {S : dv_S}
theorem rk_kN (hR : RelX L xs n sn un w tn wl wm S) {S1 : dv_S} (h5 : S1.2.1 535 = S.2.1 535) {K : Nat → Bool} (hK : ∀ j, K j = true → ¬ S.2.1 189 j = 0) : ∀ j, j < n → rkn S1 (fun t => tx S (191 + 2 * t)) (fun t => tx S (25 + 2 * t)) K j = kN S K j := by
  intro j hj
  unfold rkn kN
  by_cases hk : K j = true
  · have := (hR.2.2.2.2.2.2.2.2.1.2.2 j hj).1
    rw [if_pos hk, if_pos (by rw [h5, hk]; simp; exact fun q => hK j hk (this.mp q))]
  · rw [if_neg hk, if_neg (by rw [Bool.and_eq_true]; exact fun q => hk q.2)]
theorem kp_rk (hR : RelX L xs n sn un w tn wl wm S) {S1 : dv_S} (h5 : S1.2.1 535 = S.2.1 535) : ∀ t, t ≤ n → rkf S1 (hmS S) (wi S) (usS S) (utS S) (fun t => tx S (191 + 2 * t)) (fun t => tx S (25 + 2 * t)) n un t = kpf S n un t ∧ sfe S n un (kN S (kpf S n un t))
  | 0, _ => ⟨rfl, hR.2.2.2.2.2.2.2.2.2.1⟩
  | t + 1, ht => by
    obtain ⟨i1, i2⟩ := kp_rk hR h5 t (by omega)
    have hp := hR.2.2.2.2.2.2.2.2.1
    have hn := hR.T.2.1
    have hu := hR.U.2.1
    by_cases hc : S.2.1 189 t = 0
    · rw [rkf_n (Or.inl (by rw [h5]; exact (hp.2.2 t (by omega)).1.mpr hc)), kpf_n (Or.inl (by simp [hc]))]
      exact ⟨i1, i2⟩
    · have hc5 : ¬ S1.2.1 535 t = 0 := by rw [h5]; exact fun q => hc ((hp.2.2 t (by omega)).1.mp q)
      have i := kp_iff hR (t := t) (by omega) i2
      have hw : ∀ j, kpa (kpf S n un t) t j = true → ¬ S.2.1 189 j = 0 := kpa_wt (kpf_wt S n un t) (decide_eq_true hc)
      have j : ghi (hmS S) (wi S) (usS S) (utS S) (rkn S1 (fun t => tx S (191 + 2 * t)) (fun t => tx S (25 + 2 * t)) (kpa (kpf S n un t) t)) n un = -2 ↔ sfe S n un (kN S (kpa (kpf S n un t) t)) := by
        rw [ghi_cong (ut := utS S) (rk_kN hR h5 hw) (fun u hu => (hR.U.2.2 u hu).2.2.2), ghi_iff hn hu]
        exact Iff.rfl
      by_cases hs : sfe S n un (kN S (kpa (kpf S n un t) t))
      · rw [rkf_y hc5 (by rw [i1]; exact decide_eq_true (j.mpr hs)), kpf_y (decide_eq_true hc) (i.mpr hs), i1]
        exact ⟨rfl, hs⟩
      · rw [rkf_n (Or.inr (by rw [i1]; exact decide_eq_false (fun q => hs (j.mp q)))), kpf_n (Or.inr (by rw [← Bool.not_eq_true]; exact fun q => hs (i.mp q)))]
        exact ⟨i1, i2⟩
theorem kpf_80 (hp : ∀ t, t < 80 → ¬ S.2.1 189 t = 0 → t < n) : ∀ m, n ≤ m → m ≤ 80 → kpf S n un m = kpf S n un n
  | 0, h, _ => by rw [show n = 0 by omega]
  | m + 1, h, h8 => by
    by_cases hm : n = m + 1
    · rw [hm]
    · rw [kpf_n (Or.inl ?_)]
      · exact kpf_80 hp m (by omega) (by omega)
      · refine decide_eq_false fun q => ?_
        have := hp m (by omega) q; omega
theorem keep_Rel (hR : RelX L xs n sn un w tn wl wm S) {S4 : dv_S} (e4 : fr [] [535, 536, 538, 541] (rS (kpS S (kpf S n un 80))) S4) (h4 : ∀ j, j < n → S4.2.1 535 j = dv_b (decide (¬ (rS (kpS S (kpf S n un 80))).2.1 535 j = 0) && (rkf (rS (kpS S (kpf S n un 80))) (hmS S) (wi S) (usS S) (utS S) (fun t => tx S (191 + 2 * t)) (fun t => tx S (25 + 2 * t)) n un n) j)) : Rel L xs S4 ∧ nI (dv_ct (fun z => decide (¬ S4.2.1 535 z = 0)) n) = nI (dv_ct (kpf S n un 80) 80) := by
  have hn := hR.T.2.1
  have hp := hR.2.2.2.2.2.2.2.2.1
  have e1 : fr [(188, 2), (516, 0)] [189, 514] S (rS (kpS S (kpf S n un 80))) := ((kpS_fr S _).mono (by decide) (by decide)).tr ((rs_fr _).mono (by decide) (by decide))
  have h5 := e1.2.1 535 (by decide)
  have k8 := kpf_80 (un := un) hp.1 80 hn (by omega)
  have hk := (kp_rk hR h5 n (Nat.le_refl n)).1
  have hw := kpf_wt S n un 80
  have g189 : ∀ t, t < 80 → (rS (kpS S (kpf S n un 80))).2.1 189 t = dv_b (kpf S n un 80 t) := fun t ht => by
    rw [(rs_fr _).2.1 189 (by decide)]; exact kpS_189 S _ ht
  have g188 : (rS (kpS S (kpf S n un 80))).1 188 2 = nI (dv_ct (kpf S n un 80) 80) := by
    rw [(rs_fr _).1 188 2 (by decide)]; exact kpS_188 S _
  rw [hk, ← k8] at h4
  generalize rS (kpS S (kpf S n un 80)) = S1 at *
  generalize kpf S n un 80 = K at *
  have x535 : ∀ j, j < n → S4.2.1 535 j = dv_b (K j) := fun j hj => by
    rw [h4 j hj, h5]
    cases hc : K j with
    | false => simp
    | true =>
      have := hw j hc
      have z : ¬ S.2.1 535 j = 0 := fun q => this ((hp.2.2 j hj).1.mp q)
      rw [decide_eq_true z]; rfl
  have x189 : ∀ t, t < 80 → S4.2.1 189 t = dv_b (K t) := fun t ht => by rw [e4.2.1 189 (by decide)]; exact g189 t ht
  have x188 : S4.1 188 2 = nI (dv_ct K 80) := by rw [e4.1 188 2 (by decide)]; exact g188
  have e : fr [(188, 2), (516, 0)] [189, 514, 535, 536, 538, 541] S S4 := (e1.mono (by decide) (by decide)).tr (e4.mono (by decide) (by decide))
  have h2 := fr_2 e
  have zb : ∀ t, (dv_b (K t) = 0) ↔ ¬ K t = true := fun t => by cases K t <;> decide
  obtain ⟨r1, r2, r3, r4, r5, r6, r7, r8, r9, r10, r11⟩ := hR
  refine ⟨⟨n, sn, un, w, tn, wl, wm, A_scr_fr h2 (by decide) (by decide) r1, A_tr_fr h2 (by decide) r2, A_tape_fr h2 (by decide) (by decide) r3, A_sc_fr h2 (by decide) (by decide) r4, A_th_fr h2 ⟨by decide, by decide, fun t ht => by simp <;> omega⟩ ⟨by decide, by decide, by decide, by decide, by decide, by decide, fun t ht => by simp <;> omega⟩ r5, A_us_fr h2 (by decide) (by decide) r6, A_bk_fr h2 e.2.2 (by decide) (by decide) r7, A_out_fr h2 (by decide) (by decide) r8, ?_, A_sf_fr h2 hn r6 (fun t ht => by simp <;> omega) ⟨by decide, fun t ht => by simp <;> omega⟩ r10, A_bc_fr h2 hn r6 ⟨by decide, fun t ht => ⟨by simp <;> omega, by simp <;> omega⟩⟩ ⟨by decide, by decide, by decide, by decide, fun t ht => ⟨by simp <;> omega, by simp <;> omega⟩⟩ r11⟩, ?_⟩
  · refine ⟨fun t ht q => ?_, ?_, fun t ht => ⟨by rw [x535 t ht, x189 t (by omega)], fun q => ?_⟩⟩
    · rw [x189 t ht, zb, Classical.not_not] at q
      exact hp.1 t ht (hw t q)
    · rw [x188, dv_ct_cong (p := fun t => decide (¬ S4.2.1 189 t = 0)) (q := K) (fun t ht => by rw [x189 t ht, dv_b_dec])]
    · rw [x189 t (by omega), zb, Classical.not_not] at q
      have z := (r9.2.2 t ht).2 (hw t q)
      refine ⟨fr2_tl h2 (by simp <;> omega) z.1, ?_, ?_⟩
      · rw [fr2_tx h2 (by simp <;> omega) (by simp <;> omega)]; exact z.2.1
      · rw [fr2_tx h2 (by simp <;> omega) (by simp <;> omega)]; exact fr2_N1 h2 (by decide) z.2.2
  · congr 1
    rw [dv_ct_ext (n := n) (m := 80) (p := K) hn (fun t ht q => hp.1 t ht (hw t q))]
    refine dv_ct_cong fun t ht => ?_
    rw [x535 t ht, dv_b_dec]
end
