section
variable {L : Int32} {xs : Nat → Int32} {n sn un w tn : Nat} {wl : Nat → Nat → Int32} {wm : Nat → Nat} {S : dv_S}
theorem RelX_tw (hR : RelX L xs n sn un w tn wl wm S) {k : Nat} (hk : k ≤ tn) (hc : wd_ok (dv_rd (S.2.1 2) k) = true) : ∀ z, z < k → S.2.1 517 z = S.2.1 2 z := by
  intro z hz
  rw [(RelX_sb hR hk z hz).2]
  exact ch_by (ch_sn ((wd_rd hc).2.2 z hz))
/-! word, refused late -/
theorem word_rf (hR : RelX L xs n sn un w tn wl wm S) {k : Nat} {x : Int32} {S2 : dv_S} {f : Nat → Int32} (hsp : dv_spl (dv_tc S k) f k S2) : Rel L xs (rT (rK (rS (rfS S2 x))) x) := by
  have e : fr scF3 scG S (rT (rK (rS (rfS S2 x))) x) := ((tc_fr S k).mono (by decide) (by decide)).tr ((hsp.fr.mono (by decide) (by decide)).tr (((rf_fr S2 x).mono (by decide) (by decide)).tr (((rs_fr _).mono (by decide) (by decide)).tr (((rk_fr _).mono (by decide) (by decide)).tr ((rt_fr _ x).mono (by decide) (by decide))))))
  refine ⟨n, sn, un, w, 0, wl, wm, RelX_tk e (trd (S1 := S) ?_) (A_tape0 ?_ ?_) hR⟩
  · rw [(rt_fr _ x).1 0 14 (by decide), (rk_fr _).1 0 14 (by decide), (rs_fr _).1 0 14 (by decide)]
    exact dv_u_eq S2.1 0 14 x
  · rw [(rt_fr _ x).1 1 1 (by decide), (rk_fr _).1 1 1 (by decide), (rs_fr _).1 1 1 (by decide), (rf_fr _ x).1 1 1 (by decide), hsp.fr.1 1 1 (by decide), tc_0]
  · rw [(rt_fr _ x).1 516 3 (by decide)]
    exact dv_u_eq (rS (rfS S2 x)).1 516 3 0
theorem word_Rel (hR : RelX L xs n sn un w tn wl wm S) {k : Nat} {x : Int32} {S2 : dv_S} {f : Nat → Int32} (hw : w < 60) (hktn : k ≤ tn) (hc : wd_ok (dv_rd (S.2.1 2) k) = true) (hsp : dv_spl (dv_tc S k) f k S2) : Rel L xs (rT (rWdE (rK (rS (rfS (dv_u S2.1 13 5 (nI (w + 1)), dv_u (dv_u (dv_u S2.2.1 15 w x) 16 w (-1)) 17 w (nI w), dv_u S2.2.2 14 w (cu_k (S.2.1 2) k)) 0))) w k x) 0) := by
  have hw1 := wd_rd hc
  have htp := RelX_tw hR hktn hc
  obtain ⟨r1, r2, r3, r4, r5, r6, r7, r8, r9, r10, r11⟩ := hR
  have hn := r5.1.2.2
  have e0 : fr [(3, 1), (3, 2), (1, 1), (1, 2), (9, 4)] [4, 10, 11, 12] S S2 := ((tc_fr S k).mono (by decide) (by decide)).tr (hsp.fr.mono (by decide) (by decide))
  have t0 : S2.1 1 1 = 0 := by rw [hsp.fr.1 1 1 (by decide), tc_0]
  have eA : fr2 [(13, 5)] [15, 16, 17] S2 (dv_u S2.1 13 5 (nI (w + 1)), dv_u (dv_u (dv_u S2.2.1 15 w x) 16 w (-1)) 17 w (nI w), dv_u S2.2.2 14 w (cu_k (S.2.1 2) k)) := by
    refine ⟨fun a k q => dv_u_ne S2.1 _ (by simpa using q), fun a z => ?_⟩
    simp only [List.mem_cons, List.not_mem_nil, or_false, not_or] at z
    show dv_u (dv_u (dv_u S2.2.1 15 w x) 16 w (-1)) 17 w (nI w) a = _
    rw [dv_u_row _ _ z.2.2, dv_u_row _ _ z.2.1, dv_u_row _ _ z.1]
  have g13 : (dv_u S2.1 13 5 (nI (w + 1)), dv_u (dv_u (dv_u S2.2.1 15 w x) 16 w (-1)) 17 w (nI w), dv_u S2.2.2 14 w (cu_k (S.2.1 2) k)).1 13 5 = nI (w + 1) := dv_u_eq S2.1 13 5 _
  have g15 : ∀ v, (dv_u S2.1 13 5 (nI (w + 1)), dv_u (dv_u (dv_u S2.2.1 15 w x) 16 w (-1)) 17 w (nI w), dv_u S2.2.2 14 w (cu_k (S.2.1 2) k)).2.1 15 v = if v = w then x else S2.2.1 15 v := fun v => by
    show dv_u (dv_u (dv_u S2.2.1 15 w x) 16 w (-1)) 17 w (nI w) 15 v = _
    rw [dv_u_row _ _ (by decide), dv_u_row _ _ (by decide), u2]
  have g16 : ∀ v, (dv_u S2.1 13 5 (nI (w + 1)), dv_u (dv_u (dv_u S2.2.1 15 w x) 16 w (-1)) 17 w (nI w), dv_u S2.2.2 14 w (cu_k (S.2.1 2) k)).2.1 16 v = if v = w then -1 else S2.2.1 16 v := fun v => by
    show dv_u (dv_u (dv_u S2.2.1 15 w x) 16 w (-1)) 17 w (nI w) 16 v = _
    rw [dv_u_row _ _ (by decide), u2, dv_u_row _ _ (by decide)]
  have g17 : ∀ v, (dv_u S2.1 13 5 (nI (w + 1)), dv_u (dv_u (dv_u S2.2.1 15 w x) 16 w (-1)) 17 w (nI w), dv_u S2.2.2 14 w (cu_k (S.2.1 2) k)).2.1 17 v = if v = w then nI w else S2.2.1 17 v := fun v => by
    show dv_u (dv_u (dv_u S2.2.1 15 w x) 16 w (-1)) 17 w (nI w) 17 v = _
    rw [u2, dv_u_row _ _ (by decide), dv_u_row _ _ (by decide)]
  have g14 : ∀ v, (dv_u S2.1 13 5 (nI (w + 1)), dv_u (dv_u (dv_u S2.2.1 15 w x) 16 w (-1)) 17 w (nI w), dv_u S2.2.2 14 w (cu_k (S.2.1 2) k)).2.2 14 v = if v = w then cu_k (S.2.1 2) k else S.2.2 14 v := fun v => by
    show dv_u S2.2.2 14 w (cu_k (S.2.1 2) k) 14 v = _
    rw [e0.2.2]
    by_cases hv : v = w
    · rw [hv, dv_u_eq, if_pos rfl]
    · rw [dv_u_ne _ _ (by rintro ⟨-, q⟩; exact hv q), if_neg hv]
  generalize (dv_u S2.1 13 5 (nI (w + 1)), dv_u (dv_u (dv_u S2.2.1 15 w x) 16 w (-1)) 17 w (nI w), dv_u S2.2.2 14 w (cu_k (S.2.1 2) k)) = S1 at *
  have e2 : fr [(0, 14), (516, 0), (516, 3)] [] S1 (rK (rS (rfS S1 0))) := ((rf_fr S1 0).mono (by decide) (by decide)).tr (((rs_fr _).mono (by decide) (by decide)).tr ((rk_fr _).mono (by decide) (by decide)))
  have k1 : (rK (rS (rfS S1 0))).1 0 14 = 0 := by
    rw [(rk_fr _).1 0 14 (by decide), (rs_fr _).1 0 14 (by decide)]
    exact dv_u_eq S1.1 0 14 0
  have k2 : (rK (rS (rfS S1 0))).1 516 3 = 0 := dv_u_eq (rS (rfS S1 0)).1 516 3 0
  generalize rK (rS (rfS S1 0)) = S3 at *
  have p517 : S3.2.1 517 = S.2.1 517 := by rw [e2.2.1 517 (by decide), eA.2 517 (by decide), e0.2.1 517 (by decide)]
  have eW : rWdE S3 w k x = (dv_u S3.1 516 17 (nI (w + 1)), dv_u (dv_u (dv_u (dv_u (rWd S3 w k k).2.1 528 w (nI k)) 529 w x) 530 w (-1)) 531 w (nI w), S3.2.2) := rfl
  have e3 : fr [(516, 17)] [527, 528, 529, 530, 531] S3 (rWdE S3 w k x) := by
    rw [eW]
    refine ⟨fun a k q => dv_u_ne S3.1 _ (by simpa using q), fun a z => ?_, rfl⟩
    simp only [List.mem_cons, List.not_mem_nil, or_false, not_or] at z
    show dv_u (dv_u (dv_u (dv_u (rWd S3 w k k).2.1 528 w (nI k)) 529 w x) 530 w (-1)) 531 w (nI w) a = _
    rw [dv_u_row _ _ z.2.2.2.2, dv_u_row _ _ z.2.2.2.1, dv_u_row _ _ z.2.2.1, dv_u_row _ _ z.2.1, rWd_row _ _ _ _ z.1]
  have q17 : (rWdE S3 w k x).1 516 17 = nI (w + 1) := dv_u_eq S3.1 516 17 _
  have q528 : ∀ v, (rWdE S3 w k x).2.1 528 v = if v = w then nI k else S3.2.1 528 v := fun v => by
    show dv_u (dv_u (dv_u (dv_u (rWd S3 w k k).2.1 528 w (nI k)) 529 w x) 530 w (-1)) 531 w (nI w) 528 v = _
    rw [dv_u_row _ _ (by decide), dv_u_row _ _ (by decide), dv_u_row _ _ (by decide), u2, rWd_row _ _ _ _ (by decide)]
  have q529 : ∀ v, (rWdE S3 w k x).2.1 529 v = if v = w then x else S3.2.1 529 v := fun v => by
    show dv_u (dv_u (dv_u (dv_u (rWd S3 w k k).2.1 528 w (nI k)) 529 w x) 530 w (-1)) 531 w (nI w) 529 v = _
    rw [dv_u_row _ _ (by decide), dv_u_row _ _ (by decide), u2, dv_u_row _ _ (by decide), rWd_row _ _ _ _ (by decide)]
  have q530 : ∀ v, (rWdE S3 w k x).2.1 530 v = if v = w then -1 else S3.2.1 530 v := fun v => by
    show dv_u (dv_u (dv_u (dv_u (rWd S3 w k k).2.1 528 w (nI k)) 529 w x) 530 w (-1)) 531 w (nI w) 530 v = _
    rw [dv_u_row _ _ (by decide), u2, dv_u_row _ _ (by decide), dv_u_row _ _ (by decide), rWd_row _ _ _ _ (by decide)]
  have q531 : ∀ v, (rWdE S3 w k x).2.1 531 v = if v = w then nI w else S3.2.1 531 v := fun v => by
    show dv_u (dv_u (dv_u (dv_u (rWd S3 w k k).2.1 528 w (nI k)) 529 w x) 530 w (-1)) 531 w (nI w) 531 v = _
    rw [u2, dv_u_row _ _ (by decide), dv_u_row _ _ (by decide), dv_u_row _ _ (by decide), rWd_row _ _ _ _ (by decide)]
  have q527 : (rWdE S3 w k x).2.1 527 = dv_ro S3.2.1 527 (12 * w) (fun j => (S3.2.1 517 j).toInt8.toInt32) k 527 := by
    show dv_u (dv_u (dv_u (dv_u (rWd S3 w k k).2.1 528 w (nI k)) 529 w x) 530 w (-1)) 531 w (nI w) 527 = _
    rw [dv_u_row _ _ (by decide), dv_u_row _ _ (by decide), dv_u_row _ _ (by decide), dv_u_row _ _ (by decide)]
    rfl
  generalize rWdE S3 w k x = S5 at *
  have e4 := rt_fr S5 0
  have hA : A_tr (rT S5 0) := trd (S1 := S) (by rw [e4.1 0 14 (by decide), e3.1 0 14 (by decide)]; exact k1)
  have xl : (rT S5 0).2.2 = S1.2.2 := by rw [e4.2.2, e3.2.2, e2.2.2]
  generalize rT S5 0 = S4 at *
  have h2 : fr2 ((13, 5) :: (516, 17) :: scF3) (15 :: 16 :: 17 :: 527 :: 528 :: 529 :: 530 :: 531 :: scG) S S4 := fr2_tr (fr2_mono (fr_2 e0) (by decide) (by decide)) (fr2_tr (fr2_mono eA (by decide) (by decide)) (fr2_tr (fr2_mono (fr_2 e2) (by decide) (by decide)) (fr2_tr (fr2_mono (fr_2 e3) (by decide) (by decide)) (fr2_mono (fr_2 e4) (by decide) (by decide)))))
  have y15 : ∀ v, S4.2.1 15 v = if v = w then x else S.2.1 15 v := fun v => by rw [e4.2.1 15 (by decide), e3.2.1 15 (by decide), e2.2.1 15 (by decide), g15, e0.2.1 15 (by decide)]
  have y16 : ∀ v, S4.2.1 16 v = if v = w then -1 else S.2.1 16 v := fun v => by rw [e4.2.1 16 (by decide), e3.2.1 16 (by decide), e2.2.1 16 (by decide), g16, e0.2.1 16 (by decide)]
  have y17 : ∀ v, S4.2.1 17 v = if v = w then nI w else S.2.1 17 v := fun v => by rw [e4.2.1 17 (by decide), e3.2.1 17 (by decide), e2.2.1 17 (by decide), g17, e0.2.1 17 (by decide)]
  have y528 : ∀ v, S4.2.1 528 v = if v = w then nI k else S.2.1 528 v := fun v => by rw [e4.2.1 528 (by decide), q528, e2.2.1 528 (by decide), eA.2 528 (by decide), e0.2.1 528 (by decide)]
  have y529 : ∀ v, S4.2.1 529 v = if v = w then x else S.2.1 529 v := fun v => by rw [e4.2.1 529 (by decide), q529, e2.2.1 529 (by decide), eA.2 529 (by decide), e0.2.1 529 (by decide)]
  have y530 : ∀ v, S4.2.1 530 v = if v = w then -1 else S.2.1 530 v := fun v => by rw [e4.2.1 530 (by decide), q530, e2.2.1 530 (by decide), eA.2 530 (by decide), e0.2.1 530 (by decide)]
  have y531 : ∀ v, S4.2.1 531 v = if v = w then nI w else S.2.1 531 v := fun v => by rw [e4.2.1 531 (by decide), q531, e2.2.1 531 (by decide), eA.2 531 (by decide), e0.2.1 531 (by decide)]
  have y527 : S4.2.1 527 = dv_ro S3.2.1 527 (12 * w) (fun j => (S3.2.1 517 j).toInt8.toInt32) k 527 := by rw [e4.2.1 527 (by decide), q527]
  have z527 : S3.2.1 527 = S.2.1 527 := by rw [e2.2.1 527 (by decide), eA.2 527 (by decide), e0.2.1 527 (by decide)]
  refine ⟨n, sn, un, w + 1, 0, fun j => if j = w then S.2.1 2 else wl j, fun j => if j = w then k else wm j, A_scr_fr h2 (by decide) (by decide) r1, hA, A_tape0 ?_ ?_, A_sc_fr h2 (by decide) (by decide) r4, A_th_fr h2 ⟨by decide, by decide, fun t ht => by simp <;> omega⟩ ⟨by decide, by decide, by decide, by decide, by decide, by decide, fun t ht => by simp <;> omega⟩ r5, A_us_fr h2 (by decide) (by decide) r6, ⟨⟨?_, ?_, by omega⟩, fun j hj => ?_⟩, A_out_fr h2 (by decide) (by decide) r8, A_pe_fr h2 hn ⟨by decide, fun t ht => by simp <;> omega⟩ ⟨by decide, by decide, by decide, by decide, fun t ht => by simp <;> omega⟩ r9, A_sf_fr h2 hn r6 (fun t ht => by simp <;> omega) ⟨by decide, fun t ht => by simp <;> omega⟩ r10, A_bc_fr h2 hn r6 ⟨by decide, fun t ht => ⟨by simp <;> omega, by simp <;> omega⟩⟩ ⟨by decide, by decide, by decide, by decide, fun t ht => ⟨by simp <;> omega, by simp <;> omega⟩⟩ r11⟩
  · rw [e4.1 1 1 (by decide), e3.1 1 1 (by decide), e2.1 1 1 (by decide), eA.1 1 1 (by decide)]; exact t0
  · rw [e4.1 516 3 (by decide), e3.1 516 3 (by decide)]; exact k2
  · rw [e4.1 13 5 (by decide), e3.1 13 5 (by decide), e2.1 13 5 (by decide)]; exact g13
  · rw [e4.1 516 17 (by decide)]; exact q17
  · rw [xl, g14, y528, y529, y15, y530, y16, y531, y17]
    by_cases hjw : j = w
    · subst hjw
      refine ⟨by simp only [↓reduceIte], ⟨?_, ?_, fun z hz => ?_⟩, by simp only [↓reduceIte], by simp only [↓reduceIte], by simp only [↓reduceIte], by simp only [↓reduceIte], Or.inl (by simp only [↓reduceIte]), j, by omega, by simp only [↓reduceIte], by rw [y17, if_pos rfl]⟩
      · simp only [↓reduceIte]; exact hw1.1
      · simp only [↓reduceIte]; exact hw1.2.1
      · simp only [↓reduceIte] at hz ⊢
        refine ⟨hw1.2.2 z hz, ?_⟩
        rw [y527, dv_ro_in hz, p517, htp z hz, ch_by (ch_sn (hw1.2.2 z hz))]
    · obtain ⟨b1, b2, b3, b4, b5, b6, b7, b8⟩ := r7.2 j (by omega)
      simp only [if_neg hjw]
      refine ⟨b1, ⟨b2.1, b2.2.1, fun z hz => ⟨(b2.2.2 z hz).1, ?_⟩⟩, b3, b4, b5, b6, ?_, ?_⟩
      · rw [y527, dv_ro_out (by have := b2.2.1; omega), z527]; exact (b2.2.2 z hz).2
      · rcases b7 with e | ⟨i, hi, e⟩
        · exact Or.inl e
        · exact Or.inr ⟨i, by omega, e⟩
      · obtain ⟨m, hm, e1, e2⟩ := b8
        exact ⟨m, by omega, e1, by rw [y17, if_neg (by omega)]; exact e2⟩
end
