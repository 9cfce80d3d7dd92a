section
variable {L : Int32} {xs : Nat → Int32} {n sn un w tn : Nat} {wl : Nat → Nat → Int32} {wm : Nat → Nat} {S S' : dv_S}
/-- class's state as it adds a use -/
abbrev tbS (S : dv_S) (k : Nat) : dv_S := (dv_u (dv_tc S k).1 0 13 0, (dv_tc S k).2)
abbrev auS (S : dv_S) (k un q u : Nat) : dv_S := (dv_u (tbS S k).1 185 2 (nI (un + 1)), dv_u (dv_u (tbS S k).2.1 186 un (nI q)) 187 un (nI u), (tbS S k).2.2)
theorem tb_fr (S : dv_S) (k : Nat) : fr [(3, 1), (3, 2), (1, 1), (1, 2), (0, 13)] [4] S (tbS S k) := ((tc_fr S k).mono (by decide) (by decide)).tr ⟨fun a k q => dv_u_ne _ _ (fun z => q (by rw [z.1, z.2]; decide)), fun _ _ => rfl, rfl⟩
theorem use_Rel (hR : RelX L xs n sn un w tn wl wm S) {k q u : Nat} (hq : q < sn) (hun : un < 150) (hk : k ≤ 24) (hm : thM (dv_tc S k) n q = some u) : Rel L xs (rT (rUs (rK (rS (rfS (auS S k un q u) 0))) un q u) 0) := by
  show Rel L xs (rT (rUs (rK (rS (rfS (dv_u (tbS S k).1 185 2 (nI (un + 1)), dv_u (dv_u (tbS S k).2.1 186 un (nI q)) 187 un (nI u), (tbS S k).2.2) 0))) un q u) 0)
  rw [thM_eq S hk n q hR.T.2.1] at hm
  obtain ⟨r1, r2, r3, r4, r5, r6, r7, r8, r9, r10, r11⟩ := hR
  have hn := r5.1.2.2
  have h20 := r4.2.2.1
  have hm2 := cl_tm_some.mp hm
  have e0 := tb_fr S k
  have t0 : (tbS S k).1 1 1 = 0 := by
    show dv_u (dv_tc S k).1 0 13 0 1 1 = 0
    rw [dv_u_ne _ _ (by decide), tc_0]
  have t1 : (tbS S k).1 0 13 = 0 := dv_u_eq (dv_tc S k).1 0 13 0
  generalize tbS S k = T at *
  have e1 : fr [(185, 2)] [186, 187] T (dv_u T.1 185 2 (nI (un + 1)), dv_u (dv_u T.2.1 186 un (nI q)) 187 un (nI u), T.2.2) := by
    refine ⟨fun a k q => dv_u_ne T.1 _ (by simpa using q), fun a z => ?_, rfl⟩
    simp only [List.mem_cons, List.not_mem_nil, or_false, not_or] at z
    show dv_u (dv_u T.2.1 186 un (nI q)) 187 un (nI u) a = _
    rw [dv_u_row _ _ z.2, dv_u_row _ _ z.1]
  have g1 : (dv_u T.1 185 2 (nI (un + 1)), dv_u (dv_u T.2.1 186 un (nI q)) 187 un (nI u), T.2.2).1 185 2 = nI (un + 1) := dv_u_eq T.1 185 2 _
  have g2 : ∀ v, (dv_u T.1 185 2 (nI (un + 1)), dv_u (dv_u T.2.1 186 un (nI q)) 187 un (nI u), T.2.2).2.1 186 v = if v = un then nI q else T.2.1 186 v := fun v => by
    show dv_u (dv_u T.2.1 186 un (nI q)) 187 un (nI u) 186 v = _
    rw [dv_u_row _ _ (by decide)]
    by_cases hv : v = un
    · rw [hv, dv_u_eq, if_pos rfl]
    · rw [dv_u_ne _ _ (by rintro ⟨-, z⟩; exact hv z), if_neg hv]
  have g3 : ∀ v, (dv_u T.1 185 2 (nI (un + 1)), dv_u (dv_u T.2.1 186 un (nI q)) 187 un (nI u), T.2.2).2.1 187 v = if v = un then nI u else T.2.1 187 v := fun v => by
    show dv_u (dv_u T.2.1 186 un (nI q)) 187 un (nI u) 187 v = _
    by_cases hv : v = un
    · rw [hv, dv_u_eq, if_pos rfl]
    · rw [dv_u_ne _ _ (by rintro ⟨-, z⟩; exact hv z), dv_u_row _ _ (by decide), if_neg hv]
  generalize (dv_u T.1 185 2 (nI (un + 1)), dv_u (dv_u T.2.1 186 un (nI q)) 187 un (nI u), T.2.2) = S1 at *
  have e2 : fr [(0, 14), (516, 0), (516, 3)] [] S1 (rK (rS (rfS S1 0))) := ((rf_fr S1 0).mono (by decide) (by decide)).tr (((rs_fr _).mono (by decide) (by decide)).tr ((rk_fr _).mono (by decide) (by decide)))
  have k1 : (rK (rS (rfS S1 0))).1 0 14 = 0 := by
    rw [(rk_fr _).1 0 14 (by decide), (rs_fr _).1 0 14 (by decide)]
    exact dv_u_eq S1.1 0 14 0
  have k2 : (rK (rS (rfS S1 0))).1 516 3 = 0 := dv_u_eq (rS (rfS S1 0)).1 516 3 0
  generalize rK (rS (rfS S1 0)) = S2 at *
  have e3 : fr [(516, 6), (516, 36)] [522, 523] S2 (rUs S2 un q u) := by
    refine ⟨fun a k z => ?_, fun a z => ?_, rfl⟩
    · simp only [List.mem_cons, Prod.mk.injEq, List.not_mem_nil, or_false, not_or] at z
      show dv_u (dv_u S2.1 516 6 (nI (un + 1))) 516 36 0 a k = _
      rw [dv_u_ne _ _ z.2, dv_u_ne _ _ z.1]
    · simp only [List.mem_cons, List.not_mem_nil, or_false, not_or] at z
      show dv_u (dv_u S2.2.1 522 un (nI q)) 523 un (nI u) a = _
      rw [dv_u_row _ _ z.2, dv_u_row _ _ z.1]
  have g4 : (rUs S2 un q u).1 516 6 = nI (un + 1) := by
    show dv_u (dv_u S2.1 516 6 (nI (un + 1))) 516 36 0 516 6 = _
    rw [dv_u_ne _ _ (by decide), dv_u_eq]
  have g4b : (rUs S2 un q u).1 516 36 = 0 := dv_u_eq (dv_u S2.1 516 6 (nI (un + 1))) 516 36 0
  have g5 : ∀ v, (rUs S2 un q u).2.1 522 v = if v = un then nI q else S2.2.1 522 v := fun v => by
    show dv_u (dv_u S2.2.1 522 un (nI q)) 523 un (nI u) 522 v = _
    rw [dv_u_row _ _ (by decide)]
    by_cases hv : v = un
    · rw [hv, dv_u_eq, if_pos rfl]
    · rw [dv_u_ne _ _ (by rintro ⟨-, z⟩; exact hv z), if_neg hv]
  have g6 : ∀ v, (rUs S2 un q u).2.1 523 v = if v = un then nI u else S2.2.1 523 v := fun v => by
    show dv_u (dv_u S2.2.1 522 un (nI q)) 523 un (nI u) 523 v = _
    by_cases hv : v = un
    · rw [hv, dv_u_eq, if_pos rfl]
    · rw [dv_u_ne _ _ (by rintro ⟨-, z⟩; exact hv z), dv_u_row _ _ (by decide), if_neg hv]
  generalize rUs S2 un q u = S3 at *
  have e4 := rt_fr S3 0
  have htr : (rT S3 0).1 0 14 = 0 := by rw [e4.1 0 14 (by decide), e3.1 0 14 (by decide)]; exact k1
  have hA : A_tr (rT S3 0) := trd (S1 := S) htr
  generalize rT S3 0 = S4 at *
  have hf : fr ((185, 2) :: (0, 13) :: (516, 6) :: (516, 36) :: scF3) (186 :: 187 :: 522 :: 523 :: scG) S S4 := (e0.mono (by decide) (by decide)).tr ((e1.mono (by decide) (by decide)).tr ((e2.mono (by decide) (by decide)).tr ((e3.mono (by decide) (by decide)).tr (e4.mono (by decide) (by decide)))))
  have h2 := fr_2 hf
  have x186 : ∀ v, S4.2.1 186 v = if v = un then nI q else S.2.1 186 v := fun v => by
    rw [e4.2.1 186 (by decide), e3.2.1 186 (by decide), e2.2.1 186 (by decide), g2, e0.2.1 186 (by decide)]
  have x187 : ∀ v, S4.2.1 187 v = if v = un then nI u else S.2.1 187 v := fun v => by
    rw [e4.2.1 187 (by decide), e3.2.1 187 (by decide), e2.2.1 187 (by decide), g3, e0.2.1 187 (by decide)]
  have x522 : ∀ v, S4.2.1 522 v = if v = un then nI q else S.2.1 522 v := fun v => by
    rw [e4.2.1 522 (by decide), g5, e2.2.1 522 (by decide), e1.2.1 522 (by decide), e0.2.1 522 (by decide)]
  have x523 : ∀ v, S4.2.1 523 v = if v = un then nI u else S.2.1 523 v := fun v => by
    rw [e4.2.1 523 (by decide), g6, e2.2.1 523 (by decide), e1.2.1 523 (by decide), e0.2.1 523 (by decide)]
  have xus : ∀ v, usS S4 v = if v = un then q else usS S v := fun v => by
    unfold usS; rw [x186]; split
    · exact dn_nI (by omega)
    · rfl
  have xut : ∀ v, utS S4 v = if v = un then u else utS S v := fun v => by
    unfold utS; rw [x187]; split
    · exact dn_nI (by omega)
    · rfl
  have hhm := hm_fr h2 (show 22 ∉ (186 :: 187 :: 522 :: 523 :: scG) by decide)
  have hwi := wi_fr h2 (show 20 ∉ (186 :: 187 :: 522 :: 523 :: scG) by decide)
  have c6 : A_us n sn (un + 1) S4 := by
    refine ⟨⟨?_, ?_, by omega⟩, fun v hv => ?_⟩
    · rw [e4.1 185 2 (by decide), e3.1 185 2 (by decide), e2.1 185 2 (by decide)]; exact g1
    · rw [e4.1 516 6 (by decide)]; exact g4
    · rw [x186, x187, x522, x523, xus, xut]
      by_cases hvu : v = un
      · simp only [if_pos hvu, true_and, and_true]; exact ⟨hq, hm2.1⟩
      · simp only [if_neg hvu]; exact r6.2 v (by omega)
  have z13 : S4.1 0 13 = 0 := by rw [e4.1 0 13 (by decide), e3.1 0 13 (by decide), e2.1 0 13 (by decide), e1.1 0 13 (by decide)]; exact t1
  have hN : ∀ t, t < n → tx S4 (25 + 2 * t) = tx S (25 + 2 * t) := fun t ht => fr2_tx h2 (by simp <;> omega) (by simp <;> omega)
  refine ⟨n, sn, un + 1, w, 0, wl, wm, A_scr_fr h2 (by decide) (by decide) r1, hA, A_tape0 ?_ ?_, A_sc_fr h2 (by decide) (by decide) r4, A_th_fr h2 ⟨by decide, by decide, fun t ht => by simp <;> omega⟩ ⟨by decide, by decide, by decide, by decide, by decide, by decide, fun t ht => by simp <;> omega⟩ r5, c6, A_bk_fr h2 hf.2.2 (by decide) (by decide) r7, A_out_fr h2 (by decide) (by decide) r8, A_pe_fr h2 hn ⟨by decide, fun t ht => by simp <;> omega⟩ ⟨by decide, by decide, by decide, by decide, fun t ht => by simp <;> omega⟩ r9, ?_, ?_⟩
  · rw [e4.1 1 1 (by decide), e3.1 1 1 (by decide), e2.1 1 1 (by decide), e1.1 1 1 (by decide)]; exact t0
  · rw [e4.1 516 3 (by decide), e3.1 516 3 (by decide)]; exact k2
  · refine sfe_cong c6 (fun t ht => (hN t ht).symm) ⟨fun t ht => by rw [hhm]; exact r10.1 t ht, fun v hv => ?_⟩
    by_cases hvu : v = un
    · unfold gst
      rw [hhm, hwi, xus, xut, if_pos hvu, if_pos hvu]
      have hu2 := hm2.2.1
      rw [Bool.and_eq_true, decide_eq_true_eq] at hu2
      have hu3 : tx S (25 + 2 * u) = dv_rd (S.2.1 2) k := hu2.2
      simp only [hu3]
      rw [decide_eq_true hm]; rfl
    · have := r10.2 v (by omega)
      unfold gst at this ⊢
      rw [hhm, hwi, xus, xut, if_neg hvu, if_neg hvu]
      exact this
  · refine ⟨?_, fun z => absurd z13 z⟩
    rw [e4.1 516 36 (by decide), g4b, z13]
end
