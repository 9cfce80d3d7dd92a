/-- a new thing that is no double and catches no use leaves all safe -/
theorem sf_add {hm hm' : Nat → Nat} {an : Nat → Nat → Bool} {us ut : Nat → Nat} {N N' : Nat → List Int32} {n un q : Nat} {Lx : List Int32} (h1 : ∀ t, t < n → hm' t = hm t ∧ N' t = N t) (h2 : hm' n = q ∧ N' n = Lx) (hu : ∀ u, u < un → ut u < n) (hd : ∀ t, t < n → ¬ (hm t = q ∧ N t = Lx)) (hc : ∀ u, u < un → ¬ (hm (ut u) < q ∧ an (us u) q = true ∧ N (ut u) = Lx)) (hb : ∀ t, t < n → gdb hm N t = false) (hs : ∀ u, u < un → gst hm an us ut N n u = false) : (∀ t, t < n + 1 → gdb hm' N' t = false) ∧ (∀ u, u < un → gst hm' an us ut N' (n + 1) u = false) := by
  refine ⟨fun t ht => ?_, fun u hu2 => ?_⟩
  · by_cases htn : t = n
    · subst htn
      unfold gdb
      rw [dv_fo_none (fun k hk => ?_)]; · rfl
      rw [(h1 k hk).1, (h1 k hk).2, h2.1, h2.2]
      have := hd k hk
      by_cases z : hm k = q
      · rw [decide_eq_true z, decide_eq_false (fun r => this ⟨z, r⟩)]; rfl
      · rw [decide_eq_false z]; rfl
    · have := hb t (by omega)
      unfold gdb at this ⊢
      rw [dv_fo_cong (fun k hk => by rw [(h1 k (by omega)).1, (h1 k (by omega)).2, (h1 t (by omega)).1, (h1 t (by omega)).2])]
      exact this
  · have := hs u hu2
    have hun := hu u hu2
    unfold gst at this ⊢
    rw [Bool.not_eq_false', decide_eq_true_eq, cl_tm_some] at this ⊢
    obtain ⟨a1, a2, a3, a4⟩ := this
    have e : N' (ut u) = N (ut u) := (h1 _ hun).2
    have ok : ∀ t, t < n → (an (us u) (hm' t) && decide (N' t = N' (ut u))) = (an (us u) (hm t) && decide (N t = N (ut u))) := fun t ht => by rw [(h1 t ht).1, (h1 t ht).2, e]
    refine ⟨by omega, by rw [ok _ hun]; exact a2, fun t ht hk => ?_, fun t ht hk => ?_⟩
    · rw [(h1 _ hun).1]
      by_cases htn : t = n
      · subst htn
        rw [h2.1, h2.2, e, Bool.and_eq_true, decide_eq_true_eq] at hk
        rw [h2.1]
        have := hc u hu2
        refine Nat.le_of_not_lt fun z => this ⟨z, hk.1, hk.2.symm⟩
      · rw [ok t (by omega)] at hk
        rw [(h1 t (by omega)).1]
        exact a3 t (by omega) hk
    · rw [ok t (by omega)] at hk
      rw [(h1 t (by omega)).1, (h1 _ hun).1]
      exact a4 t ht hk
section
variable {L : Int32} {xs : Nat → Int32} {n sn un w tn : Nat} {wl : Nat → Nat → Int32} {wm : Nat → Nat} {S S' : dv_S}
abbrev axS (T : dv_S) (n q : Nat) (y : Int32) : dv_S := (T.1, dv_u (dv_u T.2.1 22 n (nI q)) 23 n y, T.2.2)
abbrev ayS (T : dv_S) (n q : Nat) (y : Int32) (k : Nat) : dv_S := dv_tx (axS T n q y) (25 + 2 * n) (min k 24) (T.2.1 4)
abbrev adS (T : dv_S) (n q : Nat) (y : Int32) (k : Nat) : dv_S := (dv_u (ayS T n q y k).1 21 3 (nI (n + 1)), (ayS T n q y k).2)
theorem u2 {f : Nat → Nat → Int32} {a n : Nat} {v : Int32} (z : Nat) : dv_u f a n v a z = if z = n then v else f a z := by
  by_cases hv : z = n
  · rw [hv, dv_u_eq, if_pos rfl]
  · rw [dv_u_ne _ _ (by rintro ⟨-, q⟩; exact hv q), if_neg hv]
theorem thing_Rel (hR : RelX L xs n sn un w tn wl wm S) {k q : Nat} {y : Int32} (hq : q < sn) (hn80 : n < 80) (hktn : k ≤ tn) (hc : nm_ok (dv_rd (S.2.1 2) k) = true) (hd : (thD (dv_tc S k) n q || thC (dv_tc S k) un q) = false) : Rel L xs (rT (rThE (rK (rS (rfS (adS (tbS S k) n q y k) 0))) n q y k) 0) := by
  have hlen := nm_len hc
  rw [dv_rd_len] at hlen
  rw [thD_eq S hlen.2 q hq hR.S' hR.T.2.1, thC_eq S hlen.2 q hR.U hR.T.2.1, Bool.or_eq_false_iff] at hd
  have htp := RelX_tp hR hktn hc
  obtain ⟨r1, r2, r3, r4, r5, r6, r7, r8, r9, r10, r11⟩ := hR
  have h20 := r4.2.2.1
  have hdD : ∀ t, t < n → ¬ (hmS S t = q ∧ tx S (25 + 2 * t) = dv_rd (S.2.1 2) k) := fun t ht z => by
    have : dv_ex (fun i => decide (hmS S i = q) && decide (tx S (25 + 2 * i) = dv_rd (S.2.1 2) k)) n = true := dv_ex_iff.mpr ⟨t, ht, by rw [decide_eq_true z.1, decide_eq_true z.2]; rfl⟩
    rw [hd.1] at this; cases this
  have hdC : ∀ u, u < un → ¬ (hmS S (utS S u) < q ∧ wi S (usS S u) q = true ∧ tx S (25 + 2 * utS S u) = dv_rd (S.2.1 2) k) := fun u hu z => by
    have := dv_fo_yes (p := fun u => decide (hmS S (utS S u) < q) && wi S (usS S u) q && decide (tx S (25 + 2 * utS S u) = dv_rd (S.2.1 2) k)) hu (by rw [decide_eq_true z.1, z.2.1, decide_eq_true z.2.2]; rfl)
    rw [hd.2] at this; cases this
  have e0 := tb_fr S k
  have t0 : (tbS S k).1 1 1 = 0 := by
    show dv_u (dv_tc S k).1 0 13 0 1 1 = 0
    rw [dv_u_ne _ _ (by decide), tc_0]
  have t1 : (tbS S k).1 0 13 = 0 := dv_u_eq (dv_tc S k).1 0 13 0
  have t4 : dv_rd ((tbS S k).2.1 4) (min k 24) = dv_rd (S.2.1 2) k := dv_tc_r S hlen.2
  generalize tbS S k = T at *
  show Rel L xs (rT (rThE (rK (rS (rfS (dv_u (dv_tx (T.1, dv_u (dv_u T.2.1 22 n (nI q)) 23 n y, T.2.2) (25 + 2 * n) (min k 24) (T.2.1 4)).1 21 3 (nI (n + 1)), (dv_tx (T.1, dv_u (dv_u T.2.1 22 n (nI q)) 23 n y, T.2.2) (25 + 2 * n) (min k 24) (T.2.1 4)).2) 0))) n q y k) 0)
  have eX : fr [] [22, 23] T (T.1, dv_u (dv_u T.2.1 22 n (nI q)) 23 n y, T.2.2) := by
    refine ⟨fun _ _ _ => rfl, fun a z => ?_, rfl⟩
    simp only [List.mem_cons, List.not_mem_nil, or_false, not_or] at z
    show dv_u (dv_u T.2.1 22 n (nI q)) 23 n y a = _
    rw [dv_u_row _ _ z.2, dv_u_row _ _ z.1]
  have g22 : ∀ v, (T.1, dv_u (dv_u T.2.1 22 n (nI q)) 23 n y, T.2.2).2.1 22 v = if v = n then nI q else T.2.1 22 v := fun v => by
    show dv_u (dv_u T.2.1 22 n (nI q)) 23 n y 22 v = _
    rw [dv_u_row _ _ (by decide), u2]
  have g23 : ∀ v, (T.1, dv_u (dv_u T.2.1 22 n (nI q)) 23 n y, T.2.2).2.1 23 v = if v = n then y else T.2.1 23 v := fun v => by
    show dv_u (dv_u T.2.1 22 n (nI q)) 23 n y 23 v = _
    rw [u2, dv_u_row _ _ (by decide)]
  generalize (T.1, dv_u (dv_u T.2.1 22 n (nI q)) 23 n y, T.2.2) = X at *
  have eY := tx_fr X (25 + 2 * n) (min k 24) (T.2.1 4)
  have tY := tx_tv X (25 + 2 * n) (m := min k 24) (T.2.1 4) (by omega)
  rw [t4] at tY
  generalize dv_tx X (25 + 2 * n) (min k 24) (T.2.1 4) = Y at *
  have eA : fr [(21, 3)] [] Y (dv_u Y.1 21 3 (nI (n + 1)), Y.2) := ⟨fun a k q => dv_u_ne Y.1 _ (by simpa using q), fun _ _ => rfl, rfl⟩
  have gA : (dv_u Y.1 21 3 (nI (n + 1)), Y.2).1 21 3 = nI (n + 1) := dv_u_eq Y.1 21 3 _
  generalize (dv_u Y.1 21 3 (nI (n + 1)), Y.2) = S1 at *
  have e2 : fr [(0, 14), (516, 0), (516, 3)] [] S1 (rK (rS (rfS S1 0))) := ((rf_fr S1 0).mono (by decide) (by decide)).tr (((rs_fr _).mono (by decide) (by decide)).tr ((rk_fr _).mono (by decide) (by decide)))
  have k1 : (rK (rS (rfS S1 0))).1 0 14 = 0 := by
    rw [(rk_fr _).1 0 14 (by decide), (rs_fr _).1 0 14 (by decide)]
    exact dv_u_eq S1.1 0 14 0
  have k2 : (rK (rS (rfS S1 0))).1 516 3 = 0 := dv_u_eq (rS (rfS S1 0)).1 516 3 0
  generalize rK (rS (rfS S1 0)) = S2 at *
  have p517 : S2.2.1 517 = S.2.1 517 := by rw [e2.2.1 517 (by decide), eA.2.1 517 (by decide), eY.2.1 517 (by simp <;> omega), eX.2.1 517 (by decide), e0.2.1 517 (by decide)]
  have er : rThE S2 n q y k = (dv_u (dv_u S2.1 516 5 (nI (n + 1))) 516 36 0, dv_u (cpy (S2.1, dv_u (dv_u S2.2.1 519 n (nI q)) 520 n y, S2.2.2) 524 521 n k (S2.2.1 517) k).2.1 535 n 0, S2.2.2) := rfl
  have eR : fr [] [519, 520] S2 (S2.1, dv_u (dv_u S2.2.1 519 n (nI q)) 520 n y, S2.2.2) := by
    refine ⟨fun _ _ _ => rfl, fun a z => ?_, rfl⟩
    simp only [List.mem_cons, List.not_mem_nil, or_false, not_or] at z
    show dv_u (dv_u S2.2.1 519 n (nI q)) 520 n y a = _
    rw [dv_u_row _ _ z.2, dv_u_row _ _ z.1]
  have g519 : ∀ v, (S2.1, dv_u (dv_u S2.2.1 519 n (nI q)) 520 n y, S2.2.2).2.1 519 v = if v = n then nI q else S2.2.1 519 v := fun v => by
    show dv_u (dv_u S2.2.1 519 n (nI q)) 520 n y 519 v = _
    rw [dv_u_row _ _ (by decide), u2]
  have g520 : ∀ v, (S2.1, dv_u (dv_u S2.2.1 519 n (nI q)) 520 n y, S2.2.2).2.1 520 v = if v = n then y else S2.2.1 520 v := fun v => by
    show dv_u (dv_u S2.2.1 519 n (nI q)) 520 n y 520 v = _
    rw [u2, dv_u_row _ _ (by decide)]
  have f1z : (S2.1, dv_u (dv_u S2.2.1 519 n (nI q)) 520 n y, S2.2.2).1 = S2.1 := rfl
  have f2z : (S2.1, dv_u (dv_u S2.2.1 519 n (nI q)) 520 n y, S2.2.2).2.2 = S2.2.2 := rfl
  rw [er]
  clear er
  generalize (S2.1, dv_u (dv_u S2.2.1 519 n (nI q)) 520 n y, S2.2.2) = X2 at *
  have eC := cpy_fr X2 524 521 n k (S2.2.1 517) k
  have nC := cpy_N1 X2 (nr := 524) (sr := 521) (t := n) (l := k) (src := S2.2.1 517) (by decide) hlen.2 (fun z hz => by rw [p517, htp z hz]; exact ch_by (nm_ch hc _ (List.mem_map.mpr ⟨z, List.mem_range.mpr hz, rfl⟩)))
  have rdC : dv_rd (S2.2.1 517) k = dv_rd (S.2.1 2) k := by rw [p517, dv_rd_eq]; exact ⟨rfl, htp⟩
  rw [rdC] at nC
  have oC : ∀ t l, t ≠ n → rN1 X2 524 521 t l → rN1 (cpy X2 524 521 n k (S2.2.1 517) k) 524 521 t l := fun t l ht hl => cpy_ot _ (by decide) hlen.2 ht (Nat.le_refl _) hl
  have f3z : (cpy X2 524 521 n k (S2.2.1 517) k).1 = S2.1 := f1z
  generalize cpy X2 524 521 n k (S2.2.1 517) k = X3 at *
  have e3 : fr [(516, 5), (516, 36)] [535] X3 (dv_u (dv_u S2.1 516 5 (nI (n + 1))) 516 36 0, dv_u X3.2.1 535 n 0, S2.2.2) := by
    refine ⟨fun a k z => ?_, fun a z => dv_u_row X3.2.1 _ (by simpa using z), ?_⟩
    · simp only [List.mem_cons, Prod.mk.injEq, List.not_mem_nil, or_false, not_or] at z
      show dv_u (dv_u S2.1 516 5 (nI (n + 1))) 516 36 0 a k = _
      rw [dv_u_ne _ _ z.2, dv_u_ne _ _ z.1, f3z]
    · rw [eC.2.2, f2z]
  have g5 : (dv_u (dv_u S2.1 516 5 (nI (n + 1))) 516 36 0, dv_u X3.2.1 535 n 0, S2.2.2).1 516 5 = nI (n + 1) := by
    show dv_u (dv_u S2.1 516 5 (nI (n + 1))) 516 36 0 516 5 = _
    rw [dv_u_ne _ _ (by decide), dv_u_eq]
  have g36 : (dv_u (dv_u S2.1 516 5 (nI (n + 1))) 516 36 0, dv_u X3.2.1 535 n 0, S2.2.2).1 516 36 = 0 := dv_u_eq (dv_u S2.1 516 5 (nI (n + 1))) 516 36 0
  have g535 : ∀ v, (dv_u (dv_u S2.1 516 5 (nI (n + 1))) 516 36 0, dv_u X3.2.1 535 n 0, S2.2.2).2.1 535 v = if v = n then 0 else X3.2.1 535 v := fun v => u2 (f := X3.2.1) v
  generalize (dv_u (dv_u S2.1 516 5 (nI (n + 1))) 516 36 0, dv_u X3.2.1 535 n 0, S2.2.2) = S3 at *
  have e4 := rt_fr S3 0
  have htr : (rT S3 0).1 0 14 = 0 := by rw [e4.1 0 14 (by decide), e3.1 0 14 (by decide), eC.1 0 14 (by decide), eR.1 0 14 (by decide)]; exact k1
  have hA : A_tr (rT S3 0) := trd (S1 := S) htr
  generalize rT S3 0 = S4 at *
  have eU : fr ((21, 3) :: (25 + 2 * n, 1) :: (25 + 2 * n, 2) :: (0, 13) :: scF3) (22 :: 23 :: (25 + 2 * n + 1) :: scG) S S2 := (e0.mono (by simp) (by simp)).tr ((eX.mono (by simp) (by simp)).tr ((eY.mono (by simp) (by simp)).tr ((eA.mono (by simp) (by simp)).tr (e2.mono (by simp) (by simp)))))
  have eV : fr [(516, 5), (516, 36), (516, 1)] [519, 520, 521, 524, 535] S2 S4 := (eR.mono (by simp) (by simp)).tr ((eC.mono (by simp) (by simp)).tr ((e3.mono (by simp) (by simp)).tr (e4.mono (by simp) (by simp))))
  have hf : fr ((516, 5) :: (516, 36) :: (21, 3) :: (25 + 2 * n, 1) :: (25 + 2 * n, 2) :: (0, 13) :: scF3) (519 :: 520 :: 521 :: 524 :: 535 :: 22 :: 23 :: (25 + 2 * n + 1) :: scG) S S4 := (eU.mono (by simp) (by simp)).tr (eV.mono (by simp) (by simp))
  have h2 := fr_2 hf
  have x22 : ∀ v, S4.2.1 22 v = if v = n then nI q else S.2.1 22 v := fun v => by
    rw [eV.2.1 22 (by decide), e2.2.1 22 (by decide), eA.2.1 22 (by decide), eY.2.1 22 (by simp <;> omega), g22, e0.2.1 22 (by decide)]
  have x23 : ∀ v, S4.2.1 23 v = if v = n then y else S.2.1 23 v := fun v => by
    rw [eV.2.1 23 (by decide), e2.2.1 23 (by decide), eA.2.1 23 (by decide), eY.2.1 23 (by simp <;> omega), g23, e0.2.1 23 (by decide)]
  have x519 : ∀ v, S4.2.1 519 v = if v = n then nI q else S.2.1 519 v := fun v => by
    rw [e4.2.1 519 (by decide), e3.2.1 519 (by decide), eC.2.1 519 (by decide), g519, eU.2.1 519 (by simp <;> omega)]
  have x520 : ∀ v, S4.2.1 520 v = if v = n then y else S.2.1 520 v := fun v => by
    rw [e4.2.1 520 (by decide), e3.2.1 520 (by decide), eC.2.1 520 (by decide), g520, eU.2.1 520 (by simp <;> omega)]
  have x535 : ∀ v, S4.2.1 535 v = if v = n then 0 else S.2.1 535 v := fun v => by
    rw [e4.2.1 535 (by decide), g535, eC.2.1 535 (by decide), eR.2.1 535 (by decide), eU.2.1 535 (by simp <;> omega)]
  have xhm : ∀ v, hmS S4 v = if v = n then q else hmS S v := fun v => by
    unfold hmS; rw [x22]; split
    · exact dn_nI (by omega)
    · rfl
  have xtx : ∀ t, t < 80 → t ≠ n → tx S4 (25 + 2 * t) = tx S (25 + 2 * t) := fun t ht htn => fr2_tx h2 (by simp <;> omega) (by simp <;> omega)
  have xtn : tv S4 (25 + 2 * n) (dv_rd (S.2.1 2) k) := by
    refine tY.of ?_ ?_
    · rw [eV.1 _ _ (by simp <;> omega), e2.1 _ _ (by simp <;> omega), eA.1 _ _ (by simp <;> omega)]
    · rw [eV.2.1 _ (by simp <;> omega), e2.2.1 _ (by simp), eA.2.1 _ (by simp)]
  have hwi := wi_fr h2 (by simp <;> omega)
  have hus := us_fr h2 (by simp <;> omega)
  have hut := ut_fr h2 (by simp <;> omega)
  have hn80' : n + 1 ≤ 80 := by omega
  have c5 : A_th (n + 1) sn S4 := by
    refine ⟨⟨?_, ?_, hn80'⟩, fun t ht => ?_⟩
    · rw [eV.1 21 3 (by decide), e2.1 21 3 (by decide)]; exact gA
    · rw [e4.1 516 5 (by decide)]; exact g5
    · rw [x22, x23, x519, x520, xhm]
      by_cases htn : t = n
      · subst htn
        rw [if_pos rfl, if_pos rfl, if_pos rfl, if_pos rfl, if_pos rfl, tv_tx xtn]
        exact ⟨⟨rfl, hq, rfl⟩, rfl, tv_tl xtn, hc, rN1_fr e4 (by decide) (rN1_fr e3 (by decide) nC)⟩
      · obtain ⟨a1, a2, a3, a4, a5⟩ := r5.2 t (by omega)
        simp only [if_neg htn]
        rw [xtx t (by omega) htn]
        exact ⟨a1, a2, fr2_tl h2 (by simp <;> omega) a3, a4, rN1_fr e4 (by decide) (rN1_fr e3 (by decide) (oC t _ htn (rN1_fr eR (by decide) (rN1_fr eU (by simp <;> omega) a5))))⟩
  have c6 : A_us (n + 1) sn un S4 := by
    have := A_us_fr h2 ⟨by simp <;> omega, by simp <;> omega⟩ ⟨by simp <;> omega, by simp <;> omega, by simp <;> omega, by simp <;> omega⟩ r6
    refine ⟨this.1, fun u hu => ?_⟩
    obtain ⟨q1, q2, q3, q4, q5⟩ := this.2 u hu
    exact ⟨q1, q2, q3, by omega, q5⟩
  have z13 : S4.1 0 13 = 0 := by rw [eV.1 0 13 (by decide), e2.1 0 13 (by decide), eA.1 0 13 (by decide), eY.1 0 13 (by simp <;> omega), eX.1 0 13 (by decide)]; exact t1
  have x189 : S4.2.1 189 = S.2.1 189 := h2.2 189 (by simp <;> omega)
  have n189 : S.2.1 189 n = 0 := Classical.byContradiction fun z => by have := r9.1 n hn80 z; omega
  refine ⟨n + 1, sn, un, w, 0, wl, wm, A_scr_fr h2 (by simp <;> omega) (by simp <;> omega) r1, hA, A_tape0 ?_ ?_, A_sc_fr h2 ⟨by simp <;> omega, by simp <;> omega⟩ ⟨by simp <;> omega, by simp <;> omega⟩ r4, c5, c6, A_bk_fr h2 hf.2.2 ⟨by simp <;> omega, by simp <;> omega⟩ ⟨by simp <;> omega, by simp <;> omega, by simp <;> omega, by simp <;> omega, by simp <;> omega, by simp <;> omega, by simp <;> omega, by simp <;> omega⟩ r7, A_out_fr h2 ⟨by simp <;> omega, by simp <;> omega⟩ ⟨by simp <;> omega, by simp <;> omega⟩ r8, ?_, ?_, ?_⟩
  · rw [eV.1 1 1 (by decide), e2.1 1 1 (by decide), eA.1 1 1 (by decide), eY.1 1 1 (by simp <;> omega), eX.1 1 1 (by decide)]; exact t0
  · rw [eV.1 516 3 (by decide)]; exact k2
  · refine ⟨fun t ht z => by rw [x189] at z; have := r9.1 t ht z; omega, ?_, fun t ht => ?_⟩
    · rw [h2.1 188 2 (by simp <;> omega), x189]; exact r9.2.1
    · rw [x535, x189]
      by_cases htn : t = n
      · subst htn
        rw [if_pos rfl, n189]
        exact ⟨⟨fun _ => rfl, fun _ => rfl⟩, fun z => absurd rfl z⟩
      · rw [if_neg htn]
        obtain ⟨a1, a2⟩ := r9.2.2 t (by omega)
        rw [fr2_tx h2 (a := 191 + 2 * t) (by simp <;> omega) (by simp <;> omega)]
        exact ⟨a1, fun z => ⟨fr2_tl h2 (by simp <;> omega) (a2 z).1, (a2 z).2.1, fr2_N1 h2 (by simp <;> omega) (a2 z).2.2⟩⟩
  · have := sf_add (hm := hmS S) (hm' := hmS S4) (an := wi S) (us := usS S) (ut := utS S) (N := fun t => tx S (25 + 2 * t)) (N' := fun t => tx S4 (25 + 2 * t)) (n := n) (un := un) (q := q) (Lx := dv_rd (S.2.1 2) k) (fun t ht => ⟨by rw [xhm, if_neg (by omega)], xtx t (by omega) (by omega)⟩) ⟨by rw [xhm, if_pos rfl], tv_tx xtn⟩ (fun u hu => (r6.2 u hu).2.2.2.1) hdD hdC r10.1 r10.2
    unfold A_sf sfe
    rw [hwi, hus, hut]; exact this
  · refine ⟨?_, fun z => absurd z13 z⟩
    rw [e4.1 516 36 (by decide), g36, z13]
end
