/-! bits of the chains -/
theorem nI_or (a b : Nat) : nI a ||| nI b = nI (a ||| b) := by
  apply Int32.toBitVec_inj.1
  show BitVec.ofNat 32 a ||| BitVec.ofNat 32 b = BitVec.ofNat 32 (a ||| b)
  apply BitVec.eq_of_getLsbD_eq
  intro i hi
  simp [hi]
theorem nI_sh1 {q : Nat} (h : q < 20) : (1 : Int32) <<< (nI q &&& 31) = nI (2 ^ q) := by
  have key : ∀ q, q < 20 → (1 : Int32) <<< (nI q &&& 31) = nI (2 ^ q) := by decide +kernel
  exact key q h
theorem wi_bit {S : dv_S} {p q m : Nat} (hm : m < 2 ^ 20) (hq : q < 20) (h : S.2.1 20 p = nI m) : wi S p q = m.testBit q := by
  have key : ∀ q, q < 20 → ((nI q &&& 31).toBitVec.smod 32).toNat = q := by decide +kernel
  unfold wi
  rw [h, pk_shrN (by omega) _ q (key q hq), pk_andN (k := 1) (by have := Nat.div_le_self m (2 ^ q); omega) (by decide), show (1 : Int32) = nI 1 by decide]
  rw [Bool.eq_iff_iff, decide_eq_true_eq, nI_eq (by omega) (by decide), Nat.testBit_eq_decide_div_mod_eq, decide_eq_true_eq]
section
variable {L : Int32} {xs : Nat → Int32} {n sn un w tn : Nat} {wl : Nat → Nat → Int32} {wm : Nat → Nat} {S S' : dv_S}
theorem gst_an {hm : Nat → Nat} {an an' : Nat → Nat → Bool} {us ut : Nat → Nat} {N : Nat → List Int32} {u : Nat} (h : ∀ q, an (us u) q = an' (us u) q) : gst hm an us ut N n u = gst hm an' us ut N n u := by
  unfold gst
  rw [show (fun t => an (us u) (hm t) && decide (N t = N (ut u))) = (fun t => an' (us u) (hm t) && decide (N t = N (ut u))) from funext fun t => by rw [h]]
/-- a new scope -/
theorem sc_add (hA : A_sc sn S) (hs : sn < 20) {p : Nat} (hp : p < sn) (h1 : S'.1 19 1 = nI (sn + 1)) (h2 : S'.1 516 4 = nI (sn + 1)) (h3 : ∀ s, s ≠ sn → S'.2.1 20 s = S.2.1 20 s ∧ S'.2.1 518 s = S.2.1 518 s) (h4 : S'.2.1 20 sn = S.2.1 20 p ||| (1 <<< (nI sn &&& 31))) (h5 : S'.2.1 518 sn = nI p) : A_sc (sn + 1) S' := by
  obtain ⟨a1, a2, a3, a4, a5, a6⟩ := hA
  have hw : ∀ s, s < sn → ∀ q, wi S' s q = wi S s q := fun s hs q => by unfold wi; rw [(h3 s (by omega)).1]
  obtain ⟨mp, hmp, emp⟩ := a6 p hp
  have hpow : ∀ s, s < sn → 2 ^ (s + 1) ≤ 2 ^ sn := fun s hs => Nat.pow_le_pow_right (by decide) (by omega)
  have h20 : 2 ^ sn ≤ 2 ^ 19 := Nat.pow_le_pow_right (by decide) (by omega)
  have hmpn : mp < 2 ^ sn := Nat.lt_of_lt_of_le hmp (hpow p hp)
  have en : S'.2.1 20 sn = nI (mp ||| 2 ^ sn) := by rw [h4, emp, nI_sh1 hs, nI_or]
  have hor : mp ||| 2 ^ sn < 2 ^ (sn + 1) := Nat.or_lt_two_pow (by rw [Nat.pow_succ]; omega) (by rw [Nat.pow_succ]; have := Nat.two_pow_pos sn; omega)
  have hor20 : mp ||| 2 ^ sn < 2 ^ 20 := Nat.lt_of_lt_of_le hor (Nat.pow_le_pow_right (by decide) (by omega))
  have hnew : ∀ q, q < sn + 1 → wi S' sn q = (decide (q = sn) || (decide (q < sn) && wi S p q)) := by
    intro q hq
    rw [wi_bit hor20 (by omega) en, Nat.testBit_or, Nat.testBit_two_pow]
    by_cases hqs : q = sn
    · subst hqs; simp
    · rw [decide_eq_false hqs, decide_eq_false (fun z => hqs z.symm), decide_eq_true (show q < sn by omega), wi_bit (m := mp) (by omega) (by omega) emp]
      simp
  have hold : ∀ s, s < sn → wi S' s sn = false := by
    intro s hs2
    rw [hw s hs2]
    obtain ⟨m, hm, em⟩ := a6 s hs2
    have hm2 : m < 2 ^ sn := Nat.lt_of_lt_of_le hm (hpow s hs2)
    rw [wi_bit (m := m) (by omega) (by omega) em]
    exact Nat.testBit_lt_two_pow hm2
  refine ⟨h1, by omega, by omega, h2, fun s hs2 => ?_, fun s hs2 => ?_⟩
  · by_cases hsn : s = sn
    · subst hsn
      refine ⟨by rw [hnew s (by omega)]; simp, fun q hq _ => by omega, Or.inr ⟨p, hp, h5, fun q hq hqs => ?_⟩⟩
      rw [hnew q hq, decide_eq_false hqs, decide_eq_true (show q < s by omega), hw p hp]; simp
    · have hs3 : s < sn := by omega
      obtain ⟨c1, c2, c3⟩ := a5 s hs3
      refine ⟨by rw [hw s hs3]; exact c1, fun q hq hk => ?_, ?_⟩
      · by_cases hqs : q = sn
        · rw [hqs, hold s hs3] at hk; cases hk
        · rw [hw s hs3] at hk; exact c2 q (by omega) hk
      · rcases c3 with ⟨e, c4⟩ | ⟨r, hr, e, c4⟩
        · refine Or.inl ⟨by rw [(h3 s hsn).2]; exact e, fun q hq hqs => ?_⟩
          by_cases hqn : q = sn
          · rw [hqn]; exact hold s hs3
          · rw [hw s hs3]; exact c4 q (by omega) hqs
        · refine Or.inr ⟨r, hr, by rw [(h3 s hsn).2]; exact e, fun q hq hqs => ?_⟩
          by_cases hqn : q = sn
          · rw [hqn, hold s hs3, hold r (by omega)]
          · rw [hw s hs3, hw r (by omega)]; exact c4 q (by omega) hqs
  · by_cases hsn : s = sn
    · subst hsn; exact ⟨_, hor, en⟩
    · rw [(h3 s hsn).1]; exact a6 s (by omega)
theorem sfe_sc {N : Nat → List Int32} (hU : A_us n sn un S) (hm : hmS S' = hmS S) (hu : usS S' = usS S) (hut : utS S' = utS S) (hw : ∀ s, s < sn → ∀ q, wi S' s q = wi S s q) (h : sfe S n un N) : sfe S' n un N := by
  refine ⟨fun t ht => by rw [hm]; exact h.1 t ht, fun u hu2 => ?_⟩
  rw [hm, hu, hut, gst_an (fun q => hw _ (hU.2 u hu2).2.1 q)]
  exact h.2 u hu2
abbrev scA (S : dv_S) (p n : Nat) : dv_S := (dv_u S.1 19 1 (nI (n + 1)), dv_u S.2.1 20 n (S.2.1 20 p ||| (1 <<< (nI n &&& 31))), S.2.2)
theorem scope_Rel (hR : RelX L xs n sn un w tn wl wm S) (hs : sn < 20) {p : Nat} (hp : p < sn) : Rel L xs (rT (rSc (rS (rfS (scA S p sn) 0)) p sn) 0) := by
  obtain ⟨r1, r2, r3, r4, r5, r6, r7, r8, r9, r10, r11⟩ := hR
  have hn := r5.1.2.2
  have e1 : fr [(19, 1)] [20] S (scA S p sn) := ⟨fun a k q => dv_u_ne S.1 _ (by simpa using q), fun a q => dv_u_row S.2.1 _ (by simpa using q), rfl⟩
  have g1 : (scA S p sn).1 19 1 = nI (sn + 1) := dv_u_eq S.1 19 1 (nI (sn + 1))
  have g2 : (scA S p sn).2.1 20 sn = S.2.1 20 p ||| (1 <<< (nI sn &&& 31)) := dv_u_eq S.2.1 20 sn (S.2.1 20 p ||| (1 <<< (nI sn &&& 31)))
  have g3 : ∀ s, s ≠ sn → (scA S p sn).2.1 20 s = S.2.1 20 s := fun s hs => dv_u_ne S.2.1 _ (by rintro ⟨-, q⟩; exact hs q)
  generalize scA S p sn = S1 at *
  have e2 : fr [(0, 14), (516, 0)] [] S1 (rS (rfS S1 0)) := ((rf_fr S1 0).mono (by decide) (by decide)).tr ((rs_fr _).mono (by decide) (by decide))
  have k1 : (rS (rfS S1 0)).1 0 14 = 0 := by
    rw [(rs_fr _).1 0 14 (by decide)]
    exact dv_u_eq S1.1 0 14 0
  generalize rS (rfS S1 0) = S2 at *
  have e3 : fr [(516, 4)] [518] S2 (rSc S2 p sn) := ⟨fun a k q => dv_u_ne S2.1 _ (by simpa using q), fun a q => dv_u_row S2.2.1 _ (by simpa using q), rfl⟩
  have g4 : (rSc S2 p sn).1 516 4 = nI (sn + 1) := dv_u_eq S2.1 516 4 (nI (sn + 1))
  have g5 : (rSc S2 p sn).2.1 518 sn = nI p := dv_u_eq S2.2.1 518 sn (nI p)
  have g6 : ∀ s, s ≠ sn → (rSc S2 p sn).2.1 518 s = S2.2.1 518 s := fun s hs => dv_u_ne S2.2.1 _ (by rintro ⟨-, q⟩; exact hs q)
  generalize rSc S2 p sn = S3 at *
  have e4 := rt_fr S3 0
  have htr : (rT S3 0).1 0 14 = 0 := by rw [e4.1 0 14 (by decide), e3.1 0 14 (by decide)]; exact k1
  have hA : A_tr (rT S3 0) := trd (S1 := S) htr
  generalize rT S3 0 = S4 at *
  have hf : fr [(19, 1), (0, 14), (516, 0), (516, 4), (516, 1)] [20, 518] S S4 := (e1.mono (by decide) (by decide)).tr ((e2.mono (by decide) (by decide)).tr ((e3.mono (by decide) (by decide)).tr (e4.mono (by decide) (by decide))))
  have h2 := fr_2 hf
  have x20 : S4.2.1 20 = S1.2.1 20 := by rw [e4.2.1 20 (by decide), e3.2.1 20 (by decide), e2.2.1 20 (by decide)]
  have hw : ∀ s, s < sn → ∀ q, wi S4 s q = wi S s q := fun s hs q => by unfold wi; rw [x20, g3 s (by omega)]
  have hm := hm_fr h2 (show 22 ∉ [20, 518] by decide)
  have hus := us_fr h2 (show 186 ∉ [20, 518] by decide)
  have hut := ut_fr h2 (show 187 ∉ [20, 518] by decide)
  have c4 : A_sc (sn + 1) S4 := by
    refine sc_add r4 hs hp ?_ ?_ ?_ ?_ ?_
    · rw [e4.1 19 1 (by decide), e3.1 19 1 (by decide), e2.1 19 1 (by decide)]; exact g1
    · rw [e4.1 516 4 (by decide)]; exact g4
    · intro s hs2
      refine ⟨by rw [x20]; exact g3 s hs2, ?_⟩
      rw [e4.2.1 518 (by decide), g6 s hs2, e2.2.1 518 (by decide), e1.2.1 518 (by decide)]
    · rw [x20]; exact g2
    · rw [e4.2.1 518 (by decide)]; exact g5
  have c5 : A_th n (sn + 1) S4 := by
    have := A_th_fr h2 ⟨by decide, by decide, fun t ht => by simp <;> omega⟩ ⟨by decide, by decide, by decide, by decide, by decide, by decide, fun t ht => by simp <;> omega⟩ r5
    refine ⟨this.1, fun t ht => ?_⟩
    obtain ⟨⟨q1, q2, q3⟩, q4⟩ := this.2 t ht
    exact ⟨⟨q1, by omega, q3⟩, q4⟩
  have c6 : A_us n (sn + 1) un S4 := by
    have := A_us_fr h2 (by decide) (by decide) r6
    refine ⟨this.1, fun u hu => ?_⟩
    obtain ⟨q1, q2, q3⟩ := this.2 u hu
    exact ⟨q1, by omega, q3⟩
  have hN : ∀ t, t < n → tx S4 (25 + 2 * t) = tx S (25 + 2 * t) := fun t ht => fr2_tx h2 (by simp <;> omega) (by simp <;> omega)
  have hP : ∀ t, t < n → PNS S4 t = PNS S t := fun t ht => PN_fr h2 (by omega) ⟨by simp <;> omega, by simp <;> omega⟩ ⟨by decide, by simp <;> omega, by simp <;> omega⟩
  refine ⟨n, sn + 1, un, w, tn, wl, wm, A_scr_fr h2 (by decide) (by decide) r1, hA, A_tape_fr h2 (by decide) (by decide) r3, c4, c5, c6, A_bk_fr h2 hf.2.2 (by decide) (by decide) r7, A_out_fr h2 (by decide) (by decide) r8, A_pe_fr h2 hn ⟨by decide, fun t ht => by simp <;> omega⟩ ⟨by decide, by decide, by decide, by decide, fun t ht => by simp <;> omega⟩ r9, ?_, ?_⟩
  · exact sfe_cong c6 (fun t ht => (hN t ht).symm) (sfe_sc r6 hm hus hut hw r10)
  · refine ⟨by rw [h2.1 516 36 (by decide), h2.1 0 13 (by decide)]; exact r11.1, fun q => ?_⟩
    rw [h2.1 0 13 (by decide)] at q
    obtain ⟨a1, a2, a3⟩ := r11.2 q
    refine ⟨by rw [h2.1 516 37 (by decide), h2.1 351 2 (by decide)]; exact a1, fun t ht => ?_, sfe_cong c6 (fun t ht => (hP t ht).symm) (sfe_sc r6 hm hus hut hw a3)⟩
    rw [hP t ht, h2.2 352 (by decide)]
    exact ⟨fun z => fr2_tl h2 (by simp <;> omega) ((a2 t ht).1 z), (a2 t ht).2.1, fr2_N1 h2 (by decide) (a2 t ht).2.2⟩
end
