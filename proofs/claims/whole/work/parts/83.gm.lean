theorem o_none {L : Int32} {xs : Nat → Int32} {n sn un w tn : Nat} {wl : Nat → Nat → Int32} {wm : Nat → Nat} {S : dv_S} (d : Nat) (hR : RelX L xs n sn un w tn wl wm S) : dv_M yX7_none cX7_none 2 (some .int) (dv_rm (d + 7)) [.ref 0] S (OPQ L xs yX8_none cX8_none 3 (some .int) d [.ref 516]) := by
  have e : cO S (rS (nnS S)) := cO_tr (cO_of (nnS_fr S) (by simp) (by simp)) (cO_rs _)
  exact ope (qX7_none (d + 5) S) (qX8_none (d + 6) _ (rS _) n rfl (e.T hR.rT)) (by rw [e.g (by decide), pe_ct hR.2.2.2.2.2.2.2.2.1 hR.rT.2]; exact hR.2.2.2.2.2.2.2.2.1.2.1.symm) (none_Rel hR)
theorem o_back {L : Int32} {xs : Nat → Int32} {n sn un w tn : Nat} {wl : Nat → Nat → Int32} {wm : Nat → Nat} {S : dv_S} (d : Nat) (hR : RelX L xs n sn un w tn wl wm S) : dv_M yX7_back cX7_back 2 (some .int) (dv_rm (d + 7)) [.ref 0] S (OPQ L xs yX8_back cX8_back 3 (some .int) d [.ref 516]) := by
  by_cases hb : S.1 0 13 = 0
  · exact ope (qX7_backN (d + 4) S hb) (qX8_backN (d + 6) _ (rS _) rfl (by rw [(cO_rsf S 6).f (by decide), hR.2.2.2.2.2.2.2.2.2.2.1]; exact hb)) rfl (Rel_rf hR 6)
  · have hn := hR.T.2.1
    obtain ⟨c1, c2, c3⟩ := hR.2.2.2.2.2.2.2.2.2.2.2 hb
    have e : cO S (rS (rfS (dv_u (bkn S n).1 0 13 0, (bkn S n).2) 0)) := cO_tr (cO_bkn S hn) (cO_tr (cO_u (bkn S n) (a := 0) (k := 13) 0 (by decide)) (cO_rsf _ 0))
    refine opu (P := fun S1 => S1 = (rfS (dv_u (bkn S n).1 0 13 0, (bkn S n).2) 0)) (qX7_backY (d + 4) S n hb hR.T (fun t ht => (c2 t ht).1)) (fun S1 h1 => ?_)
    subst h1
    refine dv_M_mono (qX8_backY (d + 6) _ (rS _) n (PNS S) rfl (by rw [e.f (by decide), hR.2.2.2.2.2.2.2.2.2.2.1]; exact hb) (e.T hR.rT) (fun t ht => ⟨e.N1 (by decide) (c2 t ht).2.2, nm_ch (c2 t ht).2.1⟩)) (fun r S2 h => ⟨?_, ?_⟩)
    · rw [h.1, e.f (by decide), c1]
      show _ = some (Value.int (dv_u (bkn S n).1 0 13 0 351 2))
      rw [dv_u_ne _ _ (by decide), (bkn_F S n hn).1 351 2 (fun j hj => by omega)]
    · obtain ⟨-, S3, h2, rfl⟩ := h
      exact back_Rel hR hb h2
theorem o_keep {L : Int32} {xs : Nat → Int32} {n sn un w tn : Nat} {wl : Nat → Nat → Int32} {wm : Nat → Nat} {S : dv_S} (d : Nat) (hR : RelX L xs n sn un w tn wl wm S) : dv_M yX7_keep cX7_keep 2 (some .int) (dv_rm (d + 7)) [.ref 0] S (OPQ L xs yX8_keep cX8_keep 2 (some .int) d [.ref 516]) := by
  have e : cO S (rS (kpS S (kpf S n un 80))) := cO_tr (cO_of (kpS_fr S _) (by simp) (by simp)) (cO_rs _)
  refine opu (P := fun S1 => S1 = kpS S (kpf S n un 80)) (qX7_keep (d + 1) S n sn un hR.T hR.S' hR.U hR.2.2.2.2.2.2.2.2.1.1) (fun S1 h1 => ?_)
  subst h1
  refine dv_M_mono (qX8_keep (d + 4) _ (rS _) n sn un (hmS S) (wi S) (usS S) (utS S) (fun t => tx S (191 + 2 * t)) (fun t => tx S (25 + 2 * t)) rfl (e.T hR.rT) (e.Sc hR.rS) (e.U hR.rU) (e.Nw hR.rN)) (fun r S2 h => ?_)
  have z := keep_Rel hR h.2.1 h.2.2
  exact ⟨by rw [h.1, z.2], z.1⟩
theorem o_turn {L : Int32} {xs : Nat → Int32} {n sn un w tn : Nat} {wl : Nat → Nat → Int32} {wm : Nat → Nat} {S : dv_S} (d : Nat) (hR : RelX L xs n sn un w tn wl wm S) : dv_M yX7_turn cX7_turn 2 (some .int) (dv_rm (d + 7)) [.ref 0] S (OPQ L xs yX8_turn cX8_turn 3 (some .int) d [.ref 516]) := by
  have hn := hR.T.2.1
  have hp := hR.2.2.2.2.2.2.2.2.1
  have hth : ∀ S1, cO S S1 → ∀ t, t < n → thA S1 (fun t => tx S (191 + 2 * t)) (fun t => tx S (25 + 2 * t)) t = tnN S t := fun S1 h t ht => by
    unfold thA tnN
    rw [h.g (by decide)]
    have := (hp.2.2 t ht).1
    by_cases q : S.2.1 189 t = 0
    · rw [if_pos q, if_pos (this.mpr q)]
    · rw [if_neg q, if_neg (fun z => q (this.mp z))]
  have hu : ∀ u, u < un → utS S u < n := fun u hu => (hR.U.2.2 u hu).2.2.2
  have hgh : cl_hi S n un = ghi (hmS S) (wi S) (usS S) (utS S) (tnN S) n un := by
    rw [cl_hi_ghi hR]
    exact ghi_cong (ut := utS S) (fun t _ => by rw [nn_eq]; rfl) hu
  have hhi : (decide (dv_fo (cl_db S) n = none) && decide (dv_fo (cl_st S n) un = none)) = true ↔ cl_hi S n un = -2 := by
    unfold cl_hi
    cases h : dv_fo (cl_db S) n with
    | some t => simp [nI_mm2 t (by have := (dv_fo_spec h).1; omega)]
    | none =>
      cases h' : dv_fo (cl_st S n) un with
      | some u => simp [nI_m2k u (by have := (dv_fo_spec h').1; have := hR.U.2.1; omega)]
      | none => simp
  cases hs : (decide (dv_fo (cl_db S) n = none) && decide (dv_fo (cl_st S n) un = none)) with
  | false =>
    have e := cO_rsf S 5
    refine opu (P := fun S1 => S1 = rfS S 5) (qX7_turnN d S n sn un hR.T hR.S' hR.U hs) (fun S1 h1 => ?_)
    subst h1
    refine dv_M_mono (qX8_turnN (d + 3) _ (rS _) n sn un (hmS S) (wi S) (usS S) (utS S) (fun t => tx S (191 + 2 * t)) (fun t => tx S (25 + 2 * t)) rfl (e.T hR.rT) (e.Sc hR.rS) (e.U hR.rU) (e.Nw hR.rN) ?_) (fun r S2 h => ⟨h.1, ?_⟩)
    · rw [ghi_cong (ut := utS S) (hth _ e) hu, ← hgh]
      exact fun q => by rw [hhi.mpr q] at hs; cases hs
    · obtain ⟨-, S3, h2, rfl⟩ := h
      refine ⟨n, sn, un, w, tn, wl, wm, RelX_tr (((rf_fr S 5).mono (by decide) (by decide)).tr (((rs_fr _).mono (by decide) (by decide)).tr ((h2.mono (by decide) (by decide)).tr ((rt_fr S3 5).mono (by decide) (by decide))))) (trd (S1 := S) ?_) hR⟩
      rw [(rt_fr S3 5).1 0 14 (by decide), h2.1 0 14 (by decide), (rs_fr _).1 0 14 (by decide)]
      exact dv_u_eq S.1 0 14 5
  | true =>
    have e : cO S (rS (rfS (tuS S n) 0)) := cO_tr (cO_trn S hn) (cO_tr (cO_of (tuS_fr S n) (by simp) (by simp)) (cO_rsf _ 0))
    have hgg : ghi (hmS S) (wi S) (usS S) (utS S) (tnN S) n un = -2 := by rw [← hgh]; exact hhi.mp hs
    have hct : nI (dv_ct (fun z => decide (¬ (rS (rfS (tuS S n) 0)).2.1 535 z = 0)) n) = nI (dv_ct (fun t => decide (¬ S.2.1 189 t = 0)) n) := by
      rw [e.g (by decide)]
      exact congrArg nI (dv_ct_cong (fun t ht => by rw [decide_eq_decide, (hp.2.2 t ht).1]))
    refine opu (P := fun S1 => S1 = rfS (tuS S n) 0) (qX7_turnY d S n sn un hR.T hR.S' hR.U hs) (fun S1 h1 => ?_)
    subst h1
    refine dv_M_mono (qX8_turnY (d + 3) _ (rS _) n sn un (hmS S) (wi S) (usS S) (utS S) (fun t => tx S (191 + 2 * t)) (fun t => tx S (25 + 2 * t)) rfl (e.T hR.rT) (e.Sc hR.rS) (e.U hR.rU) (e.Nw hR.rN) (by rw [ghi_cong (ut := utS S) (hth _ e) hu]; exact hgg)) (fun r S2 h => ⟨?_, ?_⟩)
    · rw [h.1, hct]
      show _ = some (Value.int ((tuS S n).1 351 2))
      rw [(tuS_fr S n).1 351 2 (by decide), (trn_all S n hn (fun t ht => hR.T.2.2 t ht)).2.2.2]
    · obtain ⟨-, S3, S4, h2, h3, rfl⟩ := h
      exact turn_Rel hR ((ghi_iff hn hR.U.2.1).mp hgg) rfl h2.1 (hth _ e) hct h3
