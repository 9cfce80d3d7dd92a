theorem le_or (x : Int32) {m : Int32} {n : Nat} (hm : m = nI n) (hn : n ≤ 200) : decide (0 ≤ x ∧ x ≤ m) = false ∨ ∃ k, k ≤ n ∧ x = nI k := by
  cases h : decide (0 ≤ x ∧ x ≤ m) with
  | false => exact Or.inl rfl
  | true =>
    right
    have h := of_decide_eq_true h
    subst hm
    rcases pk_ix x (show n + 1 < 2 ^ 31 by omega) with q | q | ⟨j, hj, q⟩
    · exact absurd h.1 (Int32.not_le.mpr q)
    · exact absurd (Int32.le_trans q h.2) (Int32.not_le.mpr (nI_lt (by omega) (by omega)))
    · exact ⟨j, by omega, q⟩
theorem cO_w (S : dv_S) {f : Nat → Nat → Int64} {a m : Nat} (g : Nat → Int32) (h : a < 516) : cO S (S.1, dv_rw S.2.1 a g m, f) := ⟨fun _ _ _ => rfl, fun x q => dv_rw_row (f := S.2.1) (fun z => q (by simp [z, h]))⟩
theorem au_fr (S : dv_S) (k un q u : Nat) : fr [(3, 1), (3, 2), (1, 1), (1, 2), (0, 13), (185, 2)] [4, 186, 187] S (auS S k un q u) := ((tb_fr S k).mono (by decide) (by decide)).tr ⟨fun a j z => dv_u_ne (tbS S k).1 _ (by simp at z ⊢; omega), fun a z => by
  simp only [List.mem_cons, List.not_mem_nil, or_false, not_or] at z
  show dv_u (dv_u (tbS S k).2.1 186 un (nI q)) 187 un (nI u) a = _
  rw [dv_u_row _ _ z.2.2, dv_u_row _ _ z.2.1], rfl⟩
theorem ad_fr (T : dv_S) (n q : Nat) (y : Int32) (k : Nat) : fr [(25 + 2 * n, 1), (25 + 2 * n, 2), (21, 3)] [22, 23, 25 + 2 * n + 1] T (adS T n q y k) := by
  have e1 : fr [] [22, 23] T (axS T n q y) := ⟨fun _ _ _ => rfl, fun a z => by
    simp only [List.mem_cons, List.not_mem_nil, or_false, not_or] at z
    show dv_u (dv_u T.2.1 22 n (nI q)) 23 n y a = _
    rw [dv_u_row _ _ z.2, dv_u_row _ _ z.1], rfl⟩
  have e2 := tx_fr (axS T n q y) (25 + 2 * n) (min k 24) (T.2.1 4)
  have e3 : fr [(21, 3)] [] (ayS T n q y k) (adS T n q y k) := ⟨fun a j z => dv_u_ne (ayS T n q y k).1 _ (by simpa using z), fun _ _ => rfl, rfl⟩
  exact (e1.mono (by simp) (by simp)).tr ((e2.mono (by simp) (by simp)).tr (e3.mono (by simp) (by simp)))
theorem rn_fr (S : dv_S) (k t : Nat) : fr [(3, 1), (3, 2), (1, 1), (1, 2), (191 + 2 * t, 1), (191 + 2 * t, 2), (188, 2)] [4, 191 + 2 * t + 1, 189] S (rnS S k t) := by
  have e2 := tx_fr (dv_tc S k) (191 + 2 * t) (min k 24) ((dv_tc S k).2.1 4)
  have e3 := pa_fr 188 189 (dv_tx (dv_tc S k) (191 + 2 * t) (min k 24) ((dv_tc S k).2.1 4)) t
  exact ((tc_fr S k).mono (by simp) (by simp)).tr ((e2.mono (by simp) (by simp)).tr (e3.mono (by simp) (by simp)))
theorem o_feed {L : Int32} {xs : Nat → Int32} {n sn un w tn : Nat} {wl : Nat → Nat → Int32} {wm : Nat → Nat} {S : dv_S} (d : Nat) (hR : RelX L xs n sn un w tn wl wm S) (xa xb xc xd xe : Int32) : dv_M yX7_feed cX7_feed 6 (some .int) (dv_rm (d + 7)) [.ref 0, .int xa, .int xb, .int xc, .int xd, .int xe] S (OPQ L xs yX8_feed cX8_feed 8 (some .int) d [.ref 516, .int xa, .int xb, .int xc, .int xd, .int xe]) := by
  by_cases h : tn + 20 ≤ 200
  · exact ope (qX7_feed (d + 5) S tn xa xb xc xd xe hR.2.2.1.1 hR.2.2.1.2.1 h) (qX8_feed (d + 7) _ tn xa xb xc xd xe (feed_Rel hR h xa xb xc xd xe).2 hR.2.2.1.2.1 h) rfl (feed_Rel hR h xa xb xc xd xe).1
  · exact u_feedN d hR xa xb xc xd xe h
theorem o_scope {L : Int32} {xs : Nat → Int32} {n sn un w tn : Nat} {wl : Nat → Nat → Int32} {wm : Nat → Nat} {S : dv_S} (d : Nat) (hR : RelX L xs n sn un w tn wl wm S) (x : Int32) : dv_M yX7_scope cX7_scope 2 (some .int) (dv_rm (d + 7)) [.ref 0, .int x] S (OPQ L xs yX8_scope cX8_scope 2 (some .int) d [.ref 516, .int x]) := by
  rcases in_or x hR.S'.1 (by have := hR.S'.2.1; omega) with hx | ⟨p, hp, rfl⟩
  · exact u_scopeN d hR x hx
  · have h20 := hR.S'.2.1
    by_cases hs : sn = 20
    · exact u_scopeF d hR p (by omega) hs
    · have e : cO S (rS (rfS (scA S p sn) 0)) := cO_tr (cO_u S (a := 19) (k := 1) (nI (sn + 1)) (by decide)) (cO_tr (cO_r (dv_u S.1 19 1 (nI (sn + 1)), S.2) (a := 20) (k := sn) (S.2.1 20 p ||| (1 <<< (nI sn &&& 31))) (f := S.2.2) (by decide)) (cO_rsf _ 0))
      exact ope (qX7_scopeY (d + 5) S p sn hR.S'.1 hp (by omega)) (qX8_scopeY (d + 6) _ (rS _) p sn rfl (by rw [e.f (by decide)]; exact hR.rS.1) hp (by omega)) rfl (scope_Rel hR (by omega) hp)
theorem o_offer {L : Int32} {xs : Nat → Int32} {n sn un w tn : Nat} {wl : Nat → Nat → Int32} {wm : Nat → Nat} {S : dv_S} (d : Nat) (hR : RelX L xs n sn un w tn wl wm S) (x : Int32) : dv_M yX7_offer cX7_offer 2 (some .int) (dv_rm (d + 7)) [.ref 0, .int x] S (OPQ L xs yX8_offer cX8_offer 3 (some .int) d [.ref 516, .int x]) := by
  rcases in_or x hR.T.1 (by have := hR.T.2.1; omega) with hx | ⟨t, ht, rfl⟩
  · exact u_offerN d hR x hx
  · cases hg : ogS S w wl wm n t with
    | false =>
      refine opu (P := fun S1 => ∃ S2, fr sgF sgG S S2 ∧ S1 = rfS S2 0) (qX7_offer0 d S n w t wl wm hR.T ht hR.B hg) (fun S1 h1 => ?_)
      obtain ⟨S2, h2, rfl⟩ := h1
      have e : cO S (rS (rfS S2 0)) := cO_tr (cO_of h2 (by decide) (by decide)) (cO_rsf _ 0)
      refine dv_M_mono (qX8_offer0 (d + 2) _ (rS _) S n w wl wm t rfl (e.X hR.X) ht hg) (fun r S3 h => ⟨h.1, ?_⟩)
      obtain ⟨-, S4, h4, rfl⟩ := h
      exact offer0_Rel hR h2 h4
    | true =>
      refine opu (P := fun S1 => ∃ S2, fr sgF sgG S S2 ∧ dt S2 (olS S w wl wm n t) ∧ S1 = rfS (dv_tx S2 7 (olS S w wl wm n t).length (S2.2.1 6)) 0) (qX7_offerY d S n w t wl wm hR.T ht hR.B hg) (fun S1 h1 => ?_)
      obtain ⟨S2, h2, hd, rfl⟩ := h1
      have e : cO S (rS (rfS (dv_tx S2 7 (olS S w wl wm n t).length (S2.2.1 6)) 0)) := cO_tr (cO_of h2 (by decide) (by decide)) (cO_tr (cO_of (tx_fr S2 7 _ _) (by simp) (by simp)) (cO_rsf _ 0))
      refine dv_M_mono (qX8_offerY (d + 2) _ (rS _) S n w wl wm t rfl (e.X hR.X) ht hg) (fun r S3 h => ⟨h.1, ?_⟩)
      obtain ⟨-, S4, h4, h5, rfl⟩ := h
      exact offerY_Rel hR (ogS_len hg) (by unfold ogS at hg; rw [Bool.and_eq_true] at hg; exact nm_ch hg.1) h2 hd h4 h5
theorem o_shorts {L : Int32} {xs : Nat → Int32} {n sn un w tn : Nat} {wl : Nat → Nat → Int32} {wm : Nat → Nat} {S : dv_S} (d : Nat) (hR : RelX L xs n sn un w tn wl wm S) (x y : Int32) : dv_M yX7_shorts cX7_shorts 4 (some .boolean) (dv_rm (d + 7)) [.ref 0, .int x, .int y] S (OPQ L xs yX8_shorts cX8_shorts 3 (some .boolean) d [.ref 516, .int x, .int y]) := by
  cases hK : (decide (0 ≤ x ∧ x < S.1 13 5) && (decide (y = -1) || decide (0 ≤ y ∧ y < S.1 13 5)) && !decide (x = y)) with
  | false => exact u_shortsN d hR x y hK
  | true =>
    rcases in_or x hR.B.1 (by have := hR.B.2.1; omega) with hx | ⟨j, hj, rfl⟩
    · rw [hx] at hK; simp at hK
    · have hy : y = -1 ∨ ∃ i, i < w ∧ y = nI i := by
        rcases in_or y hR.B.1 (by have := hR.B.2.1; omega) with hy | hy
        · left; rw [hy] at hK; simp at hK; exact hK.1.2
        · exact Or.inr hy
      have e : cO S (rS ((rfS S 0).1, dv_u (rfS S 0).2.1 16 j y, (rfS S 0).2.2)) := cO_tr (cO_rf S 0) (cO_tr (cO_r (rfS S 0) (a := 16) (k := j) y (by decide)) (cO_rs _))
      have e17 : (rS ((rfS S 0).1, dv_u (rfS S 0).2.1 16 j y, (rfS S 0).2.2)).1 516 17 = nI w := by rw [e.f (by decide)]; exact hR.X.2.1.1
      exact ope (qX7_shortsY (d + 5) S j w y hR.B.1 hj hR.B.2.1 hK) (qX8_shortsY (d + 6) _ (rS _) j w y rfl e17 hj hR.B.2.1 (by rw [e17, ← hR.B.1]; exact hK)) rfl (shorts_Rel hR hj hy)
theorem o_alike {L : Int32} {xs : Nat → Int32} {n sn un w tn : Nat} {wl : Nat → Nat → Int32} {wm : Nat → Nat} {S : dv_S} (d : Nat) (hR : RelX L xs n sn un w tn wl wm S) (x y : Int32) : dv_M yX7_alike cX7_alike 4 (some .boolean) (dv_rm (d + 7)) [.ref 0, .int x, .int y] S (OPQ L xs yX8_alike cX8_alike 5 (some .boolean) d [.ref 516, .int x, .int y]) := by
  cases hK : (decide (0 ≤ x ∧ x < S.1 13 5) && decide (0 ≤ y ∧ y < S.1 13 5)) with
  | false => exact u_alikeN d hR x y hK
  | true =>
    rcases in_or x hR.B.1 (by have := hR.B.2.1; omega) with hx | ⟨p, hp, rfl⟩
    · rw [hx] at hK; simp at hK
    · rcases in_or y hR.B.1 (by have := hR.B.2.1; omega) with hy | ⟨q, hq, rfl⟩
      · rw [hy] at hK; simp at hK
      · have e : cO S (rS ((rfS S 0).1, dv_rw S.2.1 17 (fun k => if S.2.1 17 k = S.2.1 17 q then S.2.1 17 p else S.2.1 17 k) w, S.2.2)) := cO_tr (cO_rf S 0) (cO_tr (cO_w (rfS S 0) (a := 17) (m := w) (f := S.2.2) (fun k => if S.2.1 17 k = S.2.1 17 q then S.2.1 17 p else S.2.1 17 k) (by decide)) (cO_rs _))
        exact ope (qX7_alikeY (d + 5) S p q w hR.B.1 hp hq hR.B.2.1) (qX8_alikeY (d + 6) _ (rS _) p q w rfl (by rw [e.f (by decide)]; exact hR.X.2.1.1) hp hq hR.B.2.1) rfl (alike_Rel hR hp hq)
theorem o_renames {L : Int32} {xs : Nat → Int32} {n sn un w tn : Nat} {wl : Nat → Nat → Int32} {wm : Nat → Nat} {S : dv_S} (d : Nat) (hR : RelX L xs n sn un w tn wl wm S) : dv_M yX7_renames cX7_renames 2 (some .int) (dv_rm (d + 7)) [.ref 0] S (OPQ L xs yX8_renames cX8_renames 3 (some .int) d [.ref 516]) := by
  refine opu (P := fun S1 => rnI (nnS S) w wl wm n n S1) (qX7_renames d S n w wl wm hR.T hR.B) (fun S1 h1 => ?_)
  have hn := hR.T.2.1
  have e0 : cO (nnS S) S1 := ⟨fun a k q => h1.1 a k (fun z => q (Or.inl (by simp only [List.mem_cons, Prod.mk.injEq, List.not_mem_nil, or_false] at z; simp; omega))) (fun z => q (Or.inl (by rw [z]; decide))) (fun j hj z => q (Or.inl (by simp; omega))), fun a q => h1.2.1 a (fun z => q (by simp at z; omega)) (fun z => q (by omega)) (fun j hj z => q (by omega))⟩
  have e : cO S (rS S1) := cO_tr (cO_of (nnS_fr S) (by simp) (by simp)) (cO_tr e0 (cO_rs _))
  have hX : RX (rS S1) (nnS S) n w wl wm := RX_C (P := fun x => x = (188, 2)) (G := fun a => a = 189) (frP_of (nnS_fr S) (by simp) (by simp)) rfl (fun t ht => by simp <;> omega) ⟨by decide, by decide, by decide, by decide, fun t ht => by omega⟩ (e.X hR.X)
  refine dv_M_mono (qX8_renames (d + 2) S1 (rS S1) (nnS S) n w wl wm rfl hX) (fun r S4 h => ?_)
  have z := renames_Rel hR h1 h.2
  exact ⟨by rw [h.1, z.2], z.1⟩
theorem o_find {L : Int32} {xs : Nat → Int32} {n sn un w tn : Nat} {wl : Nat → Nat → Int32} {wm : Nat → Nat} {S : dv_S} (d : Nat) (hR : RelX L xs n sn un w tn wl wm S) (x z : Int32) : dv_M yX7_find cX7_find 3 (some .int) (dv_rm (d + 7)) [.ref 0, .int x, .int z] S (OPQ L xs yX8_find cX8_find 3 (some .int) d [.ref 516, .int x, .int z]) := by
  rcases in_or x hR.S'.1 (by have := hR.S'.2.1; omega) with hx | ⟨q, hq, rfl⟩
  · exact u_findN1 d hR x z hx
  · rcases le_or z hR.2.2.1.1 hR.2.2.1.2.1 with hz | ⟨k, hk, rfl⟩
    · exact u_findN2 d hR z q hq hz
    · cases hc : nm_ok (dv_rd (S.2.1 2) k) with
      | false => exact u_findN3 d hR q hq k hk hc
      | true => exact u_findY d hR q hq k hk hc
theorem o_use {L : Int32} {xs : Nat → Int32} {n sn un w tn : Nat} {wl : Nat → Nat → Int32} {wm : Nat → Nat} {S : dv_S} (d : Nat) (hR : RelX L xs n sn un w tn wl wm S) (x z : Int32) : dv_M yX7_use cX7_use 4 (some .int) (dv_rm (d + 7)) [.ref 0, .int x, .int z] S (OPQ L xs yX8_use cX8_use 4 (some .int) d [.ref 516, .int x, .int z]) := by
  rcases in_or x hR.S'.1 (by have := hR.S'.2.1; omega) with hx | ⟨q, hq, rfl⟩
  · exact u_useN1 d hR x z hx
  · rcases le_or z hR.2.2.1.1 hR.2.2.1.2.1 with hz | ⟨k, hk, rfl⟩
    · exact u_useN2 d hR z q hq hz
    · cases hc : nm_ok (dv_rd (S.2.1 2) k) with
      | false => exact u_useN3 d hR q hq k hk hc
      | true =>
        cases hm : thM (dv_tc S k) n q with
        | none => exact u_useN4 d hR q hq k hk hc hm
        | some u =>
          have h150 := hR.U.2.1
          by_cases hu : un = 150
          · exact u_useN5 d hR q hq k hk hc u hm hu
          · have hlen := nm_len hc
            rw [dv_rd_len] at hlen
            have f : fr [(3, 1), (3, 2), (1, 1), (1, 2), (0, 13), (185, 2), (0, 14), (516, 0)] [4, 186, 187] S (rS (rfS (auS S k un q u) 0)) := ((au_fr S k un q u).mono (by decide) (by decide)).tr (((rf_fr _ 0).mono (by decide) (by decide)).tr ((rs_fr _).mono (by decide) (by decide)))
            have e : cO S (rK (rS (rfS (auS S k un q u) 0))) := cO_tr (cO_of f (by decide) (by decide)) (cO_rk _)
            have hM := qX8_useY (d + 4) (rfS (auS S k un q u) 0) (rS (rfS (auS S k un q u) 0)) n sn un (hmS S) (wi S) (usS S) (utS S) (fun t => tx S (25 + 2 * t)) (dv_rd (S.2.1 2) k) q tn u rfl (e.T hR.rT) (e.Sc hR.rS) (e.U hR.rU) hq (e.Nm hR.Nm) (by rw [f.1 516 3 (by decide)]; exact hR.2.2.1.2.2.1) (by rw [dv_rd_len]; exact hk) hR.2.2.1.2.1 (by rw [f.2.1 517 (by decide)]; exact tp_L (RelX_tp hR hk hc)) hc (by rw [← thM_eq S hlen.2 n q hR.T.2.1]; exact hm) (by omega)
            rw [dv_rd_len] at hM
            exact ope (qX7_useY (d + 3) S n sn un q k tn u hR.T hR.S' hR.U hq hR.2.2.1.1 hk hR.2.2.1.2.1 hc hm (by omega)) hM rfl (use_Rel hR hq (by omega) hlen.2 hm)
theorem o_thing {L : Int32} {xs : Nat → Int32} {n sn un w tn : Nat} {wl : Nat → Nat → Int32} {wm : Nat → Nat} {S : dv_S} (d : Nat) (hR : RelX L xs n sn un w tn wl wm S) (x y z : Int32) : dv_M yX7_thing cX7_thing 4 (some .int) (dv_rm (d + 7)) [.ref 0, .int x, .int y, .int z] S (OPQ L xs yX8_thing cX8_thing 6 (some .int) d [.ref 516, .int x, .int y, .int z]) := by
  rcases in_or x hR.S'.1 (by have := hR.S'.2.1; omega) with hx | ⟨q, hq, rfl⟩
  · exact u_thingN1 d hR x y z hx
  · cases hy : decide (0 ≤ y ∧ y < 3) with
    | false => exact u_thingN2a d hR y z q hq hy
    | true =>
      rcases le_or z hR.2.2.1.1 hR.2.2.1.2.1 with hz | ⟨k, hk, rfl⟩
      · exact u_thingN2b d hR y z q hq hz
      · cases hc : nm_ok (dv_rd (S.2.1 2) k) with
        | false => exact u_thingN3 d hR y q hq k hk hy hc
        | true =>
          cases hd : (thD (dv_tc S k) n q || thC (dv_tc S k) un q) with
          | true => exact u_thingN4 d hR y q hq k hk hy hc hd
          | false =>
            have h80 := hR.T.2.1
            by_cases hn : n = 80
            · exact u_thingN5 d hR y q hq k hk hy hc hd hn
            · have hlen := nm_len hc
              rw [dv_rd_len] at hlen
              have f : fr [(3, 1), (3, 2), (1, 1), (1, 2), (0, 13), (25 + 2 * n, 1), (25 + 2 * n, 2), (21, 3), (0, 14), (516, 0)] [4, 22, 23, 25 + 2 * n + 1] S (rS (rfS (adS (tbS S k) n q y k) 0)) := ((tb_fr S k).mono (by simp) (by simp)).tr (((ad_fr (tbS S k) n q y k).mono (by simp) (by simp)).tr (((rf_fr _ 0).mono (by simp) (by simp)).tr ((rs_fr _).mono (by simp) (by simp))))
              have e : cO S (rK (rS (rfS (adS (tbS S k) n q y k) 0))) := cO_tr (cO_of f (by simp; omega) (by simp; omega)) (cO_rk _)
              have hM := qX8_thingY (d + 4) (rfS (adS (tbS S k) n q y k) 0) (rS (rfS (adS (tbS S k) n q y k) 0)) y n sn un (hmS S) (wi S) (usS S) (utS S) (fun t => tx S (25 + 2 * t)) (dv_rd (S.2.1 2) k) q tn rfl (e.T hR.rT) (e.Sc hR.rS) (e.U hR.rU) (fun u hu => RelX_an hR u hu) hq (e.Nm hR.Nm) (by rw [kd_eq]; exact hy) (by rw [f.1 516 3 (by simp <;> omega)]; exact hR.2.2.1.2.2.1) (by rw [dv_rd_len]; exact hk) hR.2.2.1.2.1 (by rw [f.2.1 517 (by simp <;> omega)]; exact tp_L (RelX_tp hR hk hc)) hc (by rw [← thD_eq S hlen.2 q hq hR.S' hR.T.2.1, ← thC_eq S hlen.2 q hR.U hR.T.2.1]; exact hd) (by omega)
              rw [dv_rd_len] at hM
              exact ope (qX7_thingY (d + 3) S y n sn un q k tn hR.T hR.S' hR.U hq hy hR.2.2.1.1 hk hR.2.2.1.2.1 hc hd (by omega)) hM rfl (thing_Rel hR hq (by omega) hk hc hd)
theorem o_rename {L : Int32} {xs : Nat → Int32} {n sn un w tn : Nat} {wl : Nat → Nat → Int32} {wm : Nat → Nat} {S : dv_S} (d : Nat) (hR : RelX L xs n sn un w tn wl wm S) (x z : Int32) : dv_M yX7_rename cX7_rename 3 (some .int) (dv_rm (d + 7)) [.ref 0, .int x, .int z] S (OPQ L xs yX8_rename cX8_rename 4 (some .int) d [.ref 516, .int x, .int z]) := by
  rcases in_or x hR.T.1 (by have := hR.T.2.1; omega) with hx | ⟨t, ht, rfl⟩
  · exact u_renameN1 d hR x z hx
  · rcases le_or z hR.2.2.1.1 hR.2.2.1.2.1 with hz | ⟨k, hk, rfl⟩
    · exact u_renameN2 d hR z t ht hz
    · cases hc : nm_ok (dv_rd (S.2.1 2) k) with
      | false => exact u_renameN3 d hR t ht k hk hc
      | true =>
        have h80 := hR.T.2.1
        have f : fr [(3, 1), (3, 2), (1, 1), (1, 2), (191 + 2 * t, 1), (191 + 2 * t, 2), (188, 2), (0, 14), (516, 0)] [4, 191 + 2 * t + 1, 189] S (rS (rfS (rnS S k t) 0)) := ((rn_fr S k t).mono (by simp) (by simp)).tr (((rf_fr _ 0).mono (by simp) (by simp)).tr ((rs_fr _).mono (by simp) (by simp)))
        have e : cO S (rS (rfS (rnS S k t) 0)) := cO_of f (by simp; omega) (by simp; omega)
        have hM := qX8_renameY (d + 4) (rfS (rnS S k t) 0) (rS (rfS (rnS S k t) 0)) n t tn (dv_rd (S.2.1 2) k) rfl (e.T hR.rT) ht (by rw [f.1 516 3 (by simp <;> omega)]; exact hR.2.2.1.2.2.1) (by rw [dv_rd_len]; exact hk) hR.2.2.1.2.1 (by rw [f.2.1 517 (by simp <;> omega)]; exact tp_L (RelX_tp hR hk hc)) hc
        rw [dv_rd_len] at hM
        exact ope (qX7_renameY (d + 3) S n t k tn hR.T ht hR.2.2.1.1 hk hR.2.2.1.2.1 hc) hM (rename_Rel hR ht hk hc).2 (rename_Rel hR ht hk hc).1
abbrev wdF : List (Nat × Nat) := [(3, 1), (3, 2), (1, 1), (1, 2), (9, 4), (13, 5), (0, 14), (516, 0)]
abbrev wdG : List Nat := [4, 10, 11, 12, 15, 16, 17]
def frw (S S' : dv_S) : Prop := fr2 wdF wdG S S'
theorem wd_cO {S S' : dv_S} (h : frw S S') : cO S S' := ⟨fun a k q => h.1 a k (fun z => q ((by decide : ∀ x ∈ wdF, x.1 < 516 ∨ x = (516, 0) ∨ x = (516, 3)) _ z)), fun a q => h.2 a (fun z => q ((by decide : ∀ x ∈ wdG, x < 516) _ z))⟩
theorem wd_rf {S S2 : dv_S} {k : Nat} {f : Nat → Int32} (x : Int32) (hsp : dv_spl (dv_tc S k) f k S2) : frw S (rS (rfS S2 x)) := fr_2 (((tc_fr S k).mono (by decide) (by decide)).tr ((hsp.fr.mono (by decide) (by decide)).tr (((rf_fr S2 x).mono (by decide) (by decide)).tr ((rs_fr _).mono (by decide) (by decide)))))
theorem wd_y {S S2 : dv_S} {k w : Nat} {f : Nat → Int32} {x : Int32} {K : Int64} (hsp : dv_spl (dv_tc S k) f k S2) : frw S (rS (rfS (dv_u S2.1 13 5 (nI (w + 1)), dv_u (dv_u (dv_u S2.2.1 15 w x) 16 w (-1)) 17 w (nI w), dv_u S2.2.2 14 w K) 0)) := by
  have e0 : frw S S2 := fr_2 (((tc_fr S k).mono (by decide) (by decide)).tr (hsp.fr.mono (by decide) (by decide)))
  have e1 : frw S2 (dv_u S2.1 13 5 (nI (w + 1)), dv_u (dv_u (dv_u S2.2.1 15 w x) 16 w (-1)) 17 w (nI w), dv_u S2.2.2 14 w K) := by
    refine ⟨fun a k q => dv_u_ne S2.1 _ (fun z => q (by rw [z.1, z.2]; decide)), fun a z => ?_⟩
    simp only [List.mem_cons, List.not_mem_nil, or_false, not_or] at z
    show dv_u (dv_u (dv_u S2.2.1 15 w x) 16 w (-1)) 17 w (nI w) a = _
    rw [dv_u_row _ _ (by omega), dv_u_row _ _ (by omega), dv_u_row _ _ (by omega)]
  generalize (dv_u S2.1 13 5 (nI (w + 1)), dv_u (dv_u (dv_u S2.2.1 15 w x) 16 w (-1)) 17 w (nI w), dv_u S2.2.2 14 w K) = T at *
  exact fr2_tr e0 (fr2_tr e1 (fr_2 (((rf_fr T 0).mono (by decide) (by decide)).tr ((rs_fr _).mono (by decide) (by decide)))))
theorem o_word {L : Int32} {xs : Nat → Int32} {n sn un w tn : Nat} {wl : Nat → Nat → Int32} {wm : Nat → Nat} {S : dv_S} (d : Nat) (hR : RelX L xs n sn un w tn wl wm S) (x z : Int32) : dv_M yX7_word cX7_word 5 (some .int) (dv_rm (d + 7)) [.ref 0, .int x, .int z] S (OPQ L xs yX8_word cX8_word 6 (some .int) d [.ref 516, .int x, .int z]) := by
  by_cases hr : 0 ≤ x ∧ x ≤ 15
  · rcases le_or z hR.2.2.1.1 hR.2.2.1.2.1 with hz | ⟨k, hk, rfl⟩
    · exact u_wordN2 d hR x z hz
    · cases hc : wd_ok (dv_rd (S.2.1 2) k) with
      | false => exact u_wordN3 d hR x hr k hk hc
      | true =>
        cases hno : (dv_fo (fun j => decide (S.2.2 14 j = cu_k (S.2.1 2) k)) w) with
        | some u =>
          refine opu (P := fun S1 => ∃ S2, dv_spl (dv_tc S k) ((dv_tc S k).2.1 4) k S2 ∧ S1 = (rfS S2 4)) (qX7_wordN4 (d + 2) S x k tn w wl wm u hr hR.2.2.1.1 hk hR.2.2.1.2.1 hR.B hc hno) (fun S1 h1 => ?_)
          obtain ⟨S2, hsp, rfl⟩ := h1
          have f := wd_rf 4 hsp
          exact dv_M_mono (qX8_wordN4 (d + 6) _ (rS _) x k tn S n w wl wm rfl (decide_eq_true hr) (by rw [f.1 516 3 (by decide)]; exact hR.2.2.1.2.2.1) hk hR.2.2.1.2.1 ((cO_tr (wd_cO f) (cO_rk _)).X hR.X) (by rw [f.2 517 (by decide), sb_wd (RelX_sb hR hk)]; exact hc) (by rw [f.2 517 (by decide), cu_k_cong (RelX_tw hR hk hc), hno]; rfl)) (fun r S3 h => ⟨h.1, by rw [h.2]; exact word_rf hR hsp⟩)
        | none =>
          have h60 := hR.B.2.1
          by_cases hw : w = 60
          · refine opu (P := fun S1 => ∃ S2, dv_spl (dv_tc S k) ((dv_tc S k).2.1 4) k S2 ∧ S1 = (rfS S2 3)) (qX7_wordN5 (d + 2) S x k tn w wl wm hr hR.2.2.1.1 hk hR.2.2.1.2.1 hR.B hc hno hw) (fun S1 h1 => ?_)
            obtain ⟨S2, hsp, rfl⟩ := h1
            have f := wd_rf 3 hsp
            exact dv_M_mono (qX8_wordN5 (d + 6) _ (rS _) x k tn S n w wl wm rfl (decide_eq_true hr) (by rw [f.1 516 3 (by decide)]; exact hR.2.2.1.2.2.1) hk hR.2.2.1.2.1 ((cO_tr (wd_cO f) (cO_rk _)).X hR.X) (by rw [f.2 517 (by decide), sb_wd (RelX_sb hR hk)]; exact hc) (by rw [f.2 517 (by decide), cu_k_cong (RelX_tw hR hk hc), hno]; rfl) hw) (fun r S3 h => ⟨h.1, by rw [h.2]; exact word_rf hR hsp⟩)
          · have hw : w < 60 := by omega
            refine opu (P := fun S1 => ∃ S2, dv_spl (dv_tc S k) ((dv_tc S k).2.1 4) k S2 ∧ S1 = (rfS (dv_u S2.1 13 5 (nI (w + 1)), dv_u (dv_u (dv_u S2.2.1 15 w x) 16 w (-1)) 17 w (nI w), dv_u S2.2.2 14 w (cu_k (S.2.1 2) k)) 0)) (qX7_wordY (d + 2) S x k tn w wl wm hr hR.2.2.1.1 hk hR.2.2.1.2.1 hR.B hc hno hw) (fun S1 h1 => ?_)
            obtain ⟨S2, hsp, rfl⟩ := h1
            have f := wd_y (w := w) (x := x) (K := cu_k (S.2.1 2) k) hsp
            exact dv_M_mono (qX8_wordY (d + 6) _ (rS _) x k tn S n w wl wm rfl (decide_eq_true hr) (by rw [f.1 516 3 (by decide)]; exact hR.2.2.1.2.2.1) hk hR.2.2.1.2.1 ((cO_tr (wd_cO f) (cO_rk _)).X hR.X) (by rw [f.2 517 (by decide), sb_wd (RelX_sb hR hk)]; exact hc) (by rw [f.2 517 (by decide), cu_k_cong (RelX_tw hR hk hc), hno]; rfl) hw) (fun r S3 h => ⟨h.1, by rw [h.2]; exact word_Rel hR hw hk hc hsp⟩)
  · exact u_wordN1 d hR x z hr
