theorem by_id {j : Nat} (h : j < 128) : (nI j).toInt8.toInt32 = nI j := by
  have key : ∀ j, j < 128 → (nI j).toInt8.toInt32 = nI j := by decide +kernel
  exact key j h
theorem ch_nI {x : Int32} (h : ch_n x = true) : ∃ j : Nat, j < 128 ∧ x = nI j := by
  have hb : 48 ≤ x ∧ x ≤ 122 := by
    unfold ch_n ch_l ch_s ch_g ch_d at h
    simp only [Bool.or_eq_true, decide_eq_true_eq] at h
    rcases h with ((h | h) | h) | h
    · exact ⟨Int32.le_trans (by decide) h.1, h.2⟩
    · exact ⟨Int32.le_trans (by decide) h.1, Int32.le_trans h.2 (by decide)⟩
    · exact ⟨h.1, Int32.le_trans h.2 (by decide)⟩
    · rw [h]; exact ⟨by decide, by decide⟩
  have hx : ¬ x < 0 := fun q => absurd (Int32.lt_of_le_of_lt hb.1 q) (by decide)
  obtain ⟨j, hj, rfl⟩ := nI_of hx
  refine ⟨j, ?_, rfl⟩
  have h2 := hb.2
  rw [show (122 : Int32) = nI 122 by decide, nI_leI hj (by decide)] at h2
  omega
theorem ch_by {x : Int32} (h : ch_n x = true) : x.toInt8.toInt32 = x := by
  obtain ⟨j, hj, rfl⟩ := ch_nI h
  exact by_id hj
theorem ch_sn {x : Int32} (h : ch_s x = true) : ch_n x = true := by unfold ch_n ch_l; rw [h]; rfl
/-- what makes writes -/
def mkv (g : Bool) (b : Int32) : Int32 := if (g && ch_s b) = true then b - 32 else b
def mkS (S : dv_S) (m : Nat) (v : Int32) : dv_S := (dv_u S.1 516 27 (nI (m + 1)), dv_u S.2.1 534 m v.toInt8.toInt32.toInt8.toInt32, S.2.2)
theorem mk_id {b : Int32} (h : ch_n b = true) (g : Bool) : (mkv g b).toInt8.toInt32.toInt8.toInt32 = if g = true then ch_up b else b := by
  obtain ⟨j, hj, rfl⟩ := ch_nI h
  have key : ∀ j, j < 128 → ∀ g, (mkv g (nI j)).toInt8.toInt32.toInt8.toInt32 = if g = true then ch_up (nI j) else nI j := by decide +kernel
  exact key j hj g
theorem ch_up_n {b : Int32} (h : ch_n b = true) : ch_n (ch_up b) = true := by
  obtain ⟨j, hj, rfl⟩ := ch_nI h
  have key : ∀ j, j < 128 → ch_n (nI j) = true → ch_n (ch_up (nI j)) = true := by decide +kernel
  exact key j hj h
theorem ch_lo_n {b : Int32} (h : ch_n b = true) : ch_n (ch_lo b) = true := by
  obtain ⟨j, hj, rfl⟩ := ch_nI h
  have key : ∀ j, j < 128 → ch_n (nI j) = true → ch_n (ch_lo (nI j)) = true := by decide +kernel
  exact key j hj h
/-- made is l -/
def mdt (S : dv_S) (l : List Int32) : Prop := S.1 516 27 = nI l.length ∧ l.length ≤ 312 ∧ ∀ k, k < l.length → S.2.1 534 k = l.getD k 0
theorem mdt_add {S : dv_S} {l : List Int32} (h : mdt S l) (hl : l.length < 312) {v b : Int32} (hv : v.toInt8.toInt32.toInt8.toInt32 = b) : mdt (mkS S l.length v) (l ++ [b]) := by
  have el : (l ++ [b]).length = l.length + 1 := by simp
  refine ⟨?_, by omega, fun k hk => ?_⟩
  · show dv_u S.1 516 27 (nI (l.length + 1)) 516 27 = _
    rw [dv_u_eq, el]
  · show dv_u S.2.1 534 l.length v.toInt8.toInt32.toInt8.toInt32 534 k = _
    rw [hv]
    by_cases hkl : k = l.length
    · subst hkl; rw [dv_u_eq]; simp
    · rw [dv_u_ne _ _ (by omega), h.2.2 k (by omega)]
      simp [List.getD_eq_getElem?_getD, List.getElem?_append_left (show k < l.length by omega)]
theorem mdt_rd {S : dv_S} {l : List Int32} (h : mdt S l) : dv_rd (fun z => S.2.1 534 (0 + z)) l.length = l := by
  apply List.ext_getElem?
  intro k
  by_cases hk : k < l.length
  · rw [dv_rd_at hk, Nat.zero_add, h.2.2 k hk, List.getD_eq_getElem?_getD, List.getElem?_eq_getElem hk]; rfl
  · rw [List.getElem?_eq_none (by rw [dv_rd_len]; omega), List.getElem?_eq_none (by omega)]
abbrev ofF : dv_S → dv_S → Prop := fr [(516, 16), (516, 27)] [525, 526, 532, 534]
def ofR (S C : dv_S) (n w t : Nat) (l : List Int32) (S1 : dv_S) : Prop := ofF S S1 ∧ rcu S1 C t ∧ (∀ j, j < w → S1.2.1 532 j = ut C w n j) ∧ mdt S1 l
theorem mk_fr (S : dv_S) (m : Nat) (v : Int32) : fr [(516, 27)] [534] S (mkS S m v) := by
  refine ⟨fun a k q => ?_, fun a q => ?_, rfl⟩
  · show dv_u S.1 516 27 (nI (m + 1)) a k = _
    rw [dv_u_ne _ _ (by simpa using q)]
  · show dv_u S.2.1 534 m v.toInt8.toInt32.toInt8.toInt32 a = _
    rw [dv_u_row _ _ (by simpa using q)]
theorem ofR_add {S C S1 : dv_S} {n w t : Nat} {l : List Int32} (h : ofR S C n w t l S1) (hl : l.length < 312) {v b : Int32} (hv : v.toInt8.toInt32.toInt8.toInt32 = b) : ofR S C n w t (l ++ [b]) (mkS S1 l.length v) := by
  have e := mk_fr S1 l.length v
  refine ⟨h.1.tr (e.mono (by decide) (by decide)), ?_, fun j hj => ?_, mdt_add h.2.2.2 hl hv⟩
  · unfold rcu; rw [e.1 516 16 (by decide), e.2.1 525 (by decide), e.2.1 526 (by decide)]; exact h.2.1
  · rw [e.2.1 532 (by decide)]; exact h.2.2.1 j hj
theorem ofR_X {S C S1 : dv_S} {n w t : Nat} {wl : Nat → Nat → Int32} {wm : Nat → Nat} {l : List Int32} (h : ofR S C n w t l S1) (hX : RX S C n w wl wm) : RX S1 C n w wl wm := RX_fr h.1 hX (by decide) (by decide)
theorem cu_ord (f : Nat → Int32) (m : Nat) : ∀ i j, j + 1 < (cu f m i).1 → (cu f m i).2.2 j ≤ (cu f m i).2.1 (j + 1)
  | 0, j, h => absurd h (Nat.not_lt_zero _)
  | i + 1, j, h => by
    have ih := cu_ord f m i j
    by_cases hf : f i = 95
    · rw [cu_1 hf] at h ⊢; exact ih h
    · cases hb : cu_b f m i with
      | true =>
        rw [cu_2 hf hb] at h ⊢
        have h : j + 1 < (cu f m i).1 + 1 := h
        show cu_u _ _ _ j ≤ cu_u _ _ _ (j + 1)
        rw [cu_un _ _ (by omega)]
        by_cases hj : j + 1 = (cu f m i).1
        · rw [hj, cu_us]
          exact (cu_ft f m i j (by omega)).2
        · rw [cu_un _ _ hj]; exact ih (by omega)
      | false =>
        rw [cu_3 hf hb] at h ⊢
        have h : j + 1 < (cu f m i).1 := h
        show cu_u _ _ _ j ≤ (cu f m i).2.1 (j + 1)
        rw [cu_un _ _ (by omega)]; exact ih h
theorem ofb_len {S C : dv_S} {n w t i : Nat} {wl : Nat → Nat → Int32} {wm : Nat → Nat} {u : Nat → Int32} (hX : RX S C n w wl wm) (hi : i < pnS C t) : (ofb C w wl wm u (nfS C t) (nlS C t) i).2 ≤ 12 * ((cu (nfS C t) (nlS C t) (nlS C t)).2.2 i - (cu (nfS C t) (nlS C t) (nlS C t)).2.1 i) := by
  have hft := cu_ft (nfS C t) (nlS C t) (nlS C t) i hi
  cases hH : hdo (C.2.1 17) u w (opS C w (pk_w C w (nfS C t) (nlS C t) i)) with
  | none => simp only [ofb, hH]; omega
  | some h =>
    have := (hX.2.2.2 h (hdo_lt hH)).2.2.1
    simp only [ofb, hH]; omega
theorem ofS_len {S C : dv_S} {n w t : Nat} {wl : Nat → Nat → Int32} {wm : Nat → Nat} {u : Nat → Int32} (hX : RX S C n w wl wm) : ∀ i, i < pnS C t → (ofS C w wl wm u t i).length ≤ 13 * (cu (nfS C t) (nlS C t) (nlS C t)).2.1 i
  | 0, _ => by unfold ofS; rw [ofl]; exact Nat.zero_le _
  | i + 1, hi => by
    have ih := ofS_len (t := t) hX (u := u) i (by omega)
    have hi2 : i + 1 < (cu (nfS C t) (nlS C t) (nlS C t)).1 := hi
    have h1 : (ofb C w wl wm u (C.2.1 (25 + 2 * t + 1)) (dn (C.1 (25 + 2 * t) 1)) i).2 ≤ 12 * ((cu (nfS C t) (nlS C t) (nlS C t)).2.2 i - (cu (nfS C t) (nlS C t) (nlS C t)).2.1 i) := ofb_len (t := t) hX (u := u) (show i < pnS C t by omega)
    have h2 := cu_ord (nfS C t) (nlS C t) (nlS C t) i hi
    have hft := cu_ft (nfS C t) (nlS C t) (nlS C t) i (by omega)
    unfold ofS at ih ⊢
    rw [ofl, List.length_append, List.length_append, dv_rd_len]
    have h3 : (if 0 < i ∧ (stS C t = 2 ∨ stS C t = 3) then [(95 : Int32)] else []).length ≤ 1 := by split <;> simp
    omega
theorem st_rng (l : List Int32) : st_of l = 0 ∨ st_of l = 1 ∨ st_of l = 2 ∨ st_of l = 3 := by
  unfold st_of
  split
  · simp
  · split
    · simp
    · split <;> simp
theorem ofb_ch {S C : dv_S} {n w t i : Nat} {wl : Nat → Nat → Int32} {wm : Nat → Nat} {u : Nat → Int32} (hX : RX S C n w wl wm) (ht : t < n) (hi : i < pnS C t) : ∀ k, k < (ofb C w wl wm u (nfS C t) (nlS C t) i).2 → ch_n ((ofb C w wl wm u (nfS C t) (nlS C t) i).1 k) = true := by
  have hft := cu_ft (nfS C t) (nlS C t) (nlS C t) i hi
  cases hH : hdo (C.2.1 17) u w (opS C w (pk_w C w (nfS C t) (nlS C t) i)) with
  | none =>
    simp only [ofb, hH]
    intro k hk
    exact ch_lo_n ((hX.2.2.1 t ht).2.2.1 _ (by omega)).2
  | some h =>
    simp only [ofb, hH]
    intro k hk
    exact ch_sn ((hX.2.2.2 h (hdo_lt hH)).2.2.2.1 k hk).2
/-- a name copied: its size, then its first j bytes -/
def cpy (S : dv_S) (nr sr t l : Nat) (src : Nat → Int32) (j : Nat) : dv_S := (S.1, dv_ro (dv_u S.2.1 sr t (nI l)) nr (24 * t) (fun z => (src z).toInt8.toInt32) j, S.2.2)
def rN1 (S : dv_S) (nr sr t : Nat) (l : List Int32) : Prop := S.2.1 sr t = nI l.length ∧ l.length ≤ 24 ∧ dv_rd (fun z => S.2.1 nr (24 * t + z)) l.length = l
theorem cpy_0 (S : dv_S) (nr sr t l : Nat) (src : Nat → Int32) : (S.1, dv_u S.2.1 sr t (nI l), S.2.2) = cpy S nr sr t l src 0 := by unfold cpy; rw [dv_ro_0]
theorem cpy_s (S : dv_S) (nr sr t l : Nat) (src : Nat → Int32) (j : Nat) : ((cpy S nr sr t l src j).1, dv_u (cpy S nr sr t l src j).2.1 nr (24 * t + j) (src j).toInt8.toInt32, (cpy S nr sr t l src j).2.2) = cpy S nr sr t l src (j + 1) := by
  unfold cpy; simp only [dv_ro_s (g := fun z => (src z).toInt8.toInt32)]
theorem cpy_row (S : dv_S) (nr sr t l : Nat) (src : Nat → Int32) (j : Nat) {a : Nat} (h1 : a ≠ nr) (h2 : a ≠ sr) : (cpy S nr sr t l src j).2.1 a = S.2.1 a := by
  unfold cpy; simp only; rw [dv_ro_row h1, dv_u_row _ _ h2]
theorem cpy_fr (S : dv_S) (nr sr t l : Nat) (src : Nat → Int32) (j : Nat) : fr [] [nr, sr] S (cpy S nr sr t l src j) := by
  refine ⟨fun _ _ _ => rfl, fun a q => ?_, rfl⟩
  simp only [List.mem_cons, List.not_mem_nil, or_false, not_or] at q
  exact cpy_row _ _ _ _ _ _ _ q.1 q.2
theorem cpy_sz (S : dv_S) {nr sr : Nat} (t l : Nat) (src : Nat → Int32) (j : Nat) (h : sr ≠ nr) : (cpy S nr sr t l src j).2.1 sr t = nI l := by
  unfold cpy; simp only; rw [dv_ro_row h, dv_u_eq]
theorem cpy_N1 (S : dv_S) {nr sr t l : Nat} {src : Nat → Int32} (h : sr ≠ nr) (hl : l ≤ 24) (hb : ∀ z, z < l → (src z).toInt8.toInt32 = src z) : rN1 (cpy S nr sr t l src l) nr sr t (dv_rd src l) := by
  refine ⟨by rw [cpy_sz _ _ _ _ _ h, dv_rd_len], by rw [dv_rd_len]; exact hl, ?_⟩
  rw [dv_rd_len, dv_rd_eq]
  refine ⟨rfl, fun z hz => ?_⟩
  unfold cpy; simp only
  rw [dv_ro_in hz, hb z hz]
theorem cpy_ot (S : dv_S) {nr sr t l t' : Nat} {src : Nat → Int32} {L : List Int32} (h : sr ≠ nr) (hl : l ≤ 24) (ht : t' ≠ t) {j : Nat} (hj : j ≤ l) (hN : rN1 S nr sr t' L) : rN1 (cpy S nr sr t l src j) nr sr t' L := by
  obtain ⟨h1, h2, h3⟩ := hN
  refine ⟨?_, h2, ?_⟩
  · unfold cpy; simp only; rw [dv_ro_row h, dv_u_ne _ _ (by rintro ⟨-, q⟩; exact ht q)]; exact h1
  · refine Eq.trans ?_ h3
    rw [dv_rd_eq]
    refine ⟨rfl, fun z hz => ?_⟩
    unfold cpy; simp only
    rw [dv_ro_out (by omega), dv_u_row _ _ (Ne.symm h)]
theorem rN1_fr {Fs : List (Nat × Nat)} {Gs : List Nat} {S S' : dv_S} {nr sr t : Nat} {l : List Int32} (h : fr Fs Gs S S') (h1 : nr ∉ Gs ∧ sr ∉ Gs) (hN : rN1 S nr sr t l) : rN1 S' nr sr t l := by
  unfold rN1; rw [h.2.1 nr h1.1, h.2.1 sr h1.2]; exact hN
theorem rN1_at {S : dv_S} {nr sr t : Nat} {l : List Int32} (h : rN1 S nr sr t l) {z : Nat} (hz : z < l.length) : S.2.1 nr (24 * t + z) = l.getD z 0 := by
  have e := h.2.2
  have h1 := dv_rd_at (f := fun z => S.2.1 nr (24 * t + z)) hz
  rw [e, List.getElem?_eq_getElem hz] at h1
  rw [List.getD_eq_getElem?_getD, List.getElem?_eq_getElem hz]
  exact (Option.some.inj h1).symm
theorem all_at {l : List Int32} {z : Nat} (h : ∀ x ∈ l, ch_n x = true) (hz : z < l.length) : ch_n (l.getD z 0) = true := by
  rw [List.getD_eq_getElem?_getD, List.getElem?_eq_getElem hz]
  exact h _ (List.getElem_mem hz)
theorem ofR0 {S C S1 S2 : dv_S} {n w t : Nat} {wl : Nat → Nat → Int32} {wm : Nat → Nat} (hC : ruI S C w n S1) (hcu : rcI S1 C t (nlS C t) S2) : ofR S C n w t (ofS C w wl wm (ut C w n) t 0) (dv_u S2.1 516 27 0, S2.2) := by
  have e : fr [(516, 27)] [] S2 (dv_u S2.1 516 27 0, S2.2) := ⟨fun a k q => dv_u_ne S2.1 _ (by simpa using q), fun _ _ => rfl, rfl⟩
  refine ⟨(hC.1.mono (by decide) (by decide)).tr ((hcu.1.mono (by decide) (by decide)).tr (e.mono (by decide) (by decide))), ?_, fun j hj => ?_, ?_⟩
  · unfold rcu; rw [e.1 516 16 (by decide)]; exact hcu.2
  · show S2.2.1 532 j = _
    rw [hcu.1.2.1 532 (by decide)]; exact hC.2 j hj
  · refine ⟨?_, Nat.zero_le _, fun k hk => absurd hk (Nat.not_lt_zero k)⟩
    show dv_u S2.1 516 27 0 516 27 = _
    rw [dv_u_eq]; rfl
