def rOt (S : dv_S) (l i : Nat) : dv_S := (dv_u S.1 516 26 (nI l), dv_rw S.2.1 533 (fun k => (S.2.1 534 k).toInt8.toInt32) i, S.2.2)
theorem rOt_0 (S : dv_S) (l : Nat) : (dv_u S.1 516 26 (nI l), S.2) = rOt S l 0 := by unfold rOt; rw [dv_rw_0]
theorem rOt_s (S : dv_S) (l i : Nat) : ((rOt S l i).1, dv_u (rOt S l i).2.1 533 i (S.2.1 534 i).toInt8.toInt32, (rOt S l i).2.2) = rOt S l (i + 1) := by
  unfold rOt; simp only [dv_rw_s (g := fun k => (S.2.1 534 k).toInt8.toInt32)]
theorem rOt_534 (S : dv_S) (l i : Nat) : (rOt S l i).2.1 534 = S.2.1 534 := by unfold rOt; simp only; rw [dv_rw_row (by decide)]
theorem rOt_26 (S : dv_S) (l i : Nat) : (rOt S l i).1 516 26 = nI l := by
  show dv_u S.1 516 26 (nI l) 516 26 = _
  rw [dv_u_eq]
/-- the reference's renames that are offered, of the first i -/
def rrI (S C : dv_S) (w : Nat) (wl : Nat → Nat → Int32) (wm : Nat → Nat) (n i : Nat) (S2 : dv_S) : Prop :=
  fr [(516, 16), (516, 27)] [525, 526, 532, 534, 535, 537, 540] S S2 ∧ ∀ j, j < i → S2.2.1 535 j = dv_b (ogS C w wl wm n j) ∧ (ogS C w wl wm n j = true → rN1 S2 537 540 j (olS C w wl wm n j))
theorem rrI_n {S C S2 S3 : dv_S} {w n i : Nat} {wl : Nat → Nat → Int32} {wm : Nat → Nat} (h : rrI S C w wl wm n i S2) (hf : ofF S2 S3) (hg : ogS C w wl wm n i = false) : rrI S C w wl wm n (i + 1) (S3.1, dv_u S3.2.1 535 i (dv_b (ogS C w wl wm n i)), S3.2.2) := by
  have e : fr [] [535] S3 (S3.1, dv_u S3.2.1 535 i (dv_b (ogS C w wl wm n i)), S3.2.2) := ⟨fun _ _ _ => rfl, fun a q => dv_u_row S3.2.1 _ (by simpa using q), rfl⟩
  refine ⟨h.1.tr ((hf.mono (by decide) (by decide)).tr (e.mono (by simp) (by simp))), fun j hj => ?_⟩
  by_cases hji : j = i
  · subst hji
    refine ⟨dv_u_eq S3.2.1 _ _ _, fun q => by rw [hg] at q; cases q⟩
  · have h1 := h.2 j (by omega)
    refine ⟨?_, fun q => rN1_fr e (by decide) (rN1_fr hf (by decide) (h1.2 q))⟩
    show dv_u S3.2.1 535 i (dv_b (ogS C w wl wm n i)) 535 j = _
    rw [dv_u_ne _ _ (by omega), hf.2.1 535 (by decide)]; exact h1.1
theorem rrI_y {S C S2 S3 : dv_S} {w n i : Nat} {wl : Nat → Nat → Int32} {wm : Nat → Nat} (h : rrI S C w wl wm n i S2) (hf : ofF S2 S3) (hm : mdt S3 (olS C w wl wm n i)) (hg : ogS C w wl wm n i = true) : rrI S C w wl wm n (i + 1) (cpy (S3.1, dv_u S3.2.1 535 i (dv_b (ogS C w wl wm n i)), S3.2.2) 537 540 i (olS C w wl wm n i).length (S3.2.1 534) (olS C w wl wm n i).length) := by
  have e : fr [] [535] S3 (S3.1, dv_u S3.2.1 535 i (dv_b (ogS C w wl wm n i)), S3.2.2) := ⟨fun _ _ _ => rfl, fun a q => dv_u_row S3.2.1 _ (by simpa using q), rfl⟩
  have hl := ogS_len hg
  have ec := cpy_fr (S3.1, dv_u S3.2.1 535 i (dv_b (ogS C w wl wm n i)), S3.2.2) 537 540 i (olS C w wl wm n i).length (S3.2.1 534) (olS C w wl wm n i).length
  have hnm : nm_ok (olS C w wl wm n i) = true := by
    unfold ogS at hg; rw [Bool.and_eq_true] at hg; exact hg.1
  have hall : ∀ x ∈ olS C w wl wm n i, ch_n x = true := by
    unfold nm_ok at hnm
    simp only [Bool.and_eq_true, List.all_eq_true] at hnm
    exact hnm.1.2
  have erd : dv_rd (S3.2.1 534) (olS C w wl wm n i).length = olS C w wl wm n i := by
    have := mdt_rd hm
    rw [show (fun z => S3.2.1 534 (0 + z)) = S3.2.1 534 by funext z; rw [Nat.zero_add]] at this
    exact this
  refine ⟨h.1.tr ((hf.mono (by decide) (by decide)).tr ((e.mono (by simp) (by simp)).tr (ec.mono (by simp) (by simp)))), fun j hj => ?_⟩
  by_cases hji : j = i
  · subst hji
    refine ⟨?_, fun _ => ?_⟩
    · rw [ec.2.1 535 (by decide)]; exact dv_u_eq S3.2.1 _ _ _
    · have := cpy_N1 (S3.1, dv_u S3.2.1 535 j (dv_b (ogS C w wl wm n j)), S3.2.2) (nr := 537) (sr := 540) (t := j) (l := (olS C w wl wm n j).length) (src := S3.2.1 534) (by decide) hl (fun z hz => by rw [hm.2.2 z hz]; exact ch_by (all_at hall hz))
      rw [erd] at this; exact this
  · have h1 := h.2 j (by omega)
    refine ⟨?_, fun q => cpy_ot _ (by decide) hl hji (Nat.le_refl _) (rN1_fr e (by decide) (rN1_fr hf (by decide) (h1.2 q)))⟩
    rw [ec.2.1 535 (by decide)]
    show dv_u S3.2.1 535 i (dv_b (ogS C w wl wm n i)) 535 j = _
    rw [dv_u_ne _ _ (by omega), hf.2.1 535 (by decide)]; exact h1.1
/-- the names then: of those that are renamed and taken -/
def tk (S : dv_S) (t : Nat) : Bool := decide (¬ S.2.1 535 t = 0) && decide (¬ S.2.1 536 t = 0)
def thn (S : dv_S) (RN NN : Nat → List Int32) (t : Nat) : List Int32 := if tk S t = true then RN t else NN t
/-- names and renames of the reference -/
def rwN (S : dv_S) (n : Nat) (RN NN : Nat → List Int32) : Prop := ∀ t, t < n → rN1 S 524 521 t (NN t) ∧ (∀ x ∈ NN t, ch_n x = true) ∧ (¬ S.2.1 535 t = 0 → rN1 S 537 540 t (RN t) ∧ ∀ x ∈ RN t, ch_n x = true)
theorem rwN_fr {Fs : List (Nat × Nat)} {Gs : List Nat} {S S' : dv_S} {n : Nat} {RN NN : Nat → List Int32} (h : fr Fs Gs S S') (h1 : 524 ∉ Gs ∧ 521 ∉ Gs ∧ 537 ∉ Gs ∧ 540 ∉ Gs ∧ 535 ∉ Gs) (hN : rwN S n RN NN) : rwN S' n RN NN := by
  intro t ht
  have := hN t ht
  rw [h.2.1 535 h1.2.2.2.2]
  exact ⟨rN1_fr h ⟨h1.1, h1.2.1⟩ this.1, this.2.1, fun q => ⟨rN1_fr h ⟨h1.2.2.1, h1.2.2.2.1⟩ (this.2.2 q).1, (this.2.2 q).2⟩⟩
theorem thn_ok {S : dv_S} {n t : Nat} {RN NN : Nat → List Int32} (h : rwN S n RN NN) (ht : t < n) : (thn S RN NN t).length ≤ 24 ∧ ∀ x ∈ thn S RN NN t, ch_n x = true := by
  have := h t ht
  unfold thn; split
  · rename_i q
    unfold tk at q
    rw [Bool.and_eq_true] at q
    have h2 := this.2.2 (of_decide_eq_true q.1)
    exact ⟨h2.1.2.1, h2.2⟩
  · exact ⟨this.1.2.1, this.2.1⟩
def htI (S : dv_S) (RN NN : Nat → List Int32) (i : Nat) (S1 : dv_S) : Prop := fr [] [538, 541] S S1 ∧ ∀ j, j < i → rN1 S1 538 541 j (thn S RN NN j)
theorem gd_rd (l : List Int32) : dv_rd (fun z => l.getD z 0) l.length = l := by
  apply List.ext_getElem?
  intro k
  by_cases hk : k < l.length
  · rw [dv_rd_at hk, List.getD_eq_getElem?_getD, List.getElem?_eq_getElem hk]; rfl
  · rw [List.getElem?_eq_none (by rw [dv_rd_len]; omega), List.getElem?_eq_none (by omega)]
theorem htI_s {S S1 : dv_S} {n i : Nat} {RN NN : Nat → List Int32} (h : htI S RN NN i S1) (hN : rwN S n RN NN) (hi : i < n) : htI S RN NN (i + 1) (cpy S1 538 541 i (thn S RN NN i).length (fun z => (thn S RN NN i).getD z 0) (thn S RN NN i).length) := by
  have hk := thn_ok hN hi
  have ec := cpy_fr S1 538 541 i (thn S RN NN i).length (fun z => (thn S RN NN i).getD z 0) (thn S RN NN i).length
  refine ⟨h.1.tr ec, fun j hj => ?_⟩
  by_cases hji : j = i
  · subst hji
    have := cpy_N1 S1 (nr := 538) (sr := 541) (t := j) (l := (thn S RN NN j).length) (src := fun z => (thn S RN NN j).getD z 0) (by decide) hk.1 (fun z hz => ch_by (all_at hk.2 hz))
    rw [gd_rd] at this; exact this
  · exact cpy_ot _ (by decide) hk.1 hji (Nat.le_refl _) (h.2 j (by omega))
/-- doubled; strayed -/
def gdb (hm : Nat → Nat) (N : Nat → List Int32) (t : Nat) : Bool := (dv_fo (fun k => decide (hm k = hm t) && decide (N k = N t)) t).isSome
def gst (hm : Nat → Nat) (an : Nat → Nat → Bool) (us ut : Nat → Nat) (N : Nat → List Int32) (n u : Nat) : Bool := !decide (cl_tm hm (fun t => an (us u) (hm t) && decide (N t = N (ut u))) n = some (ut u))
def ghi (hm : Nat → Nat) (an : Nat → Nat → Bool) (us ut : Nat → Nat) (N : Nat → List Int32) (n un : Nat) : Int32 := match dv_fo (gdb hm N) n with
  | some t => nI t
  | none => match dv_fo (gst hm an us ut N n) un with
    | some u => 1000 + nI u
    | none => -2
theorem cl_tm_cong {hm : Nat → Nat} {p q : Nat → Bool} : ∀ {n : Nat}, (∀ t, t < n → p t = q t) → cl_tm hm p n = cl_tm hm q n
  | 0, _ => rfl
  | n + 1, h => by
    rw [cl_tm, cl_tm, cl_tm_cong (fun t ht => h t (by omega)), h n (by omega)]
theorem gdb_cong {hm : Nat → Nat} {N N' : Nat → List Int32} {n t : Nat} (h : ∀ t, t < n → N t = N' t) (ht : t < n) : gdb hm N t = gdb hm N' t := by
  unfold gdb
  rw [dv_fo_cong (fun k hk => by rw [h k (by omega), h t ht])]
theorem gst_cong {hm : Nat → Nat} {an : Nat → Nat → Bool} {us ut : Nat → Nat} {N N' : Nat → List Int32} {n u : Nat} (h : ∀ t, t < n → N t = N' t) (hu : ut u < n) : gst hm an us ut N n u = gst hm an us ut N' n u := by
  unfold gst
  rw [cl_tm_cong (fun t ht => by rw [h t ht, h _ hu])]
theorem ghi_cong {hm : Nat → Nat} {an : Nat → Nat → Bool} {us ut : Nat → Nat} {N N' : Nat → List Int32} {n un : Nat} (h : ∀ t, t < n → N t = N' t) (hu : ∀ u, u < un → ut u < n) : ghi hm an us ut N n un = ghi hm an us ut N' n un := by
  unfold ghi
  rw [dv_fo_cong (fun t ht => gdb_cong h ht), dv_fo_cong (fun u hu2 => gst_cong h (hu u hu2))]
theorem rw_S_fr {Fs : List (Nat × Nat)} {Gs : List Nat} {S S' : dv_S} {n sn : Nat} {hm : Nat → Nat} {an : Nat → Nat → Bool} (h : fr Fs Gs S S') (h1 : (516, 4) ∉ Fs) (h2 : 518 ∉ Gs ∧ 519 ∉ Gs) (hS : rw_S S n sn hm an) : rw_S S' n sn hm an := by
  unfold rw_S rAn; rw [h.1 516 4 h1, h.2.1 519 h2.2, h.2.1 518 h2.1]; exact hS
theorem rw_U_fr {Fs : List (Nat × Nat)} {Gs : List Nat} {S S' : dv_S} {n sn un : Nat} {us ut : Nat → Nat} (h : fr Fs Gs S S') (h1 : (516, 6) ∉ Fs) (h2 : 522 ∉ Gs ∧ 523 ∉ Gs) (hU : rw_U S n sn un us ut) : rw_U S' n sn un us ut := by
  unfold rw_U; rw [h.1 516 6 h1, h.2.1 522 h2.1, h.2.1 523 h2.2]; exact hU
theorem rw_T_fr {Fs : List (Nat × Nat)} {Gs : List Nat} {S S' : dv_S} {n : Nat} (h : fr Fs Gs S S') (h1 : (516, 5) ∉ Fs) (hT : rw_T S n) : rw_T S' n := by
  unfold rw_T; rw [h.1 516 5 h1]; exact hT
/-- all renames made -/
def thA (S : dv_S) (RN NN : Nat → List Int32) (t : Nat) : List Int32 := if S.2.1 535 t = 0 then NN t else RN t
theorem thA_eq {S : dv_S} {n : Nat} (RN NN : Nat → List Int32) : ∀ t, t < n → thn (S.1, dv_rw S.2.1 536 (fun _ => 1) n, S.2.2) RN NN t = thA S RN NN t := by
  intro t ht
  have e1 : dv_rw S.2.1 536 (fun _ => 1) n 535 = S.2.1 535 := dv_rw_row (by decide)
  have e2 : dv_rw S.2.1 536 (fun _ => 1) n 536 t = 1 := if_pos ⟨rfl, ht⟩
  unfold thn thA tk
  simp only [e1, e2]
  by_cases h : S.2.1 535 t = 0 <;> simp [h]
/-- the turn, of the first i -/
def tnI (S : dv_S) (TN NN : Nat → List Int32) (n i : Nat) (S1 : dv_S) : Prop :=
  fr [] [535, 539, 542, 524, 521] S S1 ∧ (∀ j, j < i → rN1 S1 539 542 j (NN j) ∧ rN1 S1 524 521 j (TN j) ∧ S1.2.1 535 j = 0) ∧ (∀ j, i ≤ j → j < n → rN1 S1 524 521 j (NN j))
theorem tnI_s {S S1 : dv_S} {TN NN : Nat → List Int32} {n i : Nat} (h : tnI S TN NN n i S1) (hi : i < n) (h24 : (NN i).length ≤ 24 ∧ (TN i).length ≤ 24) (hN : ∀ x ∈ NN i, ch_n x = true) (hT : ∀ x ∈ TN i, ch_n x = true) : tnI S TN NN n (i + 1) ((cpy (cpy S1 539 542 i (NN i).length (fun z => (NN i).getD z 0) (NN i).length) 524 521 i (TN i).length (fun z => (TN i).getD z 0) (TN i).length).1, dv_u (cpy (cpy S1 539 542 i (NN i).length (fun z => (NN i).getD z 0) (NN i).length) 524 521 i (TN i).length (fun z => (TN i).getD z 0) (TN i).length).2.1 535 i 0, (cpy (cpy S1 539 542 i (NN i).length (fun z => (NN i).getD z 0) (NN i).length) 524 521 i (TN i).length (fun z => (TN i).getD z 0) (TN i).length).2.2) := by
  have e1 := cpy_fr S1 539 542 i (NN i).length (fun z => (NN i).getD z 0) (NN i).length
  have n1 := cpy_N1 S1 (nr := 539) (sr := 542) (t := i) (l := (NN i).length) (src := fun z => (NN i).getD z 0) (by decide) h24.1 (fun z hz => ch_by (all_at hN hz))
  rw [gd_rd] at n1
  have o1 : ∀ j L, j ≠ i → rN1 S1 539 542 j L → rN1 (cpy S1 539 542 i (NN i).length (fun z => (NN i).getD z 0) (NN i).length) 539 542 j L := fun j L hj hL => cpy_ot _ (by decide) h24.1 hj (Nat.le_refl _) hL
  generalize cpy S1 539 542 i (NN i).length (fun z => (NN i).getD z 0) (NN i).length = S2 at *
  have e2 := cpy_fr S2 524 521 i (TN i).length (fun z => (TN i).getD z 0) (TN i).length
  have n2 := cpy_N1 S2 (nr := 524) (sr := 521) (t := i) (l := (TN i).length) (src := fun z => (TN i).getD z 0) (by decide) h24.2 (fun z hz => ch_by (all_at hT hz))
  rw [gd_rd] at n2
  have o2 : ∀ j L, j ≠ i → rN1 S2 524 521 j L → rN1 (cpy S2 524 521 i (TN i).length (fun z => (TN i).getD z 0) (TN i).length) 524 521 j L := fun j L hj hL => cpy_ot _ (by decide) h24.2 hj (Nat.le_refl _) hL
  generalize cpy S2 524 521 i (TN i).length (fun z => (TN i).getD z 0) (TN i).length = S3 at *
  have e3 : fr [] [535] S3 (S3.1, dv_u S3.2.1 535 i 0, S3.2.2) := ⟨fun _ _ _ => rfl, fun a q => dv_u_row S3.2.1 _ (by simpa using q), rfl⟩
  refine ⟨h.1.tr ((e1.mono (by simp) (by simp)).tr ((e2.mono (by simp) (by simp)).tr (e3.mono (by simp) (by simp)))), fun j hj => ?_, fun j hj hjn => ?_⟩
  · by_cases hji : j = i
    · subst hji
      exact ⟨rN1_fr e3 (by decide) (rN1_fr e2 (by decide) n1), rN1_fr e3 (by decide) n2, dv_u_eq S3.2.1 _ _ _⟩
    · have q := h.2.1 j (by omega)
      refine ⟨rN1_fr e3 (by decide) (rN1_fr e2 (by decide) (o1 j _ hji q.1)), rN1_fr e3 (by decide) (o2 j _ hji (rN1_fr e1 (by decide) q.2.1)), ?_⟩
      show dv_u S3.2.1 535 i 0 535 j = 0
      rw [dv_u_ne _ _ (by omega), e2.2.1 535 (by decide), e1.2.1 535 (by decide)]; exact q.2.2
  · exact rN1_fr e3 (by decide) (o2 j _ (by omega) (rN1_fr e1 (by decide) (h.2.2 j (by omega) hjn)))
/-- back, of the first i -/
def bcI (S : dv_S) (PN : Nat → List Int32) (i : Nat) (S1 : dv_S) : Prop := fr [] [524, 521] S S1 ∧ ∀ j, j < i → rN1 S1 524 521 j (PN j)
theorem bcI_s {S S1 : dv_S} {PN : Nat → List Int32} {i : Nat} (h : bcI S PN i S1) (h24 : (PN i).length ≤ 24) (hN : ∀ x ∈ PN i, ch_n x = true) : bcI S PN (i + 1) (cpy S1 524 521 i (PN i).length (fun z => (PN i).getD z 0) (PN i).length) := by
  have e1 := cpy_fr S1 524 521 i (PN i).length (fun z => (PN i).getD z 0) (PN i).length
  refine ⟨h.1.tr (e1.mono (by simp) (by simp)), fun j hj => ?_⟩
  by_cases hji : j = i
  · subst hji
    have n1 := cpy_N1 S1 (nr := 524) (sr := 521) (t := j) (l := (PN j).length) (src := fun z => (PN j).getD z 0) (by decide) h24 (fun z hz => ch_by (all_at hN hz))
    rw [gd_rd] at n1; exact n1
  · exact cpy_ot _ (by decide) h24 hji (Nat.le_refl _) (h.2 j (by omega))
/-- keep -/
def rkn (S : dv_S) (RN NN : Nat → List Int32) (K : Nat → Bool) (t : Nat) : List Int32 := if (decide (¬ S.2.1 535 t = 0) && K t) = true then RN t else NN t
def rkf (S : dv_S) (hm : Nat → Nat) (an : Nat → Nat → Bool) (us ut : Nat → Nat) (RN NN : Nat → List Int32) (n un : Nat) : Nat → Nat → Bool
  | 0 => fun _ => false
  | t + 1 => if (decide (¬ S.2.1 535 t = 0) && decide (ghi hm an us ut (rkn S RN NN (kpa (rkf S hm an us ut RN NN n un t) t)) n un = -2)) = true then kpa (rkf S hm an us ut RN NN n un t) t else rkf S hm an us ut RN NN n un t
theorem rkf_lt (S : dv_S) (hm : Nat → Nat) (an : Nat → Nat → Bool) (us ut : Nat → Nat) (RN NN : Nat → List Int32) (n un : Nat) : ∀ t j, t ≤ j → rkf S hm an us ut RN NN n un t j = false
  | 0, j, _ => rfl
  | t + 1, j, h => by
    rw [rkf]; split
    · unfold kpa; rw [rkf_lt S hm an us ut RN NN n un t j (by omega), decide_eq_false (by omega)]; rfl
    · exact rkf_lt S hm an us ut RN NN n un t j (by omega)
def kkI (S : dv_S) (n : Nat) (K : Nat → Bool) (S1 : dv_S) : Prop := fr [] [536, 538, 541] S S1 ∧ ∀ j, j < n → S1.2.1 536 j = dv_b (K j)
theorem kk_thn {S S1 : dv_S} {n : Nat} {K : Nat → Bool} (h : kkI S n K S1) (RN NN : Nat → List Int32) : ∀ t, t < n → thn S1 RN NN t = rkn S RN NN K t := by
  intro t ht
  unfold thn tk rkn
  rw [h.1.2.1 535 (by decide), h.2 t ht]
  cases K t <;> simp [dv_b]
theorem kk_set {S S1 : dv_S} {n t : Nat} {K : Nat → Bool} (h : kkI S n K S1) (b : Bool) : kkI S n (fun j => if j = t then b else K j) (S1.1, dv_u S1.2.1 536 t (dv_b b), S1.2.2) := by
  have e3 : fr [] [536] S1 (S1.1, dv_u S1.2.1 536 t (dv_b b), S1.2.2) := ⟨fun _ _ _ => rfl, fun a q => dv_u_row S1.2.1 _ (by simpa using q), rfl⟩
  refine ⟨h.1.tr (e3.mono (by simp) (by simp)), fun j hj => ?_⟩
  show dv_u S1.2.1 536 t (dv_b b) 536 j = dv_b (if j = t then b else K j)
  by_cases hjt : j = t
  · subst hjt; rw [dv_u_eq, if_pos rfl]
  · rw [dv_u_ne _ _ (by rintro ⟨-, q⟩; exact hjt q), if_neg hjt]; exact h.2 j hj
theorem kk_fr {S S1 S2 : dv_S} {n : Nat} {K : Nat → Bool} (h : kkI S n K S1) (e : fr [] [538, 541] S1 S2) : kkI S n K S2 := by
  refine ⟨h.1.tr (e.mono (by simp) (by simp)), fun j hj => ?_⟩
  rw [e.2.1 536 (by decide)]; exact h.2 j hj
theorem kk_eq {S S1 : dv_S} {n : Nat} {K K' : Nat → Bool} (h : kkI S n K S1) (e : ∀ j, K j = K' j) : kkI S n K' S1 := by
  rw [show K' = K from funext fun j => (e j).symm]; exact h
theorem kpa_if (K : Nat → Bool) (t : Nat) : ∀ j, (if j = t then true else K j) = kpa K t j := by
  intro j; unfold kpa; by_cases h : j = t <;> simp [h]
theorem kpa_un {K : Nat → Bool} {t : Nat} (h : K t = false) : ∀ j, (if j = t then false else kpa K t j) = K j := by
  intro j; unfold kpa; by_cases hj : j = t
  · subst hj; simp [h]
  · simp [hj]
theorem kpa_re {K : Nat → Bool} {t : Nat} : ∀ j, (if j = t then true else kpa K t j) = kpa K t j := by
  intro j; unfold kpa; by_cases hj : j = t <;> simp [hj]
