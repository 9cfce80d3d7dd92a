/-- unchanged but for these fields and rows -/
def fr (Fs : List (Nat × Nat)) (Gs : List Nat) (S S' : dv_S) : Prop := (∀ a k, (a, k) ∉ Fs → S'.1 a k = S.1 a k) ∧ (∀ a, a ∉ Gs → S'.2.1 a = S.2.1 a) ∧ S'.2.2 = S.2.2
theorem fr.rf (Fs : List (Nat × Nat)) (Gs : List Nat) (S : dv_S) : fr Fs Gs S S := ⟨fun _ _ _ => rfl, fun _ _ => rfl, rfl⟩
theorem fr.tr {Fs : List (Nat × Nat)} {Gs : List Nat} {S S' S'' : dv_S} (h : fr Fs Gs S S') (h' : fr Fs Gs S' S'') : fr Fs Gs S S'' := ⟨fun a k q => (h'.1 a k q).trans (h.1 a k q), fun a q => (h'.2.1 a q).trans (h.2.1 a q), h'.2.2.trans h.2.2⟩
theorem fr.mono {Fs Fs' : List (Nat × Nat)} {Gs Gs' : List Nat} {S S' : dv_S} (h : fr Fs Gs S S') (h1 : ∀ x ∈ Fs, x ∈ Fs') (h2 : ∀ x ∈ Gs, x ∈ Gs') : fr Fs' Gs' S S' := ⟨fun a k q => h.1 a k (fun z => q (h1 _ z)), fun a q => h.2.1 a (fun z => q (h2 _ z)), h.2.2⟩
theorem fr.txe {Fs : List (Nat × Nat)} {Gs : List Nat} {S S' : dv_S} (h : fr Fs Gs S S') {a : Nat} (h1 : (a, 1) ∉ Fs) (h2 : a + 1 ∉ Gs) : tx S' a = tx S a := by
  unfold tx; rw [h.1 a 1 h1, h.2.1 (a + 1) h2]
theorem fr.tle {Fs : List (Nat × Nat)} {Gs : List Nat} {S S' : dv_S} (h : fr Fs Gs S S') {a : Nat} (h1 : (a, 1) ∉ Fs) (h2 : tl S a) : tl S' a := by
  unfold tl; rw [h.1 a 1 h1]; exact h2
theorem sc.fr {S S' : dv_S} (h : sc S S') : fr [(9, 4)] [10, 11, 12, 18, 515] S S' := ⟨fun a k q => h.1 a k (by simpa using q), fun a q => by simp only [List.mem_cons, List.not_mem_nil, or_false, not_or] at q; exact h.2.1 a q.1 q.2.1 q.2.2.1 q.2.2.2.1 q.2.2.2.2, h.2.2⟩
theorem dv_spl.fr {S S' : dv_S} {f : Nat → Int32} {n : Nat} (h : dv_spl S f n S') : fr [(9, 4)] [10, 11, 12] S S' := ⟨fun a k q => by rw [h.1, dv_u_ne _ _ (by simpa using q)], fun a q => by simp only [List.mem_cons, List.not_mem_nil, or_false, not_or] at q; exact h.2.1 a q.1 q.2.1 q.2.2, h.2.2.1⟩
abbrev dd : dv_S → dv_S → Prop := fr [(5, 1), (5, 2)] [6]
abbrev sf : dv_S → dv_S → Prop := fr [(5, 1), (5, 2), (9, 4)] [6, 10, 11, 12]
theorem sf.T {S S' : dv_S} (h : sf S S') {n : Nat} (hT : cw_T S n) : cw_T S' n := by
  refine ⟨by rw [h.1 21 3 (by decide)]; exact hT.1, hT.2.1, fun t ht => ⟨h.tle (by simp; omega) (hT.2.2 t ht).1, fun q => h.tle (by simp; omega) ((hT.2.2 t ht).2 ?_)⟩⟩
  rw [h.2.1 189 (by decide)] at q; exact q
/-- the book: w words with their letters -/
def cw_B (S : dv_S) (w : Nat) (wl : Nat → Nat → Int32) (wm : Nat → Nat) : Prop := S.1 13 5 = nI w ∧ w ≤ 60 ∧ ∀ j, j < w → S.2.2 14 j = cu_k (wl j) (wm j) ∧ 1 ≤ wm j ∧ wm j ≤ 12 ∧ ∀ k, k < wm j → ch_s (wl j k) = true
theorem fr.B {Fs : List (Nat × Nat)} {Gs : List Nat} {S S' : dv_S} {w : Nat} {wl : Nat → Nat → Int32} {wm : Nat → Nat} (h : fr Fs Gs S S') (h1 : (13, 5) ∉ Fs) (hB : cw_B S w wl wm) : cw_B S' w wl wm := by
  unfold cw_B; rw [h.1 13 5 h1, h.2.2]; exact hB
/-- HEAD of what a word is opened to -/
def hdo (g u : Nat → Int32) (w : Nat) (x : Int32) : Option Nat := if 0 ≤ x ∧ x < nI w then dv_hd g u (g (dn x)) w else none
theorem hdo_lt {g u : Nat → Int32} {w : Nat} {x : Int32} {j : Nat} (h : hdo g u w x = some j) : j < w := by
  unfold hdo at h; split at h
  · exact dv_hd_lt _ _ _ _ _ h
  · cases h
theorem qX0_headOfG (d : Nat) (S : dv_S) (w : Nat) (x : Int32) (hn : S.1 13 5 = nI w) (hm : w ≤ 60) : dv_M yX0_headOf cX0_headOf 4 (some .int) (dv_rm (d + 2)) [.ref 13, .int x] S (fun r S' => r = some (.int (dv_oi (hdo (S.2.1 17) (S.2.1 18) w x))) ∧ S' = S) := by
  by_cases h : 0 ≤ x ∧ x < nI w
  · obtain ⟨j, hj, rfl⟩ := dv_idx rfl (by omega) (decide_eq_true h)
    rw [show hdo (S.2.1 17) (S.2.1 18) w (nI j) = dv_hd (S.2.1 17) (S.2.1 18) (S.2.1 17 j) w by rw [hdo, if_pos h, dn_nI (by omega)]]
    exact qX0_headOf d S j w hn hj hm
  · rw [show hdo (S.2.1 17) (S.2.1 18) w x = none from if_neg h]
    exact qX0_headOfN d S x w hn hm (by rw [hn]; exact decide_eq_false h)
/-- the letters of PART i, as it is or by its HEAD -/
def ofb (S : dv_S) (w : Nat) (wl : Nat → Nat → Int32) (wm : Nat → Nat) (u f : Nat → Int32) (m i : Nat) : (Nat → Int32) × Nat := match hdo (S.2.1 17) u w (opS S w (pk_w S w f m i)) with
  | none => (fun k => ch_lo (f ((cu f m m).2.1 i + k)), (cu f m m).2.2 i - (cu f m m).2.1 i)
  | some j => (wl j, wm j)
def ofc (ga gf : Bool) (g : Nat → Int32) : Nat → Int32 := fun k => if (ga || (gf && decide (k = 0))) = true then ch_up (g k) else g k
def ofl (st : Int32) (pc : Nat → (Nat → Int32) × Nat) : Nat → List Int32
  | 0 => []
  | i + 1 => ofl st pc i ++ (if 0 < i ∧ (st = 2 ∨ st = 3) then [95] else []) ++ dv_rd (ofc (decide (st = 3)) (decide (st = 1 ∨ (st = 0 ∧ 0 < i))) (pc i).1) (pc i).2
/-- the draft is l, as far as it goes -/
def dt (S : dv_S) (l : List Int32) : Prop := S.1 5 1 = nI (min l.length 24) ∧ S.1 5 2 = (if l.length ≤ 24 then 0 else 1) ∧ ∀ k, k < min l.length 24 → S.2.1 6 k = l.getD k 0
theorem dt_0 (S : dv_S) : dt (dv_u (dv_u S.1 5 1 0) 5 2 0, S.2) [] := ⟨by simp [dv_u, nI_0], by simp [dv_u], fun k hk => absurd hk (by simp)⟩
theorem dt_add {S : dv_S} {l : List Int32} (h : dt S l) (b : Int32) : dt (dv_ag S 5 (min l.length 24) b) (l ++ [b]) := by
  obtain ⟨h1, h2, h3⟩ := h
  have e6 : dv_ln (5 + 1) = 24 := ln_6
  have el : (l ++ [b]).length = l.length + 1 := by simp
  unfold dv_ag
  rw [e6]
  by_cases hl : l.length < 24
  · rw [if_pos (by omega)]
    refine ⟨?_, ?_, fun k hk => ?_⟩
    · show dv_u S.1 5 1 (nI (min l.length 24 + 1)) 5 1 = _
      rw [dv_u_eq, el]; congr 1; omega
    · show dv_u S.1 5 1 (nI (min l.length 24 + 1)) 5 2 = _
      rw [dv_u_ne _ _ (by simp), h2, if_pos (by omega), if_pos (by omega)]
    · show dv_u S.2.1 6 (min l.length 24) b 6 k = _
      rw [el] at hk
      by_cases hkl : k = l.length
      · subst hkl
        rw [show min l.length 24 = l.length by omega, dv_u_eq]; simp
      · rw [dv_u_ne _ _ (by rintro ⟨-, q⟩; omega), h3 k (by omega)]
        simp [List.getD_eq_getElem?_getD, List.getElem?_append_left (show k < l.length by omega)]
  · rw [if_neg (by omega)]
    refine ⟨?_, ?_, fun k hk => ?_⟩
    · show dv_u S.1 5 2 1 5 1 = _
      rw [dv_u_ne _ _ (by simp), h1, el]; congr 1; omega
    · show dv_u S.1 5 2 1 5 2 = _
      rw [dv_u_eq, if_neg (by omega)]
    · show S.2.1 6 k = _
      rw [el] at hk
      rw [h3 k (by omega)]
      simp [List.getD_eq_getElem?_getD, List.getElem?_append_left (show k < l.length by omega)]
theorem dd_ag (S : dv_S) (n : Nat) (b : Int32) : dd S (dv_ag S 5 n b) := by
  unfold dv_ag; split
  · refine ⟨fun a k q => ?_, fun a q => ?_, rfl⟩
    · show dv_u S.1 5 1 (nI (n + 1)) a k = _
      simp only [List.mem_cons, Prod.mk.injEq, List.not_mem_nil, or_false, not_or] at q
      rw [dv_u_ne _ _ q.1]
    · show dv_u S.2.1 6 n b a = _
      rw [dv_u_row _ _ (by simpa using q)]
  · refine ⟨fun a k q => ?_, fun a q => rfl, rfl⟩
    show dv_u S.1 5 2 1 a k = _
    simp only [List.mem_cons, Prod.mk.injEq, List.not_mem_nil, or_false, not_or] at q
    rw [dv_u_ne _ _ q.2]
theorem dt_len {S : dv_S} {l : List Int32} (h : dt S l) : min l.length 24 ≤ dv_ln (5 + 1) := by rw [show dv_ln (5 + 1) = 24 from ln_6]; omega
theorem nm_len {l : List Int32} (h : nm_ok l = true) : 1 ≤ l.length ∧ l.length ≤ 24 := by
  unfold nm_ok at h
  simp only [Bool.and_eq_true, decide_eq_true_eq] at h
  exact h.1.1.1
theorem dt_rd {S : dv_S} {l : List Int32} (h : dt S l) (hl : l.length ≤ 24) : dv_rd (S.2.1 6) (min l.length 24) = l := by
  have e : min l.length 24 = l.length := by omega
  rw [e]
  apply List.ext_getElem?
  intro k
  by_cases hk : k < l.length
  · rw [dv_rd_at hk, h.2.2 k (by omega), List.getD_eq_getElem?_getD, List.getElem?_eq_getElem hk]; rfl
  · rw [List.getElem?_eq_none (by rw [dv_rd_len]; omega), List.getElem?_eq_none (by omega)]
theorem dt_nm {S : dv_S} {l : List Int32} (h : dt S l) : (decide (S.1 5 2 = 0) && nm_ok (dv_rd (S.2.1 6) (min l.length 24))) = nm_ok l := by
  rw [h.2.1]
  by_cases hl : l.length ≤ 24
  · rw [if_pos hl, dt_rd h hl]; simp
  · rw [if_neg hl]
    cases hn : nm_ok l with
    | false => simp
    | true => exact absurd (nm_len hn).2 hl
def wpI (S : dv_S) (l : List Int32) (G : Nat → Int32) (k : Nat) (S1 : dv_S) : Prop := dd S S1 ∧ dt S1 (l ++ dv_rd G k)
theorem wpI0 {S : dv_S} {l : List Int32} (G : Nat → Int32) (h : dt S l) : wpI S l G 0 S := ⟨fr.rf _ _ _, by rw [dv_rd_0, List.append_nil]; exact h⟩
theorem wpI1 {S S1 : dv_S} {l : List Int32} {G : Nat → Int32} {k : Nat} {b : Int32} (h : wpI S l G k S1) (hb : b = G k) : wpI S l G (k + 1) (dv_ag S1 5 (min (l ++ dv_rd G k).length 24) b) := by
  subst hb
  refine ⟨h.1.tr (dd_ag _ _ _), ?_⟩
  rw [dv_rd_s, ← List.append_assoc]
  exact dt_add h.2 _
theorem dd.csp {S S' : dv_S} {f : Nat → Int32} {n : Nat} (h : dd S S') (hc : csp S f n) : csp S' f n := hc.fr (h.1 9 4 (by decide)) (h.2.1 10 (by decide)) (h.2.1 11 (by decide)) (h.2.1 12 (by decide))
theorem nI_m2 {j : Nat} (h : j < 2 ^ 31) : ¬ nI j = -2 := fun q => absurd (q ▸ nI_pos' h : (0 : Int32) ≤ -2) (by decide)
theorem nI_m1 {j : Nat} (h : j < 2 ^ 31) : ¬ nI j = -1 := fun q => absurd (q ▸ nI_pos' h : (0 : Int32) ≤ -1) (by decide)
/-- STYLE of thing t -/
def stS (S : dv_S) (t : Nat) : Int32 := st_of (tx S (25 + 2 * t))
abbrev nfS (S : dv_S) (t : Nat) : Nat → Int32 := S.2.1 (25 + 2 * t + 1)
abbrev nlS (S : dv_S) (t : Nat) : Nat := dn (S.1 (25 + 2 * t) 1)
/-- the offer of thing t as it comes out, whatever its length -/
def ofS (S : dv_S) (w : Nat) (wl : Nat → Nat → Int32) (wm : Nat → Nat) (u : Nat → Int32) (t k : Nat) : List Int32 := ofl (stS S t) (ofb S w wl wm u (S.2.1 (25 + 2 * t + 1)) (dn (S.1 (25 + 2 * t) 1))) k
def dfI (S : dv_S) (t : Nat) (l : List Int32) (S1 : dv_S) : Prop := sf S S1 ∧ csp S1 (S.2.1 (25 + 2 * t + 1)) (dn (S.1 (25 + 2 * t) 1)) ∧ dt S1 l
theorem dfI0 {S S2 : dv_S} {t : Nat} (hs : dv_spl (dv_u (dv_u S.1 5 1 0) 5 2 0, S.2) (S.2.1 (25 + 2 * t + 1)) (dn (S.1 (25 + 2 * t) 1)) S2) : dfI S t [] S2 := by
  have h1 : dd S (dv_u (dv_u S.1 5 1 0) 5 2 0, S.2) := ⟨fun a k q => by
    simp only [List.mem_cons, Prod.mk.injEq, List.not_mem_nil, or_false, not_or] at q
    show dv_u (dv_u S.1 5 1 0) 5 2 0 a k = _
    rw [dv_u_ne _ _ q.2, dv_u_ne _ _ q.1], fun _ _ => rfl, rfl⟩
  have h2 := dt_0 S
  refine ⟨(h1.mono (by decide) (by decide)).tr (hs.fr.mono (by decide) (by decide)), hs.csp, ?_⟩
  have h3 := hs.fr
  unfold dt
  rw [h3.1 5 1 (by decide), h3.1 5 2 (by decide), h3.2.1 6 (by decide)]
  exact h2
theorem dfI1 {S S1 : dv_S} {t : Nat} {l : List Int32} (h : dfI S t l S1) (b : Int32) : dfI S t (l ++ [b]) (dv_ag S1 5 (min l.length 24) b) := by
  have h1 := dd_ag S1 (min l.length 24) b
  exact ⟨h.1.tr (h1.mono (by decide) (by decide)), dd.csp h1 h.2.1, dt_add h.2.2 b⟩
theorem sf_ofb {S S' : dv_S} (h : sf S S') (w : Nat) (wl : Nat → Nat → Int32) (wm : Nat → Nat) (u f : Nat → Int32) (m i : Nat) : ofb S' w wl wm u f m i = ofb S w wl wm u f m i := by
  unfold ofb opS pk_w
  rw [h.2.1 17 (by decide), h.2.1 16 (by decide), h.2.2]
theorem dfI2 {S S1 S2 : dv_S} {t w i : Nat} {wl : Nat → Nat → Int32} {wm : Nat → Nat} {l : List Int32} {ga gf : Bool} (h : dfI S t l S1) (hp : wpI S1 l (ofc ga gf (ofb S1 w wl wm (S1.2.1 18) (S.2.1 (25 + 2 * t + 1)) (dn (S.1 (25 + 2 * t) 1)) i).1) (ofb S1 w wl wm (S1.2.1 18) (S.2.1 (25 + 2 * t + 1)) (dn (S.1 (25 + 2 * t) 1)) i).2 S2)
    (hl : l = ofS S w wl wm (S.2.1 18) t i ++ (if 0 < i ∧ (stS S t = 2 ∨ stS S t = 3) then [95] else [])) (h1 : ga = decide (stS S t = 3)) (h2 : gf = decide (stS S t = 1 ∨ (stS S t = 0 ∧ 0 < i))) : dfI S t (ofS S w wl wm (S.2.1 18) t (i + 1)) S2 := by
  refine ⟨h.1.tr (hp.1.mono (by decide) (by decide)), dd.csp hp.1 h.2.1, ?_⟩
  have h3 := hp.2
  rw [sf_ofb h.1, h.1.2.1 18 (by decide), h1, h2, hl] at h3
  unfold ofS
  rw [ofl]
  exact h3
