/-- the text at a is l -/
def tv (S : dv_S) (a : Nat) (l : List Int32) : Prop := S.1 a 1 = nI l.length ∧ l.length ≤ 24 ∧ dv_rd (S.2.1 (a + 1)) l.length = l
theorem tv_tl {S : dv_S} {a : Nat} {l : List Int32} (h : tv S a l) : tl S a := by
  unfold tl; rw [h.1, dn_nI (by have := h.2.1; omega)]; exact ⟨rfl, h.2.1⟩
theorem tv_tx {S : dv_S} {a : Nat} {l : List Int32} (h : tv S a l) : tx S a = l := by
  unfold tx; rw [h.1, dn_nI (by have := h.2.1; omega)]; exact h.2.2
theorem tl_tv {S : dv_S} {a : Nat} (h : tl S a) : tv S a (tx S a) := by
  have e : (tx S a).length = dn (S.1 a 1) := dv_rd_len _ _
  unfold tv; rw [e]; exact ⟨h.1, h.2, rfl⟩
theorem tv.of {S S' : dv_S} {a : Nat} {l : List Int32} (h : tv S a l) (h1 : S'.1 a 1 = S.1 a 1) (h2 : S'.2.1 (a + 1) = S.2.1 (a + 1)) : tv S' a l := by
  unfold tv; rw [h1, h2]; exact h
theorem tx_fr (S : dv_S) (a m : Nat) (g : Nat → Int32) : fr [(a, 1), (a, 2)] [a + 1] S (dv_tx S a m g) := by
  refine ⟨fun x k q => ?_, fun x q => dv_rw_row (by simpa using q), rfl⟩
  simp only [List.mem_cons, Prod.mk.injEq, List.not_mem_nil, or_false, not_or] at q
  show dv_u (dv_u S.1 a 1 (nI m)) a 2 0 x k = _
  rw [dv_u_ne _ _ q.2, dv_u_ne _ _ q.1]
theorem tx_tv (S : dv_S) (a : Nat) {m : Nat} (g : Nat → Int32) (h : m ≤ 24) : tv (dv_tx S a m g) a (dv_rd g m) := by
  unfold tv
  rw [dv_rd_len]
  refine ⟨dv_tx_n S a m g, h, ?_⟩
  rw [dv_rd_eq]
  exact ⟨rfl, fun i hi => if_pos ⟨rfl, hi⟩⟩
theorem dv_hd_cong {g u u' : Nat → Int32} {x : Int32} : ∀ {n : Nat}, (∀ j, j < n → u' j = u j) → dv_hd g u' x n = dv_hd g u x n
  | 0, _ => rfl
  | n + 1, h => by
    have ih := dv_hd_cong (g := g) (x := x) (fun j hj => h j (by omega : j < n + 1) : ∀ j, j < n → u' j = u j)
    rw [dv_hd, dv_hd, ih, h n (by omega)]
    cases hh : dv_hd g u x n with
    | none => rfl
    | some k =>
      have hk := dv_hd_lt _ _ _ _ _ hh
      simp only [h k (by omega)]
theorem hdo_cong {g u u' : Nat → Int32} {w : Nat} {x : Int32} (h : ∀ j, j < w → u' j = u j) : hdo g u' w x = hdo g u w x := by
  unfold hdo; rw [dv_hd_cong h]
theorem ofl_cong {st : Int32} {p q : Nat → (Nat → Int32) × Nat} : ∀ {k : Nat}, (∀ i, i < k → p i = q i) → ofl st p k = ofl st q k
  | 0, _ => rfl
  | k + 1, h => by rw [ofl, ofl, ofl_cong (fun i hi => h i (by omega)), h k (by omega)]
theorem ofS_eq {S S' : dv_S} {w : Nat} {wl : Nat → Nat → Int32} {wm : Nat → Nat} {u u' : Nat → Int32} {t k : Nat} (h17 : S'.2.1 17 = S.2.1 17) (h16 : S'.2.1 16 = S.2.1 16) (h14 : S'.2.2 = S.2.2) (ht : S'.2.1 (25 + 2 * t + 1) = S.2.1 (25 + 2 * t + 1)) (hl : S'.1 (25 + 2 * t) 1 = S.1 (25 + 2 * t) 1) (hu : ∀ j, j < w → u' j = u j) : ofS S' w wl wm u' t k = ofS S w wl wm u t k := by
  unfold ofS stS tx
  rw [ht, hl]
  refine ofl_cong fun i _ => ?_
  unfold ofb opS pk_w
  rw [h17, h16, h14, hdo_cong hu]
/-- PARTS of thing t -/
abbrev pnS (S : dv_S) (t : Nat) : Nat := (cu (S.2.1 (25 + 2 * t + 1)) (dn (S.1 (25 + 2 * t) 1)) (dn (S.1 (25 + 2 * t) 1))).1
/-- the offer of thing t -/
def olS (S : dv_S) (w : Nat) (wl : Nat → Nat → Int32) (wm : Nat → Nat) (n t : Nat) : List Int32 := ofS S w wl wm (ut S w n) t (pnS S t)
def ogS (S : dv_S) (w : Nat) (wl : Nat → Nat → Int32) (wm : Nat → Nat) (n t : Nat) : Bool := nm_ok (olS S w wl wm n t) && !decide (olS S w wl wm n t = tx S (25 + 2 * t))
abbrev sgF : List (Nat × Nat) := [(5, 1), (5, 2), (9, 4)]
abbrev sgG : List Nat := [6, 10, 11, 12, 18, 515]
/-- none -/
def nnS (S : dv_S) : dv_S := (dv_u S.1 188 2 0, dv_rw S.2.1 189 (fun _ => 0) 80, S.2.2)
/-- rename -/
def rnS (S : dv_S) (k t : Nat) : dv_S := dv_pa 188 189 (dv_tx (dv_tc S k) (191 + 2 * t) (min k 24) ((dv_tc S k).2.1 4)) t
/-- turn -/
def trC (S : dv_S) : dv_S := (dv_u S.1 351 2 0, dv_rw S.2.1 352 (fun _ => 0) 80, S.2.2)
def tr1 (S : dv_S) (t : Nat) : dv_S := dv_pa 351 352 (dv_tx S (354 + 2 * t) (dn (S.1 (25 + 2 * t) 1)) (S.2.1 (25 + 2 * t + 1))) t
def trn (S : dv_S) : Nat → dv_S
  | 0 => trC S
  | t + 1 => if S.2.1 189 t = 0 then trn S t else dv_tx (tr1 (trn S t) t) (25 + 2 * t) (dn (S.1 (191 + 2 * t) 1)) (S.2.1 (191 + 2 * t + 1))
theorem pa_fr (o ia : Nat) (S : dv_S) (t : Nat) : fr [(o, 2)] [ia] S (dv_pa o ia S t) := by
  unfold dv_pa; split
  · refine ⟨fun x k q => ?_, fun x q => ?_, rfl⟩
    · show dv_u S.1 o 2 _ x k = _
      rw [dv_u_ne _ _ (by simpa using q)]
    · show dv_u S.2.1 ia t 1 x = _
      rw [dv_u_row _ _ (by simpa using q)]
  · exact fr.rf _ _ _
theorem trn_F (S : dv_S) : ∀ t, t ≤ 80 → (∀ a k, a ≠ 351 → (∀ j, j < t → a ≠ 25 + 2 * j ∧ a ≠ 354 + 2 * j) → (trn S t).1 a k = S.1 a k) ∧ (∀ a, a ≠ 352 → (∀ j, j < t → a ≠ 26 + 2 * j ∧ a ≠ 355 + 2 * j) → (trn S t).2.1 a = S.2.1 a) ∧ (trn S t).2.2 = S.2.2
  | 0, _ => ⟨fun a k h _ => dv_u_ne _ _ (by rintro ⟨q, -⟩; exact h q), fun a h _ => dv_rw_row h, rfl⟩
  | t + 1, ht => by
    obtain ⟨h1, h2, h3⟩ := trn_F S t (by omega)
    rw [trn]; split
    · exact ⟨fun a k q1 q2 => h1 a k q1 (fun j hj => q2 j (by omega)), fun a q1 q2 => h2 a q1 (fun j hj => q2 j (by omega)), h3⟩
    · have e1 := tx_fr (tr1 (trn S t) t) (25 + 2 * t) (dn (S.1 (191 + 2 * t) 1)) (S.2.1 (191 + 2 * t + 1))
      have e2 := pa_fr 351 352 (dv_tx (trn S t) (354 + 2 * t) (dn ((trn S t).1 (25 + 2 * t) 1)) ((trn S t).2.1 (25 + 2 * t + 1))) t
      have e3 := tx_fr (trn S t) (354 + 2 * t) (dn ((trn S t).1 (25 + 2 * t) 1)) ((trn S t).2.1 (25 + 2 * t + 1))
      refine ⟨fun a k q1 q2 => ?_, fun a q1 q2 => ?_, ?_⟩
      · have := q2 t (by omega)
        rw [e1.1 a k (by simp; omega)]
        refine (e2.1 a k (by simp; omega)).trans ((e3.1 a k (by simp; omega)).trans (h1 a k q1 (fun j hj => q2 j (by omega))))
      · have := q2 t (by omega)
        rw [e1.2.1 a (by simp; omega)]
        refine (e2.2.1 a (by simp; omega)).trans ((e3.2.1 a (by simp; omega)).trans (h2 a q1 (fun j hj => q2 j (by omega))))
      · exact e1.2.2.trans (e2.2.2.trans (e3.2.2.trans h3))
/-- back -/
def bkn (S : dv_S) : Nat → dv_S
  | 0 => S
  | t + 1 => if S.2.1 352 t = 0 then bkn S t else dv_tx (bkn S t) (25 + 2 * t) (dn (S.1 (354 + 2 * t) 1)) (S.2.1 (354 + 2 * t + 1))
theorem bkn_F (S : dv_S) : ∀ t, t ≤ 80 → (∀ a k, (∀ j, j < t → a ≠ 25 + 2 * j) → (bkn S t).1 a k = S.1 a k) ∧ (∀ a, (∀ j, j < t → a ≠ 26 + 2 * j) → (bkn S t).2.1 a = S.2.1 a) ∧ (bkn S t).2.2 = S.2.2
  | 0, _ => ⟨fun a k _ => rfl, fun a _ => rfl, rfl⟩
  | t + 1, ht => by
    obtain ⟨h1, h2, h3⟩ := bkn_F S t (by omega)
    rw [bkn]; split
    · exact ⟨fun a k q2 => h1 a k (fun j hj => q2 j (by omega)), fun a q2 => h2 a (fun j hj => q2 j (by omega)), h3⟩
    · have e1 := tx_fr (bkn S t) (25 + 2 * t) (dn (S.1 (354 + 2 * t) 1)) (S.2.1 (354 + 2 * t + 1))
      refine ⟨fun a k q2 => ?_, fun a q2 => ?_, ?_⟩
      · have := q2 t (by omega)
        rw [e1.1 a k (by simp; omega)]
        exact h1 a k (fun j hj => q2 j (by omega))
      · have := q2 t (by omega)
        rw [e1.2.1 a (by simp; omega)]
        exact h2 a (fun j hj => q2 j (by omega))
      · exact e1.2.2.trans h3
/-- keep -/
def kpS (S : dv_S) (K : Nat → Bool) : dv_S := (dv_u S.1 188 2 (nI (dv_ct K 80)), dv_rw (dv_rw S.2.1 514 (fun t => dv_b (decide (¬ S.2.1 189 t = 0))) 80) 189 (fun t => dv_b (K t)) 80, S.2.2)
def kpa (K : Nat → Bool) (t : Nat) : Nat → Bool := fun j => K j || decide (j = t)
def kpf (S : dv_S) (n un : Nat) : Nat → Nat → Bool
  | 0 => fun _ => false
  | t + 1 => if (decide (¬ S.2.1 189 t = 0) && (!cl_no (kpS S (kpa (kpf S n un t) t)) n t && !cl_wc (kpS S (kpa (kpf S n un t) t)) un t && !cl_us (kpS S (kpa (kpf S n un t) t)) n un t)) = true then kpa (kpf S n un t) t else kpf S n un t
theorem dv_ct_ff : ∀ n, dv_ct (fun _ => false) n = 0
  | 0 => rfl
  | n + 1 => by rw [dv_ct, dv_ct_ff n]; rfl
theorem kpS_0 (S : dv_S) : (dv_u S.1 188 2 0, dv_rw (dv_rw S.2.1 514 (fun t => dv_b (decide (¬ S.2.1 189 t = 0))) 80) 189 (fun _ => 0) 80, S.2.2) = kpS S (fun _ => false) := by
  unfold kpS; rw [dv_ct_ff, nI_0]; rfl
theorem dv_ct_a {K : Nat → Bool} {t : Nat} (h : K t = false) : ∀ n, dv_ct (kpa K t) n = dv_ct K n + (if t < n then 1 else 0)
  | 0 => by simp [dv_ct]
  | n + 1 => by
    rw [dv_ct, dv_ct, dv_ct_a h n]
    unfold kpa
    by_cases hn : n = t
    · subst hn; simp [h]
    · by_cases hlt : t < n
      · have : t < n + 1 := by omega
        simp [hn, hlt, this]; omega
      · have : ¬ t < n + 1 := by omega
        simp [hn, hlt, this]
theorem dv_ru {f : Nat → Nat → Int32} {a t n : Nat} {g g' : Nat → Int32} {v : Int32} (ht : t < n) (h1 : g' t = v) (h2 : ∀ j, j ≠ t → g' j = g j) : dv_u (dv_rw f a g n) a t v = dv_rw f a g' n := by
  funext x y
  simp only [dv_u, dv_rw]
  by_cases hx : x = a
  · subst hx
    by_cases hy : y = t
    · subst hy; simp [ht, h1]
    · by_cases hyn : y < n
      · simp [hy, hyn, h2 y hy]
      · simp [hy, hyn]
  · simp [hx]
theorem kpS_189 (S : dv_S) (K : Nat → Bool) {t : Nat} (h : t < 80) : (kpS S K).2.1 189 t = dv_b (K t) := by
  show dv_rw (dv_rw S.2.1 514 (fun t => dv_b (decide (¬ S.2.1 189 t = 0))) 80) 189 (fun t => dv_b (K t)) 80 189 t = _
  exact if_pos ⟨rfl, h⟩
theorem kpS_514 (S : dv_S) (K : Nat → Bool) {t : Nat} (h : t < 80) : (kpS S K).2.1 514 t = dv_b (decide (¬ S.2.1 189 t = 0)) := by
  show dv_rw (dv_rw S.2.1 514 (fun t => dv_b (decide (¬ S.2.1 189 t = 0))) 80) 189 (fun t => dv_b (K t)) 80 514 t = _
  rw [dv_rw_row (by decide)]
  exact if_pos ⟨rfl, h⟩
theorem kpS_188 (S : dv_S) (K : Nat → Bool) : (kpS S K).1 188 2 = nI (dv_ct K 80) := by
  show dv_u S.1 188 2 (nI (dv_ct K 80)) 188 2 = _
  rw [dv_u_eq]
theorem kpS_fr (S : dv_S) (K : Nat → Bool) : fr [(188, 2)] [189, 514] S (kpS S K) := by
  refine ⟨fun a k q => dv_u_ne S.1 _ (by simpa using q), fun a q => ?_, rfl⟩
  simp only [List.mem_cons, List.not_mem_nil, or_false, not_or] at q
  show dv_rw (dv_rw S.2.1 514 (fun t => dv_b (decide (¬ S.2.1 189 t = 0))) 80) 189 (fun t => dv_b (K t)) 80 a = _
  rw [dv_rw_row q.1, dv_rw_row q.2]
theorem kpS_pa (S : dv_S) {K : Nat → Bool} {t : Nat} (ht : t < 80) (hK : K t = false) : dv_pa 188 189 (kpS S K) t = kpS S (kpa K t) := by
  unfold dv_pa
  rw [if_pos (by rw [kpS_189 S K ht, hK]; rfl), kpS_188]
  unfold kpS
  simp only [dv_uu, dv_ct_a hK, if_pos ht, nI_1]
  rw [dv_ru ht (g' := fun j => dv_b (kpa K t j)) (by simp [kpa, dv_b]) (fun j hj => by simp [kpa, hj])]
theorem kpS_dr (S : dv_S) {K : Nat → Bool} {t : Nat} (ht : t < 80) (hK : K t = false) : (dv_u (kpS S (kpa K t)).1 188 2 ((kpS S (kpa K t)).1 188 2 - 1), dv_u (kpS S (kpa K t)).2.1 189 t 0, (kpS S (kpa K t)).2.2) = kpS S K := by
  rw [kpS_188]
  unfold kpS
  simp only [dv_uu, dv_ct_a hK, if_pos ht, nI_pred]
  rw [dv_ru ht (g' := fun j => dv_b (K j)) (by simp [hK, dv_b]) (fun j hj => by simp [kpa, hj])]
theorem kpf_lt (S : dv_S) (n un : Nat) : ∀ t j, t ≤ j → kpf S n un t j = false
  | 0, j, _ => rfl
  | t + 1, j, h => by
    rw [kpf]; split
    · unfold kpa; rw [kpf_lt S n un t j (by omega), decide_eq_false (by omega)]; rfl
    · exact kpf_lt S n un t j (by omega)
theorem kpf_wt (S : dv_S) (n un : Nat) : ∀ t j, kpf S n un t j = true → ¬ S.2.1 189 j = 0
  | 0, j, h => by cases h
  | t + 1, j, h => by
    rw [kpf] at h; split at h
    · rename_i hc
      unfold kpa at h
      by_cases hj : j = t
      · subst hj
        simp only [Bool.and_eq_true, decide_eq_true_eq] at hc
        exact hc.1
      · rw [decide_eq_false hj, Bool.or_false] at h
        exact kpf_wt S n un t j h
    · exact kpf_wt S n un t j h
theorem kpf_y {S : dv_S} {n un t : Nat} (h1 : decide (¬ S.2.1 189 t = 0) = true) (h2 : (!cl_no (kpS S (kpa (kpf S n un t) t)) n t && !cl_wc (kpS S (kpa (kpf S n un t) t)) un t && !cl_us (kpS S (kpa (kpf S n un t) t)) n un t) = true) : kpf S n un (t + 1) = kpa (kpf S n un t) t := by rw [kpf, if_pos (by rw [h1, h2]; rfl)]
theorem kpf_n {S : dv_S} {n un t : Nat} (h : decide (¬ S.2.1 189 t = 0) = false ∨ (!cl_no (kpS S (kpa (kpf S n un t) t)) n t && !cl_wc (kpS S (kpa (kpf S n un t) t)) un t && !cl_us (kpS S (kpa (kpf S n un t) t)) n un t) = false) : kpf S n un (t + 1) = kpf S n un t := by
  rw [kpf, if_neg]
  rcases h with h | h <;> rw [h] <;> simp
theorem kpS_T {S : dv_S} {n : Nat} {K : Nat → Bool} (hT : cw_T S n) (hK : ∀ j, K j = true → ¬ S.2.1 189 j = 0) : cw_T (kpS S K) n := by
  have h80 := hT.2.1
  have h := kpS_fr S K
  refine ⟨by rw [h.1 21 3 (by decide)]; exact hT.1, hT.2.1, fun t ht => ⟨h.tle (by simp) (hT.2.2 t ht).1, fun q => h.tle (by simp) ((hT.2.2 t ht).2 (hK t ?_))⟩⟩
  rw [kpS_189 S K (by omega)] at q
  cases hk : K t with
  | true => rfl
  | false => rw [hk] at q; exact absurd rfl q
theorem kpS_S {S : dv_S} {n sn : Nat} (K : Nat → Bool) (hS : cw_S S n sn) : cw_S (kpS S K) n sn := (kpS_fr S K).S (by decide) (by decide) hS
theorem kpS_U {S : dv_S} {n sn un : Nat} (K : Nat → Bool) (hU : cw_U S n sn un) : cw_U (kpS S K) n sn un := (kpS_fr S K).U (by decide) (by decide) hU
theorem kpa_wt {S : dv_S} {K : Nat → Bool} {t : Nat} (hK : ∀ j, K j = true → ¬ S.2.1 189 j = 0) (ht : decide (¬ S.2.1 189 t = 0) = true) : ∀ j, kpa K t j = true → ¬ S.2.1 189 j = 0 := by
  intro j hj
  unfold kpa at hj
  by_cases h : j = t
  · subst h; exact of_decide_eq_true ht
  · rw [decide_eq_false h, Bool.or_false] at hj; exact hK j hj
/-- the WAY of mixed groups -/
def mxS (S : dv_S) (w n : Nat) : Nat := dv_ct (fun z => decide (1 < dv_ct (fun k => decide (S.2.1 17 k = nI z ∧ 0 < ut S w n k)) w)) w
theorem mx_cong {S S1 : dv_S} {w n : Nat} (h : cuI S w n S1) : dv_ct (fun z => decide (1 < dv_ct (fun k => decide (S1.2.1 17 k = nI z ∧ 0 < S1.2.1 18 k)) w)) w = mxS S w n := by
  unfold mxS
  refine dv_ct_cong fun z _ => ?_
  have e : dv_ct (fun k => decide (S1.2.1 17 k = nI z ∧ 0 < S1.2.1 18 k)) w = dv_ct (fun k => decide (S.2.1 17 k = nI z ∧ 0 < ut S w n k)) w := by
    refine dv_ct_cong fun k hk => ?_
    rw [h.1.g (by decide), h.2 k hk]
  rw [e]
theorem cuI_ol {S S1 : dv_S} {w n t : Nat} {wl : Nat → Nat → Int32} {wm : Nat → Nat} (h : cuI S w n S1) (ht : t < 80) (k : Nat) : ofS S1 w wl wm (S1.2.1 18) t k = ofS S w wl wm (ut S w n) t k :=
  ofS_eq (h.1.g (by decide)) (h.1.g (by decide)) h.1.2.2 (h.1.row (kd_T ht).1) (h.1.1 _ _ (by omega)) h.2
theorem sc_pn {S S1 : dv_S} {t : Nat} (h : sc S S1) (ht : t < 80) : pnS S1 t = pnS S t := by
  unfold pnS; rw [h.row (kd_T ht).1, h.1 _ _ (by omega)]
