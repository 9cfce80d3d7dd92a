theorem fr.T {Fs : List (Nat × Nat)} {Gs : List Nat} {S S' : dv_S} {n : Nat} (h : fr Fs Gs S S') (h1 : (21, 3) ∉ Fs) (h2 : ∀ t, t < 80 → (25 + 2 * t, 1) ∉ Fs ∧ (191 + 2 * t, 1) ∉ Fs) (h3 : 189 ∉ Gs) (hT : cw_T S n) : cw_T S' n := by
  have h80 := hT.2.1
  refine ⟨by rw [h.1 21 3 h1]; exact hT.1, hT.2.1, fun t ht => ⟨h.tle (h2 t (by omega)).1 (hT.2.2 t ht).1, fun q => h.tle (h2 t (by omega)).2 ((hT.2.2 t ht).2 ?_)⟩⟩
  rw [h.2.1 189 h3] at q; exact q
theorem fr.S {Fs : List (Nat × Nat)} {Gs : List Nat} {S S' : dv_S} {n sn : Nat} (h : fr Fs Gs S S') (h1 : (19, 1) ∉ Fs) (h2 : 22 ∉ Gs) (hS : cw_S S n sn) : cw_S S' n sn := by
  unfold cw_S; rw [h.1 19 1 h1, h.2.1 22 h2]; exact hS
theorem fr.U {Fs : List (Nat × Nat)} {Gs : List Nat} {S S' : dv_S} {n sn un : Nat} (h : fr Fs Gs S S') (h1 : (185, 2) ∉ Fs) (h2 : 186 ∉ Gs ∧ 187 ∉ Gs) (hU : cw_U S n sn un) : cw_U S' n sn un := by
  unfold cw_U; rw [h.1 185 2 h1, h.2.1 186 h2.1, h.2.1 187 h2.2]; exact hU
theorem tc_fr (S : dv_S) (k : Nat) : fr [(3, 1), (3, 2), (1, 1), (1, 2)] [4] S (dv_tc S k) := by
  refine ⟨fun a x q => ?_, fun a q => ?_, rfl⟩
  · simp only [List.mem_cons, Prod.mk.injEq, List.not_mem_nil, or_false, not_or] at q
    show dv_u (dv_u (dv_u (dv_u S.1 3 1 _) 3 2 _) 1 1 0) 1 2 0 a x = _
    rw [dv_u_ne _ _ q.2.2.2, dv_u_ne _ _ q.2.2.1, dv_u_ne _ _ q.2.1, dv_u_ne _ _ q.1]
  · exact dv_tk_G _ _ (by simpa using q)
theorem tc_T {S : dv_S} {n : Nat} (k : Nat) (hT : cw_T S n) : cw_T (dv_tc S k) n := (tc_fr S k).T (by decide) (fun t ht => ⟨by simp; omega, by simp; omega⟩) (by decide) hT
theorem tc_S {S : dv_S} {n sn : Nat} (k : Nat) (hS : cw_S S n sn) : cw_S (dv_tc S k) n sn := (tc_fr S k).S (by decide) (by decide) hS
theorem tc_U {S : dv_S} {n sn un : Nat} (k : Nat) (hU : cw_U S n sn un) : cw_U (dv_tc S k) n sn un := (tc_fr S k).U (by decide) (by decide) hU
theorem tc_B {S : dv_S} {w : Nat} {wl : Nat → Nat → Int32} {wm : Nat → Nat} (k : Nat) (hB : cw_B S w wl wm) : cw_B (dv_tc S k) w wl wm := (tc_fr S k).B (by decide) hB
theorem tc_tl (S : dv_S) (k : Nat) : tl (dv_tc S k) 3 := by
  unfold tl; rw [dv_tc_n, dn_nI (by omega)]; exact ⟨rfl, by omega⟩
theorem tc_tx (S : dv_S) {k : Nat} (h : k ≤ 24) : tx (dv_tc S k) 3 = dv_rd (S.2.1 2) k := by
  unfold tx; rw [dv_tc_n, dn_nI (by omega)]; exact dv_tc_r S h
/-- what hinders a new thing -/
def thD (T : dv_S) (n q : Nat) : Bool := (dv_fo (fun t => !decide (nI t = -1) && decide (T.2.1 22 t = nI q) && decide (tx T (nn T false t) = tx T 3)) n).isSome
def thC (T : dv_S) (un q : Nat) : Bool := (dv_fo (fun u => decide (hmS T (utS T u) < q) && wi T (usS T u) q && decide (tx T (nn T false (utS T u)) = tx T 3)) un).isSome
def thM (T : dv_S) (n q : Nat) : Option Nat := cl_tm (hmS T) (fun t => wi T q (hmS T t) && decide (tx T (nn T false t) = tx T 3)) n
theorem thM_lt {T : dv_S} {n q u : Nat} (h : thM T n q = some u) : u < n := cl_tm_lt _ _ _ _ h
abbrev rfS (S : dv_S) (x : Int32) : dv_S := (dv_u S.1 0 14 x, S.2)
/-- a row of small letters is one PART -/
theorem cu_w {f : Nat → Int32} {n : Nat} (h : ∀ j, j < n → ch_s (f j) = true) : ∀ i, i < n → (cu f n (i + 1)).1 = 1 ∧ (cu f n (i + 1)).2.1 0 = 0 ∧ (cu f n (i + 1)).2.2 0 = i + 1
  | 0, hi => by
    have h95 : ¬ f 0 = 95 := fun q => by have := h 0 hi; rw [q] at this; exact absurd this (by decide)
    rw [cu_2 h95 (by simp [cu_b])]
    exact ⟨rfl, by simp [cu_u, cu], by simp [cu_u, cu]⟩
  | i + 1, hi => by
    have h95 : ∀ j, j < n → ¬ f j = 95 := fun j hj q => by have := h j hj; rw [q] at this; exact absurd this (by decide)
    have hd : ∀ j, j < n → ch_d (f j) = false := fun j hj => by
      obtain ⟨t, h1, h2, h3⟩ := ch_nat (h j hj)
      rw [h3]; unfold ch_d
      refine decide_eq_false fun q => ?_
      rw [show (57 : Int32) = nI 57 by decide, nI_leI (by omega) (by omega)] at q
      omega
    have hb : cu_b f n (i + 1) = false := by
      unfold cu_b cu_a
      rw [hd _ (by omega), hd _ hi, ch_sg (h _ hi), decide_eq_false (h95 _ (by omega))]
      simp
    obtain ⟨e1, e2, e3⟩ := cu_w h i (by omega)
    rw [cu_3 (h95 _ hi) hb]
    refine ⟨e1, e2, ?_⟩
    show cu_u _ _ _ 0 = _
    rw [e1, cu_us]
theorem wd_s {l : List Int32} (h : wd_ok l = true) : 1 ≤ l.length ∧ l.length ≤ 12 ∧ l.all ch_s = true := by
  unfold wd_ok at h
  simp only [Bool.and_eq_true, decide_eq_true_eq] at h
  exact ⟨h.1.1, h.1.2, h.2⟩
theorem wd_rd {f : Nat → Int32} {k : Nat} (h : wd_ok (dv_rd f k) = true) : 1 ≤ k ∧ k ≤ 12 ∧ ∀ j, j < k → ch_s (f j) = true := by
  obtain ⟨h1, h2, h3⟩ := wd_s h
  rw [dv_rd_len] at h1 h2
  refine ⟨h1, h2, fun j hj => ?_⟩
  rw [List.all_eq_true] at h3
  exact h3 _ (List.mem_map.mpr ⟨j, List.mem_range.mpr hj, rfl⟩)
theorem ch_lo_s {x : Int32} (h : ch_s x = true) : ch_lo x = x := by
  unfold ch_lo; rw [ch_sg h]; rfl
theorem pk_word {f : Nat → Int32} {n : Nat} (h : ∀ j, j < n → ch_s (f j) = true) (h0 : 0 < n) (h12 : n ≤ 12) : (cu f n n).1 = 1 ∧ pk_k f n 0 = cu_k f n := by
  obtain ⟨m, rfl⟩ : ∃ m, n = m + 1 := ⟨n - 1, by omega⟩
  obtain ⟨e1, e2, e3⟩ := cu_w h m (by omega)
  refine ⟨e1, ?_⟩
  unfold pk_k pk_g
  rw [e2, e3, Nat.sub_zero, kz_y h12 (fun k hk => by rw [Nat.zero_add, ch_lo_s (h k hk)]; exact h k hk)]
  exact cu_k_cong (fun k hk => by rw [Nat.zero_add, ch_lo_s (h k hk)])
/-- how many PARTS of f's first m are strange among the first k -/
def sgp (S : dv_S) (w : Nat) (f : Nat → Int32) (m : Nat) : Nat → Nat
  | 0 => 0
  | k + 1 => sgp S w f m k + (if (!ch_d (ch_lo (f ((cu f m m).2.1 k))) && decide (pk_w S w f m k = none)) = true then 1 else 0)
def sgS (S : dv_S) (w : Nat) : Nat → Nat
  | 0 => 0
  | t + 1 => sgS S w t + sgp S w (S.2.1 (25 + 2 * t + 1)) (dn (S.1 (25 + 2 * t) 1)) (cu (S.2.1 (25 + 2 * t + 1)) (dn (S.1 (25 + 2 * t) 1)) (dn (S.1 (25 + 2 * t) 1))).1
theorem sgp_y {S : dv_S} {w : Nat} {f : Nat → Int32} {m k : Nat} (h1 : ch_d (ch_lo (f ((cu f m m).2.1 k))) = false) (h2 : pk_w S w f m k = none) : sgp S w f m (k + 1) = sgp S w f m k + 1 := by rw [sgp, h1, h2]; rfl
theorem sgp_n {S : dv_S} {w : Nat} {f : Nat → Int32} {m k : Nat} (h : ch_d (ch_lo (f ((cu f m m).2.1 k))) = true ∨ ¬ pk_w S w f m k = none) : sgp S w f m (k + 1) = sgp S w f m k := by
  rw [sgp, if_neg]; · rfl
  rcases h with h | h <;> simp [h]
