theorem st_c {a j : Nat} (h : a + j < 2 ^ 30) : nI (a + j) - 1 < nI a ↔ j = 0 := by
  rw [dv_n1, Int32.lt_iff_toInt_lt, pk_sub_toInt h (by decide), nI_toInt (by omega)]
  omega
theorem ryn_p (p : Int32 → Bool) (f : Nat → Int32) {m j : Nat} (h0 : 0 < j) (hj : j ≤ m) : ryn p f m (j - 1) = (ryn p f m j || p (f (j - 1))) := by
  rw [ryn_s p f (show j - 1 < m by omega), show j - 1 + 1 = j by omega]
theorem rfi_py {f : Nat → Int32} {m j : Nat} (h0 : 0 < j) (hj : j ≤ m) (h : ch_l (f (j - 1)) = true) : rfi f m (j - 1) = f (j - 1) := rfi_y (by omega) h
theorem rfi_pn {f : Nat → Int32} {m j : Nat} (h0 : 0 < j) (h : ch_l (f (j - 1)) = false) : rfi f m (j - 1) = rfi f m j := by
  rw [rfi_n h, show j - 1 + 1 = j by omega]
def rst (f : Nat → Int32) (m j : Nat) : Int32 := if (ryn (fun x => decide (x = 95)) f m j && !ryn ch_g f m j) = true then 2 else if (ryn (fun x => decide (x = 95)) f m j && !ryn ch_s f m j) = true then 3 else if ch_g (rfi f m j) = true then 1 else 0
theorem st_m1 {a j : Nat} (h : 0 < j) : nI (a + j) - 1 + (-1) = nI (a + (j - 1)) - 1 := by
  rw [dv_p1 (by omega), show a + j - 1 = a + (j - 1) by omega, Int32.sub_eq_add_neg]
theorem wi_no {f : Nat → Int32} {k i : Nat} (hi : i ≤ k) (h : (decide (1 ≤ k ∧ k ≤ 12) && (dv_rd f i).all ch_s) = false) : (decide (1 ≤ k ∧ k ≤ 12) && (dv_rd f i).all ch_s) = wd_ok (dv_rd f k) := by
  rw [h]
  cases hw : wd_ok (dv_rd f k) with
  | false => rfl
  | true =>
    obtain ⟨h1, h2, h3⟩ := wd_rd hw
    rw [decide_eq_true ⟨h1, h2⟩, Bool.true_and] at h
    have : (dv_rd f i).all ch_s = true := by
      rw [List.all_eq_true]
      intro x hx
      obtain ⟨z, hz, rfl⟩ := List.mem_map.mp hx
      exact h3 z (by have := List.mem_range.mp hz; omega)
    rw [h] at this; cases this
theorem wi_ok (f : Nat → Int32) (k : Nat) : (decide (1 ≤ k ∧ k ≤ 12) && (dv_rd f k).all ch_s) = wd_ok (dv_rd f k) := by
  unfold wd_ok; rw [dv_rd_len]
/-- words are the same just if their keys are -/
theorem ky_eq {f g : Nat → Int32} {n m : Nat} (hf : ∀ j, j < n → ch_s (f j) = true) (hg : ∀ j, j < m → ch_s (g j) = true) (hn : n ≤ 12) (hm : m ≤ 12) : decide (dv_rd f n = dv_rd g m) = decide (cu_k f n = cu_k g m) := by
  have hc1 : ∀ j, j < n → 1 ≤ cd (f j) ∧ cd (f j) < 32 := fun j hj => cd_ok (hf j hj)
  have hc2 : ∀ j, j < m → 1 ≤ cd (g j) ∧ cd (g j) < 32 := fun j hj => cd_ok (hg j hj)
  have h1 := ck_62 (v := fun j => cd (f j)) hn (fun j hj => (hc1 j hj).2)
  have h2 := ck_62 (v := fun j => cd (g j)) hm (fun j hj => (hc2 j hj).2)
  rw [cu_k_ck hf, cu_k_ck hg, Bool.eq_iff_iff, decide_eq_true_eq, decide_eq_true_eq, pk_lEQ (by omega) (by omega), dv_rd_eq]
  constructor
  · rintro ⟨rfl, e⟩
    have : ∀ k, k ≤ n → ck (fun j => cd (f j)) k = ck (fun j => cd (g j)) k := by
      intro k
      induction k with
      | zero => intro _; simp only [ck]
      | succ k ih => intro h; rw [ck, ck, ih (by omega), e k (by omega)]
    exact this n (Nat.le_refl _)
  · intro h
    obtain ⟨e1, e2⟩ := ck_inj hc1 hc2 h
    exact ⟨e1, fun j hj => cd_inj (hf j hj) (hg j (by omega)) (e2 j hj)⟩
theorem RX_ky {S C : dv_S} {n w : Nat} {wl : Nat → Nat → Int32} {wm : Nat → Nat} (hX : RX S C n w wl wm) {f : Nat → Int32} {k v : Nat} (hv : v < w) (hf : ∀ j, j < k → ch_s (f j) = true) (hk : k ≤ 12) : decide (dv_rd (fun z => S.2.1 527 (12 * v + z)) (wm v) = dv_rd f k) = decide (C.2.2 14 v = cu_k f k) := by
  have h2 := hX.2.2.2 v hv
  have e : dv_rd (fun z => S.2.1 527 (12 * v + z)) (wm v) = dv_rd (wl v) (wm v) := by
    rw [dv_rd_eq]; exact ⟨rfl, fun z hz => (h2.2.2.2.1 z hz).1⟩
  rw [e, h2.2.2.2.2.1]
  exact ky_eq (fun z hz => (h2.2.2.2.1 z hz).2) hf h2.2.2.1 hk
/-- a new word -/
def rWd (S : dv_S) (w k i : Nat) : dv_S := (S.1, dv_ro S.2.1 527 (12 * w) (fun j => (S.2.1 517 j).toInt8.toInt32) i, S.2.2)
def rWdE (S : dv_S) (w k : Nat) (x : Int32) : dv_S := (dv_u S.1 516 17 (nI (w + 1)), dv_u (dv_u (dv_u (dv_u (rWd S w k k).2.1 528 w (nI k)) 529 w x) 530 w (-1)) 531 w (nI w), S.2.2)
theorem rWd_row (S : dv_S) (w k i : Nat) {a : Nat} (h : a ≠ 527) : (rWd S w k i).2.1 a = S.2.1 a := by
  unfold rWd; simp only; rw [dv_ro_row h]
def rJn (S : dv_S) (p q i : Nat) : dv_S := (S.1, dv_rw S.2.1 531 (fun z => if S.2.1 531 z = S.2.1 531 q then S.2.1 531 p else S.2.1 531 z) i, S.2.2)
theorem rJn_p (S : dv_S) (p q i : Nat) : (rJn S p q i).2.1 531 p = S.2.1 531 p := by
  unfold rJn dv_rw
  simp only
  split
  · split <;> rfl
  · rfl
theorem rJn_i (S : dv_S) (p q i : Nat) : (rJn S p q i).2.1 531 i = S.2.1 531 i := by
  unfold rJn dv_rw
  simp only
  rw [if_neg (by omega)]
theorem rJn_y {S : dv_S} {p q i : Nat} (h : S.2.1 531 i = S.2.1 531 q) : ((rJn S p q i).1, dv_u (rJn S p q i).2.1 531 i (S.2.1 531 p), (rJn S p q i).2.2) = rJn S p q (i + 1) := by
  unfold rJn
  simp only
  rw [← dv_rw_s, if_pos h]
theorem rJn_n {S : dv_S} {p q i : Nat} (h : ¬ S.2.1 531 i = S.2.1 531 q) : rJn S p q i = rJn S p q (i + 1) := by
  unfold rJn
  rw [← dv_rw_s, if_neg h, dv_ui _ _ _ _ (by unfold dv_rw; rw [if_neg (by omega)])]
abbrev rcF : dv_S → dv_S → Prop := fr [(516, 16)] [525, 526, 532]
theorem ct_b (p : Nat → Bool) (k : Nat) : nI (dv_ct p k) + dv_b (p k) = nI (dv_ct p (k + 1)) := by
  cases h : p k with
  | true => rw [dv_ct_st h, ← nI_1]; rfl
  | false => rw [dv_ct_sf h]; exact Int32.add_zero _
theorem dv_om_oi {o : Option Nat} (h : o.isSome = true) : dv_om o = dv_oi o := by
  cases o with
  | none => cases h
  | some j => rfl
