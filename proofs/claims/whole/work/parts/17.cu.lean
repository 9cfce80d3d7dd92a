/-- does a PART begin at i -/
def cu_b (f : Nat → Int32) (n i : Nat) : Bool := decide (i = 0) || decide (f (i - 1) = 95) || cu_a (f (i - 1)) (f i) (dv_gx f n (nI (i + 1)))
def cu_u (f : Nat → Nat) (k v : Nat) : Nat → Nat := fun j => if j = k then v else f j
theorem cu_us (f : Nat → Nat) (k v : Nat) : cu_u f k v k = v := by simp [cu_u]
theorem cu_un (f : Nat → Nat) {k j : Nat} (v : Nat) (h : j ≠ k) : cu_u f k v j = f j := by simp [cu_u, h]
/-- the PARTS of the first i: how many, from, to -/
def cu (f : Nat → Int32) (n : Nat) : Nat → Nat × (Nat → Nat) × (Nat → Nat)
  | 0 => (0, fun _ => 0, fun _ => 0)
  | i + 1 => if f i = 95 then cu f n i else if cu_b f n i = true then ((cu f n i).1 + 1, cu_u (cu f n i).2.1 (cu f n i).1 i, cu_u (cu f n i).2.2 (cu f n i).1 (i + 1)) else ((cu f n i).1, (cu f n i).2.1, cu_u (cu f n i).2.2 ((cu f n i).1 - 1) (i + 1))
theorem cu_1 {f : Nat → Int32} {n i : Nat} (h : f i = 95) : cu f n (i + 1) = cu f n i := by rw [cu, if_pos h]
theorem cu_2 {f : Nat → Int32} {n i : Nat} (h : ¬ f i = 95) (hb : cu_b f n i = true) : cu f n (i + 1) = ((cu f n i).1 + 1, cu_u (cu f n i).2.1 (cu f n i).1 i, cu_u (cu f n i).2.2 (cu f n i).1 (i + 1)) := by rw [cu, if_neg h, if_pos hb]
theorem cu_3 {f : Nat → Int32} {n i : Nat} (h : ¬ f i = 95) (hb : cu_b f n i = false) : cu f n (i + 1) = ((cu f n i).1, (cu f n i).2.1, cu_u (cu f n i).2.2 ((cu f n i).1 - 1) (i + 1)) := by rw [cu, if_neg h, if_neg (by simp [hb])]
theorem cu_le (f : Nat → Int32) (n : Nat) : ∀ i, (cu f n i).1 ≤ i
  | 0 => Nat.le_refl _
  | i + 1 => by
    have ih := cu_le f n i
    by_cases h : f i = 95
    · rw [cu_1 h]; omega
    · cases hb : cu_b f n i with
      | true => rw [cu_2 h hb]; show (cu f n i).1 + 1 ≤ i + 1; omega
      | false => rw [cu_3 h hb]; show (cu f n i).1 ≤ i + 1; omega
/-- the key of PART j -/
def pk_g (f : Nat → Int32) (u : Nat × (Nat → Nat) × (Nat → Nat)) (j : Nat) : Int64 := kz (fun k => ch_lo (f (u.2.1 j + k))) (u.2.2 j - u.2.1 j)
theorem pk_g_c {f : Nat → Int32} {u v : Nat × (Nat → Nat) × (Nat → Nat)} {j : Nat} (h1 : u.2.1 j = v.2.1 j) (h2 : u.2.2 j = v.2.2 j) : pk_g f u j = pk_g f v j := by
  unfold pk_g; rw [h1, h2]
/-- Cut.add -/
def dv_ca (S : dv_S) (p q c : Nat) : dv_S := if p < q then (dv_u S.1 9 4 (nI (c + 1)), dv_kw (dv_u (dv_u S.2.1 11 c (nI p)) 12 c (nI q)) c (kz (fun k => S.2.1 10 (p + k)) (q - p)), S.2.2) else S
def cu_sm (S : dv_S) (i : Nat) (x : Int32) : dv_S := (S.1, dv_u S.2.1 10 i x, S.2.2)
def cu_inv (S : dv_S) (f : Nat → Int32) (n i : Nat) (S1 : dv_S) (c st : Nat) : Prop :=
  S1.1 = dv_u S.1 9 4 (nI c) ∧ (∀ x, x ≠ 10 → x ≠ 11 → x ≠ 12 → S1.2.1 x = S.2.1 x) ∧ S1.2.2 = S.2.2 ∧ (∀ j, j < i → S1.2.1 10 j = ch_lo (f j)) ∧
  (∀ j, j < c → S1.2.1 11 j = nI ((cu f n i).2.1 j) ∧ S1.2.1 12 j = nI ((cu f n i).2.2 j)) ∧ (∀ j, j < c → dv_ky S1.2.1 j = pk_g f (cu f n i) j) ∧
  ((st = i ∧ (cu f n i).1 = c ∧ (i = 0 ∨ f (i - 1) = 95)) ∨ (st < i ∧ (cu f n i).1 = c + 1 ∧ (cu f n i).2.1 c = st ∧ (cu f n i).2.2 c = i ∧ ¬ f (i - 1) = 95))
def dv_spl (S : dv_S) (f : Nat → Int32) (n : Nat) (S' : dv_S) : Prop :=
  S'.1 = dv_u S.1 9 4 (nI (cu f n n).1) ∧ (∀ x, x ≠ 10 → x ≠ 11 → x ≠ 12 → S'.2.1 x = S.2.1 x) ∧ S'.2.2 = S.2.2 ∧ (∀ j, j < n → S'.2.1 10 j = ch_lo (f j)) ∧
  (∀ j, j < (cu f n n).1 → S'.2.1 11 j = nI ((cu f n n).2.1 j) ∧ S'.2.1 12 j = nI ((cu f n n).2.2 j)) ∧ (∀ j, j < (cu f n n).1 → dv_ky S'.2.1 j = pk_g f (cu f n n) j)
theorem cu_sm_lt {S1 : dv_S} {f : Nat → Int32} {i : Nat} (h : ∀ j, j < i → S1.2.1 10 j = ch_lo (f j)) : ∀ j, j < i + 1 → (cu_sm S1 i (ch_lo (f i))).2.1 10 j = ch_lo (f j) := by
  intro j hj
  by_cases hji : j = i
  · subst hji; exact dv_u_eq _ _ _ _
  · show dv_u S1.2.1 10 i _ 10 j = _
    rw [dv_u_ne _ _ (by rintro ⟨-, q⟩; exact hji q)]; exact h j (by omega)
theorem cu_ca_1 {S : dv_S} {p q c : Nat} {F : Nat → Nat → Int32} (h : S.1 = dv_u F 9 4 (nI c)) (hpq : p < q) : (dv_ca S p q c).1 = dv_u F 9 4 (nI (c + 1)) := by
  simp only [dv_ca, if_pos hpq, h, dv_uu]
theorem cu_ca_x {S : dv_S} {p q c x : Nat} (h1 : x ≠ 11) (h2 : x ≠ 12) : (dv_ca S p q c).2.1 x = S.2.1 x := by
  unfold dv_ca; split
  · show dv_kw (dv_u (dv_u S.2.1 11 c (nI p)) 12 c (nI q)) c (kz (fun k => S.2.1 10 (p + k)) (q - p)) x = _
    rw [dv_kw_row _ _ _ h2, dv_u_row _ _ h2, dv_u_row _ _ h1]
  · rfl
theorem cu_ca_3 {S : dv_S} {p q c : Nat} : (dv_ca S p q c).2.2 = S.2.2 := by
  unfold dv_ca; split <;> rfl
theorem cu_ca_e {S : dv_S} {p q c : Nat} (h : p < q) (hc : c < 100) : (dv_ca S p q c).2.1 11 c = nI p ∧ (dv_ca S p q c).2.1 12 c = nI q := by
  simp only [dv_ca, if_pos h]
  exact ⟨by rw [dv_kw_row _ _ _ (by decide), dv_u_row _ _ (by decide), dv_u_eq], by rw [dv_kw_12 _ _ _ hc, dv_u_eq]⟩
theorem cu_ca_n {S : dv_S} {p q c j : Nat} (hj : j < c) (hc : c < 100) : (dv_ca S p q c).2.1 11 j = S.2.1 11 j ∧ (dv_ca S p q c).2.1 12 j = S.2.1 12 j := by
  unfold dv_ca; split
  · refine ⟨?_, ?_⟩
    · show dv_kw (dv_u (dv_u S.2.1 11 c (nI p)) 12 c (nI q)) c (kz (fun k => S.2.1 10 (p + k)) (q - p)) 11 j = _
      rw [dv_kw_row _ _ _ (by decide), dv_u_row _ _ (by decide), dv_u_ne _ _ (by omega)]
    · show dv_kw (dv_u (dv_u S.2.1 11 c (nI p)) 12 c (nI q)) c (kz (fun k => S.2.1 10 (p + k)) (q - p)) 12 j = _
      rw [dv_kw_12 _ _ _ (by omega), dv_u_ne _ _ (by omega), dv_u_row _ _ (by decide)]
  · exact ⟨rfl, rfl⟩
theorem cu_ca_k {S : dv_S} {p q c : Nat} (h : p < q) : dv_ky (dv_ca S p q c).2.1 c = kz (fun k => S.2.1 10 (p + k)) (q - p) := by
  simp only [dv_ca, if_pos h]
  rw [dv_ky_w, if_pos rfl]
theorem cu_ca_kn {S : dv_S} {p q c j : Nat} (hj : j < c) (hc : c < 100) : dv_ky (dv_ca S p q c).2.1 j = dv_ky S.2.1 j := by
  unfold dv_ca; split
  · show dv_ky (dv_kw _ _ _) j = _
    rw [dv_ky_w, if_neg (by omega), dv_ky_u (by omega), dv_ky_u (by omega)]
  · rfl
theorem cu_sm_k (S : dv_S) (i : Nat) (v : Int32) : dv_ky (cu_sm S i v).2.1 = dv_ky S.2.1 := dv_ky_u (by omega)
theorem cu_sm_r (S : dv_S) (i : Nat) (v : Int32) {x : Nat} (h : x ≠ 10) : (cu_sm S i v).2.1 x = S.2.1 x := dv_u_row _ _ h
theorem cu_L1 {S S1 : dv_S} {f : Nat → Int32} {n i c st : Nat} (h : cu_inv S f n i S1 c st) (hf : f i = 95) (hc : c < 100) : cu_inv S f n (i + 1) (dv_ca (cu_sm S1 i (ch_lo (f i))) st i c) (if st < i then c + 1 else c) (i + 1) := by
  obtain ⟨h1, h2, h3, h4, h5, hk, h6⟩ := h
  have hs : ∀ x, x ≠ 10 → x ≠ 11 → x ≠ 12 → (dv_ca (cu_sm S1 i (ch_lo (f i))) st i c).2.1 x = S.2.1 x := fun x a1 a2 a3 => by rw [cu_ca_x a2 a3, cu_sm_r _ _ _ a1, h2 x a1 a2 a3]
  have hm : ∀ j, j < i + 1 → (dv_ca (cu_sm S1 i (ch_lo (f i))) st i c).2.1 10 j = ch_lo (f j) := fun j hj => by rw [cu_ca_x (by decide) (by decide)]; exact cu_sm_lt h4 j hj
  rcases h6 with ⟨e1, e2, e3⟩ | ⟨e1, e2, e3, e4, e5⟩
  · rw [if_neg (by omega)]
    refine ⟨?_, hs, cu_ca_3.trans h3, hm, ?_, fun j hj => by rw [cu_ca_kn hj hc, cu_sm_k, cu_1 hf]; exact hk j hj, Or.inl ⟨rfl, by rw [cu_1 hf]; exact e2, Or.inr hf⟩⟩
    · rw [dv_ca, if_neg (by omega)]; exact h1
    · intro j hj
      rw [(cu_ca_n hj hc).1, (cu_ca_n hj hc).2, cu_sm_r _ _ _ (by decide), cu_sm_r _ _ _ (by decide), cu_1 hf]; exact h5 j hj
  · rw [if_pos e1]
    refine ⟨cu_ca_1 h1 e1, hs, cu_ca_3.trans h3, hm, ?_, fun j hj => ?_, Or.inl ⟨rfl, by rw [cu_1 hf]; exact e2, Or.inr hf⟩⟩
    · intro j hj
      rw [cu_1 hf]
      by_cases hjc : j = c
      · subst hjc
        rw [(cu_ca_e e1 hc).1, (cu_ca_e e1 hc).2, e3, e4]; exact ⟨rfl, rfl⟩
      · have hj : j < c := by omega
        rw [(cu_ca_n hj hc).1, (cu_ca_n hj hc).2, cu_sm_r _ _ _ (by decide), cu_sm_r _ _ _ (by decide)]; exact h5 j hj
    · rw [cu_1 hf]
      by_cases hjc : j = c
      · subst hjc
        rw [cu_ca_k e1]; unfold pk_g; rw [e3, e4]
        exact kz_c (fun k hk => cu_sm_lt h4 _ (by omega))
      · have hj : j < c := by omega
        rw [cu_ca_kn hj hc, cu_sm_k]; exact hk j hj
theorem cu_L2 {S S1 : dv_S} {f : Nat → Int32} {n i c st : Nat} (h : cu_inv S f n i S1 c st) (hf : ¬ f i = 95) (hc : st = i ∨ (st < i ∧ cu_a (f (i - 1)) (f i) (dv_gx f n (nI (i + 1))) = false)) : cu_inv S f n (i + 1) (cu_sm S1 i (ch_lo (f i))) c st := by
  obtain ⟨h1, h2, h3, h4, h5, hk, h6⟩ := h
  have hs : ∀ x, x ≠ 10 → x ≠ 11 → x ≠ 12 → (cu_sm S1 i (ch_lo (f i))).2.1 x = S.2.1 x := fun x a1 a2 a3 => by rw [cu_sm_r _ _ _ a1, h2 x a1 a2 a3]
  rcases h6 with ⟨e1, e2, e3⟩ | ⟨e1, e2, e3, e4, e5⟩
  · have hb : cu_b f n i = true := by
      unfold cu_b
      rcases e3 with e3 | e3
      · simp [e3]
      · simp [e3]
    refine ⟨h1, hs, h3, cu_sm_lt h4, ?_, fun j hj => (congrFun (cu_sm_k _ _ _) j).trans ((hk j hj).trans (pk_g_c (by rw [cu_2 hf hb]; exact (cu_un _ _ (by omega)).symm) (by rw [cu_2 hf hb]; exact (cu_un _ _ (by omega)).symm))), Or.inr ⟨by omega, ?_, ?_, ?_, ?_⟩⟩
    · intro j hj
      rw [cu_2 hf hb, cu_sm_r _ _ _ (by decide), cu_sm_r _ _ _ (by decide)]
      show _ = nI (cu_u _ _ _ j) ∧ _ = nI (cu_u _ _ _ j)
      rw [cu_un _ _ (by omega), cu_un _ _ (by omega)]; exact h5 j hj
    · rw [cu_2 hf hb]; show (cu f n i).1 + 1 = c + 1; omega
    · rw [cu_2 hf hb, ← e2]; show cu_u _ _ _ _ = _; rw [cu_us]; exact e1.symm
    · rw [cu_2 hf hb, ← e2]; show cu_u _ _ _ _ = _; rw [cu_us]
    · rw [Nat.add_sub_cancel]; exact hf
  · rcases hc with hc | ⟨-, hc⟩
    · omega
    · have hb : cu_b f n i = false := by
        unfold cu_b
        rw [hc, decide_eq_false (by omega : ¬ i = 0), decide_eq_false e5]; rfl
      refine ⟨h1, hs, h3, cu_sm_lt h4, ?_, fun j hj => (congrFun (cu_sm_k _ _ _) j).trans ((hk j hj).trans (pk_g_c (by rw [cu_3 hf hb]) (by rw [cu_3 hf hb]; exact (cu_un _ _ (by omega)).symm))), Or.inr ⟨by omega, ?_, ?_, ?_, ?_⟩⟩
      · intro j hj
        rw [cu_3 hf hb, cu_sm_r _ _ _ (by decide), cu_sm_r _ _ _ (by decide)]
        show _ ∧ _ = nI (cu_u _ _ _ j)
        rw [cu_un _ _ (by omega)]; exact h5 j hj
      · rw [cu_3 hf hb]; exact e2
      · rw [cu_3 hf hb]; exact e3
      · rw [cu_3 hf hb]; show cu_u _ _ _ c = _
        rw [show (cu f n i).1 - 1 = c by omega, cu_us]
      · rw [Nat.add_sub_cancel]; exact hf
theorem cu_L3 {S S1 : dv_S} {f : Nat → Int32} {n i c st : Nat} (h : cu_inv S f n i S1 c st) (hf : ¬ f i = 95) (hst : st < i) (hc : cu_a (f (i - 1)) (f i) (dv_gx f n (nI (i + 1))) = true) (h100 : c < 100) : cu_inv S f n (i + 1) (dv_ca (cu_sm S1 i (ch_lo (f i))) st i c) (c + 1) i := by
  obtain ⟨h1, h2, h3, h4, h5, hk, h6⟩ := h
  have hb : cu_b f n i = true := by unfold cu_b; rw [hc, Bool.or_true]
  rcases h6 with ⟨e1, e2, e3⟩ | ⟨e1, e2, e3, e4, e5⟩
  · omega
  · refine ⟨cu_ca_1 h1 e1, fun x a1 a2 a3 => by rw [cu_ca_x a2 a3, cu_sm_r _ _ _ a1, h2 x a1 a2 a3], cu_ca_3.trans h3, fun j hj => by rw [cu_ca_x (by decide) (by decide)]; exact cu_sm_lt h4 j hj, ?_, fun j hj => ?_, Or.inr ⟨by omega, ?_, ?_, ?_, ?_⟩⟩
    · intro j hj
      rw [cu_2 hf hb]
      show _ = nI (cu_u _ _ _ j) ∧ _ = nI (cu_u _ _ _ j)
      rw [cu_un _ _ (by omega), cu_un _ _ (by omega)]
      by_cases hjc : j = c
      · subst hjc
        rw [(cu_ca_e e1 h100).1, (cu_ca_e e1 h100).2, e3, e4]; exact ⟨rfl, rfl⟩
      · have hj : j < c := by omega
        rw [(cu_ca_n hj h100).1, (cu_ca_n hj h100).2, cu_sm_r _ _ _ (by decide), cu_sm_r _ _ _ (by decide)]; exact h5 j hj
    · rw [pk_g_c (u := cu f n (i + 1)) (v := cu f n i) (by rw [cu_2 hf hb]; exact cu_un _ _ (by omega)) (by rw [cu_2 hf hb]; exact cu_un _ _ (by omega))]
      by_cases hjc : j = c
      · subst hjc
        rw [cu_ca_k e1]; unfold pk_g; rw [e3, e4]
        exact kz_c (fun k hk => cu_sm_lt h4 _ (by omega))
      · have hj : j < c := by omega
        rw [cu_ca_kn hj h100, cu_sm_k]; exact hk j hj
    · rw [cu_2 hf hb]; show (cu f n i).1 + 1 = c + 1 + 1; omega
    · rw [cu_2 hf hb, ← e2]; show cu_u _ _ _ _ = _; rw [cu_us]
    · rw [cu_2 hf hb, ← e2]; show cu_u _ _ _ _ = _; rw [cu_us]
    · rw [Nat.add_sub_cancel]; exact hf
theorem cu_L4 {S S1 : dv_S} {f : Nat → Int32} {n c st : Nat} (h : cu_inv S f n n S1 c st) (hc : c < 100) : dv_spl S f n (dv_ca S1 st n c) := by
  obtain ⟨h1, h2, h3, h4, h5, hk, h6⟩ := h
  refine ⟨?_, fun x a1 a2 a3 => by rw [cu_ca_x a2 a3, h2 x a1 a2 a3], cu_ca_3.trans h3, fun j hj => by rw [cu_ca_x (by decide) (by decide)]; exact h4 j hj, ?_, ?_⟩
  · rcases h6 with ⟨e1, e2, e3⟩ | ⟨e1, e2, e3, e4, e5⟩
    · rw [dv_ca, if_neg (by omega), e2]; exact h1
    · rw [cu_ca_1 h1 e1, e2]
  · intro j hj
    rcases h6 with ⟨e1, e2, e3⟩ | ⟨e1, e2, e3, e4, e5⟩
    · have hj : j < c := by omega
      rw [(cu_ca_n hj hc).1, (cu_ca_n hj hc).2]; exact h5 j hj
    · by_cases hjc : j = c
      · subst hjc
        rw [(cu_ca_e e1 hc).1, (cu_ca_e e1 hc).2, e3, e4]; exact ⟨rfl, rfl⟩
      · have hj : j < c := by omega
        rw [(cu_ca_n hj hc).1, (cu_ca_n hj hc).2]; exact h5 j hj
  · intro j hj
    rcases h6 with ⟨e1, e2, e3⟩ | ⟨e1, e2, e3, e4, e5⟩
    · have hj : j < c := by omega
      rw [cu_ca_kn hj hc]; exact hk j hj
    · by_cases hjc : j = c
      · subst hjc
        rw [cu_ca_k e1]; unfold pk_g; rw [e3, e4]
        exact kz_c (fun k hk => h4 _ (by omega))
      · have hj : j < c := by omega
        rw [cu_ca_kn hj hc]; exact hk j hj
theorem cu_c24 {S S1 : dv_S} {f : Nat → Int32} {n i c st : Nat} (h : cu_inv S f n i S1 c st) (hi : i ≤ 24) (hst : st < i) : c < 24 := by
  obtain ⟨h1, h2, h3, h4, h5, hk, h6⟩ := h
  have := cu_le f n i
  rcases h6 with ⟨e1, e2, e3⟩ | ⟨e1, e2, e3, e4, e5⟩ <;> omega
theorem cu_st {S S1 : dv_S} {f : Nat → Int32} {n i c st : Nat} (h : cu_inv S f n i S1 c st) : st ≤ i := by
  obtain ⟨h1, h2, h3, h4, h5, hk, h6⟩ := h
  rcases h6 with ⟨e1, e2, e3⟩ | ⟨e1, e2, e3, e4, e5⟩ <;> omega
theorem cu_cl {S S1 : dv_S} {f : Nat → Int32} {n i c st : Nat} (h : cu_inv S f n i S1 c st) : c ≤ i := by
  obtain ⟨h1, h2, h3, h4, h5, hk, h6⟩ := h
  have := cu_le f n i
  rcases h6 with ⟨e1, e2, e3⟩ | ⟨e1, e2, e3, e4, e5⟩ <;> omega
