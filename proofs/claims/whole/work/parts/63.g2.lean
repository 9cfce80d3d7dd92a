abbrev OPQ (L : Int32) (xs : Nat → Int32) (yR : MethodName) (cR : ByteArray) (nR : Nat) (retR : Option FieldType) (d : Nat) (aR : List Value) : Option Value → dv_S → Prop := fun r S1 => ∃ v : Int32, r = some (.int v) ∧ dv_M yR cR nR retR (dv_rm (d + 7)) aR S1 (fun r2 S2 => r2 = some (.int v) ∧ Rel L xs S2)
section
variable {L : Int32} {xs : Nat → Int32} {n sn un w tn : Nat} {wl : Nat → Nat → Int32} {wm : Nat → Nat} {S S1 : dv_S} {d : Nat}
variable {y yR : MethodName} {cc cR : ByteArray} {nn0 nR : Nat} {ret retR : Option FieldType} {R : Room} {av aR : List Value} {v v' : Int32}
theorem opq (hR : RelX L xs n sn un w tn wl wm S) (hC : dv_M y cc nn0 ret (dv_rm (d + 7)) av S (fun r S1 => r = some (.int v) ∧ fr scF scG S S1)) (hM : ∀ S1, fr scF scG S S1 → dv_M yR cR nR retR (dv_rm (d + 7)) aR S1 (fun r S2 => r = some (.int v) ∧ fr scF scG S1 S2)) : dv_M y cc nn0 ret (dv_rm (d + 7)) av S (OPQ L xs yR cR nR retR d aR) :=
  dv_M_mono hC (fun r S1 h => ⟨v, h.1, dv_M_mono (hM S1 h.2) (fun r2 S2 h2 => ⟨h2.1, _, _, _, _, _, _, _, RelX_sc h2.2 (RelX_sc h.2 hR)⟩)⟩)
theorem cE (h : dv_M y cc nn0 ret R av S (fun r S' => r = some (.int v) ∧ S' = S)) : dv_M y cc nn0 ret R av S (fun r S' => r = some (.int v) ∧ fr scF scG S S') := dv_M_mono h (fun r S' h => ⟨h.1, by rw [h.2]; exact fr.rf _ _ _⟩)
theorem cS (h : dv_M y cc nn0 ret R av S (fun r S' => r = some (.int v) ∧ sc S S')) : dv_M y cc nn0 ret R av S (fun r S' => r = some (.int v) ∧ fr scF scG S S') := dv_M_mono h (fun r S' h => ⟨h.1, sc_sc h.2⟩)
theorem mE (hv : v' = v) (h : dv_M y cc nn0 ret R av S1 (fun r S' => r = some (.int v') ∧ S' = rS S1)) : dv_M y cc nn0 ret R av S1 (fun r S' => r = some (.int v) ∧ fr scF scG S1 S') := dv_M_mono h (fun r S' h => ⟨by rw [h.1, hv], by rw [h.2]; exact rS_sc _⟩)
theorem mR (hv : v' = v) (h : dv_M y cc nn0 ret R av S1 (fun r S' => r = some (.int v') ∧ rcF (rS S1) S')) : dv_M y cc nn0 ret R av S1 (fun r S' => r = some (.int v) ∧ fr scF scG S1 S') := dv_M_mono h (fun r S' h => ⟨by rw [h.1, hv], (rS_sc _).tr (rcF_sc h.2)⟩)
theorem mH (hv : v' = v) (h : dv_M y cc nn0 ret R av S1 (fun r S' => r = some (.int v') ∧ fr [] [536, 538, 541] (rS S1) S')) : dv_M y cc nn0 ret R av S1 (fun r S' => r = some (.int v) ∧ fr scF scG S1 S') := dv_M_mono h (fun r S' h => ⟨by rw [h.1, hv], (rS_sc _).tr (h.2.mono (by simp) (by simp))⟩)
theorem RelX_X1 (hR : RelX L xs n sn un w tn wl wm S) (h1 : fr scF scG S S1) : RX (rS S1) S n w wl wm := RX_fr (h1.tr (rS_sc S1)) hR.X (by decide) (by decide)
theorem in_or (x : Int32) {m : Int32} {n : Nat} (hm : m = nI n) (hn : n < 2 ^ 31) : decide (0 ≤ x ∧ x < m) = false ∨ ∃ t, t < n ∧ x = nI t := by
  cases h : decide (0 ≤ x ∧ x < m) with
  | false => exact Or.inl rfl
  | true => exact Or.inr (dv_idx hm hn h)
theorem kd_eq (x : Int32) : decide (0 ≤ x ∧ x ≤ 2) = decide (0 ≤ x ∧ x < 3) := by
  rw [decide_eq_decide]
  have : x ≤ 2 ↔ x < 3 := by
    rw [Int32.le_iff_toInt_le, Int32.lt_iff_toInt_lt]
    have e1 : (2 : Int32).toInt = 2 := by decide
    have e2 : (3 : Int32).toInt = 3 := by decide
    omega
  rw [this]
end
/-- counting by an injection -/
theorem ct_rm {q : Nat → Bool} {k : Nat} (hq : q k = true) : ∀ m, k < m → dv_ct q m = dv_ct (fun j => q j && !decide (j = k)) m + 1
  | 0, h => by omega
  | m + 1, h => by
    rw [dv_ct, dv_ct]
    by_cases hk : k = m
    · subst hk
      have e : dv_ct q k = dv_ct (fun j => q j && !decide (j = k)) k := dv_ct_cong (fun j hj => by rw [decide_eq_false (by omega)]; simp)
      rw [← e, hq]; simp
    · rw [ct_rm hq m (by omega), decide_eq_false (show ¬ m = k by omega)]
      simp; omega
theorem ct_inj : ∀ {n m : Nat} {p q : Nat → Bool} {f : Nat → Nat}, (∀ i, i < n → p i = true → f i < m ∧ q (f i) = true) → (∀ i j, i < n → j < n → p i = true → p j = true → f i = f j → i = j) → dv_ct p n ≤ dv_ct q m
  | 0, m, p, q, f, _, _ => Nat.zero_le _
  | n + 1, m, p, q, f, h1, h2 => by
    cases hp : p n with
    | false =>
      rw [dv_ct_sf hp]
      exact ct_inj (fun i hi hpi => h1 i (by omega) hpi) (fun i j hi hj => h2 i j (by omega) (by omega))
    | true =>
      rw [dv_ct_st hp]
      obtain ⟨a1, a2⟩ := h1 n (by omega) hp
      rw [ct_rm a2 m a1]
      refine Nat.succ_le_succ (ct_inj (f := f) (fun i hi hpi => ?_) (fun i j hi hj => h2 i j (by omega) (by omega)))
      obtain ⟨b1, b2⟩ := h1 i (by omega) hpi
      refine ⟨b1, ?_⟩
      rw [b2, decide_eq_false (fun q => by have := h2 i n (by omega) (by omega) hpi hp q; omega)]
      rfl
/-- the first of a group -/
def fsg (g : Nat → Int32) (w : Nat) (x : Int32) : Nat := match dv_fo (fun j => decide (g j = x)) w with
  | some j => j
  | none => 0
theorem fsg_ok {g : Nat → Int32} {w : Nat} {x : Int32} {k : Nat} (hk : k < w) (hg : g k = x) : fsg g w x < w ∧ g (fsg g w x) = x ∧ ∀ j, j < fsg g w x → ¬ g j = x := by
  unfold fsg
  cases h : dv_fo (fun j => decide (g j = x)) w with
  | none => have := dv_fo_no h k hk; rw [decide_eq_true hg] at this; cases this
  | some j =>
    obtain ⟨h1, h2, h3⟩ := dv_fo_spec h
    exact ⟨h1, of_decide_eq_true h2, fun i hi => of_decide_eq_false (h3 i hi)⟩
theorem rfs_iff {g : Nat → Int32} {v w : Nat} (hv : v < w) : rfs g v w = true ↔ fsg g w (g v) = v := by
  have hf := fsg_ok (g := g) hv rfl
  unfold rfs
  rw [Bool.not_eq_true']
  constructor
  · intro h
    refine Classical.byContradiction fun q => ?_
    have hlt : fsg g w (g v) < v := by
      refine Nat.lt_of_le_of_ne (Nat.le_of_not_lt fun z => hf.2.2 v z rfl) q
    have : dv_ex (fun j => decide (g j = g v) && decide (j < v)) w = true := dv_ex_iff.mpr ⟨_, hf.1, by rw [decide_eq_true hf.2.1, decide_eq_true hlt]; rfl⟩
    rw [h] at this; cases this
  · intro h
    cases hx : dv_ex (fun j => decide (g j = g v) && decide (j < v)) w with
    | false => rfl
    | true =>
      obtain ⟨j, hj, hp⟩ := dv_ex_iff.mp hx
      rw [Bool.and_eq_true, decide_eq_true_eq, decide_eq_true_eq] at hp
      exact absurd hp.1 (hf.2.2 j (by omega))
/-- groups by their marks and by their firsts -/
theorem mx_eq {g u : Nat → Int32} {w : Nat} (hw : w ≤ 60) (hg : ∀ j, j < w → ∃ m, m < w ∧ g j = nI m ∧ g m = nI m) : dv_ct (rmx g u w) w = dv_ct (fun z => decide (1 < dv_ct (fun k => decide (g k = nI z ∧ 0 < u k)) w)) w := by
  have hmk : ∀ j, j < w → dn (g j) < w ∧ g (dn (g j)) = g j := fun j hj => by
    obtain ⟨m, hm, e1, e2⟩ := hg j hj
    rw [e1, dn_nI (by omega)]; exact ⟨hm, e2⟩
  have hct : ∀ v, rmn g u v w = dv_ct (fun k => decide (g k = g v ∧ 0 < u k)) w := fun v => dv_ct_cong (fun k _ => by rw [Bool.decide_and])
  refine Nat.le_antisymm (ct_inj (f := fun v => dn (g v)) (fun v hv hp => ?_) (fun i j hi hj hpi hpj he => ?_)) (ct_inj (f := fun z => fsg g w (nI z)) (fun z hz hp => ?_) (fun i j hi hj hpi hpj he => ?_))
  · unfold rmx at hp
    rw [Bool.and_eq_true, decide_eq_true_eq, hct] at hp
    obtain ⟨m, hm, e1, e2⟩ := hg v hv
    refine ⟨(hmk v hv).1, ?_⟩
    show decide (1 < dv_ct (fun k => decide (g k = nI (dn (g v)) ∧ 0 < u k)) w) = true
    rw [e1] at hp ⊢
    rw [dn_nI (by omega)]
    exact decide_eq_true hp.2
  · unfold rmx at hpi hpj
    rw [Bool.and_eq_true] at hpi hpj
    have ei := (rfs_iff hi).mp hpi.1
    have ej := (rfs_iff hj).mp hpj.1
    have he : dn (g i) = dn (g j) := he
    have : g i = g j := by rw [← (hmk i hi).2, ← (hmk j hj).2, he]
    rw [← ei, ← ej, this]
  · have hp := of_decide_eq_true hp
    have hex : ∃ k, k < w ∧ g k = nI z := by
      refine Classical.byContradiction fun q => ?_
      have : dv_ct (fun k => decide (g k = nI z ∧ 0 < u k)) w = 0 := by
        rw [dv_ct_cong (q := fun _ => false) (fun k hk => decide_eq_false (fun r => q ⟨k, hk, r.1⟩)), dv_ct_ff]
      omega
    obtain ⟨k, hk, hgk⟩ := hex
    have hf := fsg_ok hk hgk
    refine ⟨hf.1, ?_⟩
    unfold rmx
    rw [Bool.and_eq_true, decide_eq_true_eq, hct]
    refine ⟨(rfs_iff hf.1).mpr (by rw [hf.2.1]), ?_⟩
    rw [hf.2.1]; exact hp
  · have hpi := of_decide_eq_true hpi
    have hpj := of_decide_eq_true hpj
    have hex : ∀ z, 1 < dv_ct (fun k => decide (g k = nI z ∧ 0 < u k)) w → ∃ k, k < w ∧ g k = nI z := by
      intro z hp
      refine Classical.byContradiction fun q => ?_
      have : dv_ct (fun k => decide (g k = nI z ∧ 0 < u k)) w = 0 := by
        rw [dv_ct_cong (q := fun _ => false) (fun k hk => decide_eq_false (fun r => q ⟨k, hk, r.1⟩)), dv_ct_ff]
      omega
    obtain ⟨k, hk, hgk⟩ := hex i hpi
    obtain ⟨k2, hk2, hgk2⟩ := hex j hpj
    have f1 := fsg_ok hk hgk
    have f2 := fsg_ok hk2 hgk2
    have he : fsg g w (nI i) = fsg g w (nI j) := he
    have e3 : nI i = nI j := by rw [← f1.2.1, ← f2.2.1, he]
    rwa [nI_eq (by omega) (by omega)] at e3
