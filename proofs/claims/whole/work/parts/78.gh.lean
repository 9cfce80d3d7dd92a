set_option maxRecDepth 20000 in
theorem nI_mm2 : ∀ t, t < 80 → ¬ nI t = -2 := by decide
set_option maxRecDepth 20000 in
theorem nI_m2k : ∀ u, u < 150 → ¬ 1000 + nI u = -2 := by decide
theorem ghi_iff {hm : Nat → Nat} {an : Nat → Nat → Bool} {us ut : Nat → Nat} {N : Nat → List Int32} {n un : Nat} (hn : n ≤ 80) (hu : un ≤ 150) : ghi hm an us ut N n un = -2 ↔ (∀ t, t < n → gdb hm N t = false) ∧ (∀ u, u < un → gst hm an us ut N n u = false) := by
  unfold ghi
  cases h : dv_fo (gdb hm N) n with
  | some t =>
    have h1 := dv_fo_spec h
    refine ⟨fun q => absurd q (nI_mm2 t (by omega)), fun q => ?_⟩
    have := q.1 t h1.1; rw [h1.2.1] at this; cases this
  | none =>
    cases h' : dv_fo (gst hm an us ut N n) un with
    | some u =>
      have h1 := dv_fo_spec h'
      refine ⟨fun q => absurd q (nI_m2k u (by omega)), fun q => ?_⟩
      have := q.2 u h1.1; rw [h1.2.1] at this; cases this
    | none => exact ⟨fun _ => ⟨dv_fo_no h, dv_fo_no h'⟩, fun _ => rfl⟩
def tnN (S : dv_S) (t : Nat) : List Int32 := if S.2.1 189 t = 0 then tx S (25 + 2 * t) else tx S (191 + 2 * t)
theorem pa_at (o ia : Nat) (S : dv_S) (t : Nat) (h : S.2.1 ia t = 0) : (dv_pa o ia S t).1 o 2 = S.1 o 2 + 1 ∧ ∀ j, (dv_pa o ia S t).2.1 ia j = if j = t then 1 else S.2.1 ia j := by
  unfold dv_pa; rw [if_pos h]
  refine ⟨dv_u_eq S.1 o 2 _, fun j => ?_⟩
  show dv_u S.2.1 ia t 1 ia j = _
  by_cases hj : j = t
  · rw [hj, dv_u_eq, if_pos rfl]
  · rw [dv_u_ne _ _ (by rintro ⟨-, q⟩; exact hj q), if_neg hj]
theorem trn_all (S : dv_S) : ∀ m, m ≤ 80 → (∀ t, t < m → tl S (25 + 2 * t) ∧ (¬ S.2.1 189 t = 0 → tl S (191 + 2 * t))) → (∀ t, t < m → tv (trn S m) (25 + 2 * t) (tnN S t)) ∧ (∀ t, t < m → ¬ S.2.1 189 t = 0 → tv (trn S m) (354 + 2 * t) (tx S (25 + 2 * t))) ∧ (∀ t, t < 80 → (trn S m).2.1 352 t = dv_b (decide (t < m ∧ ¬ S.2.1 189 t = 0))) ∧ (trn S m).1 351 2 = nI (dv_ct (fun t => decide (¬ S.2.1 189 t = 0)) m)
  | 0, _, _ => by
    refine ⟨fun t h => absurd h (Nat.not_lt_zero t), fun t h => absurd h (Nat.not_lt_zero t), fun t ht => ?_, ?_⟩
    · rw [decide_eq_false (by omega)]
      show dv_rw S.2.1 352 (fun _ => 0) 80 352 t = _
      exact if_pos ⟨rfl, ht⟩
    · show dv_u S.1 351 2 0 351 2 = _
      rw [dv_u_eq]; rfl
  | m + 1, hm, h => by
    obtain ⟨a1, a2, a3, a4⟩ := trn_all S m (by omega) (fun t ht => h t (by omega))
    have hF := trn_F S m (by omega)
    by_cases hc : S.2.1 189 m = 0
    · rw [trn_n hc]
      refine ⟨fun t ht => ?_, fun t ht q => ?_, fun t ht => ?_, ?_⟩
      · by_cases hq : t = m
        · subst hq
          unfold tnN; rw [if_pos hc]
          exact (tl_tv (h t ht).1).of (hF.1 _ 1 (by omega) (fun j hj => by omega)) (hF.2.1 _ (by omega) (fun j hj => by omega))
        · exact a1 t (by omega)
      · by_cases hq : t = m
        · subst hq; exact absurd hc q
        · exact a2 t (by omega) q
      · rw [a3 t ht]
        congr 1
        rw [decide_eq_decide]
        by_cases hq : t = m
        · subst hq; simp [hc]
        · constructor
          · exact fun q => ⟨by omega, q.2⟩
          · exact fun q => ⟨by omega, q.2⟩
      · rw [a4, dv_ct_sf (by simp [hc])]
    · have e0 := tx_fr (trn S m) (354 + 2 * m) (dn ((trn S m).1 (25 + 2 * m) 1)) ((trn S m).2.1 (25 + 2 * m + 1))
      have v0 : tv (dv_tx (trn S m) (354 + 2 * m) (dn ((trn S m).1 (25 + 2 * m) 1)) ((trn S m).2.1 (25 + 2 * m + 1))) (354 + 2 * m) (tx S (25 + 2 * m)) := by
        rw [hF.1 (25 + 2 * m) 1 (by omega) (fun j hj => by omega), hF.2.1 (25 + 2 * m + 1) (by omega) (fun j hj => by omega)]
        exact tx_tv _ _ _ (h m (by omega)).1.2
      have e1 := pa_fr 351 352 (dv_tx (trn S m) (354 + 2 * m) (dn ((trn S m).1 (25 + 2 * m) 1)) ((trn S m).2.1 (25 + 2 * m + 1))) m
      have p1 := pa_at 351 352 (dv_tx (trn S m) (354 + 2 * m) (dn ((trn S m).1 (25 + 2 * m) 1)) ((trn S m).2.1 (25 + 2 * m + 1))) m (by rw [e0.2.1 352 (by simp <;> omega), a3 m (by omega), decide_eq_false (by omega)]; rfl)
      have et : trn S (m + 1) = dv_tx (dv_pa 351 352 (dv_tx (trn S m) (354 + 2 * m) (dn ((trn S m).1 (25 + 2 * m) 1)) ((trn S m).2.1 (25 + 2 * m + 1))) m) (25 + 2 * m) (dn (S.1 (191 + 2 * m) 1)) (S.2.1 (191 + 2 * m + 1)) := by
        rw [trn, if_neg hc]; rfl
      rw [et]
      generalize dv_tx (trn S m) (354 + 2 * m) (dn ((trn S m).1 (25 + 2 * m) 1)) ((trn S m).2.1 (25 + 2 * m + 1)) = T0 at *
      generalize dv_pa 351 352 T0 m = T1 at *
      have e2 := tx_fr T1 (25 + 2 * m) (dn (S.1 (191 + 2 * m) 1)) (S.2.1 (191 + 2 * m + 1))
      have v2 : tv (dv_tx T1 (25 + 2 * m) (dn (S.1 (191 + 2 * m) 1)) (S.2.1 (191 + 2 * m + 1))) (25 + 2 * m) (tx S (191 + 2 * m)) := tx_tv _ _ _ ((h m (by omega)).2 hc).2
      generalize dv_tx T1 (25 + 2 * m) (dn (S.1 (191 + 2 * m) 1)) (S.2.1 (191 + 2 * m + 1)) = T2 at *
      refine ⟨fun t ht => ?_, fun t ht q => ?_, fun t ht => ?_, ?_⟩
      · by_cases hq : t = m
        · subst hq
          unfold tnN; rw [if_neg hc]; exact v2
        · exact tv_fr e2 (by simp <;> omega) (by simp <;> omega) (tv_fr e1 (by simp <;> omega) (by simp <;> omega) (tv_fr e0 (by simp <;> omega) (by simp <;> omega) (a1 t (by omega))))
      · by_cases hq : t = m
        · subst hq
          exact tv_fr e2 (by simp <;> omega) (by simp <;> omega) (tv_fr e1 (by simp <;> omega) (by simp <;> omega) v0)
        · exact tv_fr e2 (by simp <;> omega) (by simp <;> omega) (tv_fr e1 (by simp <;> omega) (by simp <;> omega) (tv_fr e0 (by simp <;> omega) (by simp <;> omega) (a2 t (by omega) q)))
      · rw [e2.2.1 352 (by simp <;> omega), p1.2 t, e0.2.1 352 (by simp <;> omega), a3 t ht]
        by_cases hq : t = m
        · subst hq
          rw [if_pos rfl, decide_eq_true (⟨by omega, hc⟩)]; rfl
        · rw [if_neg hq]
          congr 1
          rw [decide_eq_decide]
          constructor
          · exact fun q => ⟨by omega, q.2⟩
          · exact fun q => ⟨by omega, q.2⟩
      · rw [e2.1 351 2 (by simp <;> omega), p1.1, e0.1 351 2 (by simp <;> omega), a4, dv_ct_st (by simp [hc])]
        exact (nI_succ _).symm
