def haI (S : dv_S) (RN NN : Nat → List Int32) (n : Nat) (S1 : dv_S) : Prop := fr [] [536, 538, 541] S S1 ∧ ∀ j, j < n → rN1 S1 538 541 j (thA S RN NN j)
theorem ha_fr (S : dv_S) (n : Nat) : fr [] [536] S (S.1, dv_rw S.2.1 536 (fun _ => 1) n, S.2.2) := ⟨fun _ _ _ => rfl, fun a q => dv_rw_row (f := S.2.1) (by simpa using q), rfl⟩
theorem ha_of {S S1 : dv_S} {RN NN : Nat → List Int32} {n : Nat} (h : htI (S.1, dv_rw S.2.1 536 (fun _ => 1) n, S.2.2) RN NN n S1) : haI S RN NN n S1 := by
  refine ⟨((ha_fr S n).mono (by simp) (by simp)).tr (h.1.mono (by simp) (by simp)), fun j hj => ?_⟩
  rw [← thA_eq (n := n) RN NN j hj]; exact h.2 j hj
theorem thA_ok {S : dv_S} {n t : Nat} {RN NN : Nat → List Int32} (h : rwN S n RN NN) (ht : t < n) : (thA S RN NN t).length ≤ 24 ∧ ∀ x ∈ thA S RN NN t, ch_n x = true := by
  have := h t ht
  unfold thA; split
  · exact ⟨this.1.2.1, this.2.1⟩
  · rename_i q
    have h2 := this.2.2 q
    exact ⟨h2.1.2.1, h2.2⟩
theorem tnI0 {S : dv_S} {TN NN : Nat → List Int32} {n : Nat} (h : ∀ j, j < n → rN1 S 524 521 j (NN j)) : tnI S TN NN n 0 S := ⟨fr.rf _ _ _, fun j hj => absurd hj (Nat.not_lt_zero j), fun j _ hj => h j hj⟩
theorem rkf_n {S : dv_S} {hm : Nat → Nat} {an : Nat → Nat → Bool} {us ut : Nat → Nat} {RN NN : Nat → List Int32} {n un t : Nat} (h : S.2.1 535 t = 0 ∨ decide (ghi hm an us ut (rkn S RN NN (kpa (rkf S hm an us ut RN NN n un t) t)) n un = -2) = false) : rkf S hm an us ut RN NN n un (t + 1) = rkf S hm an us ut RN NN n un t := by
  rw [rkf, if_neg]
  rcases h with h | h
  · simp [h]
  · rw [h]; simp
theorem rkf_y {S : dv_S} {hm : Nat → Nat} {an : Nat → Nat → Bool} {us ut : Nat → Nat} {RN NN : Nat → List Int32} {n un t : Nat} (h : ¬ S.2.1 535 t = 0) (h2 : decide (ghi hm an us ut (rkn S RN NN (kpa (rkf S hm an us ut RN NN n un t) t)) n un = -2) = true) : rkf S hm an us ut RN NN n un (t + 1) = kpa (rkf S hm an us ut RN NN n un t) t := by
  rw [rkf, if_pos (by rw [h2]; simp [h])]
theorem kk0 (S : dv_S) (n : Nat) : kkI S n (fun _ => false) (S.1, dv_rw S.2.1 536 (fun _ => 0) n, S.2.2) := by
  refine ⟨⟨fun _ _ _ => rfl, fun a q => dv_rw_row (f := S.2.1) (by simp only [List.mem_cons, List.not_mem_nil, or_false, not_or] at q; exact q.1), rfl⟩, fun j hj => ?_⟩
  show dv_rw S.2.1 536 (fun _ => 0) n 536 j = _
  exact if_pos ⟨rfl, hj⟩
theorem kk_step {S S2 S4 : dv_S} {hm : Nat → Nat} {an : Nat → Nat → Bool} {us ut : Nat → Nat} {RN NN : Nat → List Int32} {n un t : Nat} (h : kkI S n (rkf S hm an us ut RN NN n un t) S2) (hf : ¬ S.2.1 535 t = 0) (e : fr [] [538, 541] (S2.1, dv_u S2.2.1 536 t 1, S2.2.2) S4) : kkI S n (rkf S hm an us ut RN NN n un (t + 1)) (S4.1, dv_u S4.2.1 536 t (dv_b (decide (ghi hm an us ut (rkn S RN NN (kpa (rkf S hm an us ut RN NN n un t) t)) n un = -2))), S4.2.2) := by
  have h1 : kkI S n (kpa (rkf S hm an us ut RN NN n un t) t) S4 := kk_fr (kk_eq (kk_set (t := t) h true) (kpa_if _ t)) e
  cases hd : decide (ghi hm an us ut (rkn S RN NN (kpa (rkf S hm an us ut RN NN n un t) t)) n un = -2) with
  | true =>
    rw [rkf_y hf hd]
    exact kk_eq (kk_set (t := t) h1 true) kpa_re
  | false =>
    rw [rkf_n (Or.inr hd)]
    exact kk_eq (kk_set (t := t) h1 false) (kpa_un (rkf_lt S hm an us ut RN NN n un t t (Nat.le_refl _)))
theorem kk_set1 {S S2 : dv_S} {n t : Nat} {K : Nat → Bool} (h : kkI S n K S2) : kkI S n (kpa K t) (S2.1, dv_u S2.2.1 536 t 1, S2.2.2) := kk_eq (kk_set (t := t) h true) (kpa_if _ t)
