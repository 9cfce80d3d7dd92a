theorem gdb_iff {hm : Nat → Nat} {N : Nat → List Int32} {t : Nat} : gdb hm N t = false ↔ ∀ k, k < t → ¬ (hm k = hm t ∧ N k = N t) := by
  unfold gdb
  rw [← Bool.not_eq_true, dv_fo_iff]
  constructor
  · intro h k hk q
    exact h ⟨k, hk, by simp [q.1, q.2]⟩
  · rintro h ⟨k, hk, q⟩
    simp only [Bool.and_eq_true, decide_eq_true_eq] at q
    exact h k hk q
theorem gst_iff {hm : Nat → Nat} {an : Nat → Nat → Bool} {us ut : Nat → Nat} {N : Nat → List Int32} {n u : Nat} : gst hm an us ut N n u = false ↔ cl_tm hm (fun t => an (us u) (hm t) && decide (N t = N (ut u))) n = some (ut u) := by
  unfold gst; simp
theorem fo_f {p : Nat → Bool} {n : Nat} : (dv_fo p n).isSome = false ↔ ∀ j, j < n → p j = false := by
  rw [← Bool.not_eq_true, dv_fo_iff]
  constructor
  · intro h j hj
    cases hp : p j with
    | false => rfl
    | true => exact absurd ⟨j, hj, hp⟩ h
  · rintro h ⟨j, hj, q⟩
    rw [h j hj] at q; cases q
/-- one thing gets another name: is all still safe -/
theorem sf_step {hm : Nat → Nat} {an : Nat → Nat → Bool} {us ut : Nat → Nat} {N N' : Nat → List Int32} {n un t : Nat} (hu : ∀ u, u < un → ut u < n) (ht : t < n) (hN : ∀ j, j ≠ t → N' j = N j) (h1 : ∀ t, t < n → gdb hm N t = false) (h2 : ∀ u, u < un → gst hm an us ut N n u = false) :
    ((∀ t, t < n → gdb hm N' t = false) ∧ (∀ u, u < un → gst hm an us ut N' n u = false)) ↔ ((∀ k, k < n → ¬ (k ≠ t ∧ hm k = hm t ∧ N' k = N' t)) ∧ (∀ u, u < un → ¬ (hm (ut u) < hm t ∧ an (us u) (hm t) = true ∧ N' (ut u) = N' t)) ∧ (∀ u, u < un → ¬ (ut u = t ∧ gst hm an us ut N' n u = true))) := by
  constructor
  · rintro ⟨a, b⟩
    refine ⟨fun k hk q => ?_, fun u hu' q => ?_, fun u hu' q => ?_⟩
    · by_cases hl : k < t
      · exact gdb_iff.mp (a t ht) k hl q.2
      · exact gdb_iff.mp (a k hk) t (by omega) ⟨q.2.1.symm, q.2.2.symm⟩
    · have := (cl_tm_some.mp (gst_iff.mp (b u hu'))).2.2.1 t ht (by simp [q.2.1, q.2.2])
      omega
    · have := b u hu'; rw [q.2] at this; cases this
  · rintro ⟨a, b, c⟩
    refine ⟨fun j hj => gdb_iff.mpr fun k hk q => ?_, fun u hu' => ?_⟩
    · by_cases hjt : j = t
      · subst hjt
        exact a k (by omega) ⟨by omega, q⟩
      · by_cases hkt : k = t
        · subst hkt
          exact a j hj ⟨hjt, q.1.symm, q.2.symm⟩
        · rw [hN j hjt, hN k hkt] at q
          exact gdb_iff.mp (h1 j hj) k hk q
    · by_cases hv : ut u = t
      · cases hg : gst hm an us ut N' n u with
        | false => rfl
        | true => exact absurd ⟨hv, hg⟩ (c u hu')
      · obtain ⟨b1, b2, b3, b4⟩ := cl_tm_some.mp (gst_iff.mp (h2 u hu'))
        have key : ∀ s, s < n → (an (us u) (hm s) && decide (N' s = N' (ut u))) = true → (s = t ∧ hm s < hm (ut u)) ∨ (an (us u) (hm s) && decide (N s = N (ut u))) = true := by
          intro s hs q
          by_cases hst : s = t
          · subst hst
            simp only [Bool.and_eq_true, decide_eq_true_eq] at q
            left
            refine ⟨rfl, ?_⟩
            have x1 := b u hu'
            have x2 := a (ut u) (hu u hu')
            have x3 : ¬ hm (ut u) < hm s := fun z => x1 ⟨z, q.1, q.2.symm⟩
            have x4 : ¬ hm (ut u) = hm s := fun z => x2 ⟨hv, z, q.2.symm⟩
            omega
          · right
            rw [hN s hst, hN _ hv] at q; exact q
        refine gst_iff.mpr (cl_tm_some.mpr ⟨b1, ?_, fun s hs q => ?_, fun s hs q => ?_⟩)
        · simp only [Bool.and_eq_true, decide_eq_true_eq] at b2 ⊢
          exact ⟨b2.1, trivial⟩
        · rcases key s hs q with z | z
          · omega
          · exact b3 s hs z
        · rcases key s (by omega) q with z | z
          · omega
          · exact b4 s hs z
def kN (S : dv_S) (K : Nat → Bool) (t : Nat) : List Int32 := if K t = true then tx S (191 + 2 * t) else tx S (25 + 2 * t)
theorem kN_eq (S : dv_S) (K : Nat → Bool) {t : Nat} (ht : t < 80) : tx (kpS S K) (nn (kpS S K) true t) = kN S K t := by
  have e := fr_2 (kpS_fr S K)
  rw [nn_eq, kpS_189 S K ht, fr2_tx e (by simp <;> omega) (by simp <;> omega), fr2_tx e (by simp <;> omega) (by simp <;> omega)]
  unfold kN
  have z : (dv_b (K t) = 0) ↔ ¬ K t = true := by cases K t <;> decide
  by_cases hk : K t = true
  · rw [if_pos hk, if_neg (fun q => (z.mp q) hk)]
  · rw [if_neg hk, if_pos (z.mpr hk)]
section
variable {L : Int32} {xs : Nat → Int32} {n sn un w tn : Nat} {wl : Nat → Nat → Int32} {wm : Nat → Nat} {S : dv_S}
theorem kp_iff (hR : RelX L xs n sn un w tn wl wm S) {K : Nat → Bool} {t : Nat} (ht : t < n) (hs : sfe S n un (kN S K)) : (!cl_no (kpS S (kpa K t)) n t && !cl_wc (kpS S (kpa K t)) un t && !cl_us (kpS S (kpa K t)) n un t) = true ↔ sfe S n un (kN S (kpa K t)) := by
  obtain ⟨r1, r2, r3, r4, r5, r6, r7, r8, r9, r10, r11⟩ := hR
  have hn := r5.1.2.2
  have e := fr_2 (kpS_fr S (kpa K t))
  have hN := fun j (hj : j < n) => kN_eq S (kpa K t) (t := j) (by omega)
  have i1 := hm_fr e (by decide)
  have i2 := us_fr e (by decide)
  have i3 := ut_fr e (by decide)
  have i4 := wi_fr e (by decide)
  have i5 := e.2 22 (by decide)
  have hs20 : sn ≤ 20 := r4.2.2.1
  have q := sf_step (hm := hmS S) (an := wi S) (us := usS S) (ut := utS S) (N := kN S K) (N' := kN S (kpa K t)) (fun u hu => (r6.2 u hu).2.2.2.1) ht (fun j hj => by unfold kN kpa; rw [decide_eq_false hj, Bool.or_false]) hs.1 hs.2
  unfold sfe
  rw [q]
  have x1 : cl_no (kpS S (kpa K t)) n t = false ↔ ∀ k, k < n → ¬ (k ≠ t ∧ hmS S k = hmS S t ∧ kN S (kpa K t) k = kN S (kpa K t) t) := by
    unfold cl_no
    rw [fo_f]
    refine forall_congr' fun k => forall_congr' fun hk => ?_
    have a1 := (r5.2 k hk).1
    have a2 := (r5.2 t ht).1
    rw [hN k hk, hN t ht, i1, i5, a1.1]
    have y1 : (nI k = nI t) ↔ k = t := nI_eq (by omega) (by omega)
    have y2 : (nI (hmS S k) = nI (hmS S t)) ↔ hmS S k = hmS S t := nI_eq (by omega) (by omega)
    rw [← Bool.not_eq_true]
    simp only [Bool.and_eq_true, Bool.not_eq_true', decide_eq_true_eq, decide_eq_false_iff_not, y1, y2, ne_eq, and_assoc]
  have x2 : cl_wc (kpS S (kpa K t)) un t = false ↔ ∀ u, u < un → ¬ (hmS S (utS S u) < hmS S t ∧ wi S (usS S u) (hmS S t) = true ∧ kN S (kpa K t) (utS S u) = kN S (kpa K t) t) := by
    unfold cl_wc
    rw [fo_f]
    refine forall_congr' fun u => forall_congr' fun hu => ?_
    rw [i1, i2, i3, i4, hN t ht, hN _ (r6.2 u hu).2.2.2.1, ← Bool.not_eq_true]
    simp only [Bool.and_eq_true, decide_eq_true_eq, and_assoc]
  have x3 : cl_us (kpS S (kpa K t)) n un t = false ↔ ∀ u, u < un → ¬ (utS S u = t ∧ gst (hmS S) (wi S) (usS S) (utS S) (kN S (kpa K t)) n u = true) := by
    unfold cl_us
    rw [fo_f]
    refine forall_congr' fun u => forall_congr' fun hu => ?_
    have a3 := (r6.2 u hu).2.2.2.1
    have y : cl_st (kpS S (kpa K t)) n u = gst (hmS S) (wi S) (usS S) (utS S) (kN S (kpa K t)) n u := by
      unfold cl_st gst
      rw [i1, i2, i3, i4, hN _ a3, cl_tm_cong (fun s hs => by rw [hN s hs])]
    rw [y, i3, ← Bool.not_eq_true]
    simp only [Bool.and_eq_true, decide_eq_true_eq]
  rw [← x1, ← x2, ← x3]
  simp only [Bool.and_eq_true, Bool.not_eq_true', and_assoc]
end
