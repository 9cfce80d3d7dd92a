section
variable {L : Int32} {xs : Nat → Int32} {n sn un w tn : Nat} {wl : Nat → Nat → Int32} {wm : Nat → Nat} {S S1 : dv_S}
theorem dv_ct_ext {p : Nat → Bool} : ∀ {n m : Nat}, n ≤ m → (∀ t, t < m → p t = true → t < n) → dv_ct p m = dv_ct p n
  | n, 0, h, _ => by rw [show n = 0 by omega]
  | n, m + 1, h, hp => by
    by_cases hn : n = m + 1
    · rw [hn]
    · have hf : p m = false := by
        cases hc : p m with
        | false => rfl
        | true => have := hp m (by omega) hc; omega
      rw [dv_ct_sf hf]
      exact dv_ct_ext (by omega) (fun t ht q => hp t (by omega) q)
theorem pe_ct (h : A_pe n S) (hn : n ≤ 80) : dv_ct (fun z => decide (¬ S.2.1 535 z = 0)) n = dv_ct (fun t => decide (¬ S.2.1 189 t = 0)) 80 := by
  rw [dv_ct_ext (n := n) (m := 80) (p := fun t => decide (¬ S.2.1 189 t = 0)) hn (fun t ht q => h.1 t ht (of_decide_eq_true q))]
  refine dv_ct_cong fun t ht => ?_
  rw [decide_eq_decide, (h.2.2 t ht).1]
theorem nn_eq (S : dv_S) (t : Nat) : tx S (nn S true t) = if S.2.1 189 t = 0 then tx S (25 + 2 * t) else tx S (191 + 2 * t) := by
  unfold nn
  by_cases h : S.2.1 189 t = 0 <;> simp [h]
/-- class's hinders is ghi -/
theorem cl_hi_ghi (hR : RelX L xs n sn un w tn wl wm S) : cl_hi S n un = ghi (hmS S) (wi S) (usS S) (utS S) (fun t => tx S (nn S true t)) n un := by
  have hb : ∀ t, t < n → cl_db S t = gdb (hmS S) (fun t => tx S (nn S true t)) t := by
    intro t ht
    unfold cl_db gdb
    rw [dv_fo_cong (fun k hk => ?_)]
    have h1 := (hR.S'.2.2 k (by omega)).1
    have h2 := (hR.S'.2.2 t ht).1
    have h3 : hmS S k < sn := (hR.S'.2.2 k (by omega)).2
    have h4 : hmS S t < sn := (hR.S'.2.2 t ht).2
    have h20 := hR.S'.2.1
    rw [show S.2.1 22 k = nI (hmS S k) from h1, show S.2.1 22 t = nI (hmS S t) from h2]
    congr 1
    rw [decide_eq_decide, nI_eq (by omega) (by omega)]
  unfold cl_hi ghi
  rw [dv_fo_cong hb]
  rfl
theorem hi_eq (hR : RelX L xs n sn un w tn wl wm S) (h1 : fr scF scG S S1) : ghi (hmS S) (wi S) (usS S) (utS S) (thA (rS S1) (fun t => tx S (191 + 2 * t)) (fun t => tx S (25 + 2 * t))) n un = cl_hi S n un := by
  rw [cl_hi_ghi hR]
  refine ghi_cong (fun t ht => ?_) (fun u hu => (hR.U.2.2 u hu).2.2.2)
  unfold thA
  rw [nn_eq, (h1.tr (rS_sc S1)).2.1 535 (by decide)]
  have := (hR.2.2.2.2.2.2.2.2.1.2.2 t ht).1
  by_cases h : S.2.1 189 t = 0
  · rw [if_pos h, if_pos (this.mpr h)]
  · rw [if_neg h, if_neg (fun q => h (this.mp q))]
end
