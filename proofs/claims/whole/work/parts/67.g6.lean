section
variable {L : Int32} {xs : Nat → Int32} {n sn un w tn : Nat} {wl : Nat → Nat → Int32} {wm : Nat → Nat} {S : dv_S}
/-- a use stands within the home of what it means -/
theorem RelX_an (hR : RelX L xs n sn un w tn wl wm S) : ∀ u, u < un → wi S (usS S u) (hmS S (utS S u)) = true := by
  intro u hu
  have h := hR.2.2.2.2.2.2.2.2.2.1.2 u hu
  unfold gst at h
  rw [Bool.not_eq_false', decide_eq_true_eq, cl_tm_some] at h
  have h2 := h.2.1
  rw [Bool.and_eq_true] at h2
  exact h2.1
end
