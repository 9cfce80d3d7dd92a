/-- first of its group, as the reference asks -/
def rfs (g : Nat → Int32) (v k : Nat) : Bool := !dv_ex (fun j => decide (g j = g v) && decide (j < v)) k
def rmn (g u : Nat → Int32) (v k : Nat) : Nat := dv_ct (fun j => decide (g j = g v) && decide (0 < u j)) k
def rmx (g u : Nat → Int32) (w : Nat) : Nat → Bool := fun v => rfs g v w && decide (1 < rmn g u v w)
theorem rfs_n {g : Nat → Int32} {v k : Nat} (h : ¬ g k = g v) : rfs g v (k + 1) = rfs g v k := by
  unfold rfs; rw [dv_ex, decide_eq_false h]; simp
theorem rfs_y {g : Nat → Int32} {v k : Nat} (h : g k = g v) : rfs g v (k + 1) = (rfs g v k && !decide (k < v)) := by
  unfold rfs; rw [dv_ex, decide_eq_true h, Bool.true_and, Bool.not_or]
theorem rmn_n {g u : Nat → Int32} {v k : Nat} (h : ¬ g k = g v) : rmn g u v (k + 1) = rmn g u v k := dv_ct_sf (by rw [decide_eq_false h]; rfl)
theorem rmn_y {g u : Nat → Int32} {v k : Nat} (h : g k = g v) : nI (rmn g u v k) + dv_b (decide (0 < u k)) = nI (rmn g u v (k + 1)) := by
  unfold rmn; rw [← ct_b, decide_eq_true h, Bool.true_and]
theorem rmn_le (g u : Nat → Int32) (v k : Nat) : rmn g u v k ≤ k := dv_ct_le _ _
theorem sg_b {S : dv_S} {w : Nat} {f : Nat → Int32} {m k a : Nat} : nI (a + sgp S w f m k) + dv_b (!ch_d (ch_lo (f ((cu f m m).2.1 k))) && decide (pk_w S w f m k = none)) = nI (a + sgp S w f m (k + 1)) := by
  rw [sgp]
  cases h : (!ch_d (ch_lo (f ((cu f m m).2.1 k))) && decide (pk_w S w f m k = none)) with
  | true => rw [if_pos rfl, ← Nat.add_assoc, ← nI_1]; rfl
  | false => rw [if_neg (by decide)]; exact Int32.add_zero _
