theorem dv_tc_n (S : dv_S) (k : Nat) : (dv_tc S k).1 3 1 = nI (min k 24) := by
  show dv_u (dv_u (dv_tk S k).1 1 1 0) 1 2 0 3 1 = _
  rw [dv_u_ne _ _ (by simp), dv_u_ne _ _ (by simp), dv_tk_n]
theorem dv_tc_o (S : dv_S) (k : Nat) : (dv_tc S k).1 3 2 = (if k ≤ 24 then 0 else 1) := by
  show dv_u (dv_u (dv_tk S k).1 1 1 0) 1 2 0 3 2 = _
  rw [dv_u_ne _ _ (by simp), dv_u_ne _ _ (by simp)]
  simp [dv_tk, dv_u]
theorem dv_tc_r (S : dv_S) {k : Nat} (h : k ≤ 24) : dv_rd ((dv_tc S k).2.1 4) (min k 24) = dv_rd (S.2.1 2) k := by
  rw [dv_rd_eq]
  refine ⟨by omega, fun i hi => ?_⟩
  show dv_rw S.2.1 4 (S.2.1 2) (min k 24) 4 i = _
  exact if_pos ⟨rfl, hi⟩
theorem dv_tc_nm (S : dv_S) (k : Nat) : (decide ((dv_tc S k).1 3 2 = 0) && nm_ok (dv_rd ((dv_tc S k).2.1 4) (min k 24))) = nm_ok (dv_rd (S.2.1 2) k) := by
  rw [dv_tc_o]
  by_cases h : k ≤ 24
  · rw [if_pos h, dv_tc_r S h]; simp
  · rw [if_neg h]
    simp only [nm_ok, dv_rd_len]
    rw [decide_eq_false (show ¬ (1 ≤ k ∧ k ≤ 24) by omega)]
    simp
theorem dv_tc_wd (S : dv_S) (k : Nat) : (decide ((dv_tc S k).1 3 2 = 0) && wd_ok (dv_rd ((dv_tc S k).2.1 4) (min k 24))) = wd_ok (dv_rd (S.2.1 2) k) := by
  rw [dv_tc_o]
  by_cases h : k ≤ 24
  · rw [if_pos h, dv_tc_r S h]; simp
  · rw [if_neg h]
    simp only [wd_ok, dv_rd_len]
    rw [decide_eq_false (show ¬ (1 ≤ k ∧ k ≤ 12) by omega)]
    simp
/-- four bytes behind a text -/
def dv_an (S : dv_S) (a n : Nat) (x : Int32) : dv_S := dv_ap (dv_ap (dv_ap (dv_ap S a n ((x >>> (24 &&& 31)) &&& 255)) a (n + 1) ((x >>> (16 &&& 31)) &&& 255)) a (n + 2) ((x >>> (8 &&& 31)) &&& 255)) a (n + 3) ((x >>> (0 &&& 31)) &&& 255)
theorem dv_an_n (S : dv_S) (a n : Nat) (x : Int32) : (dv_an S a n x).1 a 1 = nI (n + 4) := dv_ap_n _ _ _ _
