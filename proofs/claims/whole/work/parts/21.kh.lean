/-- Text.add, with or without room -/
def dv_ag (S : dv_S) (a n : Nat) (b : Int32) : dv_S := if n < dv_ln (a + 1) then dv_ap S a n b else (dv_u S.1 a 2 1, S.2)
theorem qX4_addG (d : Nat) (S : dv_S) (a n : Nat) (b : Int32) (ha : dv_kd a = 4) (ha1 : dv_kd (a + 1) = 10) (hn : S.1 a 1 = nI n) (hl : n ≤ dv_ln (a + 1)) : dv_M yX4_add cX4_add 2 none (dv_rm (d + 0)) [.ref a, .int b] S (fun r S' => r = none ∧ S' = dv_ag S a n b) := by
  by_cases h : n < dv_ln (a + 1)
  · rw [show dv_ag S a n b = dv_ap S a n b from if_pos h]
    exact qX4_add d S a n b ha ha1 hn h
  · rw [show dv_ag S a n b = (dv_u S.1 a 2 1, S.2) from if_neg h]
    exact qX4_addF d S a b ha ha1 (by rw [hn]; congr 1; omega)
/-- the first i of the tape taken -/
def dv_tk (S : dv_S) (i : Nat) : dv_S := (dv_u (dv_u S.1 3 1 (nI (min i 24))) 3 2 (if i ≤ 24 then 0 else 1), dv_rw S.2.1 4 (S.2.1 2) (min i 24), S.2.2)
theorem dv_tk_0 (S : dv_S) : (dv_u (dv_u S.1 3 1 0) 3 2 0, S.2) = dv_tk S 0 := by simp [dv_tk, dv_rw_0, nI_0]
theorem dv_tk_n (S : dv_S) (i : Nat) : (dv_tk S i).1 3 1 = nI (min i 24) := by simp [dv_tk, dv_u]
theorem dv_tk_F (S : dv_S) (i : Nat) {x k : Nat} (h : x ≠ 3) : (dv_tk S i).1 x k = S.1 x k := by
  show dv_u (dv_u S.1 3 1 _) 3 2 _ x k = _
  rw [dv_u_ne _ _ (by rintro ⟨q, -⟩; exact h q), dv_u_ne _ _ (by rintro ⟨q, -⟩; exact h q)]
theorem dv_tk_G (S : dv_S) (i : Nat) {x : Nat} (h : x ≠ 4) : (dv_tk S i).2.1 x = S.2.1 x := dv_rw_row h
theorem dv_tk_s (S : dv_S) (i : Nat) : dv_ag (dv_tk S i) 3 (min i 24) (S.2.1 2 i) = dv_tk S (i + 1) := by
  have h4 : dv_ln (3 + 1) = 24 := ln_4
  unfold dv_ag
  rw [h4]
  by_cases h : i < 24
  · have e1 : min i 24 = i := by omega
    have e2 : min (i + 1) 24 = i + 1 := by omega
    have h1 : i ≤ 24 := by omega
    have h2 : i + 1 ≤ 24 := by omega
    rw [if_pos (by omega)]
    simp only [dv_ap, dv_tk, e1, e2, h1, h2, if_true, dv_rw_s]
    rw [dv_us _ (a := 3) (k := 2) _ _ (by simp), dv_uu]
  · have e1 : min i 24 = 24 := by omega
    have e2 : min (i + 1) 24 = 24 := by omega
    have h2 : ¬ i + 1 ≤ 24 := by omega
    rw [if_neg (by omega)]
    simp only [dv_tk, e1, e2, h2, if_false, dv_uu]
/-- taken, and the tape empty -/
def dv_tc (S : dv_S) (k : Nat) : dv_S := (dv_u (dv_u (dv_tk S k).1 1 1 0) 1 2 0, (dv_tk S k).2)
