set_option maxRecDepth 100000 in
set_option maxHeartbeats 400000 in
theorem qX8_useN1 (d : Nat) (S : dv_S) (S1 : dv_S) (x z : Int32) (h0 : rS S = S1) (hx : decide (0 ≤ x ∧ x < S1.1 516 4) = false)  : dv_M yX8_use cX8_use 4 (some .int) (dv_rm (d + 3)) [.ref 516, .int x, .int z] S (fun r S' => r = some (.int (-1)) ∧ S' = (rT S1 1)) := by
  refine dv_M_of [some (.ref 516), some (.int x), some (.int z), none] (by decide) (fun _ _ => Nat.le_of_ble_eq_true rfl) (fun _ _ => rfl) ?_
  refine J_aload_n dX8_use_0 (pc' := 1) rfl rfl ?_
  refine J_iconst dX8_use_1 (pc' := 2) rfl (v := 0) ic_0 ?_
  refine J_puti fX8_1 kd_516 rf_516_0 dX8_use_2 (pc' := 5) rfl ?_
  refine J_sto (S' := S1) (h0) ?_
  refine J_aload_n dX8_use_5 (pc' := 6) rfl rfl ?_
  refine J_iload_n dX8_use_6 (pc' := 7) rfl rfl ?_
  refine J_v1 (As := [.int x]) (rest := []) (qX8_isScope _ _ _) vX8_isScope mX8_123 kd_516 dX8_use_7 (pc' := 10) rfl rfl (Nat.le_of_ble_eq_true rfl) (by decide) ?_
  refine J_bne dX8_use_10 (pt := 19) (by decide) (pc' := 13) rfl (fun c10 => ?_) (fun c10 => ?_)
  · exact absurd c10 (by rw [hx]; decide)
  · refine J_aload_n dX8_use_13 (pc' := 14) rfl rfl ?_
    refine J_iconst dX8_use_14 (pc' := 15) rfl (v := 1) ic_1 ?_
    refine J_v1 (As := [.int 1]) (rest := []) (qX8_refused _ _ _) vX8_refused mX8_126 kd_516 dX8_use_15 (pc' := 18) rfl rfl (Nat.le_of_ble_eq_true rfl) (by decide) ?_
    refine J_iret dX8_use_18 rfl (dv_r1 _) ?_
    exact ⟨rfl, rfl⟩
set_option maxRecDepth 100000 in
set_option maxHeartbeats 400000 in
theorem qX8_useN2 (d : Nat) (S : dv_S) (S1 : dv_S) (z : Int32) (sn q : Nat) (h0 : rS S = S1) (hS4 : S1.1 516 4 = nI sn) (h20 : sn ≤ 20) (hq : q < sn) (hz : decide (0 ≤ z ∧ z ≤ S1.1 516 3) = false)  : dv_M yX8_use cX8_use 4 (some .int) (dv_rm (d + 3)) [.ref 516, .int (nI q), .int z] S (fun r S' => r = some (.int (-1)) ∧ S' = (rT S1 2)) := by
  refine dv_M_of [some (.ref 516), some (.int (nI q)), some (.int z), none] (by decide) (fun _ _ => Nat.le_of_ble_eq_true rfl) (fun _ _ => rfl) ?_
  refine J_aload_n dX8_use_0 (pc' := 1) rfl rfl ?_
  refine J_iconst dX8_use_1 (pc' := 2) rfl (v := 0) ic_0 ?_
  refine J_puti fX8_1 kd_516 rf_516_0 dX8_use_2 (pc' := 5) rfl ?_
  refine J_sto (S' := S1) (h0) ?_
  refine J_aload_n dX8_use_5 (pc' := 6) rfl rfl ?_
  refine J_iload_n dX8_use_6 (pc' := 7) rfl rfl ?_
  refine J_v1 (As := [.int (nI q)]) (rest := []) (qX8_isScope _ _ _) vX8_isScope mX8_123 kd_516 dX8_use_7 (pc' := 10) rfl rfl (Nat.le_of_ble_eq_true rfl) (by decide) ?_
  refine J_bne dX8_use_10 (pt := 19) (by decide) (pc' := 13) rfl (fun c10 => ?_) (fun c10 => ?_)
  · refine J_aload_n dX8_use_19 (pc' := 20) rfl rfl ?_
    refine J_iload_n dX8_use_20 (pc' := 21) rfl rfl ?_
    refine J_v1 (As := [.int z]) (rest := []) (qX8_isTaped _ _ _) vX8_isTaped mX8_140 kd_516 dX8_use_21 (pc' := 24) rfl rfl (Nat.le_of_ble_eq_true rfl) (by decide) ?_
    refine J_bne dX8_use_24 (pt := 33) (by decide) (pc' := 27) rfl (fun c24 => ?_) (fun c24 => ?_)
    · exact absurd c24 (by rw [hz]; decide)
    · refine J_aload_n dX8_use_27 (pc' := 28) rfl rfl ?_
      refine J_iconst dX8_use_28 (pc' := 29) rfl (v := 2) ic_2 ?_
      refine J_v1 (As := [.int 2]) (rest := []) (qX8_refused _ _ _) vX8_refused mX8_126 kd_516 dX8_use_29 (pc' := 32) rfl rfl (Nat.le_of_ble_eq_true rfl) (by decide) ?_
      refine J_iret dX8_use_32 rfl (dv_r1 _) ?_
      exact ⟨rfl, rfl⟩
  · exact absurd (dv_has hq hS4 (by omega)) (by rw [c10]; decide)
set_option maxRecDepth 100000 in
set_option maxHeartbeats 400000 in
theorem qX8_useN3 (d : Nat) (S : dv_S) (S1 : dv_S) (sn q tn : Nat) (L : List Int32) (h0 : rS S = S1) (hS4 : S1.1 516 4 = nI sn) (h20 : sn ≤ 20) (hq : q < sn) (htn : S1.1 516 3 = nI tn) (hk : L.length ≤ tn) (h200 : tn ≤ 200) (hL : dv_rd (fun z => S1.2.1 517 (0 + z)) L.length = L) (hc : nm_ok L = false)  : dv_M yX8_use cX8_use 4 (some .int) (dv_rm (d + 3)) [.ref 516, .int (nI q), .int (nI (L.length))] S (fun r S' => r = some (.int (-1)) ∧ S' = (rT (rK S1) 2)) := by
  refine dv_M_of [some (.ref 516), some (.int (nI q)), some (.int (nI (L.length))), none] (by decide) (fun _ _ => Nat.le_of_ble_eq_true rfl) (fun _ _ => rfl) ?_
  refine J_aload_n dX8_use_0 (pc' := 1) rfl rfl ?_
  refine J_iconst dX8_use_1 (pc' := 2) rfl (v := 0) ic_0 ?_
  refine J_puti fX8_1 kd_516 rf_516_0 dX8_use_2 (pc' := 5) rfl ?_
  refine J_sto (S' := S1) (h0) ?_
  refine J_aload_n dX8_use_5 (pc' := 6) rfl rfl ?_
  refine J_iload_n dX8_use_6 (pc' := 7) rfl rfl ?_
  refine J_v1 (As := [.int (nI q)]) (rest := []) (qX8_isScope _ _ _) vX8_isScope mX8_123 kd_516 dX8_use_7 (pc' := 10) rfl rfl (Nat.le_of_ble_eq_true rfl) (by decide) ?_
  refine J_bne dX8_use_10 (pt := 19) (by decide) (pc' := 13) rfl (fun c10 => ?_) (fun c10 => ?_)
  · refine J_aload_n dX8_use_19 (pc' := 20) rfl rfl ?_
    refine J_iload_n dX8_use_20 (pc' := 21) rfl rfl ?_
    refine J_v1 (As := [.int (nI (L.length))]) (rest := []) (qX8_isTaped _ _ _) vX8_isTaped mX8_140 kd_516 dX8_use_21 (pc' := 24) rfl rfl (Nat.le_of_ble_eq_true rfl) (by decide) ?_
    refine J_bne dX8_use_24 (pt := 33) (by decide) (pc' := 27) rfl (fun c24 => ?_) (fun c24 => ?_)
    · refine J_aload_n dX8_use_33 (pc' := 34) rfl rfl ?_
      refine J_iconst dX8_use_34 (pc' := 35) rfl (v := 0) ic_0 ?_
      refine J_puti fX8_10 kd_516 rf_516_3 dX8_use_35 (pc' := 38) rfl ?_
      refine J_aload_n dX8_use_38 (pc' := 39) rfl rfl ?_
      refine J_getr fX8_13 kd_516 rf_516_2 dX8_use_39 (pc' := 42) rfl ?_
      refine J_iconst dX8_use_42 (pc' := 43) rfl (v := 0) ic_0 ?_
      refine J_top (w := .int (nI 0)) (by rw [nI_0]) ?_
      refine J_iload_n dX8_use_43 (pc' := 44) rfl rfl ?_
      refine J_s1 (As := [.ref 517, .int (nI 0), .int (nI (L.length))]) (rest := []) (qX8_isName _ (rK S1) 517 0 L.length kd_517 (by rw [ln_517]; omega)) vX8_isName mX8_143 dX8_use_44 (pc' := 47) rfl rfl (Nat.le_of_ble_eq_true rfl) (by decide) ?_
      refine J_top (w := .int (dv_b (nm_ok L))) (by rw [hL]) ?_
      refine J_bne dX8_use_47 (pt := 56) (by decide) (pc' := 50) rfl (fun c47 => ?_) (fun c47 => ?_)
      · exact absurd c47 (by rw [hc]; decide)
      · refine J_aload_n dX8_use_50 (pc' := 51) rfl rfl ?_
        refine J_iconst dX8_use_51 (pc' := 52) rfl (v := 2) ic_2 ?_
        refine J_v1 (As := [.int 2]) (rest := []) (qX8_refused _ _ _) vX8_refused mX8_126 kd_516 dX8_use_52 (pc' := 55) rfl rfl (Nat.le_of_ble_eq_true rfl) (by decide) ?_
        refine J_iret dX8_use_55 rfl (dv_r1 _) ?_
        exact ⟨rfl, rfl⟩
    · rw [htn] at c24
      exact absurd (show 0 ≤ nI L.length ∧ nI L.length ≤ nI tn from ⟨nI_pos' (by omega), nI_le hk (by omega)⟩) (of_decide_eq_false c24)
  · exact absurd (dv_has hq hS4 (by omega)) (by rw [c10]; decide)
set_option maxRecDepth 100000 in
set_option maxHeartbeats 400000 in
theorem qX8_findN1 (d : Nat) (S : dv_S) (S1 : dv_S) (x z : Int32) (h0 : rS S = S1) (hx : decide (0 ≤ x ∧ x < S1.1 516 4) = false)  : dv_M yX8_find cX8_find 3 (some .int) (dv_rm (d + 3)) [.ref 516, .int x, .int z] S (fun r S' => r = some (.int (-1)) ∧ S' = (rT S1 1)) := by
  refine dv_M_of [some (.ref 516), some (.int x), some (.int z)] (by decide) (fun _ _ => Nat.le_of_ble_eq_true rfl) (fun _ _ => rfl) ?_
  refine J_aload_n dX8_find_0 (pc' := 1) rfl rfl ?_
  refine J_iconst dX8_find_1 (pc' := 2) rfl (v := 0) ic_0 ?_
  refine J_puti fX8_1 kd_516 rf_516_0 dX8_find_2 (pc' := 5) rfl ?_
  refine J_sto (S' := S1) (h0) ?_
  refine J_aload_n dX8_find_5 (pc' := 6) rfl rfl ?_
  refine J_iload_n dX8_find_6 (pc' := 7) rfl rfl ?_
  refine J_v1 (As := [.int x]) (rest := []) (qX8_isScope _ _ _) vX8_isScope mX8_123 kd_516 dX8_find_7 (pc' := 10) rfl rfl (Nat.le_of_ble_eq_true rfl) (by decide) ?_
  refine J_bne dX8_find_10 (pt := 19) (by decide) (pc' := 13) rfl (fun c10 => ?_) (fun c10 => ?_)
  · exact absurd c10 (by rw [hx]; decide)
  · refine J_aload_n dX8_find_13 (pc' := 14) rfl rfl ?_
    refine J_iconst dX8_find_14 (pc' := 15) rfl (v := 1) ic_1 ?_
    refine J_v1 (As := [.int 1]) (rest := []) (qX8_refused _ _ _) vX8_refused mX8_126 kd_516 dX8_find_15 (pc' := 18) rfl rfl (Nat.le_of_ble_eq_true rfl) (by decide) ?_
    refine J_iret dX8_find_18 rfl (dv_r1 _) ?_
    exact ⟨rfl, rfl⟩
set_option maxRecDepth 100000 in
set_option maxHeartbeats 400000 in
theorem qX8_findN2 (d : Nat) (S : dv_S) (S1 : dv_S) (z : Int32) (sn q : Nat) (h0 : rS S = S1) (hS4 : S1.1 516 4 = nI sn) (h20 : sn ≤ 20) (hq : q < sn) (hz : decide (0 ≤ z ∧ z ≤ S1.1 516 3) = false)  : dv_M yX8_find cX8_find 3 (some .int) (dv_rm (d + 3)) [.ref 516, .int (nI q), .int z] S (fun r S' => r = some (.int (-1)) ∧ S' = (rT S1 2)) := by
  refine dv_M_of [some (.ref 516), some (.int (nI q)), some (.int z)] (by decide) (fun _ _ => Nat.le_of_ble_eq_true rfl) (fun _ _ => rfl) ?_
  refine J_aload_n dX8_find_0 (pc' := 1) rfl rfl ?_
  refine J_iconst dX8_find_1 (pc' := 2) rfl (v := 0) ic_0 ?_
  refine J_puti fX8_1 kd_516 rf_516_0 dX8_find_2 (pc' := 5) rfl ?_
  refine J_sto (S' := S1) (h0) ?_
  refine J_aload_n dX8_find_5 (pc' := 6) rfl rfl ?_
  refine J_iload_n dX8_find_6 (pc' := 7) rfl rfl ?_
  refine J_v1 (As := [.int (nI q)]) (rest := []) (qX8_isScope _ _ _) vX8_isScope mX8_123 kd_516 dX8_find_7 (pc' := 10) rfl rfl (Nat.le_of_ble_eq_true rfl) (by decide) ?_
  refine J_bne dX8_find_10 (pt := 19) (by decide) (pc' := 13) rfl (fun c10 => ?_) (fun c10 => ?_)
  · refine J_aload_n dX8_find_19 (pc' := 20) rfl rfl ?_
    refine J_iload_n dX8_find_20 (pc' := 21) rfl rfl ?_
    refine J_v1 (As := [.int z]) (rest := []) (qX8_isTaped _ _ _) vX8_isTaped mX8_140 kd_516 dX8_find_21 (pc' := 24) rfl rfl (Nat.le_of_ble_eq_true rfl) (by decide) ?_
    refine J_bne dX8_find_24 (pt := 33) (by decide) (pc' := 27) rfl (fun c24 => ?_) (fun c24 => ?_)
    · exact absurd c24 (by rw [hz]; decide)
    · refine J_aload_n dX8_find_27 (pc' := 28) rfl rfl ?_
      refine J_iconst dX8_find_28 (pc' := 29) rfl (v := 2) ic_2 ?_
      refine J_v1 (As := [.int 2]) (rest := []) (qX8_refused _ _ _) vX8_refused mX8_126 kd_516 dX8_find_29 (pc' := 32) rfl rfl (Nat.le_of_ble_eq_true rfl) (by decide) ?_
      refine J_iret dX8_find_32 rfl (dv_r1 _) ?_
      exact ⟨rfl, rfl⟩
  · exact absurd (dv_has hq hS4 (by omega)) (by rw [c10]; decide)
set_option maxRecDepth 100000 in
set_option maxHeartbeats 400000 in
theorem qX8_findN3 (d : Nat) (S : dv_S) (S1 : dv_S) (sn q tn : Nat) (L : List Int32) (h0 : rS S = S1) (hS4 : S1.1 516 4 = nI sn) (h20 : sn ≤ 20) (hq : q < sn) (htn : S1.1 516 3 = nI tn) (hk : L.length ≤ tn) (h200 : tn ≤ 200) (hL : dv_rd (fun z => S1.2.1 517 (0 + z)) L.length = L) (hc : nm_ok L = false)  : dv_M yX8_find cX8_find 3 (some .int) (dv_rm (d + 3)) [.ref 516, .int (nI q), .int (nI (L.length))] S (fun r S' => r = some (.int (-1)) ∧ S' = (rT (rK S1) 2)) := by
  refine dv_M_of [some (.ref 516), some (.int (nI q)), some (.int (nI (L.length)))] (by decide) (fun _ _ => Nat.le_of_ble_eq_true rfl) (fun _ _ => rfl) ?_
  refine J_aload_n dX8_find_0 (pc' := 1) rfl rfl ?_
  refine J_iconst dX8_find_1 (pc' := 2) rfl (v := 0) ic_0 ?_
  refine J_puti fX8_1 kd_516 rf_516_0 dX8_find_2 (pc' := 5) rfl ?_
  refine J_sto (S' := S1) (h0) ?_
  refine J_aload_n dX8_find_5 (pc' := 6) rfl rfl ?_
  refine J_iload_n dX8_find_6 (pc' := 7) rfl rfl ?_
  refine J_v1 (As := [.int (nI q)]) (rest := []) (qX8_isScope _ _ _) vX8_isScope mX8_123 kd_516 dX8_find_7 (pc' := 10) rfl rfl (Nat.le_of_ble_eq_true rfl) (by decide) ?_
  refine J_bne dX8_find_10 (pt := 19) (by decide) (pc' := 13) rfl (fun c10 => ?_) (fun c10 => ?_)
  · refine J_aload_n dX8_find_19 (pc' := 20) rfl rfl ?_
    refine J_iload_n dX8_find_20 (pc' := 21) rfl rfl ?_
    refine J_v1 (As := [.int (nI (L.length))]) (rest := []) (qX8_isTaped _ _ _) vX8_isTaped mX8_140 kd_516 dX8_find_21 (pc' := 24) rfl rfl (Nat.le_of_ble_eq_true rfl) (by decide) ?_
    refine J_bne dX8_find_24 (pt := 33) (by decide) (pc' := 27) rfl (fun c24 => ?_) (fun c24 => ?_)
    · refine J_aload_n dX8_find_33 (pc' := 34) rfl rfl ?_
      refine J_iconst dX8_find_34 (pc' := 35) rfl (v := 0) ic_0 ?_
      refine J_puti fX8_10 kd_516 rf_516_3 dX8_find_35 (pc' := 38) rfl ?_
      refine J_aload_n dX8_find_38 (pc' := 39) rfl rfl ?_
      refine J_getr fX8_13 kd_516 rf_516_2 dX8_find_39 (pc' := 42) rfl ?_
      refine J_iconst dX8_find_42 (pc' := 43) rfl (v := 0) ic_0 ?_
      refine J_top (w := .int (nI 0)) (by rw [nI_0]) ?_
      refine J_iload_n dX8_find_43 (pc' := 44) rfl rfl ?_
      refine J_s1 (As := [.ref 517, .int (nI 0), .int (nI (L.length))]) (rest := []) (qX8_isName _ (rK S1) 517 0 L.length kd_517 (by rw [ln_517]; omega)) vX8_isName mX8_143 dX8_find_44 (pc' := 47) rfl rfl (Nat.le_of_ble_eq_true rfl) (by decide) ?_
      refine J_top (w := .int (dv_b (nm_ok L))) (by rw [hL]) ?_
      refine J_bne dX8_find_47 (pt := 56) (by decide) (pc' := 50) rfl (fun c47 => ?_) (fun c47 => ?_)
      · exact absurd c47 (by rw [hc]; decide)
      · refine J_aload_n dX8_find_50 (pc' := 51) rfl rfl ?_
        refine J_iconst dX8_find_51 (pc' := 52) rfl (v := 2) ic_2 ?_
        refine J_v1 (As := [.int 2]) (rest := []) (qX8_refused _ _ _) vX8_refused mX8_126 kd_516 dX8_find_52 (pc' := 55) rfl rfl (Nat.le_of_ble_eq_true rfl) (by decide) ?_
        refine J_iret dX8_find_55 rfl (dv_r1 _) ?_
        exact ⟨rfl, rfl⟩
    · rw [htn] at c24
      exact absurd (show 0 ≤ nI L.length ∧ nI L.length ≤ nI tn from ⟨nI_pos' (by omega), nI_le hk (by omega)⟩) (of_decide_eq_false c24)
  · exact absurd (dv_has hq hS4 (by omega)) (by rw [c10]; decide)
set_option maxRecDepth 100000 in
set_option maxHeartbeats 400000 in
theorem qX8_findY (d : Nat) (S : dv_S) (S1 : dv_S) (n sn : Nat) (hm : Nat → Nat) (an : Nat → Nat → Bool) (N : Nat → List Int32) (L : List Int32) (q tn : Nat) (h0 : rS S = S1) (hT : rw_T (rK S1) n) (hS : rw_S (rK S1) n sn hm an) (hq : q < sn) (hN : rNm (rK S1) 524 521 n N) (htn : S1.1 516 3 = nI tn) (hk : L.length ≤ tn) (h200 : tn ≤ 200) (hL : dv_rd (fun z => S1.2.1 517 (0 + z)) L.length = L) (hc : nm_ok L = true)  : dv_M yX8_find cX8_find 3 (some .int) (dv_rm (d + 3)) [.ref 516, .int (nI q), .int (nI (L.length))] S (fun r S' => r = some (.int (dv_oi (cl_tm hm (fun t => an q (hm t) && decide (N t = L)) n))) ∧ S' = (rT (rK S1) 0)) := by
  have h80 := hT.2
  have h20 := hS.2.1
  have hS4 : S1.1 516 4 = nI sn := hS.1
  have hlen := nm_len hc
  have hS5 : S1.1 516 5 = nI n := hT.1
  refine dv_M_of [some (.ref 516), some (.int (nI q)), some (.int (nI (L.length)))] (by decide) (fun _ _ => Nat.le_of_ble_eq_true rfl) (fun _ _ => rfl) ?_
  refine J_aload_n dX8_find_0 (pc' := 1) rfl rfl ?_
  refine J_iconst dX8_find_1 (pc' := 2) rfl (v := 0) ic_0 ?_
  refine J_puti fX8_1 kd_516 rf_516_0 dX8_find_2 (pc' := 5) rfl ?_
  refine J_sto (S' := S1) (h0) ?_
  refine J_aload_n dX8_find_5 (pc' := 6) rfl rfl ?_
  refine J_iload_n dX8_find_6 (pc' := 7) rfl rfl ?_
  refine J_v1 (As := [.int (nI q)]) (rest := []) (qX8_isScope _ _ _) vX8_isScope mX8_123 kd_516 dX8_find_7 (pc' := 10) rfl rfl (Nat.le_of_ble_eq_true rfl) (by decide) ?_
  refine J_bne dX8_find_10 (pt := 19) (by decide) (pc' := 13) rfl (fun c10 => ?_) (fun c10 => ?_)
  · refine J_aload_n dX8_find_19 (pc' := 20) rfl rfl ?_
    refine J_iload_n dX8_find_20 (pc' := 21) rfl rfl ?_
    refine J_v1 (As := [.int (nI (L.length))]) (rest := []) (qX8_isTaped _ _ _) vX8_isTaped mX8_140 kd_516 dX8_find_21 (pc' := 24) rfl rfl (Nat.le_of_ble_eq_true rfl) (by decide) ?_
    refine J_bne dX8_find_24 (pt := 33) (by decide) (pc' := 27) rfl (fun c24 => ?_) (fun c24 => ?_)
    · refine J_aload_n dX8_find_33 (pc' := 34) rfl rfl ?_
      refine J_iconst dX8_find_34 (pc' := 35) rfl (v := 0) ic_0 ?_
      refine J_puti fX8_10 kd_516 rf_516_3 dX8_find_35 (pc' := 38) rfl ?_
      refine J_aload_n dX8_find_38 (pc' := 39) rfl rfl ?_
      refine J_getr fX8_13 kd_516 rf_516_2 dX8_find_39 (pc' := 42) rfl ?_
      refine J_iconst dX8_find_42 (pc' := 43) rfl (v := 0) ic_0 ?_
      refine J_top (w := .int (nI 0)) (by rw [nI_0]) ?_
      refine J_iload_n dX8_find_43 (pc' := 44) rfl rfl ?_
      refine J_s1 (As := [.ref 517, .int (nI 0), .int (nI (L.length))]) (rest := []) (qX8_isName _ (rK S1) 517 0 L.length kd_517 (by rw [ln_517]; omega)) vX8_isName mX8_143 dX8_find_44 (pc' := 47) rfl rfl (Nat.le_of_ble_eq_true rfl) (by decide) ?_
      refine J_top (w := .int (dv_b (nm_ok L))) (by rw [hL]) ?_
      refine J_bne dX8_find_47 (pt := 56) (by decide) (pc' := 50) rfl (fun c47 => ?_) (fun c47 => ?_)
      · refine J_aload_n dX8_find_56 (pc' := 57) rfl rfl ?_
        refine J_aload_n dX8_find_57 (pc' := 58) rfl rfl ?_
        refine J_iload_n dX8_find_58 (pc' := 59) rfl rfl ?_
        refine J_aload_n dX8_find_59 (pc' := 60) rfl rfl ?_
        refine J_getr fX8_13 kd_516 rf_516_2 dX8_find_60 (pc' := 63) rfl ?_
        refine J_iconst dX8_find_63 (pc' := 64) rfl (v := 0) ic_0 ?_
        refine J_top (w := .int (nI 0)) (by rw [nI_0]) ?_
        refine J_iload_n dX8_find_64 (pc' := 65) rfl rfl ?_
        refine J_aload_n dX8_find_65 (pc' := 66) rfl rfl ?_
        refine J_getr fX8_62 kd_516 rf_516_13 dX8_find_66 (pc' := 69) rfl ?_
        refine J_aload_n dX8_find_69 (pc' := 70) rfl rfl ?_
        refine J_getr fX8_53 kd_516 rf_516_10 dX8_find_70 (pc' := 73) rfl ?_
        refine J_v1 (As := [.int (nI q), .ref 517, .int (nI 0), .int (nI (L.length)), .ref 524, .ref 521]) (rest := [.ref 516]) (qX8_meaningOf _ (rK S1) n sn hm an N L q 517 0 524 521 hT hS hq hN kd_524 ln_524 kd_521 ln_521 kd_517 (by rw [ln_517]; omega) hL) vX8_meaningOf mX8_155 kd_516 dX8_find_73 (pc' := 76) rfl rfl (Nat.le_of_ble_eq_true rfl) (by decide) ?_
        refine J_v1 (As := [.int (dv_oi (cl_tm hm (fun t => an q (hm t) && decide (N t = L)) n))]) (rest := []) (qX8_done _ _ _) vX8_done mX8_130 kd_516 dX8_find_76 (pc' := 79) rfl rfl (Nat.le_of_ble_eq_true rfl) (by decide) ?_
        refine J_iret dX8_find_79 rfl (dv_r1 _) ?_
        exact ⟨rfl, rfl⟩
      · exact absurd c47 (by rw [hc]; decide)
    · rw [htn] at c24
      exact absurd (show 0 ≤ nI L.length ∧ nI L.length ≤ nI tn from ⟨nI_pos' (by omega), nI_le hk (by omega)⟩) (of_decide_eq_false c24)
  · exact absurd (dv_has hq hS4 (by omega)) (by rw [c10]; decide)
set_option maxRecDepth 100000 in
set_option maxHeartbeats 400000 in
theorem qX8_useN4 (d : Nat) (S : dv_S) (S1 : dv_S) (n sn : Nat) (hm : Nat → Nat) (an : Nat → Nat → Bool) (N : Nat → List Int32) (L : List Int32) (q tn : Nat) (h0 : rS S = S1) (hT : rw_T (rK S1) n) (hS : rw_S (rK S1) n sn hm an) (hq : q < sn) (hN : rNm (rK S1) 524 521 n N) (htn : S1.1 516 3 = nI tn) (hk : L.length ≤ tn) (h200 : tn ≤ 200) (hL : dv_rd (fun z => S1.2.1 517 (0 + z)) L.length = L) (hc : nm_ok L = true) (hmo : (cl_tm hm (fun t => an q (hm t) && decide (N t = L)) n) = none)  : dv_M yX8_use cX8_use 4 (some .int) (dv_rm (d + 3)) [.ref 516, .int (nI q), .int (nI (L.length))] S (fun r S' => r = some (.int (-1)) ∧ S' = (rT (rK S1) 6)) := by
  have h80 := hT.2
  have h20 := hS.2.1
  have hS4 : S1.1 516 4 = nI sn := hS.1
  have hlen := nm_len hc
  have hS5 : S1.1 516 5 = nI n := hT.1
  refine dv_M_of [some (.ref 516), some (.int (nI q)), some (.int (nI (L.length))), none] (by decide) (fun _ _ => Nat.le_of_ble_eq_true rfl) (fun _ _ => rfl) ?_
  refine J_aload_n dX8_use_0 (pc' := 1) rfl rfl ?_
  refine J_iconst dX8_use_1 (pc' := 2) rfl (v := 0) ic_0 ?_
  refine J_puti fX8_1 kd_516 rf_516_0 dX8_use_2 (pc' := 5) rfl ?_
  refine J_sto (S' := S1) (h0) ?_
  refine J_aload_n dX8_use_5 (pc' := 6) rfl rfl ?_
  refine J_iload_n dX8_use_6 (pc' := 7) rfl rfl ?_
  refine J_v1 (As := [.int (nI q)]) (rest := []) (qX8_isScope _ _ _) vX8_isScope mX8_123 kd_516 dX8_use_7 (pc' := 10) rfl rfl (Nat.le_of_ble_eq_true rfl) (by decide) ?_
  refine J_bne dX8_use_10 (pt := 19) (by decide) (pc' := 13) rfl (fun c10 => ?_) (fun c10 => ?_)
  · refine J_aload_n dX8_use_19 (pc' := 20) rfl rfl ?_
    refine J_iload_n dX8_use_20 (pc' := 21) rfl rfl ?_
    refine J_v1 (As := [.int (nI (L.length))]) (rest := []) (qX8_isTaped _ _ _) vX8_isTaped mX8_140 kd_516 dX8_use_21 (pc' := 24) rfl rfl (Nat.le_of_ble_eq_true rfl) (by decide) ?_
    refine J_bne dX8_use_24 (pt := 33) (by decide) (pc' := 27) rfl (fun c24 => ?_) (fun c24 => ?_)
    · refine J_aload_n dX8_use_33 (pc' := 34) rfl rfl ?_
      refine J_iconst dX8_use_34 (pc' := 35) rfl (v := 0) ic_0 ?_
      refine J_puti fX8_10 kd_516 rf_516_3 dX8_use_35 (pc' := 38) rfl ?_
      refine J_aload_n dX8_use_38 (pc' := 39) rfl rfl ?_
      refine J_getr fX8_13 kd_516 rf_516_2 dX8_use_39 (pc' := 42) rfl ?_
      refine J_iconst dX8_use_42 (pc' := 43) rfl (v := 0) ic_0 ?_
      refine J_top (w := .int (nI 0)) (by rw [nI_0]) ?_
      refine J_iload_n dX8_use_43 (pc' := 44) rfl rfl ?_
      refine J_s1 (As := [.ref 517, .int (nI 0), .int (nI (L.length))]) (rest := []) (qX8_isName _ (rK S1) 517 0 L.length kd_517 (by rw [ln_517]; omega)) vX8_isName mX8_143 dX8_use_44 (pc' := 47) rfl rfl (Nat.le_of_ble_eq_true rfl) (by decide) ?_
      refine J_top (w := .int (dv_b (nm_ok L))) (by rw [hL]) ?_
      refine J_bne dX8_use_47 (pt := 56) (by decide) (pc' := 50) rfl (fun c47 => ?_) (fun c47 => ?_)
      · refine J_aload_n dX8_use_56 (pc' := 57) rfl rfl ?_
        refine J_iload_n dX8_use_57 (pc' := 58) rfl rfl ?_
        refine J_aload_n dX8_use_58 (pc' := 59) rfl rfl ?_
        refine J_getr fX8_13 kd_516 rf_516_2 dX8_use_59 (pc' := 62) rfl ?_
        refine J_iconst dX8_use_62 (pc' := 63) rfl (v := 0) ic_0 ?_
        refine J_top (w := .int (nI 0)) (by rw [nI_0]) ?_
        refine J_iload_n dX8_use_63 (pc' := 64) rfl rfl ?_
        refine J_aload_n dX8_use_64 (pc' := 65) rfl rfl ?_
        refine J_getr fX8_62 kd_516 rf_516_13 dX8_use_65 (pc' := 68) rfl ?_
        refine J_aload_n dX8_use_68 (pc' := 69) rfl rfl ?_
        refine J_getr fX8_53 kd_516 rf_516_10 dX8_use_69 (pc' := 72) rfl ?_
        refine J_v1 (As := [.int (nI q), .ref 517, .int (nI 0), .int (nI (L.length)), .ref 524, .ref 521]) (rest := []) (qX8_meaningOf _ (rK S1) n sn hm an N L q 517 0 524 521 hT hS hq hN kd_524 ln_524 kd_521 ln_521 kd_517 (by rw [ln_517]; omega) hL) vX8_meaningOf mX8_155 kd_516 dX8_use_72 (pc' := 75) rfl rfl (Nat.le_of_ble_eq_true rfl) (by decide) ?_
        refine J_top (w := .int ((-2))) (by rw [hmo]; rfl) ?_
        refine J_istore_n dX8_use_75 (pc' := 76) rfl rfl (by decide) rfl (l' := [some (.ref 516), some (.int (nI q)), some (.int (nI (L.length))), some (.int ((-2)))]) rfl ?_
        refine J_iload_n dX8_use_76 (pc' := 77) rfl rfl ?_
        refine J_if_ge dX8_use_77 (pt := 87) (by decide) (pc' := 80) rfl (fun c77 => ?_) (fun c77 => ?_)
        · exact absurd c77 (by decide)
        · refine J_aload_n dX8_use_80 (pc' := 81) rfl rfl ?_
          refine J_bipush dX8_use_81 (pc' := 83) rfl (v := 6) bp_6 ?_
          refine J_v1 (As := [.int 6]) (rest := []) (qX8_refused _ _ _) vX8_refused mX8_126 kd_516 dX8_use_83 (pc' := 86) rfl rfl (Nat.le_of_ble_eq_true rfl) (by decide) ?_
          refine J_iret dX8_use_86 rfl (dv_r1 _) ?_
          exact ⟨rfl, rfl⟩
      · exact absurd c47 (by rw [hc]; decide)
    · rw [htn] at c24
      exact absurd (show 0 ≤ nI L.length ∧ nI L.length ≤ nI tn from ⟨nI_pos' (by omega), nI_le hk (by omega)⟩) (of_decide_eq_false c24)
  · exact absurd (dv_has hq hS4 (by omega)) (by rw [c10]; decide)
set_option maxRecDepth 100000 in
set_option maxHeartbeats 400000 in
theorem qX8_useN5 (d : Nat) (S : dv_S) (S1 : dv_S) (n sn un : Nat) (hm : Nat → Nat) (an : Nat → Nat → Bool) (us ut : Nat → Nat) (N : Nat → List Int32) (L : List Int32) (q tn : Nat) (u : Nat) (h0 : rS S = S1) (hT : rw_T (rK S1) n) (hS : rw_S (rK S1) n sn hm an) (hU : rw_U (rK S1) n sn un us ut) (hq : q < sn) (hN : rNm (rK S1) 524 521 n N) (htn : S1.1 516 3 = nI tn) (hk : L.length ≤ tn) (h200 : tn ≤ 200) (hL : dv_rd (fun z => S1.2.1 517 (0 + z)) L.length = L) (hc : nm_ok L = true) (hmo : (cl_tm hm (fun t => an q (hm t) && decide (N t = L)) n) = some u) (hun : un = 150)  : dv_M yX8_use cX8_use 4 (some .int) (dv_rm (d + 3)) [.ref 516, .int (nI q), .int (nI (L.length))] S (fun r S' => r = some (.int (-1)) ∧ S' = (rT (rK S1) 3)) := by
  have h80 := hT.2
  have h20 := hS.2.1
  have hS4 : S1.1 516 4 = nI sn := hS.1
  have hlen := nm_len hc
  have hS5 : S1.1 516 5 = nI n := hT.1
  have hu := cl_tm_lt _ _ _ _ hmo
  have hS6 : S1.1 516 6 = nI un := hU.1
  have h150 := hU.2.1
  refine dv_M_of [some (.ref 516), some (.int (nI q)), some (.int (nI (L.length))), none] (by decide) (fun _ _ => Nat.le_of_ble_eq_true rfl) (fun _ _ => rfl) ?_
  refine J_aload_n dX8_use_0 (pc' := 1) rfl rfl ?_
  refine J_iconst dX8_use_1 (pc' := 2) rfl (v := 0) ic_0 ?_
  refine J_puti fX8_1 kd_516 rf_516_0 dX8_use_2 (pc' := 5) rfl ?_
  refine J_sto (S' := S1) (h0) ?_
  refine J_aload_n dX8_use_5 (pc' := 6) rfl rfl ?_
  refine J_iload_n dX8_use_6 (pc' := 7) rfl rfl ?_
  refine J_v1 (As := [.int (nI q)]) (rest := []) (qX8_isScope _ _ _) vX8_isScope mX8_123 kd_516 dX8_use_7 (pc' := 10) rfl rfl (Nat.le_of_ble_eq_true rfl) (by decide) ?_
  refine J_bne dX8_use_10 (pt := 19) (by decide) (pc' := 13) rfl (fun c10 => ?_) (fun c10 => ?_)
  · refine J_aload_n dX8_use_19 (pc' := 20) rfl rfl ?_
    refine J_iload_n dX8_use_20 (pc' := 21) rfl rfl ?_
    refine J_v1 (As := [.int (nI (L.length))]) (rest := []) (qX8_isTaped _ _ _) vX8_isTaped mX8_140 kd_516 dX8_use_21 (pc' := 24) rfl rfl (Nat.le_of_ble_eq_true rfl) (by decide) ?_
    refine J_bne dX8_use_24 (pt := 33) (by decide) (pc' := 27) rfl (fun c24 => ?_) (fun c24 => ?_)
    · refine J_aload_n dX8_use_33 (pc' := 34) rfl rfl ?_
      refine J_iconst dX8_use_34 (pc' := 35) rfl (v := 0) ic_0 ?_
      refine J_puti fX8_10 kd_516 rf_516_3 dX8_use_35 (pc' := 38) rfl ?_
      refine J_aload_n dX8_use_38 (pc' := 39) rfl rfl ?_
      refine J_getr fX8_13 kd_516 rf_516_2 dX8_use_39 (pc' := 42) rfl ?_
      refine J_iconst dX8_use_42 (pc' := 43) rfl (v := 0) ic_0 ?_
      refine J_top (w := .int (nI 0)) (by rw [nI_0]) ?_
      refine J_iload_n dX8_use_43 (pc' := 44) rfl rfl ?_
      refine J_s1 (As := [.ref 517, .int (nI 0), .int (nI (L.length))]) (rest := []) (qX8_isName _ (rK S1) 517 0 L.length kd_517 (by rw [ln_517]; omega)) vX8_isName mX8_143 dX8_use_44 (pc' := 47) rfl rfl (Nat.le_of_ble_eq_true rfl) (by decide) ?_
      refine J_top (w := .int (dv_b (nm_ok L))) (by rw [hL]) ?_
      refine J_bne dX8_use_47 (pt := 56) (by decide) (pc' := 50) rfl (fun c47 => ?_) (fun c47 => ?_)
      · refine J_aload_n dX8_use_56 (pc' := 57) rfl rfl ?_
        refine J_iload_n dX8_use_57 (pc' := 58) rfl rfl ?_
        refine J_aload_n dX8_use_58 (pc' := 59) rfl rfl ?_
        refine J_getr fX8_13 kd_516 rf_516_2 dX8_use_59 (pc' := 62) rfl ?_
        refine J_iconst dX8_use_62 (pc' := 63) rfl (v := 0) ic_0 ?_
        refine J_top (w := .int (nI 0)) (by rw [nI_0]) ?_
        refine J_iload_n dX8_use_63 (pc' := 64) rfl rfl ?_
        refine J_aload_n dX8_use_64 (pc' := 65) rfl rfl ?_
        refine J_getr fX8_62 kd_516 rf_516_13 dX8_use_65 (pc' := 68) rfl ?_
        refine J_aload_n dX8_use_68 (pc' := 69) rfl rfl ?_
        refine J_getr fX8_53 kd_516 rf_516_10 dX8_use_69 (pc' := 72) rfl ?_
        refine J_v1 (As := [.int (nI q), .ref 517, .int (nI 0), .int (nI (L.length)), .ref 524, .ref 521]) (rest := []) (qX8_meaningOf _ (rK S1) n sn hm an N L q 517 0 524 521 hT hS hq hN kd_524 ln_524 kd_521 ln_521 kd_517 (by rw [ln_517]; omega) hL) vX8_meaningOf mX8_155 kd_516 dX8_use_72 (pc' := 75) rfl rfl (Nat.le_of_ble_eq_true rfl) (by decide) ?_
        refine J_top (w := .int (nI u)) (by rw [hmo]; rfl) ?_
        refine J_istore_n dX8_use_75 (pc' := 76) rfl rfl (by decide) rfl (l' := [some (.ref 516), some (.int (nI q)), some (.int (nI (L.length))), some (.int (nI u))]) rfl ?_
        refine J_iload_n dX8_use_76 (pc' := 77) rfl rfl ?_
        refine J_if_ge dX8_use_77 (pt := 87) (by decide) (pc' := 80) rfl (fun c77 => ?_) (fun c77 => ?_)
        · refine J_aload_n dX8_use_87 (pc' := 88) rfl rfl ?_
          refine J_geti fX8_137 kd_516 rf_516_6 dX8_use_88 (pc' := 91) rfl ?_
          refine J_sipush dX8_use_91 (pc' := 94) rfl (v := 150) sp_150 ?_
          refine J_icmp_ne dX8_use_94 (pt := 103) (by decide) (pc' := 97) rfl (fun c94 => ?_) (fun c94 => ?_)
          · rw [show (rK S1).1 516 6 = nI 150 by rw [hU.1, hun]] at c94
            exact absurd (by decide) c94
          · refine J_aload_n dX8_use_97 (pc' := 98) rfl rfl ?_
            refine J_iconst dX8_use_98 (pc' := 99) rfl (v := 3) ic_3 ?_
            refine J_v1 (As := [.int 3]) (rest := []) (qX8_refused _ _ _) vX8_refused mX8_126 kd_516 dX8_use_99 (pc' := 102) rfl rfl (Nat.le_of_ble_eq_true rfl) (by decide) ?_
            refine J_iret dX8_use_102 rfl (dv_r1 _) ?_
            exact ⟨rfl, rfl⟩
        · exact absurd (nI_pos' (by omega)) c77
      · exact absurd c47 (by rw [hc]; decide)
    · rw [htn] at c24
      exact absurd (show 0 ≤ nI L.length ∧ nI L.length ≤ nI tn from ⟨nI_pos' (by omega), nI_le hk (by omega)⟩) (of_decide_eq_false c24)
  · exact absurd (dv_has hq hS4 (by omega)) (by rw [c10]; decide)
set_option maxRecDepth 100000 in
set_option maxHeartbeats 400000 in
theorem qX8_useY (d : Nat) (S : dv_S) (S1 : dv_S) (n sn un : Nat) (hm : Nat → Nat) (an : Nat → Nat → Bool) (us ut : Nat → Nat) (N : Nat → List Int32) (L : List Int32) (q tn : Nat) (u : Nat) (h0 : rS S = S1) (hT : rw_T (rK S1) n) (hS : rw_S (rK S1) n sn hm an) (hU : rw_U (rK S1) n sn un us ut) (hq : q < sn) (hN : rNm (rK S1) 524 521 n N) (htn : S1.1 516 3 = nI tn) (hk : L.length ≤ tn) (h200 : tn ≤ 200) (hL : dv_rd (fun z => S1.2.1 517 (0 + z)) L.length = L) (hc : nm_ok L = true) (hmo : (cl_tm hm (fun t => an q (hm t) && decide (N t = L)) n) = some u) (hun : un < 150)  : dv_M yX8_use cX8_use 4 (some .int) (dv_rm (d + 3)) [.ref 516, .int (nI q), .int (nI (L.length))] S (fun r S' => r = some (.int (nI un)) ∧ S' = (rT (rUs (rK S1) un q u) 0)) := by
  have h80 := hT.2
  have h20 := hS.2.1
  have hS4 : S1.1 516 4 = nI sn := hS.1
  have hlen := nm_len hc
  have hS5 : S1.1 516 5 = nI n := hT.1
  have hu := cl_tm_lt _ _ _ _ hmo
  have hS6 : S1.1 516 6 = nI un := hU.1
  have h150 := hU.2.1
  refine dv_M_of [some (.ref 516), some (.int (nI q)), some (.int (nI (L.length))), none] (by decide) (fun _ _ => Nat.le_of_ble_eq_true rfl) (fun _ _ => rfl) ?_
  refine J_aload_n dX8_use_0 (pc' := 1) rfl rfl ?_
  refine J_iconst dX8_use_1 (pc' := 2) rfl (v := 0) ic_0 ?_
  refine J_puti fX8_1 kd_516 rf_516_0 dX8_use_2 (pc' := 5) rfl ?_
  refine J_sto (S' := S1) (h0) ?_
  refine J_aload_n dX8_use_5 (pc' := 6) rfl rfl ?_
  refine J_iload_n dX8_use_6 (pc' := 7) rfl rfl ?_
  refine J_v1 (As := [.int (nI q)]) (rest := []) (qX8_isScope _ _ _) vX8_isScope mX8_123 kd_516 dX8_use_7 (pc' := 10) rfl rfl (Nat.le_of_ble_eq_true rfl) (by decide) ?_
  refine J_bne dX8_use_10 (pt := 19) (by decide) (pc' := 13) rfl (fun c10 => ?_) (fun c10 => ?_)
  · refine J_aload_n dX8_use_19 (pc' := 20) rfl rfl ?_
    refine J_iload_n dX8_use_20 (pc' := 21) rfl rfl ?_
    refine J_v1 (As := [.int (nI (L.length))]) (rest := []) (qX8_isTaped _ _ _) vX8_isTaped mX8_140 kd_516 dX8_use_21 (pc' := 24) rfl rfl (Nat.le_of_ble_eq_true rfl) (by decide) ?_
    refine J_bne dX8_use_24 (pt := 33) (by decide) (pc' := 27) rfl (fun c24 => ?_) (fun c24 => ?_)
    · refine J_aload_n dX8_use_33 (pc' := 34) rfl rfl ?_
      refine J_iconst dX8_use_34 (pc' := 35) rfl (v := 0) ic_0 ?_
      refine J_puti fX8_10 kd_516 rf_516_3 dX8_use_35 (pc' := 38) rfl ?_
      refine J_aload_n dX8_use_38 (pc' := 39) rfl rfl ?_
      refine J_getr fX8_13 kd_516 rf_516_2 dX8_use_39 (pc' := 42) rfl ?_
      refine J_iconst dX8_use_42 (pc' := 43) rfl (v := 0) ic_0 ?_
      refine J_top (w := .int (nI 0)) (by rw [nI_0]) ?_
      refine J_iload_n dX8_use_43 (pc' := 44) rfl rfl ?_
      refine J_s1 (As := [.ref 517, .int (nI 0), .int (nI (L.length))]) (rest := []) (qX8_isName _ (rK S1) 517 0 L.length kd_517 (by rw [ln_517]; omega)) vX8_isName mX8_143 dX8_use_44 (pc' := 47) rfl rfl (Nat.le_of_ble_eq_true rfl) (by decide) ?_
      refine J_top (w := .int (dv_b (nm_ok L))) (by rw [hL]) ?_
      refine J_bne dX8_use_47 (pt := 56) (by decide) (pc' := 50) rfl (fun c47 => ?_) (fun c47 => ?_)
      · refine J_aload_n dX8_use_56 (pc' := 57) rfl rfl ?_
        refine J_iload_n dX8_use_57 (pc' := 58) rfl rfl ?_
        refine J_aload_n dX8_use_58 (pc' := 59) rfl rfl ?_
        refine J_getr fX8_13 kd_516 rf_516_2 dX8_use_59 (pc' := 62) rfl ?_
        refine J_iconst dX8_use_62 (pc' := 63) rfl (v := 0) ic_0 ?_
        refine J_top (w := .int (nI 0)) (by rw [nI_0]) ?_
        refine J_iload_n dX8_use_63 (pc' := 64) rfl rfl ?_
        refine J_aload_n dX8_use_64 (pc' := 65) rfl rfl ?_
        refine J_getr fX8_62 kd_516 rf_516_13 dX8_use_65 (pc' := 68) rfl ?_
        refine J_aload_n dX8_use_68 (pc' := 69) rfl rfl ?_
        refine J_getr fX8_53 kd_516 rf_516_10 dX8_use_69 (pc' := 72) rfl ?_
        refine J_v1 (As := [.int (nI q), .ref 517, .int (nI 0), .int (nI (L.length)), .ref 524, .ref 521]) (rest := []) (qX8_meaningOf _ (rK S1) n sn hm an N L q 517 0 524 521 hT hS hq hN kd_524 ln_524 kd_521 ln_521 kd_517 (by rw [ln_517]; omega) hL) vX8_meaningOf mX8_155 kd_516 dX8_use_72 (pc' := 75) rfl rfl (Nat.le_of_ble_eq_true rfl) (by decide) ?_
        refine J_top (w := .int (nI u)) (by rw [hmo]; rfl) ?_
        refine J_istore_n dX8_use_75 (pc' := 76) rfl rfl (by decide) rfl (l' := [some (.ref 516), some (.int (nI q)), some (.int (nI (L.length))), some (.int (nI u))]) rfl ?_
        refine J_iload_n dX8_use_76 (pc' := 77) rfl rfl ?_
        refine J_if_ge dX8_use_77 (pt := 87) (by decide) (pc' := 80) rfl (fun c77 => ?_) (fun c77 => ?_)
        · refine J_aload_n dX8_use_87 (pc' := 88) rfl rfl ?_
          refine J_geti fX8_137 kd_516 rf_516_6 dX8_use_88 (pc' := 91) rfl ?_
          refine J_sipush dX8_use_91 (pc' := 94) rfl (v := 150) sp_150 ?_
          refine J_icmp_ne dX8_use_94 (pt := 103) (by decide) (pc' := 97) rfl (fun c94 => ?_) (fun c94 => ?_)
          · refine J_aload_n dX8_use_103 (pc' := 104) rfl rfl ?_
            refine J_getr fX8_56 kd_516 rf_516_11 dX8_use_104 (pc' := 107) rfl ?_
            refine J_aload_n dX8_use_107 (pc' := 108) rfl rfl ?_
            refine J_geti fX8_137 kd_516 rf_516_6 dX8_use_108 (pc' := 111) rfl ?_
            refine J_iload_n dX8_use_111 (pc' := 112) rfl rfl ?_
            refine J_iast (j := un) kd_522 (hS6) (by rw [ln_522]; omega) dX8_use_112 (pc' := 113) rfl ?_
            refine J_aload_n dX8_use_113 (pc' := 114) rfl rfl ?_
            refine J_getr fX8_59 kd_516 rf_516_12 dX8_use_114 (pc' := 117) rfl ?_
            refine J_aload_n dX8_use_117 (pc' := 118) rfl rfl ?_
            refine J_geti fX8_137 kd_516 rf_516_6 dX8_use_118 (pc' := 121) rfl ?_
            refine J_iload_n dX8_use_121 (pc' := 122) rfl rfl ?_
            refine J_iast (j := un) kd_523 (hS6) (by rw [ln_523]; omega) dX8_use_122 (pc' := 123) rfl ?_
            refine J_aload_n dX8_use_123 (pc' := 124) rfl rfl ?_
            refine J_dup dX8_use_124 (pc' := 125) rfl rfl ?_
            refine J_geti fX8_137 kd_516 rf_516_6 dX8_use_125 (pc' := 128) rfl ?_
            refine J_iconst dX8_use_128 (pc' := 129) rfl (v := 1) ic_1 ?_
            refine J_iadd dX8_use_129 (pc' := 130) rfl ?_
            refine J_top (w := .int (nI (un + 1))) (by show Value.int (S1.1 516 6 + 1) = _; rw [hS6, nI_1]) ?_
            refine J_puti fX8_137 kd_516 rf_516_6 dX8_use_130 (pc' := 133) rfl ?_
            refine J_aload_n dX8_use_133 (pc' := 134) rfl rfl ?_
            refine J_iconst dX8_use_134 (pc' := 135) rfl (v := 0) ic_0 ?_
            refine J_putz fX8_151 kd_516 rf_516_36 (by decide) dX8_use_135 (pc' := 138) rfl ?_
            refine J_aload_n dX8_use_138 (pc' := 139) rfl rfl ?_
            refine J_aload_n dX8_use_139 (pc' := 140) rfl rfl ?_
            refine J_geti fX8_137 kd_516 rf_516_6 dX8_use_140 (pc' := 143) rfl ?_
            refine J_top (w := .int (nI (un + 1))) (by show Value.int (dv_u (dv_u (rK S1).1 516 6 (nI (un + 1))) 516 36 0 516 6) = _; rw [dv_u_ne _ _ (by decide), dv_u_eq]) ?_
            refine J_iconst dX8_use_143 (pc' := 144) rfl (v := 1) ic_1 ?_
            refine J_isub dX8_use_144 (pc' := 145) rfl ?_
            refine J_top (w := .int (nI un)) (by rw [nI_pred]) ?_
            refine J_v1 (As := [.int (nI un)]) (rest := []) (qX8_done _ _ _) vX8_done mX8_130 kd_516 dX8_use_145 (pc' := 148) rfl rfl (Nat.le_of_ble_eq_true rfl) (by decide) ?_
            refine J_iret dX8_use_148 rfl (dv_r1 _) ?_
            exact ⟨rfl, rfl⟩
          · rw [hU.1, show (150 : Int32) = nI 150 by decide, nI_eq (by omega) (by omega)] at c94
            omega
        · exact absurd (nI_pos' (by omega)) c77
      · exact absurd c47 (by rw [hc]; decide)
    · rw [htn] at c24
      exact absurd (show 0 ≤ nI L.length ∧ nI L.length ≤ nI tn from ⟨nI_pos' (by omega), nI_le hk (by omega)⟩) (of_decide_eq_false c24)
  · exact absurd (dv_has hq hS4 (by omega)) (by rw [c10]; decide)
set_option maxRecDepth 100000 in
set_option maxHeartbeats 400000 in
theorem qX8_meansN (d : Nat) (S : dv_S) (S1 : dv_S) (x y : Int32) (h0 : rS S = S1) (hx : ¬ (0 ≤ x ∧ x < S1.1 516 6))  : dv_M yX8_means cX8_means 3 (some .int) (dv_rm (d + 1)) [.ref 516, .int x, .int y] S (fun r S' => r = some (.int (-1)) ∧ S' = S1) := by
  refine dv_M_of [some (.ref 516), some (.int x), some (.int y)] (by decide) (fun _ _ => Nat.le_of_ble_eq_true rfl) (fun _ _ => rfl) ?_
  refine J_aload_n dX8_means_0 (pc' := 1) rfl rfl ?_
  refine J_iconst dX8_means_1 (pc' := 2) rfl (v := 0) ic_0 ?_
  refine J_puti fX8_1 kd_516 rf_516_0 dX8_means_2 (pc' := 5) rfl ?_
  refine J_sto (S' := S1) (h0) ?_
  refine J_iload_n dX8_means_5 (pc' := 6) rfl rfl ?_
  refine J_if_lt dX8_means_6 (pt := 17) (by decide) (pc' := 9) rfl (fun c6 => ?_) (fun c6 => ?_)
  · refine J_iconst dX8_means_17 (pc' := 18) rfl (v := (-1)) ic_m1 ?_
    refine J_iret dX8_means_18 rfl (dv_r1 _) ?_
    exact ⟨rfl, rfl⟩
  · refine J_iload_n dX8_means_9 (pc' := 10) rfl rfl ?_
    refine J_aload_n dX8_means_10 (pc' := 11) rfl rfl ?_
    refine J_geti fX8_137 kd_516 rf_516_6 dX8_means_11 (pc' := 14) rfl ?_
    refine J_icmp_lt dX8_means_14 (pt := 19) (by decide) (pc' := 17) rfl (fun c14 => ?_) (fun c14 => ?_)
    · exact absurd ⟨Int32.not_lt.mp c6, c14⟩ hx
    · refine J_iconst dX8_means_17 (pc' := 18) rfl (v := (-1)) ic_m1 ?_
      refine J_iret dX8_means_18 rfl (dv_r1 _) ?_
      exact ⟨rfl, rfl⟩
set_option maxRecDepth 100000 in
set_option maxHeartbeats 400000 in
theorem qX8_means (d : Nat) (S : dv_S) (S1 : dv_S) (u un : Nat) (y : Int32) (h0 : rS S = S1) (hu : S1.1 516 6 = nI un) (hj : u < un) (h150 : un ≤ 150)  : dv_M yX8_means cX8_means 3 (some .int) (dv_rm (d + 1)) [.ref 516, .int (nI u), .int y] S (fun r S' => r = some (.int (if y = 0 then S1.2.1 522 u else if y = 1 then S1.2.1 523 u else -1)) ∧ S' = S1) := by
  refine dv_M_of [some (.ref 516), some (.int (nI u)), some (.int y)] (by decide) (fun _ _ => Nat.le_of_ble_eq_true rfl) (fun _ _ => rfl) ?_
  refine J_aload_n dX8_means_0 (pc' := 1) rfl rfl ?_
  refine J_iconst dX8_means_1 (pc' := 2) rfl (v := 0) ic_0 ?_
  refine J_puti fX8_1 kd_516 rf_516_0 dX8_means_2 (pc' := 5) rfl ?_
  refine J_sto (S' := S1) (h0) ?_
  refine J_iload_n dX8_means_5 (pc' := 6) rfl rfl ?_
  refine J_if_lt dX8_means_6 (pt := 17) (by decide) (pc' := 9) rfl (fun c6 => ?_) (fun c6 => ?_)
  · exact absurd c6 (nI_pos (by omega))
  · refine J_iload_n dX8_means_9 (pc' := 10) rfl rfl ?_
    refine J_aload_n dX8_means_10 (pc' := 11) rfl rfl ?_
    refine J_geti fX8_137 kd_516 rf_516_6 dX8_means_11 (pc' := 14) rfl ?_
    refine J_icmp_lt dX8_means_14 (pt := 19) (by decide) (pc' := 17) rfl (fun c14 => ?_) (fun c14 => ?_)
    · refine J_iload_n dX8_means_19 (pc' := 20) rfl rfl ?_
      refine J_if_ne dX8_means_20 (pt := 32) (by decide) (pc' := 23) rfl (fun c20 => ?_) (fun c20 => ?_)
      · refine J_iload_n dX8_means_32 (pc' := 33) rfl rfl ?_
        refine J_iconst dX8_means_33 (pc' := 34) rfl (v := 1) ic_1 ?_
        refine J_icmp_ne dX8_means_34 (pt := 46) (by decide) (pc' := 37) rfl (fun c34 => ?_) (fun c34 => ?_)
        · refine J_iconst dX8_means_46 (pc' := 47) rfl (v := (-1)) ic_m1 ?_
          refine J_iret dX8_means_47 rfl (dv_r1 _) ?_
          first | exact ⟨by rw [if_pos c20], rfl⟩ | exact ⟨by rw [if_neg c20, if_pos c34], rfl⟩ | exact ⟨by rw [if_neg c20, if_neg c34], rfl⟩
        · refine J_aload_n dX8_means_37 (pc' := 38) rfl rfl ?_
          refine J_getr fX8_59 kd_516 rf_516_12 dX8_means_38 (pc' := 41) rfl ?_
          refine J_iload_n dX8_means_41 (pc' := 42) rfl rfl ?_
          refine J_iald (j := u) kd_523 (rfl) (by rw [ln_523]; omega) dX8_means_42 (pc' := 43) rfl ?_
          refine J_goto dX8_means_43 (pc' := 47) (by decide) ?_
          refine J_iret dX8_means_47 rfl (dv_r1 _) ?_
          first | exact ⟨by rw [if_pos c20], rfl⟩ | exact ⟨by rw [if_neg c20, if_pos c34], rfl⟩ | exact ⟨by rw [if_neg c20, if_neg c34], rfl⟩
      · refine J_aload_n dX8_means_23 (pc' := 24) rfl rfl ?_
        refine J_getr fX8_56 kd_516 rf_516_11 dX8_means_24 (pc' := 27) rfl ?_
        refine J_iload_n dX8_means_27 (pc' := 28) rfl rfl ?_
        refine J_iald (j := u) kd_522 (rfl) (by rw [ln_522]; omega) dX8_means_28 (pc' := 29) rfl ?_
        refine J_goto dX8_means_29 (pc' := 47) (by decide) ?_
        refine J_iret dX8_means_47 rfl (dv_r1 _) ?_
        first | exact ⟨by rw [if_pos c20], rfl⟩ | exact ⟨by rw [if_neg c20, if_pos c34], rfl⟩ | exact ⟨by rw [if_neg c20, if_neg c34], rfl⟩
    · rw [hu] at c14
      exact absurd (nI_lt hj (by omega)) c14
set_option maxRecDepth 100000 in
set_option maxHeartbeats 400000 in
theorem qX8_nameT1 (d : Nat) (S : dv_S) (x y : Int32) (hx : decide (0 ≤ x ∧ x < S.1 516 5) = false)  : dv_M yX8_name cX8_name 3 (some .int) (dv_rm (d + 1)) [.ref 516, .int x, .int y] S (fun r S' => r = some (.int 0) ∧ S' = (dv_u S.1 516 0 1, S.2)) := by
  refine dv_M_of [some (.ref 516), some (.int x), some (.int y)] (by decide) (fun _ _ => Nat.le_of_ble_eq_true rfl) (fun _ _ => rfl) ?_
  refine J_aload_n dX8_name_0 (pc' := 1) rfl rfl ?_
  refine J_aload_n dX8_name_1 (pc' := 2) rfl rfl ?_
  refine J_iload_n dX8_name_2 (pc' := 3) rfl rfl ?_
  refine J_v1 (As := [.int x]) (rest := [.ref 516]) (qX8_isThing _ _ _) vX8_isThing mX8_159 kd_516 dX8_name_3 (pc' := 6) rfl rfl (Nat.le_of_ble_eq_true rfl) (by decide) ?_
  refine J_beq dX8_name_6 (pt := 23) (by decide) (pc' := 9) rfl (fun c6 => ?_) (fun c6 => ?_)
  · refine J_iconst dX8_name_23 (pc' := 24) rfl (v := 1) ic_1 ?_
    refine J_goto dX8_name_24 (pc' := 28) (by decide) ?_
    refine J_puti fX8_1 kd_516 rf_516_0 dX8_name_28 (pc' := 31) rfl ?_
    refine J_aload_n dX8_name_31 (pc' := 32) rfl rfl ?_
    refine J_geti fX8_1 kd_516 rf_516_0 dX8_name_32 (pc' := 35) rfl ?_
    refine J_top (w := .int 1) (by show Value.int (dv_u S.1 516 0 1 516 0) = _; rw [dv_u_eq]) ?_
    refine J_if_le dX8_name_35 (pt := 42) (by decide) (pc' := 38) rfl (fun c35 => ?_) (fun c35 => ?_)
    · exact absurd c35 (by decide)
    · refine J_iconst dX8_name_38 (pc' := 39) rfl (v := 0) ic_0 ?_
      refine J_goto dX8_name_39 (pc' := 53) (by decide) ?_
      refine J_iret dX8_name_53 rfl (dv_r1 _) ?_
      exact ⟨rfl, rfl⟩
  · exact absurd c6 (by rw [hx]; decide)
set_option maxRecDepth 100000 in
set_option maxHeartbeats 400000 in
theorem qX8_nameT2 (d : Nat) (S : dv_S) (n t m : Nat) (y : Int32) (hn : S.1 516 5 = nI n) (ht : t < n) (h80 : n ≤ 80) (hm : S.2.1 521 t = nI m) (hy : ¬ (0 ≤ y ∧ y < nI m))  : dv_M yX8_name cX8_name 3 (some .int) (dv_rm (d + 1)) [.ref 516, .int (nI t), .int y] S (fun r S' => r = some (.int 0) ∧ S' = (dv_u S.1 516 0 1, S.2)) := by
  refine dv_M_of [some (.ref 516), some (.int (nI t)), some (.int y)] (by decide) (fun _ _ => Nat.le_of_ble_eq_true rfl) (fun _ _ => rfl) ?_
  refine J_aload_n dX8_name_0 (pc' := 1) rfl rfl ?_
  refine J_aload_n dX8_name_1 (pc' := 2) rfl rfl ?_
  refine J_iload_n dX8_name_2 (pc' := 3) rfl rfl ?_
  refine J_v1 (As := [.int (nI t)]) (rest := [.ref 516]) (qX8_isThing _ _ _) vX8_isThing mX8_159 kd_516 dX8_name_3 (pc' := 6) rfl rfl (Nat.le_of_ble_eq_true rfl) (by decide) ?_
  refine J_beq dX8_name_6 (pt := 23) (by decide) (pc' := 9) rfl (fun c6 => ?_) (fun c6 => ?_)
  · exact absurd (dv_has ht hn (by omega)) (by rw [c6]; decide)
  · refine J_iload_n dX8_name_9 (pc' := 10) rfl rfl ?_
    refine J_if_lt dX8_name_10 (pt := 23) (by decide) (pc' := 13) rfl (fun c10 => ?_) (fun c10 => ?_)
    · refine J_iconst dX8_name_23 (pc' := 24) rfl (v := 1) ic_1 ?_
      refine J_goto dX8_name_24 (pc' := 28) (by decide) ?_
      refine J_puti fX8_1 kd_516 rf_516_0 dX8_name_28 (pc' := 31) rfl ?_
      refine J_aload_n dX8_name_31 (pc' := 32) rfl rfl ?_
      refine J_geti fX8_1 kd_516 rf_516_0 dX8_name_32 (pc' := 35) rfl ?_
      refine J_top (w := .int 1) (by show Value.int (dv_u S.1 516 0 1 516 0) = _; rw [dv_u_eq]) ?_
      refine J_if_le dX8_name_35 (pt := 42) (by decide) (pc' := 38) rfl (fun c35 => ?_) (fun c35 => ?_)
      · exact absurd c35 (by decide)
      · refine J_iconst dX8_name_38 (pc' := 39) rfl (v := 0) ic_0 ?_
        refine J_goto dX8_name_39 (pc' := 53) (by decide) ?_
        refine J_iret dX8_name_53 rfl (dv_r1 _) ?_
        exact ⟨rfl, rfl⟩
    · refine J_iload_n dX8_name_13 (pc' := 14) rfl rfl ?_
      refine J_aload_n dX8_name_14 (pc' := 15) rfl rfl ?_
      refine J_getr fX8_53 kd_516 rf_516_10 dX8_name_15 (pc' := 18) rfl ?_
      refine J_iload_n dX8_name_18 (pc' := 19) rfl rfl ?_
      refine J_iald (j := t) kd_521 (rfl) (by rw [ln_521]; omega) dX8_name_19 (pc' := 20) rfl ?_
      refine J_icmp_lt dX8_name_20 (pt := 27) (by decide) (pc' := 23) rfl (fun c20 => ?_) (fun c20 => ?_)
      · rw [hm] at c20
        exact absurd ⟨Int32.not_lt.mp c10, c20⟩ hy
      · refine J_iconst dX8_name_23 (pc' := 24) rfl (v := 1) ic_1 ?_
        refine J_goto dX8_name_24 (pc' := 28) (by decide) ?_
        refine J_puti fX8_1 kd_516 rf_516_0 dX8_name_28 (pc' := 31) rfl ?_
        refine J_aload_n dX8_name_31 (pc' := 32) rfl rfl ?_
        refine J_geti fX8_1 kd_516 rf_516_0 dX8_name_32 (pc' := 35) rfl ?_
        refine J_top (w := .int 1) (by show Value.int (dv_u S.1 516 0 1 516 0) = _; rw [dv_u_eq]) ?_
        refine J_if_le dX8_name_35 (pt := 42) (by decide) (pc' := 38) rfl (fun c35 => ?_) (fun c35 => ?_)
        · exact absurd c35 (by decide)
        · refine J_iconst dX8_name_38 (pc' := 39) rfl (v := 0) ic_0 ?_
          refine J_goto dX8_name_39 (pc' := 53) (by decide) ?_
          refine J_iret dX8_name_53 rfl (dv_r1 _) ?_
          exact ⟨rfl, rfl⟩
set_option maxRecDepth 100000 in
set_option maxHeartbeats 400000 in
theorem qX8_nameY (d : Nat) (S : dv_S) (n t m i : Nat) (hn : S.1 516 5 = nI n) (ht : t < n) (h80 : n ≤ 80) (hm : S.2.1 521 t = nI m) (hi : i < m) (hm24 : m ≤ 24)  : dv_M yX8_name cX8_name 3 (some .int) (dv_rm (d + 1)) [.ref 516, .int (nI t), .int (nI i)] S (fun r S' => r = some (.int (S.2.1 524 (24 * t + i))) ∧ S' = (dv_u S.1 516 0 0, S.2)) := by
  refine dv_M_of [some (.ref 516), some (.int (nI t)), some (.int (nI i))] (by decide) (fun _ _ => Nat.le_of_ble_eq_true rfl) (fun _ _ => rfl) ?_
  refine J_aload_n dX8_name_0 (pc' := 1) rfl rfl ?_
  refine J_aload_n dX8_name_1 (pc' := 2) rfl rfl ?_
  refine J_iload_n dX8_name_2 (pc' := 3) rfl rfl ?_
  refine J_v1 (As := [.int (nI t)]) (rest := [.ref 516]) (qX8_isThing _ _ _) vX8_isThing mX8_159 kd_516 dX8_name_3 (pc' := 6) rfl rfl (Nat.le_of_ble_eq_true rfl) (by decide) ?_
  refine J_beq dX8_name_6 (pt := 23) (by decide) (pc' := 9) rfl (fun c6 => ?_) (fun c6 => ?_)
  · exact absurd (dv_has ht hn (by omega)) (by rw [c6]; decide)
  · refine J_iload_n dX8_name_9 (pc' := 10) rfl rfl ?_
    refine J_if_lt dX8_name_10 (pt := 23) (by decide) (pc' := 13) rfl (fun c10 => ?_) (fun c10 => ?_)
    · exact absurd c10 (nI_pos (by omega))
    · refine J_iload_n dX8_name_13 (pc' := 14) rfl rfl ?_
      refine J_aload_n dX8_name_14 (pc' := 15) rfl rfl ?_
      refine J_getr fX8_53 kd_516 rf_516_10 dX8_name_15 (pc' := 18) rfl ?_
      refine J_iload_n dX8_name_18 (pc' := 19) rfl rfl ?_
      refine J_iald (j := t) kd_521 (rfl) (by rw [ln_521]; omega) dX8_name_19 (pc' := 20) rfl ?_
      refine J_icmp_lt dX8_name_20 (pt := 27) (by decide) (pc' := 23) rfl (fun c20 => ?_) (fun c20 => ?_)
      · refine J_iconst dX8_name_27 (pc' := 28) rfl (v := 0) ic_0 ?_
        refine J_puti fX8_1 kd_516 rf_516_0 dX8_name_28 (pc' := 31) rfl ?_
        refine J_aload_n dX8_name_31 (pc' := 32) rfl rfl ?_
        refine J_geti fX8_1 kd_516 rf_516_0 dX8_name_32 (pc' := 35) rfl ?_
        refine J_top (w := .int 0) (by show Value.int (dv_u S.1 516 0 0 516 0) = _; rw [dv_u_eq]) ?_
        refine J_if_le dX8_name_35 (pt := 42) (by decide) (pc' := 38) rfl (fun c35 => ?_) (fun c35 => ?_)
        · refine J_aload_n dX8_name_42 (pc' := 43) rfl rfl ?_
          refine J_getr fX8_62 kd_516 rf_516_13 dX8_name_43 (pc' := 46) rfl ?_
          refine J_bipush dX8_name_46 (pc' := 48) rfl (v := 24) bp_24 ?_
          refine J_iload_n dX8_name_48 (pc' := 49) rfl rfl ?_
          refine J_imul dX8_name_49 (pc' := 50) rfl ?_
          refine J_top (w := .int (nI (24 * t))) (by rw [dv_n24, pk_mul]) ?_
          refine J_iload_n dX8_name_50 (pc' := 51) rfl rfl ?_
          refine J_iadd dX8_name_51 (pc' := 52) rfl ?_
          refine J_top (w := .int (nI (24 * t + i))) (by rw [nI_add]) ?_
          refine J_bald (j := 24 * t + i) kd_524 (rfl) (by rw [ln_524]; omega) dX8_name_52 (pc' := 53) rfl ?_
          refine J_iret dX8_name_53 rfl (dv_r1 _) ?_
          exact ⟨rfl, rfl⟩
        · exact absurd c35 (by decide)
      · rw [hm] at c20
        exact absurd (nI_lt hi (by omega)) c20
