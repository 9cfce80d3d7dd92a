set_option maxRecDepth 100000 in
set_option maxHeartbeats 400000 in
theorem qX8_scopeN (d : Nat) (S : dv_S) (S1 : dv_S) (x : Int32) (h0 : rS S = S1) (hx : decide (0 ≤ x ∧ x < S1.1 516 4) = false)  : dv_M yX8_scope cX8_scope 2 (some .int) (dv_rm (d + 1)) [.ref 516, .int x] S (fun r S' => r = some (.int (-1)) ∧ S' = (rT S1 1)) := by
  refine dv_M_of [some (.ref 516), some (.int x)] (by decide) (fun _ _ => Nat.le_of_ble_eq_true rfl) (fun _ _ => rfl) ?_
  refine J_aload_n dX8_scope_0 (pc' := 1) rfl rfl ?_
  refine J_iconst dX8_scope_1 (pc' := 2) rfl (v := 0) ic_0 ?_
  refine J_puti fX8_1 kd_516 rf_516_0 dX8_scope_2 (pc' := 5) rfl ?_
  refine J_sto (S' := S1) (h0) ?_
  refine J_aload_n dX8_scope_5 (pc' := 6) rfl rfl ?_
  refine J_iload_n dX8_scope_6 (pc' := 7) rfl rfl ?_
  refine J_v1 (As := [.int x]) (rest := []) (qX8_isScope _ _ _) vX8_isScope mX8_123 kd_516 dX8_scope_7 (pc' := 10) rfl rfl (Nat.le_of_ble_eq_true rfl) (by decide) ?_
  refine J_bne dX8_scope_10 (pt := 19) (by decide) (pc' := 13) rfl (fun c10 => ?_) (fun c10 => ?_)
  · exact absurd c10 (by rw [hx]; decide)
  · refine J_aload_n dX8_scope_13 (pc' := 14) rfl rfl ?_
    refine J_iconst dX8_scope_14 (pc' := 15) rfl (v := 1) ic_1 ?_
    refine J_v1 (As := [.int 1]) (rest := []) (qX8_refused _ _ _) vX8_refused mX8_126 kd_516 dX8_scope_15 (pc' := 18) rfl rfl (Nat.le_of_ble_eq_true rfl) (by decide) ?_
    refine J_iret dX8_scope_18 rfl (dv_r1 _) ?_
    exact ⟨rfl, rfl⟩
set_option maxRecDepth 100000 in
set_option maxHeartbeats 400000 in
theorem qX8_scopeF (d : Nat) (S : dv_S) (S1 : dv_S) (p : Nat) (h0 : rS S = S1) (hn : S1.1 516 4 = nI 20) (hp : p < 20)  : dv_M yX8_scope cX8_scope 2 (some .int) (dv_rm (d + 1)) [.ref 516, .int (nI p)] S (fun r S' => r = some (.int (-1)) ∧ S' = (rT S1 3)) := by
  refine dv_M_of [some (.ref 516), some (.int (nI p))] (by decide) (fun _ _ => Nat.le_of_ble_eq_true rfl) (fun _ _ => rfl) ?_
  refine J_aload_n dX8_scope_0 (pc' := 1) rfl rfl ?_
  refine J_iconst dX8_scope_1 (pc' := 2) rfl (v := 0) ic_0 ?_
  refine J_puti fX8_1 kd_516 rf_516_0 dX8_scope_2 (pc' := 5) rfl ?_
  refine J_sto (S' := S1) (h0) ?_
  refine J_aload_n dX8_scope_5 (pc' := 6) rfl rfl ?_
  refine J_iload_n dX8_scope_6 (pc' := 7) rfl rfl ?_
  refine J_v1 (As := [.int (nI p)]) (rest := []) (qX8_isScope _ _ _) vX8_isScope mX8_123 kd_516 dX8_scope_7 (pc' := 10) rfl rfl (Nat.le_of_ble_eq_true rfl) (by decide) ?_
  refine J_bne dX8_scope_10 (pt := 19) (by decide) (pc' := 13) rfl (fun c10 => ?_) (fun c10 => ?_)
  · refine J_aload_n dX8_scope_19 (pc' := 20) rfl rfl ?_
    refine J_geti fX8_40 kd_516 rf_516_4 dX8_scope_20 (pc' := 23) rfl ?_
    refine J_bipush dX8_scope_23 (pc' := 25) rfl (v := 20) bp_20 ?_
    refine J_icmp_ne dX8_scope_25 (pt := 34) (by decide) (pc' := 28) rfl (fun c25 => ?_) (fun c25 => ?_)
    · rw [hn] at c25
      exact absurd (by decide) c25
    · refine J_aload_n dX8_scope_28 (pc' := 29) rfl rfl ?_
      refine J_iconst dX8_scope_29 (pc' := 30) rfl (v := 3) ic_3 ?_
      refine J_v1 (As := [.int 3]) (rest := []) (qX8_refused _ _ _) vX8_refused mX8_126 kd_516 dX8_scope_30 (pc' := 33) rfl rfl (Nat.le_of_ble_eq_true rfl) (by decide) ?_
      refine J_iret dX8_scope_33 rfl (dv_r1 _) ?_
      exact ⟨rfl, rfl⟩
  · exact absurd (dv_has hp hn (by omega)) (by rw [c10]; decide)
set_option maxRecDepth 100000 in
set_option maxHeartbeats 400000 in
theorem qX8_scopeY (d : Nat) (S : dv_S) (S1 : dv_S) (p n : Nat) (h0 : rS S = S1) (hn : S1.1 516 4 = nI n) (hp : p < n) (hm : n < 20)  : dv_M yX8_scope cX8_scope 2 (some .int) (dv_rm (d + 1)) [.ref 516, .int (nI p)] S (fun r S' => r = some (.int (nI n)) ∧ S' = (rT (rSc S1 p n) 0)) := by
  refine dv_M_of [some (.ref 516), some (.int (nI p))] (by decide) (fun _ _ => Nat.le_of_ble_eq_true rfl) (fun _ _ => rfl) ?_
  refine J_aload_n dX8_scope_0 (pc' := 1) rfl rfl ?_
  refine J_iconst dX8_scope_1 (pc' := 2) rfl (v := 0) ic_0 ?_
  refine J_puti fX8_1 kd_516 rf_516_0 dX8_scope_2 (pc' := 5) rfl ?_
  refine J_sto (S' := S1) (h0) ?_
  refine J_aload_n dX8_scope_5 (pc' := 6) rfl rfl ?_
  refine J_iload_n dX8_scope_6 (pc' := 7) rfl rfl ?_
  refine J_v1 (As := [.int (nI p)]) (rest := []) (qX8_isScope _ _ _) vX8_isScope mX8_123 kd_516 dX8_scope_7 (pc' := 10) rfl rfl (Nat.le_of_ble_eq_true rfl) (by decide) ?_
  refine J_bne dX8_scope_10 (pt := 19) (by decide) (pc' := 13) rfl (fun c10 => ?_) (fun c10 => ?_)
  · refine J_aload_n dX8_scope_19 (pc' := 20) rfl rfl ?_
    refine J_geti fX8_40 kd_516 rf_516_4 dX8_scope_20 (pc' := 23) rfl ?_
    refine J_bipush dX8_scope_23 (pc' := 25) rfl (v := 20) bp_20 ?_
    refine J_icmp_ne dX8_scope_25 (pt := 34) (by decide) (pc' := 28) rfl (fun c25 => ?_) (fun c25 => ?_)
    · refine J_aload_n dX8_scope_34 (pc' := 35) rfl rfl ?_
      refine J_getr fX8_43 kd_516 rf_516_7 dX8_scope_35 (pc' := 38) rfl ?_
      refine J_aload_n dX8_scope_38 (pc' := 39) rfl rfl ?_
      refine J_geti fX8_40 kd_516 rf_516_4 dX8_scope_39 (pc' := 42) rfl ?_
      refine J_iload_n dX8_scope_42 (pc' := 43) rfl rfl ?_
      refine J_iast (j := n) kd_518 (hn) (by rw [ln_518]; omega) dX8_scope_43 (pc' := 44) rfl ?_
      refine J_aload_n dX8_scope_44 (pc' := 45) rfl rfl ?_
      refine J_dup dX8_scope_45 (pc' := 46) rfl rfl ?_
      refine J_geti fX8_40 kd_516 rf_516_4 dX8_scope_46 (pc' := 49) rfl ?_
      refine J_iconst dX8_scope_49 (pc' := 50) rfl (v := 1) ic_1 ?_
      refine J_iadd dX8_scope_50 (pc' := 51) rfl ?_
      refine J_top (w := .int (nI (n + 1))) (by show Value.int (S1.1 516 4 + 1) = _; rw [hn, nI_1]) ?_
      refine J_puti fX8_40 kd_516 rf_516_4 dX8_scope_51 (pc' := 54) rfl ?_
      refine J_aload_n dX8_scope_54 (pc' := 55) rfl rfl ?_
      refine J_aload_n dX8_scope_55 (pc' := 56) rfl rfl ?_
      refine J_geti fX8_40 kd_516 rf_516_4 dX8_scope_56 (pc' := 59) rfl ?_
      refine J_top (w := .int (nI (n + 1))) (by show Value.int (dv_u S1.1 516 4 (nI (n + 1)) 516 4) = _; rw [dv_u_eq]) ?_
      refine J_iconst dX8_scope_59 (pc' := 60) rfl (v := 1) ic_1 ?_
      refine J_isub dX8_scope_60 (pc' := 61) rfl ?_
      refine J_top (w := .int (nI n)) (by rw [nI_pred]) ?_
      refine J_v1 (As := [.int (nI n)]) (rest := []) (qX8_done _ _ _) vX8_done mX8_130 kd_516 dX8_scope_61 (pc' := 64) rfl rfl (Nat.le_of_ble_eq_true rfl) (by decide) ?_
      refine J_iret dX8_scope_64 rfl (dv_r1 _) ?_
      exact ⟨rfl, rfl⟩
    · rw [hn, show (20 : Int32) = nI 20 by decide, nI_eq (by omega) (by omega)] at c25
      omega
  · exact absurd (dv_has hp hn (by omega)) (by rw [c10]; decide)
set_option maxRecDepth 100000 in
set_option maxHeartbeats 400000 in
theorem qX8_thingN1 (d : Nat) (S : dv_S) (S1 : dv_S) (x y z : Int32) (h0 : rS S = S1) (hx : decide (0 ≤ x ∧ x < S1.1 516 4) = false)  : dv_M yX8_thing cX8_thing 6 (some .int) (dv_rm (d + 3)) [.ref 516, .int x, .int y, .int z] S (fun r S' => r = some (.int (-1)) ∧ S' = (rT S1 1)) := by
  refine dv_M_of [some (.ref 516), some (.int x), some (.int y), some (.int z), none, none] (by decide) (fun _ _ => Nat.le_of_ble_eq_true rfl) (fun _ _ => rfl) ?_
  refine J_aload_n dX8_thing_0 (pc' := 1) rfl rfl ?_
  refine J_iconst dX8_thing_1 (pc' := 2) rfl (v := 0) ic_0 ?_
  refine J_puti fX8_1 kd_516 rf_516_0 dX8_thing_2 (pc' := 5) rfl ?_
  refine J_sto (S' := S1) (h0) ?_
  refine J_aload_n dX8_thing_5 (pc' := 6) rfl rfl ?_
  refine J_iload_n dX8_thing_6 (pc' := 7) rfl rfl ?_
  refine J_v1 (As := [.int x]) (rest := []) (qX8_isScope _ _ _) vX8_isScope mX8_123 kd_516 dX8_thing_7 (pc' := 10) rfl rfl (Nat.le_of_ble_eq_true rfl) (by decide) ?_
  refine J_bne dX8_thing_10 (pt := 19) (by decide) (pc' := 13) rfl (fun c10 => ?_) (fun c10 => ?_)
  · exact absurd c10 (by rw [hx]; decide)
  · refine J_aload_n dX8_thing_13 (pc' := 14) rfl rfl ?_
    refine J_iconst dX8_thing_14 (pc' := 15) rfl (v := 1) ic_1 ?_
    refine J_v1 (As := [.int 1]) (rest := []) (qX8_refused _ _ _) vX8_refused mX8_126 kd_516 dX8_thing_15 (pc' := 18) rfl rfl (Nat.le_of_ble_eq_true rfl) (by decide) ?_
    refine J_iret dX8_thing_18 rfl (dv_r1 _) ?_
    exact ⟨rfl, rfl⟩
set_option maxRecDepth 100000 in
set_option maxHeartbeats 400000 in
theorem qX8_thingN2a (d : Nat) (S : dv_S) (S1 : dv_S) (y z : Int32) (sn q : Nat) (h0 : rS S = S1) (hS4 : S1.1 516 4 = nI sn) (h20 : sn ≤ 20) (hq : q < sn) (hy : decide (0 ≤ y ∧ y ≤ 2) = false)  : dv_M yX8_thing cX8_thing 6 (some .int) (dv_rm (d + 3)) [.ref 516, .int (nI q), .int y, .int z] S (fun r S' => r = some (.int (-1)) ∧ S' = (rT S1 2)) := by
  refine dv_M_of [some (.ref 516), some (.int (nI q)), some (.int y), some (.int z), none, none] (by decide) (fun _ _ => Nat.le_of_ble_eq_true rfl) (fun _ _ => rfl) ?_
  refine J_aload_n dX8_thing_0 (pc' := 1) rfl rfl ?_
  refine J_iconst dX8_thing_1 (pc' := 2) rfl (v := 0) ic_0 ?_
  refine J_puti fX8_1 kd_516 rf_516_0 dX8_thing_2 (pc' := 5) rfl ?_
  refine J_sto (S' := S1) (h0) ?_
  refine J_aload_n dX8_thing_5 (pc' := 6) rfl rfl ?_
  refine J_iload_n dX8_thing_6 (pc' := 7) rfl rfl ?_
  refine J_v1 (As := [.int (nI q)]) (rest := []) (qX8_isScope _ _ _) vX8_isScope mX8_123 kd_516 dX8_thing_7 (pc' := 10) rfl rfl (Nat.le_of_ble_eq_true rfl) (by decide) ?_
  refine J_bne dX8_thing_10 (pt := 19) (by decide) (pc' := 13) rfl (fun c10 => ?_) (fun c10 => ?_)
  · refine J_iload_n dX8_thing_19 (pc' := 20) rfl rfl ?_
    refine J_iconst dX8_thing_20 (pc' := 21) rfl (v := 0) ic_0 ?_
    refine J_iconst dX8_thing_21 (pc' := 22) rfl (v := 2) ic_2 ?_
    refine J_s1 (As := [.int y, .int 0, .int 2]) (rest := []) (qX8_in _ _ _ _ _) vX8_in mX8_24 dX8_thing_22 (pc' := 25) rfl rfl (Nat.le_of_ble_eq_true rfl) (by decide) ?_
    refine J_beq dX8_thing_25 (pt := 36) (by decide) (pc' := 28) rfl (fun c25 => ?_) (fun c25 => ?_)
    · refine J_aload_n dX8_thing_36 (pc' := 37) rfl rfl ?_
      refine J_iconst dX8_thing_37 (pc' := 38) rfl (v := 2) ic_2 ?_
      refine J_v1 (As := [.int 2]) (rest := []) (qX8_refused _ _ _) vX8_refused mX8_126 kd_516 dX8_thing_38 (pc' := 41) rfl rfl (Nat.le_of_ble_eq_true rfl) (by decide) ?_
      refine J_iret dX8_thing_41 rfl (dv_r1 _) ?_
      exact ⟨rfl, rfl⟩
    · exact absurd c25 (by rw [hy]; decide)
  · exact absurd (dv_has hq hS4 (by omega)) (by rw [c10]; decide)
set_option maxRecDepth 100000 in
set_option maxHeartbeats 400000 in
theorem qX8_thingN2b (d : Nat) (S : dv_S) (S1 : dv_S) (y z : Int32) (sn q : Nat) (h0 : rS S = S1) (hS4 : S1.1 516 4 = nI sn) (h20 : sn ≤ 20) (hq : q < sn) (hz : decide (0 ≤ z ∧ z ≤ S1.1 516 3) = false)  : dv_M yX8_thing cX8_thing 6 (some .int) (dv_rm (d + 3)) [.ref 516, .int (nI q), .int y, .int z] S (fun r S' => r = some (.int (-1)) ∧ S' = (rT S1 2)) := by
  refine dv_M_of [some (.ref 516), some (.int (nI q)), some (.int y), some (.int z), none, none] (by decide) (fun _ _ => Nat.le_of_ble_eq_true rfl) (fun _ _ => rfl) ?_
  refine J_aload_n dX8_thing_0 (pc' := 1) rfl rfl ?_
  refine J_iconst dX8_thing_1 (pc' := 2) rfl (v := 0) ic_0 ?_
  refine J_puti fX8_1 kd_516 rf_516_0 dX8_thing_2 (pc' := 5) rfl ?_
  refine J_sto (S' := S1) (h0) ?_
  refine J_aload_n dX8_thing_5 (pc' := 6) rfl rfl ?_
  refine J_iload_n dX8_thing_6 (pc' := 7) rfl rfl ?_
  refine J_v1 (As := [.int (nI q)]) (rest := []) (qX8_isScope _ _ _) vX8_isScope mX8_123 kd_516 dX8_thing_7 (pc' := 10) rfl rfl (Nat.le_of_ble_eq_true rfl) (by decide) ?_
  refine J_bne dX8_thing_10 (pt := 19) (by decide) (pc' := 13) rfl (fun c10 => ?_) (fun c10 => ?_)
  · refine J_iload_n dX8_thing_19 (pc' := 20) rfl rfl ?_
    refine J_iconst dX8_thing_20 (pc' := 21) rfl (v := 0) ic_0 ?_
    refine J_iconst dX8_thing_21 (pc' := 22) rfl (v := 2) ic_2 ?_
    refine J_s1 (As := [.int y, .int 0, .int 2]) (rest := []) (qX8_in _ _ _ _ _) vX8_in mX8_24 dX8_thing_22 (pc' := 25) rfl rfl (Nat.le_of_ble_eq_true rfl) (by decide) ?_
    refine J_beq dX8_thing_25 (pt := 36) (by decide) (pc' := 28) rfl (fun c25 => ?_) (fun c25 => ?_)
    · refine J_aload_n dX8_thing_36 (pc' := 37) rfl rfl ?_
      refine J_iconst dX8_thing_37 (pc' := 38) rfl (v := 2) ic_2 ?_
      refine J_v1 (As := [.int 2]) (rest := []) (qX8_refused _ _ _) vX8_refused mX8_126 kd_516 dX8_thing_38 (pc' := 41) rfl rfl (Nat.le_of_ble_eq_true rfl) (by decide) ?_
      refine J_iret dX8_thing_41 rfl (dv_r1 _) ?_
      exact ⟨rfl, rfl⟩
    · refine J_aload_n dX8_thing_28 (pc' := 29) rfl rfl ?_
      refine J_iload_n dX8_thing_29 (pc' := 30) rfl rfl ?_
      refine J_v1 (As := [.int z]) (rest := []) (qX8_isTaped _ _ _) vX8_isTaped mX8_140 kd_516 dX8_thing_30 (pc' := 33) rfl rfl (Nat.le_of_ble_eq_true rfl) (by decide) ?_
      refine J_bne dX8_thing_33 (pt := 42) (by decide) (pc' := 36) rfl (fun c33 => ?_) (fun c33 => ?_)
      · exact absurd c33 (by rw [hz]; decide)
      · refine J_aload_n dX8_thing_36 (pc' := 37) rfl rfl ?_
        refine J_iconst dX8_thing_37 (pc' := 38) rfl (v := 2) ic_2 ?_
        refine J_v1 (As := [.int 2]) (rest := []) (qX8_refused _ _ _) vX8_refused mX8_126 kd_516 dX8_thing_38 (pc' := 41) rfl rfl (Nat.le_of_ble_eq_true rfl) (by decide) ?_
        refine J_iret dX8_thing_41 rfl (dv_r1 _) ?_
        exact ⟨rfl, rfl⟩
  · exact absurd (dv_has hq hS4 (by omega)) (by rw [c10]; decide)
set_option maxRecDepth 100000 in
set_option maxHeartbeats 400000 in
theorem qX8_thingN3 (d : Nat) (S : dv_S) (S1 : dv_S) (y : Int32) (sn q tn : Nat) (L : List Int32) (h0 : rS S = S1) (hS4 : S1.1 516 4 = nI sn) (h20 : sn ≤ 20) (hq : q < sn) (hy : decide (0 ≤ y ∧ y ≤ 2) = true) (htn : S1.1 516 3 = nI tn) (hk : L.length ≤ tn) (h200 : tn ≤ 200) (hL : dv_rd (fun z => S1.2.1 517 (0 + z)) L.length = L) (hc : nm_ok L = false)  : dv_M yX8_thing cX8_thing 6 (some .int) (dv_rm (d + 3)) [.ref 516, .int (nI q), .int y, .int (nI (L.length))] S (fun r S' => r = some (.int (-1)) ∧ S' = (rT (rK S1) 2)) := by
  refine dv_M_of [some (.ref 516), some (.int (nI q)), some (.int y), some (.int (nI (L.length))), none, none] (by decide) (fun _ _ => Nat.le_of_ble_eq_true rfl) (fun _ _ => rfl) ?_
  refine J_aload_n dX8_thing_0 (pc' := 1) rfl rfl ?_
  refine J_iconst dX8_thing_1 (pc' := 2) rfl (v := 0) ic_0 ?_
  refine J_puti fX8_1 kd_516 rf_516_0 dX8_thing_2 (pc' := 5) rfl ?_
  refine J_sto (S' := S1) (h0) ?_
  refine J_aload_n dX8_thing_5 (pc' := 6) rfl rfl ?_
  refine J_iload_n dX8_thing_6 (pc' := 7) rfl rfl ?_
  refine J_v1 (As := [.int (nI q)]) (rest := []) (qX8_isScope _ _ _) vX8_isScope mX8_123 kd_516 dX8_thing_7 (pc' := 10) rfl rfl (Nat.le_of_ble_eq_true rfl) (by decide) ?_
  refine J_bne dX8_thing_10 (pt := 19) (by decide) (pc' := 13) rfl (fun c10 => ?_) (fun c10 => ?_)
  · refine J_iload_n dX8_thing_19 (pc' := 20) rfl rfl ?_
    refine J_iconst dX8_thing_20 (pc' := 21) rfl (v := 0) ic_0 ?_
    refine J_iconst dX8_thing_21 (pc' := 22) rfl (v := 2) ic_2 ?_
    refine J_s1 (As := [.int y, .int 0, .int 2]) (rest := []) (qX8_in _ _ _ _ _) vX8_in mX8_24 dX8_thing_22 (pc' := 25) rfl rfl (Nat.le_of_ble_eq_true rfl) (by decide) ?_
    refine J_beq dX8_thing_25 (pt := 36) (by decide) (pc' := 28) rfl (fun c25 => ?_) (fun c25 => ?_)
    · exact absurd c25 (by rw [hy]; decide)
    · refine J_aload_n dX8_thing_28 (pc' := 29) rfl rfl ?_
      refine J_iload_n dX8_thing_29 (pc' := 30) rfl rfl ?_
      refine J_v1 (As := [.int (nI (L.length))]) (rest := []) (qX8_isTaped _ _ _) vX8_isTaped mX8_140 kd_516 dX8_thing_30 (pc' := 33) rfl rfl (Nat.le_of_ble_eq_true rfl) (by decide) ?_
      refine J_bne dX8_thing_33 (pt := 42) (by decide) (pc' := 36) rfl (fun c33 => ?_) (fun c33 => ?_)
      · refine J_aload_n dX8_thing_42 (pc' := 43) rfl rfl ?_
        refine J_iconst dX8_thing_43 (pc' := 44) rfl (v := 0) ic_0 ?_
        refine J_puti fX8_10 kd_516 rf_516_3 dX8_thing_44 (pc' := 47) rfl ?_
        refine J_aload_n dX8_thing_47 (pc' := 48) rfl rfl ?_
        refine J_getr fX8_13 kd_516 rf_516_2 dX8_thing_48 (pc' := 51) rfl ?_
        refine J_iconst dX8_thing_51 (pc' := 52) rfl (v := 0) ic_0 ?_
        refine J_top (w := .int (nI 0)) (by rw [nI_0]) ?_
        refine J_iload_n dX8_thing_52 (pc' := 53) rfl rfl ?_
        refine J_s1 (As := [.ref 517, .int (nI 0), .int (nI (L.length))]) (rest := []) (qX8_isName _ (rK S1) 517 0 L.length kd_517 (by rw [ln_517]; omega)) vX8_isName mX8_143 dX8_thing_53 (pc' := 56) rfl rfl (Nat.le_of_ble_eq_true rfl) (by decide) ?_
        refine J_top (w := .int (dv_b (nm_ok L))) (by rw [hL]) ?_
        refine J_bne dX8_thing_56 (pt := 65) (by decide) (pc' := 59) rfl (fun c56 => ?_) (fun c56 => ?_)
        · exact absurd c56 (by rw [hc]; decide)
        · refine J_aload_n dX8_thing_59 (pc' := 60) rfl rfl ?_
          refine J_iconst dX8_thing_60 (pc' := 61) rfl (v := 2) ic_2 ?_
          refine J_v1 (As := [.int 2]) (rest := []) (qX8_refused _ _ _) vX8_refused mX8_126 kd_516 dX8_thing_61 (pc' := 64) rfl rfl (Nat.le_of_ble_eq_true rfl) (by decide) ?_
          refine J_iret dX8_thing_64 rfl (dv_r1 _) ?_
          exact ⟨rfl, rfl⟩
      · rw [htn] at c33
        exact absurd (show 0 ≤ nI L.length ∧ nI L.length ≤ nI tn from ⟨nI_pos' (by omega), nI_le hk (by omega)⟩) (of_decide_eq_false c33)
  · exact absurd (dv_has hq hS4 (by omega)) (by rw [c10]; decide)
set_option maxRecDepth 100000 in
set_option maxHeartbeats 400000 in
theorem qX8_thingN4 (d : Nat) (S : dv_S) (S1 : dv_S) (y : Int32) (n sn un : Nat) (hm : Nat → Nat) (an : Nat → Nat → Bool) (us ut : Nat → Nat) (N : Nat → List Int32) (L : List Int32) (q tn : Nat) (h0 : rS S = S1) (hT : rw_T (rK S1) n) (hS : rw_S (rK S1) n sn hm an) (hU : rw_U (rK S1) n sn un us ut) (hA : ∀ u, u < un → an (us u) (hm (ut u)) = true) (hq : q < sn) (hN : rNm (rK S1) 524 521 n N) (hy : decide (0 ≤ y ∧ y ≤ 2) = true) (htn : S1.1 516 3 = nI tn) (hk : L.length ≤ tn) (h200 : tn ≤ 200) (hL : dv_rd (fun z => S1.2.1 517 (0 + z)) L.length = L) (hc : nm_ok L = true) (hd : (dv_ex (fun i => decide (hm i = q) && decide (N i = L)) n || (dv_fo (fun u => decide (hm (ut u) < q) && an (us u) q && decide (N (ut u) = L)) un).isSome) = true)  : dv_M yX8_thing cX8_thing 6 (some .int) (dv_rm (d + 3)) [.ref 516, .int (nI q), .int y, .int (nI (L.length))] S (fun r S' => r = some (.int (-1)) ∧ S' = (rT (rK S1) 4)) := by
  have h80 := hT.2
  have h20 := hS.2.1
  have hS4 : S1.1 516 4 = nI sn := hS.1
  have hlen := nm_len hc
  have hS5 : S1.1 516 5 = nI n := hT.1
  refine dv_M_of [some (.ref 516), some (.int (nI q)), some (.int y), some (.int (nI (L.length))), none, none] (by decide) (fun _ _ => Nat.le_of_ble_eq_true rfl) (fun _ _ => rfl) ?_
  refine J_aload_n dX8_thing_0 (pc' := 1) rfl rfl ?_
  refine J_iconst dX8_thing_1 (pc' := 2) rfl (v := 0) ic_0 ?_
  refine J_puti fX8_1 kd_516 rf_516_0 dX8_thing_2 (pc' := 5) rfl ?_
  refine J_sto (S' := S1) (h0) ?_
  refine J_aload_n dX8_thing_5 (pc' := 6) rfl rfl ?_
  refine J_iload_n dX8_thing_6 (pc' := 7) rfl rfl ?_
  refine J_v1 (As := [.int (nI q)]) (rest := []) (qX8_isScope _ _ _) vX8_isScope mX8_123 kd_516 dX8_thing_7 (pc' := 10) rfl rfl (Nat.le_of_ble_eq_true rfl) (by decide) ?_
  refine J_bne dX8_thing_10 (pt := 19) (by decide) (pc' := 13) rfl (fun c10 => ?_) (fun c10 => ?_)
  · refine J_iload_n dX8_thing_19 (pc' := 20) rfl rfl ?_
    refine J_iconst dX8_thing_20 (pc' := 21) rfl (v := 0) ic_0 ?_
    refine J_iconst dX8_thing_21 (pc' := 22) rfl (v := 2) ic_2 ?_
    refine J_s1 (As := [.int y, .int 0, .int 2]) (rest := []) (qX8_in _ _ _ _ _) vX8_in mX8_24 dX8_thing_22 (pc' := 25) rfl rfl (Nat.le_of_ble_eq_true rfl) (by decide) ?_
    refine J_beq dX8_thing_25 (pt := 36) (by decide) (pc' := 28) rfl (fun c25 => ?_) (fun c25 => ?_)
    · exact absurd c25 (by rw [hy]; decide)
    · refine J_aload_n dX8_thing_28 (pc' := 29) rfl rfl ?_
      refine J_iload_n dX8_thing_29 (pc' := 30) rfl rfl ?_
      refine J_v1 (As := [.int (nI (L.length))]) (rest := []) (qX8_isTaped _ _ _) vX8_isTaped mX8_140 kd_516 dX8_thing_30 (pc' := 33) rfl rfl (Nat.le_of_ble_eq_true rfl) (by decide) ?_
      refine J_bne dX8_thing_33 (pt := 42) (by decide) (pc' := 36) rfl (fun c33 => ?_) (fun c33 => ?_)
      · refine J_aload_n dX8_thing_42 (pc' := 43) rfl rfl ?_
        refine J_iconst dX8_thing_43 (pc' := 44) rfl (v := 0) ic_0 ?_
        refine J_puti fX8_10 kd_516 rf_516_3 dX8_thing_44 (pc' := 47) rfl ?_
        refine J_aload_n dX8_thing_47 (pc' := 48) rfl rfl ?_
        refine J_getr fX8_13 kd_516 rf_516_2 dX8_thing_48 (pc' := 51) rfl ?_
        refine J_iconst dX8_thing_51 (pc' := 52) rfl (v := 0) ic_0 ?_
        refine J_top (w := .int (nI 0)) (by rw [nI_0]) ?_
        refine J_iload_n dX8_thing_52 (pc' := 53) rfl rfl ?_
        refine J_s1 (As := [.ref 517, .int (nI 0), .int (nI (L.length))]) (rest := []) (qX8_isName _ (rK S1) 517 0 L.length kd_517 (by rw [ln_517]; omega)) vX8_isName mX8_143 dX8_thing_53 (pc' := 56) rfl rfl (Nat.le_of_ble_eq_true rfl) (by decide) ?_
        refine J_top (w := .int (dv_b (nm_ok L))) (by rw [hL]) ?_
        refine J_bne dX8_thing_56 (pt := 65) (by decide) (pc' := 59) rfl (fun c56 => ?_) (fun c56 => ?_)
        · refine J_iconst dX8_thing_65 (pc' := 66) rfl (v := 0) ic_0 ?_
          refine J_istore dX8_thing_66 (pc' := 68) rfl (by decide) rfl (l' := [some (.ref 516), some (.int (nI q)), some (.int y), some (.int (nI (L.length))), some (.int 0), none]) rfl ?_
          refine J_iconst dX8_thing_68 (pc' := 69) rfl (v := 0) ic_0 ?_
          refine J_istore dX8_thing_69 (pc' := 71) rfl (by decide) rfl (l' := [some (.ref 516), some (.int (nI q)), some (.int y), some (.int (nI (L.length))), some (.int 0), some (.int 0)]) rfl ?_
          have hlp71 : ∀ t, t ≤ n → dv_J yX8_thing cX8_thing 6 (some .int) (dv_rm (d + 3)) 0 0 71 [some (.ref 516), some (.int (nI q)), some (.int y), some (.int (nI (L.length))), some (.int (dv_b (dv_ex (fun i => decide (hm i = q) && decide (N i = L)) t))), some (.int (nI t))] [] (dv_u S1.1 516 3 0, S1.2) (fun r S' => r = some (.int (-1)) ∧ S' = (rT (rK S1) 4)) := by
            refine dv_up (P := fun t => dv_J yX8_thing cX8_thing 6 (some .int) (dv_rm (d + 3)) 0 0 71 [some (.ref 516), some (.int (nI q)), some (.int y), some (.int (nI (L.length))), some (.int (dv_b (dv_ex (fun i => decide (hm i = q) && decide (N i = L)) t))), some (.int (nI t))] [] (dv_u S1.1 516 3 0, S1.2) (fun r S' => r = some (.int (-1)) ∧ S' = (rT (rK S1) 4))) ?_
            intro t hi71 ih71 
            refine J_iload dX8_thing_71 (pc' := 73) rfl rfl ?_
            refine J_aload_n dX8_thing_73 (pc' := 74) rfl rfl ?_
            refine J_geti fX8_120 kd_516 rf_516_5 dX8_thing_74 (pc' := 77) rfl ?_
            refine J_top (w := .int (nI n)) (by rw [hT.1]) ?_
            refine J_icmp_ge dX8_thing_77 (pt := 137) (by decide) (pc' := 80) rfl (fun c77 => ?_) (fun c77 => ?_)
            · have ht := dv_ge hi71 (by omega) c77
              refine J_iload dX8_thing_137 (pc' := 139) rfl rfl ?_
              refine J_bne dX8_thing_139 (pt := 151) (by decide) (pc' := 142) rfl (fun c139 => ?_) (fun c139 => ?_)
              · rw [ht] at c139
                refine J_aload_n dX8_thing_151 (pc' := 152) rfl rfl ?_
                refine J_iconst dX8_thing_152 (pc' := 153) rfl (v := 4) ic_4 ?_
                refine J_v1 (As := [.int 4]) (rest := []) (qX8_refused _ _ _) vX8_refused mX8_126 kd_516 dX8_thing_153 (pc' := 156) rfl rfl (Nat.le_of_ble_eq_true rfl) (by decide) ?_
                refine J_iret dX8_thing_156 rfl (dv_r1 _) ?_
                exact ⟨rfl, rfl⟩
              · rw [ht] at c139
                refine J_aload_n dX8_thing_142 (pc' := 143) rfl rfl ?_
                refine J_iload_n dX8_thing_143 (pc' := 144) rfl rfl ?_
                refine J_iload_n dX8_thing_144 (pc' := 145) rfl rfl ?_
                refine J_v1 (As := [.int (nI q), .int (nI (L.length))]) (rest := []) (qX8_takesUse _ (rK S1) n sn hm an N L un us ut q hT hS hU hA hq hN (by omega) hL) vX8_takesUse mX8_147 kd_516 dX8_thing_145 (pc' := 148) rfl rfl (Nat.le_of_ble_eq_true rfl) (by decide) ?_
                refine J_beq dX8_thing_148 (pt := 157) (by decide) (pc' := 151) rfl (fun c148 => ?_) (fun c148 => ?_)
                · rw [c139, c148] at hd; exact absurd hd (by decide)
                · refine J_aload_n dX8_thing_151 (pc' := 152) rfl rfl ?_
                  refine J_iconst dX8_thing_152 (pc' := 153) rfl (v := 4) ic_4 ?_
                  refine J_v1 (As := [.int 4]) (rest := []) (qX8_refused _ _ _) vX8_refused mX8_126 kd_516 dX8_thing_153 (pc' := 156) rfl rfl (Nat.le_of_ble_eq_true rfl) (by decide) ?_
                  refine J_iret dX8_thing_156 rfl (dv_r1 _) ?_
                  exact ⟨rfl, rfl⟩
            · have ht := dv_nge hi71 (by omega) c77
              have hht := (hS.2.2.1 t ht).2
              have hj129 : ∀ v : Int32, (dv_b (dv_ex (fun i => decide (hm i = q) && decide (N i = L)) t || (decide (hm t = q) && decide (N t = L)))) = v → dv_J yX8_thing cX8_thing 6 (some .int) (dv_rm (d + 3)) 0 0 129 [some (.ref 516), some (.int (nI q)), some (.int y), some (.int (nI (L.length))), some (.int (dv_b (dv_ex (fun i => decide (hm i = q) && decide (N i = L)) t))), some (.int (nI t))] [.int v] (dv_u S1.1 516 3 0, S1.2) (fun r S' => r = some (.int (-1)) ∧ S' = (rT (rK S1) 4)) := by
                intro v hv
                subst hv
                refine J_istore dX8_thing_129 (pc' := 131) rfl (by decide) rfl (l' := [some (.ref 516), some (.int (nI q)), some (.int y), some (.int (nI (L.length))), some (.int (dv_b (dv_ex (fun i => decide (hm i = q) && decide (N i = L)) t || (decide (hm t = q) && decide (N t = L))))), some (.int (nI t))]) rfl ?_
                refine J_iinc dX8_thing_131 (pc' := 134) rfl rfl (v := nI (t + 1)) (nI_1 t) (by decide) rfl (l' := [some (.ref 516), some (.int (nI q)), some (.int y), some (.int (nI (L.length))), some (.int (dv_b (dv_ex (fun i => decide (hm i = q) && decide (N i = L)) t || (decide (hm t = q) && decide (N t = L))))), some (.int (nI (t + 1)))]) rfl ?_
                refine J_goto dX8_thing_134 (pc' := 71) (by decide) ?_
                exact ih71 (t + 1) (by omega) (by omega)
              refine J_iload dX8_thing_80 (pc' := 82) rfl rfl ?_
              refine J_bne dX8_thing_82 (pt := 124) (by decide) (pc' := 85) rfl (fun c82 => ?_) (fun c82 => ?_)
              · refine J_iconst dX8_thing_124 (pc' := 125) rfl (v := 1) ic_1 ?_
                refine J_goto dX8_thing_125 (pc' := 129) (by decide) ?_
                exact hj129 _ (by first | (simp only [dv_b, c82, Bool.true_or]; rfl) | (simp only [dv_b, c82, decide_eq_false c93]; rfl) | (simp only [dv_b, c82, decide_eq_true c93, c121]; rfl))
              · refine J_aload_n dX8_thing_85 (pc' := 86) rfl rfl ?_
                refine J_getr fX8_47 kd_516 rf_516_8 dX8_thing_86 (pc' := 89) rfl ?_
                refine J_iload dX8_thing_89 (pc' := 91) rfl rfl ?_
                refine J_iald (j := t) kd_519 (rfl) (by rw [ln_519]; omega) dX8_thing_91 (pc' := 92) rfl ?_
                refine J_top (w := .int (nI (hm t))) (by rw [show S1.2.1 519 t = nI (hm t) from (hS.2.2.1 t ht).1]) ?_
                refine J_iload_n dX8_thing_92 (pc' := 93) rfl rfl ?_
                refine J_icmp_ne dX8_thing_93 (pt := 128) (by decide) (pc' := 96) rfl (fun c93 => ?_) (fun c93 => ?_)
                · rw [nI_eq (by omega) (by omega)] at c93
                  refine J_iconst dX8_thing_128 (pc' := 129) rfl (v := 0) ic_0 ?_
                  exact hj129 _ (by first | (simp only [dv_b, c82, Bool.true_or]; rfl) | (simp only [dv_b, c82, decide_eq_false c93]; rfl) | (simp only [dv_b, c82, decide_eq_true c93, c121]; rfl))
                · rw [nI_eq (by omega) (by omega)] at c93
                  refine J_aload_n dX8_thing_96 (pc' := 97) rfl rfl ?_
                  refine J_getr fX8_62 kd_516 rf_516_13 dX8_thing_97 (pc' := 100) rfl ?_
                  refine J_bipush dX8_thing_100 (pc' := 102) rfl (v := 24) bp_24 ?_
                  refine J_iload dX8_thing_102 (pc' := 104) rfl rfl ?_
                  refine J_imul dX8_thing_104 (pc' := 105) rfl ?_
                  refine J_top (w := .int (nI (24 * t))) (by rw [dv_n24, pk_mul]) ?_
                  refine J_aload_n dX8_thing_105 (pc' := 106) rfl rfl ?_
                  refine J_getr fX8_53 kd_516 rf_516_10 dX8_thing_106 (pc' := 109) rfl ?_
                  refine J_iload dX8_thing_109 (pc' := 111) rfl rfl ?_
                  refine J_iald (j := t) kd_521 (rfl) (by rw [ln_521]; omega) dX8_thing_111 (pc' := 112) rfl ?_
                  refine J_top (w := .int (nI ((N t).length))) (by rw [show S1.2.1 521 t = nI (N t).length from (hN t ht).1]) ?_
                  refine J_aload_n dX8_thing_112 (pc' := 113) rfl rfl ?_
                  refine J_getr fX8_13 kd_516 rf_516_2 dX8_thing_113 (pc' := 116) rfl ?_
                  refine J_iconst dX8_thing_116 (pc' := 117) rfl (v := 0) ic_0 ?_
                  refine J_top (w := .int (nI 0)) (by rw [nI_0]) ?_
                  refine J_iload_n dX8_thing_117 (pc' := 118) rfl rfl ?_
                  refine J_s1 (As := [.ref 524, .int (nI (24 * t)), .int (nI ((N t).length)), .ref 517, .int (nI 0), .int (nI (L.length))]) (rest := []) (qX8_isSame _ (rK S1) 524 (24 * t) (N t).length 517 0 L.length kd_524 kd_517 (by rw [ln_524]; have := (hN t ht).2.1; omega) (by rw [ln_517]; omega)) vX8_isSame mX8_133 dX8_thing_118 (pc' := 121) rfl rfl (Nat.le_of_ble_eq_true rfl) (by decide) ?_
                  refine J_top (w := .int (dv_b (decide (N t = L)))) (by rw [show dv_rd (fun z => S1.2.1 524 (24 * t + z)) (N t).length = N t from (hN t ht).2.2, hL]) ?_
                  refine J_beq dX8_thing_121 (pt := 128) (by decide) (pc' := 124) rfl (fun c121 => ?_) (fun c121 => ?_)
                  · refine J_iconst dX8_thing_128 (pc' := 129) rfl (v := 0) ic_0 ?_
                    exact hj129 _ (by first | (simp only [dv_b, c82, Bool.true_or]; rfl) | (simp only [dv_b, c82, decide_eq_false c93]; rfl) | (simp only [dv_b, c82, decide_eq_true c93, c121]; rfl))
                  · refine J_iconst dX8_thing_124 (pc' := 125) rfl (v := 1) ic_1 ?_
                    refine J_goto dX8_thing_125 (pc' := 129) (by decide) ?_
                    exact hj129 _ (by first | (simp only [dv_b, c82, Bool.true_or]; rfl) | (simp only [dv_b, c82, decide_eq_false c93]; rfl) | (simp only [dv_b, c82, decide_eq_true c93, c121]; rfl))
          refine J_loc (l' := [some (.ref 516), some (.int (nI q)), some (.int y), some (.int (nI (L.length))), some (.int (dv_b (dv_ex (fun i => decide (hm i = q) && decide (N i = L)) 0))), some (.int (nI 0))]) (by simp only [nI_0, dv_ex, dv_b_f]) ?_
          exact hlp71 0 (Nat.zero_le _) 
        · exact absurd c56 (by rw [hc]; decide)
      · rw [htn] at c33
        exact absurd (show 0 ≤ nI L.length ∧ nI L.length ≤ nI tn from ⟨nI_pos' (by omega), nI_le hk (by omega)⟩) (of_decide_eq_false c33)
  · exact absurd (dv_has hq hS4 (by omega)) (by rw [c10]; decide)
set_option maxRecDepth 100000 in
set_option maxHeartbeats 400000 in
theorem qX8_thingN5 (d : Nat) (S : dv_S) (S1 : dv_S) (y : Int32) (n sn un : Nat) (hm : Nat → Nat) (an : Nat → Nat → Bool) (us ut : Nat → Nat) (N : Nat → List Int32) (L : List Int32) (q tn : Nat) (h0 : rS S = S1) (hT : rw_T (rK S1) n) (hS : rw_S (rK S1) n sn hm an) (hU : rw_U (rK S1) n sn un us ut) (hA : ∀ u, u < un → an (us u) (hm (ut u)) = true) (hq : q < sn) (hN : rNm (rK S1) 524 521 n N) (hy : decide (0 ≤ y ∧ y ≤ 2) = true) (htn : S1.1 516 3 = nI tn) (hk : L.length ≤ tn) (h200 : tn ≤ 200) (hL : dv_rd (fun z => S1.2.1 517 (0 + z)) L.length = L) (hc : nm_ok L = true) (hd : (dv_ex (fun i => decide (hm i = q) && decide (N i = L)) n || (dv_fo (fun u => decide (hm (ut u) < q) && an (us u) q && decide (N (ut u) = L)) un).isSome) = false) (hn : n = 80)  : dv_M yX8_thing cX8_thing 6 (some .int) (dv_rm (d + 3)) [.ref 516, .int (nI q), .int y, .int (nI (L.length))] S (fun r S' => r = some (.int (-1)) ∧ S' = (rT (rK S1) 3)) := by
  have h80 := hT.2
  have h20 := hS.2.1
  have hS4 : S1.1 516 4 = nI sn := hS.1
  have hlen := nm_len hc
  have hS5 : S1.1 516 5 = nI n := hT.1
  refine dv_M_of [some (.ref 516), some (.int (nI q)), some (.int y), some (.int (nI (L.length))), none, none] (by decide) (fun _ _ => Nat.le_of_ble_eq_true rfl) (fun _ _ => rfl) ?_
  refine J_aload_n dX8_thing_0 (pc' := 1) rfl rfl ?_
  refine J_iconst dX8_thing_1 (pc' := 2) rfl (v := 0) ic_0 ?_
  refine J_puti fX8_1 kd_516 rf_516_0 dX8_thing_2 (pc' := 5) rfl ?_
  refine J_sto (S' := S1) (h0) ?_
  refine J_aload_n dX8_thing_5 (pc' := 6) rfl rfl ?_
  refine J_iload_n dX8_thing_6 (pc' := 7) rfl rfl ?_
  refine J_v1 (As := [.int (nI q)]) (rest := []) (qX8_isScope _ _ _) vX8_isScope mX8_123 kd_516 dX8_thing_7 (pc' := 10) rfl rfl (Nat.le_of_ble_eq_true rfl) (by decide) ?_
  refine J_bne dX8_thing_10 (pt := 19) (by decide) (pc' := 13) rfl (fun c10 => ?_) (fun c10 => ?_)
  · refine J_iload_n dX8_thing_19 (pc' := 20) rfl rfl ?_
    refine J_iconst dX8_thing_20 (pc' := 21) rfl (v := 0) ic_0 ?_
    refine J_iconst dX8_thing_21 (pc' := 22) rfl (v := 2) ic_2 ?_
    refine J_s1 (As := [.int y, .int 0, .int 2]) (rest := []) (qX8_in _ _ _ _ _) vX8_in mX8_24 dX8_thing_22 (pc' := 25) rfl rfl (Nat.le_of_ble_eq_true rfl) (by decide) ?_
    refine J_beq dX8_thing_25 (pt := 36) (by decide) (pc' := 28) rfl (fun c25 => ?_) (fun c25 => ?_)
    · exact absurd c25 (by rw [hy]; decide)
    · refine J_aload_n dX8_thing_28 (pc' := 29) rfl rfl ?_
      refine J_iload_n dX8_thing_29 (pc' := 30) rfl rfl ?_
      refine J_v1 (As := [.int (nI (L.length))]) (rest := []) (qX8_isTaped _ _ _) vX8_isTaped mX8_140 kd_516 dX8_thing_30 (pc' := 33) rfl rfl (Nat.le_of_ble_eq_true rfl) (by decide) ?_
      refine J_bne dX8_thing_33 (pt := 42) (by decide) (pc' := 36) rfl (fun c33 => ?_) (fun c33 => ?_)
      · refine J_aload_n dX8_thing_42 (pc' := 43) rfl rfl ?_
        refine J_iconst dX8_thing_43 (pc' := 44) rfl (v := 0) ic_0 ?_
        refine J_puti fX8_10 kd_516 rf_516_3 dX8_thing_44 (pc' := 47) rfl ?_
        refine J_aload_n dX8_thing_47 (pc' := 48) rfl rfl ?_
        refine J_getr fX8_13 kd_516 rf_516_2 dX8_thing_48 (pc' := 51) rfl ?_
        refine J_iconst dX8_thing_51 (pc' := 52) rfl (v := 0) ic_0 ?_
        refine J_top (w := .int (nI 0)) (by rw [nI_0]) ?_
        refine J_iload_n dX8_thing_52 (pc' := 53) rfl rfl ?_
        refine J_s1 (As := [.ref 517, .int (nI 0), .int (nI (L.length))]) (rest := []) (qX8_isName _ (rK S1) 517 0 L.length kd_517 (by rw [ln_517]; omega)) vX8_isName mX8_143 dX8_thing_53 (pc' := 56) rfl rfl (Nat.le_of_ble_eq_true rfl) (by decide) ?_
        refine J_top (w := .int (dv_b (nm_ok L))) (by rw [hL]) ?_
        refine J_bne dX8_thing_56 (pt := 65) (by decide) (pc' := 59) rfl (fun c56 => ?_) (fun c56 => ?_)
        · refine J_iconst dX8_thing_65 (pc' := 66) rfl (v := 0) ic_0 ?_
          refine J_istore dX8_thing_66 (pc' := 68) rfl (by decide) rfl (l' := [some (.ref 516), some (.int (nI q)), some (.int y), some (.int (nI (L.length))), some (.int 0), none]) rfl ?_
          refine J_iconst dX8_thing_68 (pc' := 69) rfl (v := 0) ic_0 ?_
          refine J_istore dX8_thing_69 (pc' := 71) rfl (by decide) rfl (l' := [some (.ref 516), some (.int (nI q)), some (.int y), some (.int (nI (L.length))), some (.int 0), some (.int 0)]) rfl ?_
          have hlp71 : ∀ t, t ≤ n → dv_J yX8_thing cX8_thing 6 (some .int) (dv_rm (d + 3)) 0 0 71 [some (.ref 516), some (.int (nI q)), some (.int y), some (.int (nI (L.length))), some (.int (dv_b (dv_ex (fun i => decide (hm i = q) && decide (N i = L)) t))), some (.int (nI t))] [] (dv_u S1.1 516 3 0, S1.2) (fun r S' => r = some (.int (-1)) ∧ S' = (rT (rK S1) 3)) := by
            refine dv_up (P := fun t => dv_J yX8_thing cX8_thing 6 (some .int) (dv_rm (d + 3)) 0 0 71 [some (.ref 516), some (.int (nI q)), some (.int y), some (.int (nI (L.length))), some (.int (dv_b (dv_ex (fun i => decide (hm i = q) && decide (N i = L)) t))), some (.int (nI t))] [] (dv_u S1.1 516 3 0, S1.2) (fun r S' => r = some (.int (-1)) ∧ S' = (rT (rK S1) 3))) ?_
            intro t hi71 ih71 
            refine J_iload dX8_thing_71 (pc' := 73) rfl rfl ?_
            refine J_aload_n dX8_thing_73 (pc' := 74) rfl rfl ?_
            refine J_geti fX8_120 kd_516 rf_516_5 dX8_thing_74 (pc' := 77) rfl ?_
            refine J_top (w := .int (nI n)) (by rw [hT.1]) ?_
            refine J_icmp_ge dX8_thing_77 (pt := 137) (by decide) (pc' := 80) rfl (fun c77 => ?_) (fun c77 => ?_)
            · have ht := dv_ge hi71 (by omega) c77
              refine J_iload dX8_thing_137 (pc' := 139) rfl rfl ?_
              refine J_bne dX8_thing_139 (pt := 151) (by decide) (pc' := 142) rfl (fun c139 => ?_) (fun c139 => ?_)
              · rw [ht] at c139
                rw [c139] at hd; exact absurd hd (by simp)
              · rw [ht] at c139
                refine J_aload_n dX8_thing_142 (pc' := 143) rfl rfl ?_
                refine J_iload_n dX8_thing_143 (pc' := 144) rfl rfl ?_
                refine J_iload_n dX8_thing_144 (pc' := 145) rfl rfl ?_
                refine J_v1 (As := [.int (nI q), .int (nI (L.length))]) (rest := []) (qX8_takesUse _ (rK S1) n sn hm an N L un us ut q hT hS hU hA hq hN (by omega) hL) vX8_takesUse mX8_147 kd_516 dX8_thing_145 (pc' := 148) rfl rfl (Nat.le_of_ble_eq_true rfl) (by decide) ?_
                refine J_beq dX8_thing_148 (pt := 157) (by decide) (pc' := 151) rfl (fun c148 => ?_) (fun c148 => ?_)
                · refine J_aload_n dX8_thing_157 (pc' := 158) rfl rfl ?_
                  refine J_geti fX8_120 kd_516 rf_516_5 dX8_thing_158 (pc' := 161) rfl ?_
                  refine J_bipush dX8_thing_161 (pc' := 163) rfl (v := 80) bp_80 ?_
                  refine J_icmp_ne dX8_thing_163 (pt := 172) (by decide) (pc' := 166) rfl (fun c163 => ?_) (fun c163 => ?_)
                  · rw [show (rK S1).1 516 5 = nI 80 by rw [hT.1, hn]] at c163
                    exact absurd (by decide) c163
                  · refine J_aload_n dX8_thing_166 (pc' := 167) rfl rfl ?_
                    refine J_iconst dX8_thing_167 (pc' := 168) rfl (v := 3) ic_3 ?_
                    refine J_v1 (As := [.int 3]) (rest := []) (qX8_refused _ _ _) vX8_refused mX8_126 kd_516 dX8_thing_168 (pc' := 171) rfl rfl (Nat.le_of_ble_eq_true rfl) (by decide) ?_
                    refine J_iret dX8_thing_171 rfl (dv_r1 _) ?_
                    exact ⟨rfl, rfl⟩
                · rw [c148] at hd; exact absurd hd (by simp)
            · have ht := dv_nge hi71 (by omega) c77
              have hht := (hS.2.2.1 t ht).2
              have hj129 : ∀ v : Int32, (dv_b (dv_ex (fun i => decide (hm i = q) && decide (N i = L)) t || (decide (hm t = q) && decide (N t = L)))) = v → dv_J yX8_thing cX8_thing 6 (some .int) (dv_rm (d + 3)) 0 0 129 [some (.ref 516), some (.int (nI q)), some (.int y), some (.int (nI (L.length))), some (.int (dv_b (dv_ex (fun i => decide (hm i = q) && decide (N i = L)) t))), some (.int (nI t))] [.int v] (dv_u S1.1 516 3 0, S1.2) (fun r S' => r = some (.int (-1)) ∧ S' = (rT (rK S1) 3)) := by
                intro v hv
                subst hv
                refine J_istore dX8_thing_129 (pc' := 131) rfl (by decide) rfl (l' := [some (.ref 516), some (.int (nI q)), some (.int y), some (.int (nI (L.length))), some (.int (dv_b (dv_ex (fun i => decide (hm i = q) && decide (N i = L)) t || (decide (hm t = q) && decide (N t = L))))), some (.int (nI t))]) rfl ?_
                refine J_iinc dX8_thing_131 (pc' := 134) rfl rfl (v := nI (t + 1)) (nI_1 t) (by decide) rfl (l' := [some (.ref 516), some (.int (nI q)), some (.int y), some (.int (nI (L.length))), some (.int (dv_b (dv_ex (fun i => decide (hm i = q) && decide (N i = L)) t || (decide (hm t = q) && decide (N t = L))))), some (.int (nI (t + 1)))]) rfl ?_
                refine J_goto dX8_thing_134 (pc' := 71) (by decide) ?_
                exact ih71 (t + 1) (by omega) (by omega)
              refine J_iload dX8_thing_80 (pc' := 82) rfl rfl ?_
              refine J_bne dX8_thing_82 (pt := 124) (by decide) (pc' := 85) rfl (fun c82 => ?_) (fun c82 => ?_)
              · refine J_iconst dX8_thing_124 (pc' := 125) rfl (v := 1) ic_1 ?_
                refine J_goto dX8_thing_125 (pc' := 129) (by decide) ?_
                exact hj129 _ (by first | (simp only [dv_b, c82, Bool.true_or]; rfl) | (simp only [dv_b, c82, decide_eq_false c93]; rfl) | (simp only [dv_b, c82, decide_eq_true c93, c121]; rfl))
              · refine J_aload_n dX8_thing_85 (pc' := 86) rfl rfl ?_
                refine J_getr fX8_47 kd_516 rf_516_8 dX8_thing_86 (pc' := 89) rfl ?_
                refine J_iload dX8_thing_89 (pc' := 91) rfl rfl ?_
                refine J_iald (j := t) kd_519 (rfl) (by rw [ln_519]; omega) dX8_thing_91 (pc' := 92) rfl ?_
                refine J_top (w := .int (nI (hm t))) (by rw [show S1.2.1 519 t = nI (hm t) from (hS.2.2.1 t ht).1]) ?_
                refine J_iload_n dX8_thing_92 (pc' := 93) rfl rfl ?_
                refine J_icmp_ne dX8_thing_93 (pt := 128) (by decide) (pc' := 96) rfl (fun c93 => ?_) (fun c93 => ?_)
                · rw [nI_eq (by omega) (by omega)] at c93
                  refine J_iconst dX8_thing_128 (pc' := 129) rfl (v := 0) ic_0 ?_
                  exact hj129 _ (by first | (simp only [dv_b, c82, Bool.true_or]; rfl) | (simp only [dv_b, c82, decide_eq_false c93]; rfl) | (simp only [dv_b, c82, decide_eq_true c93, c121]; rfl))
                · rw [nI_eq (by omega) (by omega)] at c93
                  refine J_aload_n dX8_thing_96 (pc' := 97) rfl rfl ?_
                  refine J_getr fX8_62 kd_516 rf_516_13 dX8_thing_97 (pc' := 100) rfl ?_
                  refine J_bipush dX8_thing_100 (pc' := 102) rfl (v := 24) bp_24 ?_
                  refine J_iload dX8_thing_102 (pc' := 104) rfl rfl ?_
                  refine J_imul dX8_thing_104 (pc' := 105) rfl ?_
                  refine J_top (w := .int (nI (24 * t))) (by rw [dv_n24, pk_mul]) ?_
                  refine J_aload_n dX8_thing_105 (pc' := 106) rfl rfl ?_
                  refine J_getr fX8_53 kd_516 rf_516_10 dX8_thing_106 (pc' := 109) rfl ?_
                  refine J_iload dX8_thing_109 (pc' := 111) rfl rfl ?_
                  refine J_iald (j := t) kd_521 (rfl) (by rw [ln_521]; omega) dX8_thing_111 (pc' := 112) rfl ?_
                  refine J_top (w := .int (nI ((N t).length))) (by rw [show S1.2.1 521 t = nI (N t).length from (hN t ht).1]) ?_
                  refine J_aload_n dX8_thing_112 (pc' := 113) rfl rfl ?_
                  refine J_getr fX8_13 kd_516 rf_516_2 dX8_thing_113 (pc' := 116) rfl ?_
                  refine J_iconst dX8_thing_116 (pc' := 117) rfl (v := 0) ic_0 ?_
                  refine J_top (w := .int (nI 0)) (by rw [nI_0]) ?_
                  refine J_iload_n dX8_thing_117 (pc' := 118) rfl rfl ?_
                  refine J_s1 (As := [.ref 524, .int (nI (24 * t)), .int (nI ((N t).length)), .ref 517, .int (nI 0), .int (nI (L.length))]) (rest := []) (qX8_isSame _ (rK S1) 524 (24 * t) (N t).length 517 0 L.length kd_524 kd_517 (by rw [ln_524]; have := (hN t ht).2.1; omega) (by rw [ln_517]; omega)) vX8_isSame mX8_133 dX8_thing_118 (pc' := 121) rfl rfl (Nat.le_of_ble_eq_true rfl) (by decide) ?_
                  refine J_top (w := .int (dv_b (decide (N t = L)))) (by rw [show dv_rd (fun z => S1.2.1 524 (24 * t + z)) (N t).length = N t from (hN t ht).2.2, hL]) ?_
                  refine J_beq dX8_thing_121 (pt := 128) (by decide) (pc' := 124) rfl (fun c121 => ?_) (fun c121 => ?_)
                  · refine J_iconst dX8_thing_128 (pc' := 129) rfl (v := 0) ic_0 ?_
                    exact hj129 _ (by first | (simp only [dv_b, c82, Bool.true_or]; rfl) | (simp only [dv_b, c82, decide_eq_false c93]; rfl) | (simp only [dv_b, c82, decide_eq_true c93, c121]; rfl))
                  · refine J_iconst dX8_thing_124 (pc' := 125) rfl (v := 1) ic_1 ?_
                    refine J_goto dX8_thing_125 (pc' := 129) (by decide) ?_
                    exact hj129 _ (by first | (simp only [dv_b, c82, Bool.true_or]; rfl) | (simp only [dv_b, c82, decide_eq_false c93]; rfl) | (simp only [dv_b, c82, decide_eq_true c93, c121]; rfl))
          refine J_loc (l' := [some (.ref 516), some (.int (nI q)), some (.int y), some (.int (nI (L.length))), some (.int (dv_b (dv_ex (fun i => decide (hm i = q) && decide (N i = L)) 0))), some (.int (nI 0))]) (by simp only [nI_0, dv_ex, dv_b_f]) ?_
          exact hlp71 0 (Nat.zero_le _) 
        · exact absurd c56 (by rw [hc]; decide)
      · rw [htn] at c33
        exact absurd (show 0 ≤ nI L.length ∧ nI L.length ≤ nI tn from ⟨nI_pos' (by omega), nI_le hk (by omega)⟩) (of_decide_eq_false c33)
  · exact absurd (dv_has hq hS4 (by omega)) (by rw [c10]; decide)
set_option maxRecDepth 100000 in
set_option maxHeartbeats 400000 in
theorem qX8_thingY (d : Nat) (S : dv_S) (S1 : dv_S) (y : Int32) (n sn un : Nat) (hm : Nat → Nat) (an : Nat → Nat → Bool) (us ut : Nat → Nat) (N : Nat → List Int32) (L : List Int32) (q tn : Nat) (h0 : rS S = S1) (hT : rw_T (rK S1) n) (hS : rw_S (rK S1) n sn hm an) (hU : rw_U (rK S1) n sn un us ut) (hA : ∀ u, u < un → an (us u) (hm (ut u)) = true) (hq : q < sn) (hN : rNm (rK S1) 524 521 n N) (hy : decide (0 ≤ y ∧ y ≤ 2) = true) (htn : S1.1 516 3 = nI tn) (hk : L.length ≤ tn) (h200 : tn ≤ 200) (hL : dv_rd (fun z => S1.2.1 517 (0 + z)) L.length = L) (hc : nm_ok L = true) (hd : (dv_ex (fun i => decide (hm i = q) && decide (N i = L)) n || (dv_fo (fun u => decide (hm (ut u) < q) && an (us u) q && decide (N (ut u) = L)) un).isSome) = false) (hn : n < 80)  : dv_M yX8_thing cX8_thing 6 (some .int) (dv_rm (d + 3)) [.ref 516, .int (nI q), .int y, .int (nI (L.length))] S (fun r S' => r = some (.int (nI n)) ∧ S' = (rT (rThE (rK S1) n q y L.length) 0)) := by
  have h80 := hT.2
  have h20 := hS.2.1
  have hS4 : S1.1 516 4 = nI sn := hS.1
  have hlen := nm_len hc
  have hS5 : S1.1 516 5 = nI n := hT.1
  refine dv_M_of [some (.ref 516), some (.int (nI q)), some (.int y), some (.int (nI (L.length))), none, none] (by decide) (fun _ _ => Nat.le_of_ble_eq_true rfl) (fun _ _ => rfl) ?_
  refine J_aload_n dX8_thing_0 (pc' := 1) rfl rfl ?_
  refine J_iconst dX8_thing_1 (pc' := 2) rfl (v := 0) ic_0 ?_
  refine J_puti fX8_1 kd_516 rf_516_0 dX8_thing_2 (pc' := 5) rfl ?_
  refine J_sto (S' := S1) (h0) ?_
  refine J_aload_n dX8_thing_5 (pc' := 6) rfl rfl ?_
  refine J_iload_n dX8_thing_6 (pc' := 7) rfl rfl ?_
  refine J_v1 (As := [.int (nI q)]) (rest := []) (qX8_isScope _ _ _) vX8_isScope mX8_123 kd_516 dX8_thing_7 (pc' := 10) rfl rfl (Nat.le_of_ble_eq_true rfl) (by decide) ?_
  refine J_bne dX8_thing_10 (pt := 19) (by decide) (pc' := 13) rfl (fun c10 => ?_) (fun c10 => ?_)
  · refine J_iload_n dX8_thing_19 (pc' := 20) rfl rfl ?_
    refine J_iconst dX8_thing_20 (pc' := 21) rfl (v := 0) ic_0 ?_
    refine J_iconst dX8_thing_21 (pc' := 22) rfl (v := 2) ic_2 ?_
    refine J_s1 (As := [.int y, .int 0, .int 2]) (rest := []) (qX8_in _ _ _ _ _) vX8_in mX8_24 dX8_thing_22 (pc' := 25) rfl rfl (Nat.le_of_ble_eq_true rfl) (by decide) ?_
    refine J_beq dX8_thing_25 (pt := 36) (by decide) (pc' := 28) rfl (fun c25 => ?_) (fun c25 => ?_)
    · exact absurd c25 (by rw [hy]; decide)
    · refine J_aload_n dX8_thing_28 (pc' := 29) rfl rfl ?_
      refine J_iload_n dX8_thing_29 (pc' := 30) rfl rfl ?_
      refine J_v1 (As := [.int (nI (L.length))]) (rest := []) (qX8_isTaped _ _ _) vX8_isTaped mX8_140 kd_516 dX8_thing_30 (pc' := 33) rfl rfl (Nat.le_of_ble_eq_true rfl) (by decide) ?_
      refine J_bne dX8_thing_33 (pt := 42) (by decide) (pc' := 36) rfl (fun c33 => ?_) (fun c33 => ?_)
      · refine J_aload_n dX8_thing_42 (pc' := 43) rfl rfl ?_
        refine J_iconst dX8_thing_43 (pc' := 44) rfl (v := 0) ic_0 ?_
        refine J_puti fX8_10 kd_516 rf_516_3 dX8_thing_44 (pc' := 47) rfl ?_
        refine J_aload_n dX8_thing_47 (pc' := 48) rfl rfl ?_
        refine J_getr fX8_13 kd_516 rf_516_2 dX8_thing_48 (pc' := 51) rfl ?_
        refine J_iconst dX8_thing_51 (pc' := 52) rfl (v := 0) ic_0 ?_
        refine J_top (w := .int (nI 0)) (by rw [nI_0]) ?_
        refine J_iload_n dX8_thing_52 (pc' := 53) rfl rfl ?_
        refine J_s1 (As := [.ref 517, .int (nI 0), .int (nI (L.length))]) (rest := []) (qX8_isName _ (rK S1) 517 0 L.length kd_517 (by rw [ln_517]; omega)) vX8_isName mX8_143 dX8_thing_53 (pc' := 56) rfl rfl (Nat.le_of_ble_eq_true rfl) (by decide) ?_
        refine J_top (w := .int (dv_b (nm_ok L))) (by rw [hL]) ?_
        refine J_bne dX8_thing_56 (pt := 65) (by decide) (pc' := 59) rfl (fun c56 => ?_) (fun c56 => ?_)
        · refine J_iconst dX8_thing_65 (pc' := 66) rfl (v := 0) ic_0 ?_
          refine J_istore dX8_thing_66 (pc' := 68) rfl (by decide) rfl (l' := [some (.ref 516), some (.int (nI q)), some (.int y), some (.int (nI (L.length))), some (.int 0), none]) rfl ?_
          refine J_iconst dX8_thing_68 (pc' := 69) rfl (v := 0) ic_0 ?_
          refine J_istore dX8_thing_69 (pc' := 71) rfl (by decide) rfl (l' := [some (.ref 516), some (.int (nI q)), some (.int y), some (.int (nI (L.length))), some (.int 0), some (.int 0)]) rfl ?_
          have hlp71 : ∀ t, t ≤ n → dv_J yX8_thing cX8_thing 6 (some .int) (dv_rm (d + 3)) 0 0 71 [some (.ref 516), some (.int (nI q)), some (.int y), some (.int (nI (L.length))), some (.int (dv_b (dv_ex (fun i => decide (hm i = q) && decide (N i = L)) t))), some (.int (nI t))] [] (dv_u S1.1 516 3 0, S1.2) (fun r S' => r = some (.int (nI n)) ∧ S' = (rT (rThE (rK S1) n q y L.length) 0)) := by
            refine dv_up (P := fun t => dv_J yX8_thing cX8_thing 6 (some .int) (dv_rm (d + 3)) 0 0 71 [some (.ref 516), some (.int (nI q)), some (.int y), some (.int (nI (L.length))), some (.int (dv_b (dv_ex (fun i => decide (hm i = q) && decide (N i = L)) t))), some (.int (nI t))] [] (dv_u S1.1 516 3 0, S1.2) (fun r S' => r = some (.int (nI n)) ∧ S' = (rT (rThE (rK S1) n q y L.length) 0))) ?_
            intro t hi71 ih71 
            refine J_iload dX8_thing_71 (pc' := 73) rfl rfl ?_
            refine J_aload_n dX8_thing_73 (pc' := 74) rfl rfl ?_
            refine J_geti fX8_120 kd_516 rf_516_5 dX8_thing_74 (pc' := 77) rfl ?_
            refine J_top (w := .int (nI n)) (by rw [hT.1]) ?_
            refine J_icmp_ge dX8_thing_77 (pt := 137) (by decide) (pc' := 80) rfl (fun c77 => ?_) (fun c77 => ?_)
            · have ht := dv_ge hi71 (by omega) c77
              refine J_iload dX8_thing_137 (pc' := 139) rfl rfl ?_
              refine J_bne dX8_thing_139 (pt := 151) (by decide) (pc' := 142) rfl (fun c139 => ?_) (fun c139 => ?_)
              · rw [ht] at c139
                rw [c139] at hd; exact absurd hd (by simp)
              · rw [ht] at c139
                refine J_aload_n dX8_thing_142 (pc' := 143) rfl rfl ?_
                refine J_iload_n dX8_thing_143 (pc' := 144) rfl rfl ?_
                refine J_iload_n dX8_thing_144 (pc' := 145) rfl rfl ?_
                refine J_v1 (As := [.int (nI q), .int (nI (L.length))]) (rest := []) (qX8_takesUse _ (rK S1) n sn hm an N L un us ut q hT hS hU hA hq hN (by omega) hL) vX8_takesUse mX8_147 kd_516 dX8_thing_145 (pc' := 148) rfl rfl (Nat.le_of_ble_eq_true rfl) (by decide) ?_
                refine J_beq dX8_thing_148 (pt := 157) (by decide) (pc' := 151) rfl (fun c148 => ?_) (fun c148 => ?_)
                · refine J_aload_n dX8_thing_157 (pc' := 158) rfl rfl ?_
                  refine J_geti fX8_120 kd_516 rf_516_5 dX8_thing_158 (pc' := 161) rfl ?_
                  refine J_bipush dX8_thing_161 (pc' := 163) rfl (v := 80) bp_80 ?_
                  refine J_icmp_ne dX8_thing_163 (pt := 172) (by decide) (pc' := 166) rfl (fun c163 => ?_) (fun c163 => ?_)
                  · refine J_aload_n dX8_thing_172 (pc' := 173) rfl rfl ?_
                    refine J_getr fX8_47 kd_516 rf_516_8 dX8_thing_173 (pc' := 176) rfl ?_
                    refine J_aload_n dX8_thing_176 (pc' := 177) rfl rfl ?_
                    refine J_geti fX8_120 kd_516 rf_516_5 dX8_thing_177 (pc' := 180) rfl ?_
                    refine J_iload_n dX8_thing_180 (pc' := 181) rfl rfl ?_
                    refine J_iast (j := n) kd_519 (hS5) (by rw [ln_519]; omega) dX8_thing_181 (pc' := 182) rfl ?_
                    refine J_aload_n dX8_thing_182 (pc' := 183) rfl rfl ?_
                    refine J_getr fX8_50 kd_516 rf_516_9 dX8_thing_183 (pc' := 186) rfl ?_
                    refine J_aload_n dX8_thing_186 (pc' := 187) rfl rfl ?_
                    refine J_geti fX8_120 kd_516 rf_516_5 dX8_thing_187 (pc' := 190) rfl ?_
                    refine J_iload_n dX8_thing_190 (pc' := 191) rfl rfl ?_
                    refine J_iast (j := n) kd_520 (hS5) (by rw [ln_520]; omega) dX8_thing_191 (pc' := 192) rfl ?_
                    refine J_aload_n dX8_thing_192 (pc' := 193) rfl rfl ?_
                    refine J_getr fX8_53 kd_516 rf_516_10 dX8_thing_193 (pc' := 196) rfl ?_
                    refine J_aload_n dX8_thing_196 (pc' := 197) rfl rfl ?_
                    refine J_geti fX8_120 kd_516 rf_516_5 dX8_thing_197 (pc' := 200) rfl ?_
                    refine J_iload_n dX8_thing_200 (pc' := 201) rfl rfl ?_
                    refine J_iast (j := n) kd_521 (hS5) (by rw [ln_521]; omega) dX8_thing_201 (pc' := 202) rfl ?_
                    refine J_iconst dX8_thing_202 (pc' := 203) rfl (v := 0) ic_0 ?_
                    refine J_istore dX8_thing_203 (pc' := 205) rfl (by decide) rfl (l' := [some (.ref 516), some (.int (nI q)), some (.int y), some (.int (nI (L.length))), some (.int (dv_b (dv_ex (fun i => decide (hm i = q) && decide (N i = L)) t))), some (.int 0)]) rfl ?_
                    have hlp205 : ∀ j, j ≤ L.length → dv_J yX8_thing cX8_thing 6 (some .int) (dv_rm (d + 3)) 0 0 205 [some (.ref 516), some (.int (nI q)), some (.int y), some (.int (nI (L.length))), some (.int (dv_b (dv_ex (fun i => decide (hm i = q) && decide (N i = L)) n))), some (.int (nI j))] [] (rTh (rK S1) n q y L.length j) (fun r S' => r = some (.int (nI n)) ∧ S' = (rT (rThE (rK S1) n q y L.length) 0)) := by
                      refine dv_up (P := fun j => dv_J yX8_thing cX8_thing 6 (some .int) (dv_rm (d + 3)) 0 0 205 [some (.ref 516), some (.int (nI q)), some (.int y), some (.int (nI (L.length))), some (.int (dv_b (dv_ex (fun i => decide (hm i = q) && decide (N i = L)) n))), some (.int (nI j))] [] (rTh (rK S1) n q y L.length j) (fun r S' => r = some (.int (nI n)) ∧ S' = (rT (rThE (rK S1) n q y L.length) 0))) ?_
                      intro j hi205 ih205 
                      refine J_iload dX8_thing_205 (pc' := 207) rfl rfl ?_
                      refine J_iload_n dX8_thing_207 (pc' := 208) rfl rfl ?_
                      refine J_icmp_ge dX8_thing_208 (pt := 239) (by decide) (pc' := 211) rfl (fun c208 => ?_) (fun c208 => ?_)
                      · have hj := dv_ge hi205 (by omega) c208
                        refine J_aload_n dX8_thing_239 (pc' := 240) rfl rfl ?_
                        refine J_getr fX8_95 kd_516 rf_516_28 dX8_thing_240 (pc' := 243) rfl ?_
                        refine J_aload_n dX8_thing_243 (pc' := 244) rfl rfl ?_
                        refine J_geti fX8_120 kd_516 rf_516_5 dX8_thing_244 (pc' := 247) rfl ?_
                        refine J_iconst dX8_thing_247 (pc' := 248) rfl (v := 0) ic_0 ?_
                        refine J_zast (j := n) kd_535 (hS5) (by rw [ln_535]; omega) (by decide) dX8_thing_248 (pc' := 249) rfl ?_
                        refine J_aload_n dX8_thing_249 (pc' := 250) rfl rfl ?_
                        refine J_dup dX8_thing_250 (pc' := 251) rfl rfl ?_
                        refine J_geti fX8_120 kd_516 rf_516_5 dX8_thing_251 (pc' := 254) rfl ?_
                        refine J_iconst dX8_thing_254 (pc' := 255) rfl (v := 1) ic_1 ?_
                        refine J_iadd dX8_thing_255 (pc' := 256) rfl ?_
                        refine J_top (w := .int (nI (n + 1))) (by show Value.int (S1.1 516 5 + 1) = _; rw [hS5, nI_1]) ?_
                        refine J_puti fX8_120 kd_516 rf_516_5 dX8_thing_256 (pc' := 259) rfl ?_
                        refine J_aload_n dX8_thing_259 (pc' := 260) rfl rfl ?_
                        refine J_iconst dX8_thing_260 (pc' := 261) rfl (v := 0) ic_0 ?_
                        refine J_putz fX8_151 kd_516 rf_516_36 (by decide) dX8_thing_261 (pc' := 264) rfl ?_
                        refine J_aload_n dX8_thing_264 (pc' := 265) rfl rfl ?_
                        refine J_aload_n dX8_thing_265 (pc' := 266) rfl rfl ?_
                        refine J_geti fX8_120 kd_516 rf_516_5 dX8_thing_266 (pc' := 269) rfl ?_
                        refine J_top (w := .int (nI (n + 1))) (by show Value.int (dv_u (dv_u (rK S1).1 516 5 (nI (n + 1))) 516 36 0 516 5) = _; rw [dv_u_ne _ _ (by decide), dv_u_eq]) ?_
                        refine J_iconst dX8_thing_269 (pc' := 270) rfl (v := 1) ic_1 ?_
                        refine J_isub dX8_thing_270 (pc' := 271) rfl ?_
                        refine J_top (w := .int (nI n)) (by rw [nI_pred]) ?_
                        refine J_v1 (As := [.int (nI n)]) (rest := []) (qX8_done _ _ _) vX8_done mX8_130 kd_516 dX8_thing_271 (pc' := 274) rfl rfl (Nat.le_of_ble_eq_true rfl) (by decide) ?_
                        refine J_iret dX8_thing_274 rfl (dv_r1 _) ?_
                        exact ⟨rfl, by rw [hj]; rfl⟩
                      · have hj := dv_nge hi205 (by omega) c208
                        refine J_aload_n dX8_thing_211 (pc' := 212) rfl rfl ?_
                        refine J_getr fX8_62 kd_516 rf_516_13 dX8_thing_212 (pc' := 215) rfl ?_
                        refine J_bipush dX8_thing_215 (pc' := 217) rfl (v := 24) bp_24 ?_
                        refine J_aload_n dX8_thing_217 (pc' := 218) rfl rfl ?_
                        refine J_geti fX8_120 kd_516 rf_516_5 dX8_thing_218 (pc' := 221) rfl ?_
                        refine J_top (w := .int (nI n)) (by show Value.int (S1.1 516 5) = _; rw [hS5]) ?_
                        refine J_imul dX8_thing_221 (pc' := 222) rfl ?_
                        refine J_top (w := .int (nI (24 * n))) (by rw [dv_n24, pk_mul]) ?_
                        refine J_iload dX8_thing_222 (pc' := 224) rfl rfl ?_
                        refine J_iadd dX8_thing_224 (pc' := 225) rfl ?_
                        refine J_top (w := .int (nI (24 * n + j))) (by rw [nI_add]) ?_
                        refine J_aload_n dX8_thing_225 (pc' := 226) rfl rfl ?_
                        refine J_getr fX8_13 kd_516 rf_516_2 dX8_thing_226 (pc' := 229) rfl ?_
                        refine J_iload dX8_thing_229 (pc' := 231) rfl rfl ?_
                        refine J_bald (j := j) kd_517 (rfl) (by rw [ln_517]; omega) dX8_thing_231 (pc' := 232) rfl ?_
                        refine J_top (w := .int (S1.2.1 517 j)) (by rw [rTh_row _ _ _ _ _ _ (by decide)]) ?_
                        refine J_bast (j := 24 * n + j) kd_524 (rfl) (by rw [ln_524]; omega) dX8_thing_232 (pc' := 233) rfl ?_
                        refine J_iinc dX8_thing_233 (pc' := 236) rfl rfl (v := nI (j + 1)) (nI_1 j) (by decide) rfl (l' := [some (.ref 516), some (.int (nI q)), some (.int y), some (.int (nI (L.length))), some (.int (dv_b (dv_ex (fun i => decide (hm i = q) && decide (N i = L)) n))), some (.int (nI (j + 1)))]) rfl ?_
                        refine J_goto dX8_thing_236 (pc' := 205) (by decide) ?_
                        refine J_sto (S' := (rTh (rK S1) n q y L.length (j + 1))) ?_ (ih205 (j + 1) (by omega) (by omega))
                        clear ih205
                        simp only [rTh]
                        rw [← dv_ro_s]
                    refine J_loc (l' := [some (.ref 516), some (.int (nI q)), some (.int y), some (.int (nI (L.length))), some (.int (dv_b (dv_ex (fun i => decide (hm i = q) && decide (N i = L)) n))), some (.int (nI 0))]) (by simp only [nI_0, ht]) ?_
                    refine J_sto (S' := (rTh (rK S1) n q y L.length 0)) (by simp only [rTh, dv_ro_0]) ?_
                    exact hlp205 0 (Nat.zero_le _) 
                  · rw [hT.1, show (80 : Int32) = nI 80 by decide, nI_eq (by omega) (by omega)] at c163
                    omega
                · rw [c148] at hd; exact absurd hd (by simp)
            · have ht := dv_nge hi71 (by omega) c77
              have hht := (hS.2.2.1 t ht).2
              have hj129 : ∀ v : Int32, (dv_b (dv_ex (fun i => decide (hm i = q) && decide (N i = L)) t || (decide (hm t = q) && decide (N t = L)))) = v → dv_J yX8_thing cX8_thing 6 (some .int) (dv_rm (d + 3)) 0 0 129 [some (.ref 516), some (.int (nI q)), some (.int y), some (.int (nI (L.length))), some (.int (dv_b (dv_ex (fun i => decide (hm i = q) && decide (N i = L)) t))), some (.int (nI t))] [.int v] (dv_u S1.1 516 3 0, S1.2) (fun r S' => r = some (.int (nI n)) ∧ S' = (rT (rThE (rK S1) n q y L.length) 0)) := by
                intro v hv
                subst hv
                refine J_istore dX8_thing_129 (pc' := 131) rfl (by decide) rfl (l' := [some (.ref 516), some (.int (nI q)), some (.int y), some (.int (nI (L.length))), some (.int (dv_b (dv_ex (fun i => decide (hm i = q) && decide (N i = L)) t || (decide (hm t = q) && decide (N t = L))))), some (.int (nI t))]) rfl ?_
                refine J_iinc dX8_thing_131 (pc' := 134) rfl rfl (v := nI (t + 1)) (nI_1 t) (by decide) rfl (l' := [some (.ref 516), some (.int (nI q)), some (.int y), some (.int (nI (L.length))), some (.int (dv_b (dv_ex (fun i => decide (hm i = q) && decide (N i = L)) t || (decide (hm t = q) && decide (N t = L))))), some (.int (nI (t + 1)))]) rfl ?_
                refine J_goto dX8_thing_134 (pc' := 71) (by decide) ?_
                exact ih71 (t + 1) (by omega) (by omega)
              refine J_iload dX8_thing_80 (pc' := 82) rfl rfl ?_
              refine J_bne dX8_thing_82 (pt := 124) (by decide) (pc' := 85) rfl (fun c82 => ?_) (fun c82 => ?_)
              · refine J_iconst dX8_thing_124 (pc' := 125) rfl (v := 1) ic_1 ?_
                refine J_goto dX8_thing_125 (pc' := 129) (by decide) ?_
                exact hj129 _ (by first | (simp only [dv_b, c82, Bool.true_or]; rfl) | (simp only [dv_b, c82, decide_eq_false c93]; rfl) | (simp only [dv_b, c82, decide_eq_true c93, c121]; rfl))
              · refine J_aload_n dX8_thing_85 (pc' := 86) rfl rfl ?_
                refine J_getr fX8_47 kd_516 rf_516_8 dX8_thing_86 (pc' := 89) rfl ?_
                refine J_iload dX8_thing_89 (pc' := 91) rfl rfl ?_
                refine J_iald (j := t) kd_519 (rfl) (by rw [ln_519]; omega) dX8_thing_91 (pc' := 92) rfl ?_
                refine J_top (w := .int (nI (hm t))) (by rw [show S1.2.1 519 t = nI (hm t) from (hS.2.2.1 t ht).1]) ?_
                refine J_iload_n dX8_thing_92 (pc' := 93) rfl rfl ?_
                refine J_icmp_ne dX8_thing_93 (pt := 128) (by decide) (pc' := 96) rfl (fun c93 => ?_) (fun c93 => ?_)
                · rw [nI_eq (by omega) (by omega)] at c93
                  refine J_iconst dX8_thing_128 (pc' := 129) rfl (v := 0) ic_0 ?_
                  exact hj129 _ (by first | (simp only [dv_b, c82, Bool.true_or]; rfl) | (simp only [dv_b, c82, decide_eq_false c93]; rfl) | (simp only [dv_b, c82, decide_eq_true c93, c121]; rfl))
                · rw [nI_eq (by omega) (by omega)] at c93
                  refine J_aload_n dX8_thing_96 (pc' := 97) rfl rfl ?_
                  refine J_getr fX8_62 kd_516 rf_516_13 dX8_thing_97 (pc' := 100) rfl ?_
                  refine J_bipush dX8_thing_100 (pc' := 102) rfl (v := 24) bp_24 ?_
                  refine J_iload dX8_thing_102 (pc' := 104) rfl rfl ?_
                  refine J_imul dX8_thing_104 (pc' := 105) rfl ?_
                  refine J_top (w := .int (nI (24 * t))) (by rw [dv_n24, pk_mul]) ?_
                  refine J_aload_n dX8_thing_105 (pc' := 106) rfl rfl ?_
                  refine J_getr fX8_53 kd_516 rf_516_10 dX8_thing_106 (pc' := 109) rfl ?_
                  refine J_iload dX8_thing_109 (pc' := 111) rfl rfl ?_
                  refine J_iald (j := t) kd_521 (rfl) (by rw [ln_521]; omega) dX8_thing_111 (pc' := 112) rfl ?_
                  refine J_top (w := .int (nI ((N t).length))) (by rw [show S1.2.1 521 t = nI (N t).length from (hN t ht).1]) ?_
                  refine J_aload_n dX8_thing_112 (pc' := 113) rfl rfl ?_
                  refine J_getr fX8_13 kd_516 rf_516_2 dX8_thing_113 (pc' := 116) rfl ?_
                  refine J_iconst dX8_thing_116 (pc' := 117) rfl (v := 0) ic_0 ?_
                  refine J_top (w := .int (nI 0)) (by rw [nI_0]) ?_
                  refine J_iload_n dX8_thing_117 (pc' := 118) rfl rfl ?_
                  refine J_s1 (As := [.ref 524, .int (nI (24 * t)), .int (nI ((N t).length)), .ref 517, .int (nI 0), .int (nI (L.length))]) (rest := []) (qX8_isSame _ (rK S1) 524 (24 * t) (N t).length 517 0 L.length kd_524 kd_517 (by rw [ln_524]; have := (hN t ht).2.1; omega) (by rw [ln_517]; omega)) vX8_isSame mX8_133 dX8_thing_118 (pc' := 121) rfl rfl (Nat.le_of_ble_eq_true rfl) (by decide) ?_
                  refine J_top (w := .int (dv_b (decide (N t = L)))) (by rw [show dv_rd (fun z => S1.2.1 524 (24 * t + z)) (N t).length = N t from (hN t ht).2.2, hL]) ?_
                  refine J_beq dX8_thing_121 (pt := 128) (by decide) (pc' := 124) rfl (fun c121 => ?_) (fun c121 => ?_)
                  · refine J_iconst dX8_thing_128 (pc' := 129) rfl (v := 0) ic_0 ?_
                    exact hj129 _ (by first | (simp only [dv_b, c82, Bool.true_or]; rfl) | (simp only [dv_b, c82, decide_eq_false c93]; rfl) | (simp only [dv_b, c82, decide_eq_true c93, c121]; rfl))
                  · refine J_iconst dX8_thing_124 (pc' := 125) rfl (v := 1) ic_1 ?_
                    refine J_goto dX8_thing_125 (pc' := 129) (by decide) ?_
                    exact hj129 _ (by first | (simp only [dv_b, c82, Bool.true_or]; rfl) | (simp only [dv_b, c82, decide_eq_false c93]; rfl) | (simp only [dv_b, c82, decide_eq_true c93, c121]; rfl))
          refine J_loc (l' := [some (.ref 516), some (.int (nI q)), some (.int y), some (.int (nI (L.length))), some (.int (dv_b (dv_ex (fun i => decide (hm i = q) && decide (N i = L)) 0))), some (.int (nI 0))]) (by simp only [nI_0, dv_ex, dv_b_f]) ?_
          exact hlp71 0 (Nat.zero_le _) 
        · exact absurd c56 (by rw [hc]; decide)
      · rw [htn] at c33
        exact absurd (show 0 ≤ nI L.length ∧ nI L.length ≤ nI tn from ⟨nI_pos' (by omega), nI_le hk (by omega)⟩) (of_decide_eq_false c33)
  · exact absurd (dv_has hq hS4 (by omega)) (by rw [c10]; decide)
