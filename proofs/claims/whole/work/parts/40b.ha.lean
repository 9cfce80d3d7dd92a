set_option maxRecDepth 100000 in
set_option maxHeartbeats 400000 in
theorem qX7_useN1 (d : Nat) (S : dv_S) (x z : Int32) (hx : decide (0 ≤ x ∧ x < S.1 19 1) = false)  : dv_M yX7_use cX7_use 4 (some .int) (dv_rm (d + 4)) [.ref 0, .int x, .int z] S (fun r S' => r = some (.int (-1)) ∧ S' = (rfS S 1)) := by
  refine dv_M_of [some (.ref 0), some (.int x), some (.int z), none] (by decide) (fun _ _ => Nat.le_of_ble_eq_true rfl) (fun _ _ => rfl) ?_
  refine J_aload_n dX7_use_0 (pc' := 1) rfl rfl ?_
  refine J_getr fX7_44 kd_0 rf_0_6 dX7_use_1 (pc' := 4) rfl ?_
  refine J_iload_n dX7_use_4 (pc' := 5) rfl rfl ?_
  refine J_v1 (As := [.int x]) (rest := []) (qX3_has _ _ _) vX3_has mX7_119 kd_19 dX7_use_5 (pc' := 8) rfl rfl (Nat.le_of_ble_eq_true rfl) (by decide) ?_
  refine J_bne dX7_use_8 (pt := 17) (by decide) (pc' := 11) rfl (fun c8 => ?_) (fun c8 => ?_)
  · exact absurd c8 (by rw [hx]; decide)
  · refine J_aload_n dX7_use_11 (pc' := 12) rfl rfl ?_
    refine J_iconst dX7_use_12 (pc' := 13) rfl (v := 1) ic_1 ?_
    refine J_v1 (As := [.int 1]) (rest := []) (qX7_refused _ _ _) vX7_refused mX7_122 kd_0 dX7_use_13 (pc' := 16) rfl rfl (Nat.le_of_ble_eq_true rfl) (by decide) ?_
    refine J_iret dX7_use_16 rfl (dv_r1 _) ?_
    exact ⟨rfl, rfl⟩
set_option maxRecDepth 100000 in
set_option maxHeartbeats 400000 in
theorem qX7_useN2 (d : Nat) (S : dv_S) (z : Int32) (n sn q : Nat) (hS : cw_S S n sn) (hq : q < sn) (hz : decide (0 ≤ z ∧ z ≤ S.1 1 1) = false)  : dv_M yX7_use cX7_use 4 (some .int) (dv_rm (d + 4)) [.ref 0, .int (nI q), .int z] S (fun r S' => r = some (.int (-1)) ∧ S' = (rfS S 2)) := by
  have h20 := hS.2.1
  refine dv_M_of [some (.ref 0), some (.int (nI q)), some (.int z), none] (by decide) (fun _ _ => Nat.le_of_ble_eq_true rfl) (fun _ _ => rfl) ?_
  refine J_aload_n dX7_use_0 (pc' := 1) rfl rfl ?_
  refine J_getr fX7_44 kd_0 rf_0_6 dX7_use_1 (pc' := 4) rfl ?_
  refine J_iload_n dX7_use_4 (pc' := 5) rfl rfl ?_
  refine J_v1 (As := [.int (nI q)]) (rest := []) (qX3_has _ _ _) vX3_has mX7_119 kd_19 dX7_use_5 (pc' := 8) rfl rfl (Nat.le_of_ble_eq_true rfl) (by decide) ?_
  refine J_bne dX7_use_8 (pt := 17) (by decide) (pc' := 11) rfl (fun c8 => ?_) (fun c8 => ?_)
  · refine J_aload_n dX7_use_17 (pc' := 18) rfl rfl ?_
    refine J_iload_n dX7_use_18 (pc' := 19) rfl rfl ?_
    refine J_v1 (As := [.int z]) (rest := []) (qX7_takesNameN _ _ _ hz) vX7_takesName mX7_137 kd_0 dX7_use_19 (pc' := 22) rfl rfl (Nat.le_of_ble_eq_true rfl) (by decide) ?_
    refine J_if_ne dX7_use_22 (pt := 31) (by decide) (pc' := 25) rfl (fun c22 => ?_) (fun c22 => ?_)
    · exact absurd c22 (by decide)
    · refine J_aload_n dX7_use_25 (pc' := 26) rfl rfl ?_
      refine J_iconst dX7_use_26 (pc' := 27) rfl (v := 2) ic_2 ?_
      refine J_v1 (As := [.int 2]) (rest := []) (qX7_refused _ _ _) vX7_refused mX7_122 kd_0 dX7_use_27 (pc' := 30) rfl rfl (Nat.le_of_ble_eq_true rfl) (by decide) ?_
      refine J_iret dX7_use_30 rfl (dv_r1 _) ?_
      exact ⟨rfl, rfl⟩
  · exact absurd (dv_has hq hS.1 (by omega)) (by rw [c8]; decide)
set_option maxRecDepth 100000 in
set_option maxHeartbeats 400000 in
theorem qX7_useN3 (d : Nat) (S : dv_S) (n sn q k tn : Nat) (hS : cw_S S n sn) (hq : q < sn) (htn : S.1 1 1 = nI tn) (hk : k ≤ tn) (h200 : tn ≤ 200) (hc : nm_ok (dv_rd (S.2.1 2) k) = false)  : dv_M yX7_use cX7_use 4 (some .int) (dv_rm (d + 4)) [.ref 0, .int (nI q), .int (nI k)] S (fun r S' => r = some (.int (-1)) ∧ S' = (rfS (dv_tc S k) 2)) := by
  have h20 := hS.2.1
  refine dv_M_of [some (.ref 0), some (.int (nI q)), some (.int (nI k)), none] (by decide) (fun _ _ => Nat.le_of_ble_eq_true rfl) (fun _ _ => rfl) ?_
  refine J_aload_n dX7_use_0 (pc' := 1) rfl rfl ?_
  refine J_getr fX7_44 kd_0 rf_0_6 dX7_use_1 (pc' := 4) rfl ?_
  refine J_iload_n dX7_use_4 (pc' := 5) rfl rfl ?_
  refine J_v1 (As := [.int (nI q)]) (rest := []) (qX3_has _ _ _) vX3_has mX7_119 kd_19 dX7_use_5 (pc' := 8) rfl rfl (Nat.le_of_ble_eq_true rfl) (by decide) ?_
  refine J_bne dX7_use_8 (pt := 17) (by decide) (pc' := 11) rfl (fun c8 => ?_) (fun c8 => ?_)
  · refine J_aload_n dX7_use_17 (pc' := 18) rfl rfl ?_
    refine J_iload_n dX7_use_18 (pc' := 19) rfl rfl ?_
    refine J_v1 (As := [.int (nI k)]) (rest := []) (qX7_takesName _ _ k tn htn hk h200) vX7_takesName mX7_137 kd_0 dX7_use_19 (pc' := 22) rfl rfl (Nat.le_of_ble_eq_true rfl) (by decide) ?_
    refine J_bne dX7_use_22 (pt := 31) (by decide) (pc' := 25) rfl (fun c22 => ?_) (fun c22 => ?_)
    · exact absurd c22 (by rw [hc]; decide)
    · refine J_aload_n dX7_use_25 (pc' := 26) rfl rfl ?_
      refine J_iconst dX7_use_26 (pc' := 27) rfl (v := 2) ic_2 ?_
      refine J_v1 (As := [.int 2]) (rest := []) (qX7_refused _ _ _) vX7_refused mX7_122 kd_0 dX7_use_27 (pc' := 30) rfl rfl (Nat.le_of_ble_eq_true rfl) (by decide) ?_
      refine J_iret dX7_use_30 rfl (dv_r1 _) ?_
      exact ⟨rfl, rfl⟩
  · exact absurd (dv_has hq hS.1 (by omega)) (by rw [c8]; decide)
set_option maxRecDepth 100000 in
set_option maxHeartbeats 400000 in
theorem qX7_findN1 (d : Nat) (S : dv_S) (x z : Int32) (hx : decide (0 ≤ x ∧ x < S.1 19 1) = false)  : dv_M yX7_find cX7_find 3 (some .int) (dv_rm (d + 4)) [.ref 0, .int x, .int z] S (fun r S' => r = some (.int (-1)) ∧ S' = (rfS S 1)) := by
  refine dv_M_of [some (.ref 0), some (.int x), some (.int z)] (by decide) (fun _ _ => Nat.le_of_ble_eq_true rfl) (fun _ _ => rfl) ?_
  refine J_aload_n dX7_find_0 (pc' := 1) rfl rfl ?_
  refine J_getr fX7_44 kd_0 rf_0_6 dX7_find_1 (pc' := 4) rfl ?_
  refine J_iload_n dX7_find_4 (pc' := 5) rfl rfl ?_
  refine J_v1 (As := [.int x]) (rest := []) (qX3_has _ _ _) vX3_has mX7_119 kd_19 dX7_find_5 (pc' := 8) rfl rfl (Nat.le_of_ble_eq_true rfl) (by decide) ?_
  refine J_bne dX7_find_8 (pt := 17) (by decide) (pc' := 11) rfl (fun c8 => ?_) (fun c8 => ?_)
  · exact absurd c8 (by rw [hx]; decide)
  · refine J_aload_n dX7_find_11 (pc' := 12) rfl rfl ?_
    refine J_iconst dX7_find_12 (pc' := 13) rfl (v := 1) ic_1 ?_
    refine J_v1 (As := [.int 1]) (rest := []) (qX7_refused _ _ _) vX7_refused mX7_122 kd_0 dX7_find_13 (pc' := 16) rfl rfl (Nat.le_of_ble_eq_true rfl) (by decide) ?_
    refine J_iret dX7_find_16 rfl (dv_r1 _) ?_
    exact ⟨rfl, rfl⟩
set_option maxRecDepth 100000 in
set_option maxHeartbeats 400000 in
theorem qX7_findN2 (d : Nat) (S : dv_S) (z : Int32) (n sn q : Nat) (hS : cw_S S n sn) (hq : q < sn) (hz : decide (0 ≤ z ∧ z ≤ S.1 1 1) = false)  : dv_M yX7_find cX7_find 3 (some .int) (dv_rm (d + 4)) [.ref 0, .int (nI q), .int z] S (fun r S' => r = some (.int (-1)) ∧ S' = (rfS S 2)) := by
  have h20 := hS.2.1
  refine dv_M_of [some (.ref 0), some (.int (nI q)), some (.int z)] (by decide) (fun _ _ => Nat.le_of_ble_eq_true rfl) (fun _ _ => rfl) ?_
  refine J_aload_n dX7_find_0 (pc' := 1) rfl rfl ?_
  refine J_getr fX7_44 kd_0 rf_0_6 dX7_find_1 (pc' := 4) rfl ?_
  refine J_iload_n dX7_find_4 (pc' := 5) rfl rfl ?_
  refine J_v1 (As := [.int (nI q)]) (rest := []) (qX3_has _ _ _) vX3_has mX7_119 kd_19 dX7_find_5 (pc' := 8) rfl rfl (Nat.le_of_ble_eq_true rfl) (by decide) ?_
  refine J_bne dX7_find_8 (pt := 17) (by decide) (pc' := 11) rfl (fun c8 => ?_) (fun c8 => ?_)
  · refine J_aload_n dX7_find_17 (pc' := 18) rfl rfl ?_
    refine J_iload_n dX7_find_18 (pc' := 19) rfl rfl ?_
    refine J_v1 (As := [.int z]) (rest := []) (qX7_takesNameN _ _ _ hz) vX7_takesName mX7_137 kd_0 dX7_find_19 (pc' := 22) rfl rfl (Nat.le_of_ble_eq_true rfl) (by decide) ?_
    refine J_if_ne dX7_find_22 (pt := 31) (by decide) (pc' := 25) rfl (fun c22 => ?_) (fun c22 => ?_)
    · exact absurd c22 (by decide)
    · refine J_aload_n dX7_find_25 (pc' := 26) rfl rfl ?_
      refine J_iconst dX7_find_26 (pc' := 27) rfl (v := 2) ic_2 ?_
      refine J_v1 (As := [.int 2]) (rest := []) (qX7_refused _ _ _) vX7_refused mX7_122 kd_0 dX7_find_27 (pc' := 30) rfl rfl (Nat.le_of_ble_eq_true rfl) (by decide) ?_
      refine J_iret dX7_find_30 rfl (dv_r1 _) ?_
      exact ⟨rfl, rfl⟩
  · exact absurd (dv_has hq hS.1 (by omega)) (by rw [c8]; decide)
set_option maxRecDepth 100000 in
set_option maxHeartbeats 400000 in
theorem qX7_findN3 (d : Nat) (S : dv_S) (n sn q k tn : Nat) (hS : cw_S S n sn) (hq : q < sn) (htn : S.1 1 1 = nI tn) (hk : k ≤ tn) (h200 : tn ≤ 200) (hc : nm_ok (dv_rd (S.2.1 2) k) = false)  : dv_M yX7_find cX7_find 3 (some .int) (dv_rm (d + 4)) [.ref 0, .int (nI q), .int (nI k)] S (fun r S' => r = some (.int (-1)) ∧ S' = (rfS (dv_tc S k) 2)) := by
  have h20 := hS.2.1
  refine dv_M_of [some (.ref 0), some (.int (nI q)), some (.int (nI k))] (by decide) (fun _ _ => Nat.le_of_ble_eq_true rfl) (fun _ _ => rfl) ?_
  refine J_aload_n dX7_find_0 (pc' := 1) rfl rfl ?_
  refine J_getr fX7_44 kd_0 rf_0_6 dX7_find_1 (pc' := 4) rfl ?_
  refine J_iload_n dX7_find_4 (pc' := 5) rfl rfl ?_
  refine J_v1 (As := [.int (nI q)]) (rest := []) (qX3_has _ _ _) vX3_has mX7_119 kd_19 dX7_find_5 (pc' := 8) rfl rfl (Nat.le_of_ble_eq_true rfl) (by decide) ?_
  refine J_bne dX7_find_8 (pt := 17) (by decide) (pc' := 11) rfl (fun c8 => ?_) (fun c8 => ?_)
  · refine J_aload_n dX7_find_17 (pc' := 18) rfl rfl ?_
    refine J_iload_n dX7_find_18 (pc' := 19) rfl rfl ?_
    refine J_v1 (As := [.int (nI k)]) (rest := []) (qX7_takesName _ _ k tn htn hk h200) vX7_takesName mX7_137 kd_0 dX7_find_19 (pc' := 22) rfl rfl (Nat.le_of_ble_eq_true rfl) (by decide) ?_
    refine J_bne dX7_find_22 (pt := 31) (by decide) (pc' := 25) rfl (fun c22 => ?_) (fun c22 => ?_)
    · exact absurd c22 (by rw [hc]; decide)
    · refine J_aload_n dX7_find_25 (pc' := 26) rfl rfl ?_
      refine J_iconst dX7_find_26 (pc' := 27) rfl (v := 2) ic_2 ?_
      refine J_v1 (As := [.int 2]) (rest := []) (qX7_refused _ _ _) vX7_refused mX7_122 kd_0 dX7_find_27 (pc' := 30) rfl rfl (Nat.le_of_ble_eq_true rfl) (by decide) ?_
      refine J_iret dX7_find_30 rfl (dv_r1 _) ?_
      exact ⟨rfl, rfl⟩
  · exact absurd (dv_has hq hS.1 (by omega)) (by rw [c8]; decide)
set_option maxRecDepth 100000 in
set_option maxHeartbeats 400000 in
theorem qX7_findY (d : Nat) (S : dv_S) (n sn q k tn : Nat) (hT : cw_T S n) (hS : cw_S S n sn) (hq : q < sn) (htn : S.1 1 1 = nI tn) (hk : k ≤ tn) (h200 : tn ≤ 200) (hc : nm_ok (dv_rd (S.2.1 2) k) = true)  : dv_M yX7_find cX7_find 3 (some .int) (dv_rm (d + 4)) [.ref 0, .int (nI q), .int (nI k)] S (fun r S' => r = some (.int (dv_oi (thM (dv_tc S k) n q))) ∧ S' = (rfS (dv_tc S k) 0)) := by
  have h80 := hT.2.1
  have h20 := hS.2.1
  have tT := tc_T k hT
  have tS := tc_S k hS
  refine dv_M_of [some (.ref 0), some (.int (nI q)), some (.int (nI k))] (by decide) (fun _ _ => Nat.le_of_ble_eq_true rfl) (fun _ _ => rfl) ?_
  refine J_aload_n dX7_find_0 (pc' := 1) rfl rfl ?_
  refine J_getr fX7_44 kd_0 rf_0_6 dX7_find_1 (pc' := 4) rfl ?_
  refine J_iload_n dX7_find_4 (pc' := 5) rfl rfl ?_
  refine J_v1 (As := [.int (nI q)]) (rest := []) (qX3_has _ _ _) vX3_has mX7_119 kd_19 dX7_find_5 (pc' := 8) rfl rfl (Nat.le_of_ble_eq_true rfl) (by decide) ?_
  refine J_bne dX7_find_8 (pt := 17) (by decide) (pc' := 11) rfl (fun c8 => ?_) (fun c8 => ?_)
  · refine J_aload_n dX7_find_17 (pc' := 18) rfl rfl ?_
    refine J_iload_n dX7_find_18 (pc' := 19) rfl rfl ?_
    refine J_v1 (As := [.int (nI k)]) (rest := []) (qX7_takesName _ _ k tn htn hk h200) vX7_takesName mX7_137 kd_0 dX7_find_19 (pc' := 22) rfl rfl (Nat.le_of_ble_eq_true rfl) (by decide) ?_
    refine J_bne dX7_find_22 (pt := 31) (by decide) (pc' := 25) rfl (fun c22 => ?_) (fun c22 => ?_)
    · refine J_aload_n dX7_find_31 (pc' := 32) rfl rfl ?_
      refine J_aload_n dX7_find_32 (pc' := 33) rfl rfl ?_
      refine J_iload_n dX7_find_33 (pc' := 34) rfl rfl ?_
      refine J_aload_n dX7_find_34 (pc' := 35) rfl rfl ?_
      refine J_getr fX7_18 kd_0 rf_0_1 dX7_find_35 (pc' := 38) rfl ?_
      refine J_iconst dX7_find_38 (pc' := 39) rfl (v := 0) ic_0 ?_
      refine J_v1 (As := [.int (nI q), .ref 3, .int 0]) (rest := [.ref 0]) (qX7_thingMeant _ (dv_tc S k) n sn 3 q false tT tS hq kd_tk (tc_tl S k)) vX7_thingMeant mX7_152 kd_0 dX7_find_39 (pc' := 42) rfl rfl (Nat.le_of_ble_eq_true rfl) (by decide) ?_
      refine J_v1 (As := [.int (dv_oi (thM (dv_tc S k) n q))]) (rest := []) (qX7_accepted _ _ _) vX7_accepted mX7_131 kd_0 dX7_find_42 (pc' := 45) rfl rfl (Nat.le_of_ble_eq_true rfl) (by decide) ?_
      refine J_iret dX7_find_45 rfl (dv_r1 _) ?_
      exact ⟨rfl, rfl⟩
    · exact absurd c22 (by rw [hc]; decide)
  · exact absurd (dv_has hq hS.1 (by omega)) (by rw [c8]; decide)
set_option maxRecDepth 100000 in
set_option maxHeartbeats 400000 in
theorem qX7_useN4 (d : Nat) (S : dv_S) (n sn q k tn : Nat) (hT : cw_T S n) (hS : cw_S S n sn) (hq : q < sn) (htn : S.1 1 1 = nI tn) (hk : k ≤ tn) (h200 : tn ≤ 200) (hc : nm_ok (dv_rd (S.2.1 2) k) = true) (hm : thM (dv_tc S k) n q = none)  : dv_M yX7_use cX7_use 4 (some .int) (dv_rm (d + 4)) [.ref 0, .int (nI q), .int (nI k)] S (fun r S' => r = some (.int (-1)) ∧ S' = (rfS (dv_tc S k) 6)) := by
  have h80 := hT.2.1
  have h20 := hS.2.1
  have tT := tc_T k hT
  have tS := tc_S k hS
  refine dv_M_of [some (.ref 0), some (.int (nI q)), some (.int (nI k)), none] (by decide) (fun _ _ => Nat.le_of_ble_eq_true rfl) (fun _ _ => rfl) ?_
  refine J_aload_n dX7_use_0 (pc' := 1) rfl rfl ?_
  refine J_getr fX7_44 kd_0 rf_0_6 dX7_use_1 (pc' := 4) rfl ?_
  refine J_iload_n dX7_use_4 (pc' := 5) rfl rfl ?_
  refine J_v1 (As := [.int (nI q)]) (rest := []) (qX3_has _ _ _) vX3_has mX7_119 kd_19 dX7_use_5 (pc' := 8) rfl rfl (Nat.le_of_ble_eq_true rfl) (by decide) ?_
  refine J_bne dX7_use_8 (pt := 17) (by decide) (pc' := 11) rfl (fun c8 => ?_) (fun c8 => ?_)
  · refine J_aload_n dX7_use_17 (pc' := 18) rfl rfl ?_
    refine J_iload_n dX7_use_18 (pc' := 19) rfl rfl ?_
    refine J_v1 (As := [.int (nI k)]) (rest := []) (qX7_takesName _ _ k tn htn hk h200) vX7_takesName mX7_137 kd_0 dX7_use_19 (pc' := 22) rfl rfl (Nat.le_of_ble_eq_true rfl) (by decide) ?_
    refine J_bne dX7_use_22 (pt := 31) (by decide) (pc' := 25) rfl (fun c22 => ?_) (fun c22 => ?_)
    · refine J_aload_n dX7_use_31 (pc' := 32) rfl rfl ?_
      refine J_iload_n dX7_use_32 (pc' := 33) rfl rfl ?_
      refine J_aload_n dX7_use_33 (pc' := 34) rfl rfl ?_
      refine J_getr fX7_18 kd_0 rf_0_1 dX7_use_34 (pc' := 37) rfl ?_
      refine J_iconst dX7_use_37 (pc' := 38) rfl (v := 0) ic_0 ?_
      refine J_v1 (As := [.int (nI q), .ref 3, .int 0]) (rest := []) (qX7_thingMeant _ (dv_tc S k) n sn 3 q false tT tS hq kd_tk (tc_tl S k)) vX7_thingMeant mX7_152 kd_0 dX7_use_38 (pc' := 41) rfl rfl (Nat.le_of_ble_eq_true rfl) (by decide) ?_
      refine J_top (w := .int ((-2))) (congrArg (fun o => Value.int (dv_oi o)) hm) ?_
      refine J_istore_n dX7_use_41 (pc' := 42) rfl rfl (by decide) rfl (l' := [some (.ref 0), some (.int (nI q)), some (.int (nI k)), some (.int ((-2)))]) rfl ?_
      refine J_iload_n dX7_use_42 (pc' := 43) rfl rfl ?_
      refine J_bipush dX7_use_43 (pc' := 45) rfl (v := (-2)) bp_m2 ?_
      refine J_icmp_ne dX7_use_45 (pt := 55) (by decide) (pc' := 48) rfl (fun c45 => ?_) (fun c45 => ?_)
      · exact absurd rfl c45
      · refine J_aload_n dX7_use_48 (pc' := 49) rfl rfl ?_
        refine J_bipush dX7_use_49 (pc' := 51) rfl (v := 6) bp_6 ?_
        refine J_v1 (As := [.int 6]) (rest := []) (qX7_refused _ _ _) vX7_refused mX7_122 kd_0 dX7_use_51 (pc' := 54) rfl rfl (Nat.le_of_ble_eq_true rfl) (by decide) ?_
        refine J_iret dX7_use_54 rfl (dv_r1 _) ?_
        exact ⟨rfl, rfl⟩
    · exact absurd c22 (by rw [hc]; decide)
  · exact absurd (dv_has hq hS.1 (by omega)) (by rw [c8]; decide)
set_option maxRecDepth 100000 in
set_option maxHeartbeats 400000 in
theorem qX7_useN5 (d : Nat) (S : dv_S) (n sn un q k tn u : Nat) (hT : cw_T S n) (hS : cw_S S n sn) (hU : cw_U S n sn un) (hq : q < sn) (htn : S.1 1 1 = nI tn) (hk : k ≤ tn) (h200 : tn ≤ 200) (hc : nm_ok (dv_rd (S.2.1 2) k) = true) (hm : thM (dv_tc S k) n q = some u) (hu : un = 150)  : dv_M yX7_use cX7_use 4 (some .int) (dv_rm (d + 4)) [.ref 0, .int (nI q), .int (nI k)] S (fun r S' => r = some (.int (-1)) ∧ S' = (rfS (dv_tc S k) 3)) := by
  have h80 := hT.2.1
  have h20 := hS.2.1
  have h150 := hU.2.1
  have tT := tc_T k hT
  have tS := tc_S k hS
  have tU := tc_U k hU
  have hn3 : (dv_tc S k).1 185 2 = nI 150 := by rw [tU.1, hu]
  refine dv_M_of [some (.ref 0), some (.int (nI q)), some (.int (nI k)), none] (by decide) (fun _ _ => Nat.le_of_ble_eq_true rfl) (fun _ _ => rfl) ?_
  refine J_aload_n dX7_use_0 (pc' := 1) rfl rfl ?_
  refine J_getr fX7_44 kd_0 rf_0_6 dX7_use_1 (pc' := 4) rfl ?_
  refine J_iload_n dX7_use_4 (pc' := 5) rfl rfl ?_
  refine J_v1 (As := [.int (nI q)]) (rest := []) (qX3_has _ _ _) vX3_has mX7_119 kd_19 dX7_use_5 (pc' := 8) rfl rfl (Nat.le_of_ble_eq_true rfl) (by decide) ?_
  refine J_bne dX7_use_8 (pt := 17) (by decide) (pc' := 11) rfl (fun c8 => ?_) (fun c8 => ?_)
  · refine J_aload_n dX7_use_17 (pc' := 18) rfl rfl ?_
    refine J_iload_n dX7_use_18 (pc' := 19) rfl rfl ?_
    refine J_v1 (As := [.int (nI k)]) (rest := []) (qX7_takesName _ _ k tn htn hk h200) vX7_takesName mX7_137 kd_0 dX7_use_19 (pc' := 22) rfl rfl (Nat.le_of_ble_eq_true rfl) (by decide) ?_
    refine J_bne dX7_use_22 (pt := 31) (by decide) (pc' := 25) rfl (fun c22 => ?_) (fun c22 => ?_)
    · refine J_aload_n dX7_use_31 (pc' := 32) rfl rfl ?_
      refine J_iload_n dX7_use_32 (pc' := 33) rfl rfl ?_
      refine J_aload_n dX7_use_33 (pc' := 34) rfl rfl ?_
      refine J_getr fX7_18 kd_0 rf_0_1 dX7_use_34 (pc' := 37) rfl ?_
      refine J_iconst dX7_use_37 (pc' := 38) rfl (v := 0) ic_0 ?_
      refine J_v1 (As := [.int (nI q), .ref 3, .int 0]) (rest := []) (qX7_thingMeant _ (dv_tc S k) n sn 3 q false tT tS hq kd_tk (tc_tl S k)) vX7_thingMeant mX7_152 kd_0 dX7_use_38 (pc' := 41) rfl rfl (Nat.le_of_ble_eq_true rfl) (by decide) ?_
      refine J_top (w := .int (nI u)) (congrArg (fun o => Value.int (dv_oi o)) hm) ?_
      refine J_istore_n dX7_use_41 (pc' := 42) rfl rfl (by decide) rfl (l' := [some (.ref 0), some (.int (nI q)), some (.int (nI k)), some (.int (nI u))]) rfl ?_
      refine J_iload_n dX7_use_42 (pc' := 43) rfl rfl ?_
      refine J_bipush dX7_use_43 (pc' := 45) rfl (v := (-2)) bp_m2 ?_
      refine J_icmp_ne dX7_use_45 (pt := 55) (by decide) (pc' := 48) rfl (fun c45 => ?_) (fun c45 => ?_)
      · refine J_aload_n dX7_use_55 (pc' := 56) rfl rfl ?_
        refine J_getr fX7_58 kd_0 rf_0_8 dX7_use_56 (pc' := 59) rfl ?_
        refine J_v1 (As := []) (rest := []) (qX6_isFull _ _) vX6_isFull mX7_156 kd_185 dX7_use_59 (pc' := 62) rfl rfl (Nat.le_of_ble_eq_true rfl) (by decide) ?_
        refine J_beq dX7_use_62 (pt := 71) (by decide) (pc' := 65) rfl (fun c62 => ?_) (fun c62 => ?_)
        · rw [hn3] at c62
          exact absurd c62 (by decide)
        · refine J_aload_n dX7_use_65 (pc' := 66) rfl rfl ?_
          refine J_iconst dX7_use_66 (pc' := 67) rfl (v := 3) ic_3 ?_
          refine J_v1 (As := [.int 3]) (rest := []) (qX7_refused _ _ _) vX7_refused mX7_122 kd_0 dX7_use_67 (pc' := 70) rfl rfl (Nat.le_of_ble_eq_true rfl) (by decide) ?_
          refine J_iret dX7_use_70 rfl (dv_r1 _) ?_
          exact ⟨rfl, rfl⟩
      · exact absurd c45 (nI_m2 (by have := thM_lt hm; omega))
    · exact absurd c22 (by rw [hc]; decide)
  · exact absurd (dv_has hq hS.1 (by omega)) (by rw [c8]; decide)
set_option maxRecDepth 100000 in
set_option maxHeartbeats 400000 in
theorem qX7_useY (d : Nat) (S : dv_S) (n sn un q k tn u : Nat) (hT : cw_T S n) (hS : cw_S S n sn) (hU : cw_U S n sn un) (hq : q < sn) (htn : S.1 1 1 = nI tn) (hk : k ≤ tn) (h200 : tn ≤ 200) (hc : nm_ok (dv_rd (S.2.1 2) k) = true) (hm : thM (dv_tc S k) n q = some u) (hu : un < 150)  : dv_M yX7_use cX7_use 4 (some .int) (dv_rm (d + 4)) [.ref 0, .int (nI q), .int (nI k)] S (fun r S' => r = some (.int (nI un)) ∧ S' = (rfS (dv_u (dv_u (dv_tc S k).1 0 13 0, (dv_tc S k).2).1 185 2 (nI (un + 1)), dv_u (dv_u (dv_u (dv_tc S k).1 0 13 0, (dv_tc S k).2).2.1 186 un (nI q)) 187 un (nI u), (dv_u (dv_tc S k).1 0 13 0, (dv_tc S k).2).2.2) 0)) := by
  have h80 := hT.2.1
  have h20 := hS.2.1
  have h150 := hU.2.1
  have tT := tc_T k hT
  have tS := tc_S k hS
  have tU := tc_U k hU
  refine dv_M_of [some (.ref 0), some (.int (nI q)), some (.int (nI k)), none] (by decide) (fun _ _ => Nat.le_of_ble_eq_true rfl) (fun _ _ => rfl) ?_
  refine J_aload_n dX7_use_0 (pc' := 1) rfl rfl ?_
  refine J_getr fX7_44 kd_0 rf_0_6 dX7_use_1 (pc' := 4) rfl ?_
  refine J_iload_n dX7_use_4 (pc' := 5) rfl rfl ?_
  refine J_v1 (As := [.int (nI q)]) (rest := []) (qX3_has _ _ _) vX3_has mX7_119 kd_19 dX7_use_5 (pc' := 8) rfl rfl (Nat.le_of_ble_eq_true rfl) (by decide) ?_
  refine J_bne dX7_use_8 (pt := 17) (by decide) (pc' := 11) rfl (fun c8 => ?_) (fun c8 => ?_)
  · refine J_aload_n dX7_use_17 (pc' := 18) rfl rfl ?_
    refine J_iload_n dX7_use_18 (pc' := 19) rfl rfl ?_
    refine J_v1 (As := [.int (nI k)]) (rest := []) (qX7_takesName _ _ k tn htn hk h200) vX7_takesName mX7_137 kd_0 dX7_use_19 (pc' := 22) rfl rfl (Nat.le_of_ble_eq_true rfl) (by decide) ?_
    refine J_bne dX7_use_22 (pt := 31) (by decide) (pc' := 25) rfl (fun c22 => ?_) (fun c22 => ?_)
    · refine J_aload_n dX7_use_31 (pc' := 32) rfl rfl ?_
      refine J_iload_n dX7_use_32 (pc' := 33) rfl rfl ?_
      refine J_aload_n dX7_use_33 (pc' := 34) rfl rfl ?_
      refine J_getr fX7_18 kd_0 rf_0_1 dX7_use_34 (pc' := 37) rfl ?_
      refine J_iconst dX7_use_37 (pc' := 38) rfl (v := 0) ic_0 ?_
      refine J_v1 (As := [.int (nI q), .ref 3, .int 0]) (rest := []) (qX7_thingMeant _ (dv_tc S k) n sn 3 q false tT tS hq kd_tk (tc_tl S k)) vX7_thingMeant mX7_152 kd_0 dX7_use_38 (pc' := 41) rfl rfl (Nat.le_of_ble_eq_true rfl) (by decide) ?_
      refine J_top (w := .int (nI u)) (congrArg (fun o => Value.int (dv_oi o)) hm) ?_
      refine J_istore_n dX7_use_41 (pc' := 42) rfl rfl (by decide) rfl (l' := [some (.ref 0), some (.int (nI q)), some (.int (nI k)), some (.int (nI u))]) rfl ?_
      refine J_iload_n dX7_use_42 (pc' := 43) rfl rfl ?_
      refine J_bipush dX7_use_43 (pc' := 45) rfl (v := (-2)) bp_m2 ?_
      refine J_icmp_ne dX7_use_45 (pt := 55) (by decide) (pc' := 48) rfl (fun c45 => ?_) (fun c45 => ?_)
      · refine J_aload_n dX7_use_55 (pc' := 56) rfl rfl ?_
        refine J_getr fX7_58 kd_0 rf_0_8 dX7_use_56 (pc' := 59) rfl ?_
        refine J_v1 (As := []) (rest := []) (qX6_isFull _ _) vX6_isFull mX7_156 kd_185 dX7_use_59 (pc' := 62) rfl rfl (Nat.le_of_ble_eq_true rfl) (by decide) ?_
        refine J_beq dX7_use_62 (pt := 71) (by decide) (pc' := 65) rfl (fun c62 => ?_) (fun c62 => ?_)
        · refine J_aload_n dX7_use_71 (pc' := 72) rfl rfl ?_
          refine J_iconst dX7_use_72 (pc' := 73) rfl (v := 0) ic_0 ?_
          refine J_putz fX7_80 kd_0 rf_0_13 (by decide) dX7_use_73 (pc' := 76) rfl ?_
          refine J_aload_n dX7_use_76 (pc' := 77) rfl rfl ?_
          refine J_aload_n dX7_use_77 (pc' := 78) rfl rfl ?_
          refine J_getr fX7_58 kd_0 rf_0_8 dX7_use_78 (pc' := 81) rfl ?_
          refine J_iload_n dX7_use_81 (pc' := 82) rfl rfl ?_
          refine J_iload_n dX7_use_82 (pc' := 83) rfl rfl ?_
          refine J_v1 (As := [.int (nI q), .int (nI u)]) (rest := [.ref 0]) (qX6_add _ (dv_u (dv_tc S k).1 0 13 0, (dv_tc S k).2) (nI q) (nI u) un (by show dv_u (dv_tc S k).1 0 13 0 185 2 = _; rw [dv_u_ne _ _ (by decide)]; exact tU.1) hu) vX6_add mX7_157 kd_185 dX7_use_83 (pc' := 86) rfl rfl (Nat.le_of_ble_eq_true rfl) (by decide) ?_
          refine J_v1 (As := [.int (nI un)]) (rest := []) (qX7_accepted _ _ _) vX7_accepted mX7_131 kd_0 dX7_use_86 (pc' := 89) rfl rfl (Nat.le_of_ble_eq_true rfl) (by decide) ?_
          refine J_iret dX7_use_89 rfl (dv_r1 _) ?_
          exact ⟨rfl, rfl⟩
        · rw [tU.1, show (150 : Int32) = nI 150 by decide] at c62
          exact absurd (of_decide_eq_true c62) (nI_ge hu (by decide))
      · exact absurd c45 (nI_m2 (by have := thM_lt hm; omega))
    · exact absurd c22 (by rw [hc]; decide)
  · exact absurd (dv_has hq hS.1 (by omega)) (by rw [c8]; decide)
