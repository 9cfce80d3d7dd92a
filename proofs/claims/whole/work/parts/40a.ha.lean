set_option maxRecDepth 100000 in
set_option maxHeartbeats 400000 in
theorem qX7_scopeN (d : Nat) (S : dv_S) (x : Int32) (hx : decide (0 ≤ x ∧ x < S.1 19 1) = false)  : dv_M yX7_scope cX7_scope 2 (some .int) (dv_rm (d + 2)) [.ref 0, .int x] S (fun r S' => r = some (.int (-1)) ∧ S' = (rfS S 1)) := by
  refine dv_M_of [some (.ref 0), some (.int x)] (by decide) (fun _ _ => Nat.le_of_ble_eq_true rfl) (fun _ _ => rfl) ?_
  refine J_aload_n dX7_scope_0 (pc' := 1) rfl rfl ?_
  refine J_getr fX7_44 kd_0 rf_0_6 dX7_scope_1 (pc' := 4) rfl ?_
  refine J_iload_n dX7_scope_4 (pc' := 5) rfl rfl ?_
  refine J_v1 (As := [.int x]) (rest := []) (qX3_has _ _ _) vX3_has mX7_119 kd_19 dX7_scope_5 (pc' := 8) rfl rfl (Nat.le_of_ble_eq_true rfl) (by decide) ?_
  refine J_bne dX7_scope_8 (pt := 17) (by decide) (pc' := 11) rfl (fun c8 => ?_) (fun c8 => ?_)
  · exact absurd c8 (by rw [hx]; decide)
  · refine J_aload_n dX7_scope_11 (pc' := 12) rfl rfl ?_
    refine J_iconst dX7_scope_12 (pc' := 13) rfl (v := 1) ic_1 ?_
    refine J_v1 (As := [.int 1]) (rest := []) (qX7_refused _ _ _) vX7_refused mX7_122 kd_0 dX7_scope_13 (pc' := 16) rfl rfl (Nat.le_of_ble_eq_true rfl) (by decide) ?_
    refine J_iret dX7_scope_16 rfl (dv_r1 _) ?_
    exact ⟨rfl, rfl⟩
set_option maxRecDepth 100000 in
set_option maxHeartbeats 400000 in
theorem qX7_scopeF (d : Nat) (S : dv_S) (p : Nat) (hn : S.1 19 1 = nI 20) (hp : p < 20)  : dv_M yX7_scope cX7_scope 2 (some .int) (dv_rm (d + 2)) [.ref 0, .int (nI p)] S (fun r S' => r = some (.int (-1)) ∧ S' = (rfS S 3)) := by
  refine dv_M_of [some (.ref 0), some (.int (nI p))] (by decide) (fun _ _ => Nat.le_of_ble_eq_true rfl) (fun _ _ => rfl) ?_
  refine J_aload_n dX7_scope_0 (pc' := 1) rfl rfl ?_
  refine J_getr fX7_44 kd_0 rf_0_6 dX7_scope_1 (pc' := 4) rfl ?_
  refine J_iload_n dX7_scope_4 (pc' := 5) rfl rfl ?_
  refine J_v1 (As := [.int (nI p)]) (rest := []) (qX3_has _ _ _) vX3_has mX7_119 kd_19 dX7_scope_5 (pc' := 8) rfl rfl (Nat.le_of_ble_eq_true rfl) (by decide) ?_
  refine J_bne dX7_scope_8 (pt := 17) (by decide) (pc' := 11) rfl (fun c8 => ?_) (fun c8 => ?_)
  · refine J_aload_n dX7_scope_17 (pc' := 18) rfl rfl ?_
    refine J_getr fX7_44 kd_0 rf_0_6 dX7_scope_18 (pc' := 21) rfl ?_
    refine J_v1 (As := []) (rest := []) (qX3_isFull _ _) vX3_isFull mX7_125 kd_19 dX7_scope_21 (pc' := 24) rfl rfl (Nat.le_of_ble_eq_true rfl) (by decide) ?_
    refine J_beq dX7_scope_24 (pt := 33) (by decide) (pc' := 27) rfl (fun c24 => ?_) (fun c24 => ?_)
    · rw [hn] at c24
      exact absurd c24 (by decide)
    · refine J_aload_n dX7_scope_27 (pc' := 28) rfl rfl ?_
      refine J_iconst dX7_scope_28 (pc' := 29) rfl (v := 3) ic_3 ?_
      refine J_v1 (As := [.int 3]) (rest := []) (qX7_refused _ _ _) vX7_refused mX7_122 kd_0 dX7_scope_29 (pc' := 32) rfl rfl (Nat.le_of_ble_eq_true rfl) (by decide) ?_
      refine J_iret dX7_scope_32 rfl (dv_r1 _) ?_
      exact ⟨rfl, rfl⟩
  · exact absurd (dv_has hp hn (by omega)) (by rw [c8]; decide)
set_option maxRecDepth 100000 in
set_option maxHeartbeats 400000 in
theorem qX7_scopeY (d : Nat) (S : dv_S) (p n : Nat) (hn : S.1 19 1 = nI n) (hp : p < n) (hm : n < 20)  : dv_M yX7_scope cX7_scope 2 (some .int) (dv_rm (d + 2)) [.ref 0, .int (nI p)] S (fun r S' => r = some (.int (nI n)) ∧ S' = (rfS (dv_u S.1 19 1 (nI (n + 1)), dv_u S.2.1 20 n (S.2.1 20 p ||| (1 <<< (nI n &&& 31))), S.2.2) 0)) := by
  refine dv_M_of [some (.ref 0), some (.int (nI p))] (by decide) (fun _ _ => Nat.le_of_ble_eq_true rfl) (fun _ _ => rfl) ?_
  refine J_aload_n dX7_scope_0 (pc' := 1) rfl rfl ?_
  refine J_getr fX7_44 kd_0 rf_0_6 dX7_scope_1 (pc' := 4) rfl ?_
  refine J_iload_n dX7_scope_4 (pc' := 5) rfl rfl ?_
  refine J_v1 (As := [.int (nI p)]) (rest := []) (qX3_has _ _ _) vX3_has mX7_119 kd_19 dX7_scope_5 (pc' := 8) rfl rfl (Nat.le_of_ble_eq_true rfl) (by decide) ?_
  refine J_bne dX7_scope_8 (pt := 17) (by decide) (pc' := 11) rfl (fun c8 => ?_) (fun c8 => ?_)
  · refine J_aload_n dX7_scope_17 (pc' := 18) rfl rfl ?_
    refine J_getr fX7_44 kd_0 rf_0_6 dX7_scope_18 (pc' := 21) rfl ?_
    refine J_v1 (As := []) (rest := []) (qX3_isFull _ _) vX3_isFull mX7_125 kd_19 dX7_scope_21 (pc' := 24) rfl rfl (Nat.le_of_ble_eq_true rfl) (by decide) ?_
    refine J_beq dX7_scope_24 (pt := 33) (by decide) (pc' := 27) rfl (fun c24 => ?_) (fun c24 => ?_)
    · refine J_aload_n dX7_scope_33 (pc' := 34) rfl rfl ?_
      refine J_aload_n dX7_scope_34 (pc' := 35) rfl rfl ?_
      refine J_getr fX7_44 kd_0 rf_0_6 dX7_scope_35 (pc' := 38) rfl ?_
      refine J_iload_n dX7_scope_38 (pc' := 39) rfl rfl ?_
      refine J_v1 (As := [.int (nI p)]) (rest := [.ref 0]) (qX3_addWithin _ _ p n hn hp hm) vX3_addWithin mX7_128 kd_19 dX7_scope_39 (pc' := 42) rfl rfl (Nat.le_of_ble_eq_true rfl) (by decide) ?_
      refine J_v1 (As := [.int (nI n)]) (rest := []) (qX7_accepted _ _ _) vX7_accepted mX7_131 kd_0 dX7_scope_42 (pc' := 45) rfl rfl (Nat.le_of_ble_eq_true rfl) (by decide) ?_
      refine J_iret dX7_scope_45 rfl (dv_r1 _) ?_
      exact ⟨rfl, rfl⟩
    · rw [hn, show (20 : Int32) = nI 20 by decide] at c24
      exact absurd (of_decide_eq_true c24) (nI_ge hm (by decide))
  · exact absurd (dv_has hp hn (by omega)) (by rw [c8]; decide)
set_option maxRecDepth 100000 in
set_option maxHeartbeats 400000 in
theorem qX7_thingN1 (d : Nat) (S : dv_S) (x y z : Int32) (hx : decide (0 ≤ x ∧ x < S.1 19 1) = false)  : dv_M yX7_thing cX7_thing 4 (some .int) (dv_rm (d + 4)) [.ref 0, .int x, .int y, .int z] S (fun r S' => r = some (.int (-1)) ∧ S' = (rfS S 1)) := by
  refine dv_M_of [some (.ref 0), some (.int x), some (.int y), some (.int z)] (by decide) (fun _ _ => Nat.le_of_ble_eq_true rfl) (fun _ _ => rfl) ?_
  refine J_aload_n dX7_thing_0 (pc' := 1) rfl rfl ?_
  refine J_getr fX7_44 kd_0 rf_0_6 dX7_thing_1 (pc' := 4) rfl ?_
  refine J_iload_n dX7_thing_4 (pc' := 5) rfl rfl ?_
  refine J_v1 (As := [.int x]) (rest := []) (qX3_has _ _ _) vX3_has mX7_119 kd_19 dX7_thing_5 (pc' := 8) rfl rfl (Nat.le_of_ble_eq_true rfl) (by decide) ?_
  refine J_bne dX7_thing_8 (pt := 17) (by decide) (pc' := 11) rfl (fun c8 => ?_) (fun c8 => ?_)
  · exact absurd c8 (by rw [hx]; decide)
  · refine J_aload_n dX7_thing_11 (pc' := 12) rfl rfl ?_
    refine J_iconst dX7_thing_12 (pc' := 13) rfl (v := 1) ic_1 ?_
    refine J_v1 (As := [.int 1]) (rest := []) (qX7_refused _ _ _) vX7_refused mX7_122 kd_0 dX7_thing_13 (pc' := 16) rfl rfl (Nat.le_of_ble_eq_true rfl) (by decide) ?_
    refine J_iret dX7_thing_16 rfl (dv_r1 _) ?_
    exact ⟨rfl, rfl⟩
set_option maxRecDepth 100000 in
set_option maxHeartbeats 400000 in
theorem qX7_thingN2a (d : Nat) (S : dv_S) (y z : Int32) (n sn q : Nat) (hS : cw_S S n sn) (hq : q < sn) (hy : decide (0 ≤ y ∧ y < 3) = false)  : dv_M yX7_thing cX7_thing 4 (some .int) (dv_rm (d + 4)) [.ref 0, .int (nI q), .int y, .int z] S (fun r S' => r = some (.int (-1)) ∧ S' = (rfS S 2)) := by
  have h20 := hS.2.1
  refine dv_M_of [some (.ref 0), some (.int (nI q)), some (.int y), some (.int z)] (by decide) (fun _ _ => Nat.le_of_ble_eq_true rfl) (fun _ _ => rfl) ?_
  refine J_aload_n dX7_thing_0 (pc' := 1) rfl rfl ?_
  refine J_getr fX7_44 kd_0 rf_0_6 dX7_thing_1 (pc' := 4) rfl ?_
  refine J_iload_n dX7_thing_4 (pc' := 5) rfl rfl ?_
  refine J_v1 (As := [.int (nI q)]) (rest := []) (qX3_has _ _ _) vX3_has mX7_119 kd_19 dX7_thing_5 (pc' := 8) rfl rfl (Nat.le_of_ble_eq_true rfl) (by decide) ?_
  refine J_bne dX7_thing_8 (pt := 17) (by decide) (pc' := 11) rfl (fun c8 => ?_) (fun c8 => ?_)
  · refine J_iload_n dX7_thing_17 (pc' := 18) rfl rfl ?_
    refine J_s1 (As := [.int y]) (rest := []) (qX7_isKind _ _ _) vX7_isKind mX7_134 dX7_thing_18 (pc' := 21) rfl rfl (Nat.le_of_ble_eq_true rfl) (by decide) ?_
    refine J_beq dX7_thing_21 (pt := 32) (by decide) (pc' := 24) rfl (fun c21 => ?_) (fun c21 => ?_)
    · refine J_aload_n dX7_thing_32 (pc' := 33) rfl rfl ?_
      refine J_iconst dX7_thing_33 (pc' := 34) rfl (v := 2) ic_2 ?_
      refine J_v1 (As := [.int 2]) (rest := []) (qX7_refused _ _ _) vX7_refused mX7_122 kd_0 dX7_thing_34 (pc' := 37) rfl rfl (Nat.le_of_ble_eq_true rfl) (by decide) ?_
      refine J_iret dX7_thing_37 rfl (dv_r1 _) ?_
      exact ⟨rfl, rfl⟩
    · exact absurd c21 (by rw [hy]; decide)
  · exact absurd (dv_has hq hS.1 (by omega)) (by rw [c8]; decide)
set_option maxRecDepth 100000 in
set_option maxHeartbeats 400000 in
theorem qX7_thingN2b (d : Nat) (S : dv_S) (y z : Int32) (n sn q : Nat) (hS : cw_S S n sn) (hq : q < sn) (hz : decide (0 ≤ z ∧ z ≤ S.1 1 1) = false)  : dv_M yX7_thing cX7_thing 4 (some .int) (dv_rm (d + 4)) [.ref 0, .int (nI q), .int y, .int z] S (fun r S' => r = some (.int (-1)) ∧ S' = (rfS S 2)) := by
  have h20 := hS.2.1
  refine dv_M_of [some (.ref 0), some (.int (nI q)), some (.int y), some (.int z)] (by decide) (fun _ _ => Nat.le_of_ble_eq_true rfl) (fun _ _ => rfl) ?_
  refine J_aload_n dX7_thing_0 (pc' := 1) rfl rfl ?_
  refine J_getr fX7_44 kd_0 rf_0_6 dX7_thing_1 (pc' := 4) rfl ?_
  refine J_iload_n dX7_thing_4 (pc' := 5) rfl rfl ?_
  refine J_v1 (As := [.int (nI q)]) (rest := []) (qX3_has _ _ _) vX3_has mX7_119 kd_19 dX7_thing_5 (pc' := 8) rfl rfl (Nat.le_of_ble_eq_true rfl) (by decide) ?_
  refine J_bne dX7_thing_8 (pt := 17) (by decide) (pc' := 11) rfl (fun c8 => ?_) (fun c8 => ?_)
  · refine J_iload_n dX7_thing_17 (pc' := 18) rfl rfl ?_
    refine J_s1 (As := [.int y]) (rest := []) (qX7_isKind _ _ _) vX7_isKind mX7_134 dX7_thing_18 (pc' := 21) rfl rfl (Nat.le_of_ble_eq_true rfl) (by decide) ?_
    refine J_beq dX7_thing_21 (pt := 32) (by decide) (pc' := 24) rfl (fun c21 => ?_) (fun c21 => ?_)
    · refine J_aload_n dX7_thing_32 (pc' := 33) rfl rfl ?_
      refine J_iconst dX7_thing_33 (pc' := 34) rfl (v := 2) ic_2 ?_
      refine J_v1 (As := [.int 2]) (rest := []) (qX7_refused _ _ _) vX7_refused mX7_122 kd_0 dX7_thing_34 (pc' := 37) rfl rfl (Nat.le_of_ble_eq_true rfl) (by decide) ?_
      refine J_iret dX7_thing_37 rfl (dv_r1 _) ?_
      exact ⟨rfl, rfl⟩
    · refine J_aload_n dX7_thing_24 (pc' := 25) rfl rfl ?_
      refine J_iload_n dX7_thing_25 (pc' := 26) rfl rfl ?_
      refine J_v1 (As := [.int z]) (rest := []) (qX7_takesNameN _ _ _ hz) vX7_takesName mX7_137 kd_0 dX7_thing_26 (pc' := 29) rfl rfl (Nat.le_of_ble_eq_true rfl) (by decide) ?_
      refine J_if_ne dX7_thing_29 (pt := 38) (by decide) (pc' := 32) rfl (fun c29 => ?_) (fun c29 => ?_)
      · exact absurd c29 (by decide)
      · refine J_aload_n dX7_thing_32 (pc' := 33) rfl rfl ?_
        refine J_iconst dX7_thing_33 (pc' := 34) rfl (v := 2) ic_2 ?_
        refine J_v1 (As := [.int 2]) (rest := []) (qX7_refused _ _ _) vX7_refused mX7_122 kd_0 dX7_thing_34 (pc' := 37) rfl rfl (Nat.le_of_ble_eq_true rfl) (by decide) ?_
        refine J_iret dX7_thing_37 rfl (dv_r1 _) ?_
        exact ⟨rfl, rfl⟩
  · exact absurd (dv_has hq hS.1 (by omega)) (by rw [c8]; decide)
set_option maxRecDepth 100000 in
set_option maxHeartbeats 400000 in
theorem qX7_thingN3 (d : Nat) (S : dv_S) (y : Int32) (n sn q k tn : Nat) (hS : cw_S S n sn) (hq : q < sn) (hy : decide (0 ≤ y ∧ y < 3) = true) (htn : S.1 1 1 = nI tn) (hk : k ≤ tn) (h200 : tn ≤ 200) (hc : nm_ok (dv_rd (S.2.1 2) k) = false)  : dv_M yX7_thing cX7_thing 4 (some .int) (dv_rm (d + 4)) [.ref 0, .int (nI q), .int y, .int (nI k)] S (fun r S' => r = some (.int (-1)) ∧ S' = (rfS (dv_tc S k) 2)) := by
  have h20 := hS.2.1
  refine dv_M_of [some (.ref 0), some (.int (nI q)), some (.int y), some (.int (nI k))] (by decide) (fun _ _ => Nat.le_of_ble_eq_true rfl) (fun _ _ => rfl) ?_
  refine J_aload_n dX7_thing_0 (pc' := 1) rfl rfl ?_
  refine J_getr fX7_44 kd_0 rf_0_6 dX7_thing_1 (pc' := 4) rfl ?_
  refine J_iload_n dX7_thing_4 (pc' := 5) rfl rfl ?_
  refine J_v1 (As := [.int (nI q)]) (rest := []) (qX3_has _ _ _) vX3_has mX7_119 kd_19 dX7_thing_5 (pc' := 8) rfl rfl (Nat.le_of_ble_eq_true rfl) (by decide) ?_
  refine J_bne dX7_thing_8 (pt := 17) (by decide) (pc' := 11) rfl (fun c8 => ?_) (fun c8 => ?_)
  · refine J_iload_n dX7_thing_17 (pc' := 18) rfl rfl ?_
    refine J_s1 (As := [.int y]) (rest := []) (qX7_isKind _ _ _) vX7_isKind mX7_134 dX7_thing_18 (pc' := 21) rfl rfl (Nat.le_of_ble_eq_true rfl) (by decide) ?_
    refine J_beq dX7_thing_21 (pt := 32) (by decide) (pc' := 24) rfl (fun c21 => ?_) (fun c21 => ?_)
    · exact absurd c21 (by rw [hy]; decide)
    · refine J_aload_n dX7_thing_24 (pc' := 25) rfl rfl ?_
      refine J_iload_n dX7_thing_25 (pc' := 26) rfl rfl ?_
      refine J_v1 (As := [.int (nI k)]) (rest := []) (qX7_takesName _ _ k tn htn hk h200) vX7_takesName mX7_137 kd_0 dX7_thing_26 (pc' := 29) rfl rfl (Nat.le_of_ble_eq_true rfl) (by decide) ?_
      refine J_bne dX7_thing_29 (pt := 38) (by decide) (pc' := 32) rfl (fun c29 => ?_) (fun c29 => ?_)
      · exact absurd c29 (by rw [hc]; decide)
      · refine J_aload_n dX7_thing_32 (pc' := 33) rfl rfl ?_
        refine J_iconst dX7_thing_33 (pc' := 34) rfl (v := 2) ic_2 ?_
        refine J_v1 (As := [.int 2]) (rest := []) (qX7_refused _ _ _) vX7_refused mX7_122 kd_0 dX7_thing_34 (pc' := 37) rfl rfl (Nat.le_of_ble_eq_true rfl) (by decide) ?_
        refine J_iret dX7_thing_37 rfl (dv_r1 _) ?_
        exact ⟨rfl, rfl⟩
  · exact absurd (dv_has hq hS.1 (by omega)) (by rw [c8]; decide)
set_option maxRecDepth 100000 in
set_option maxHeartbeats 400000 in
theorem qX7_thingN4 (d : Nat) (S : dv_S) (y : Int32) (n sn un q k tn : Nat) (hT : cw_T S n) (hS : cw_S S n sn) (hU : cw_U S n sn un) (hq : q < sn) (hy : decide (0 ≤ y ∧ y < 3) = true) (htn : S.1 1 1 = nI tn) (hk : k ≤ tn) (h200 : tn ≤ 200) (hc : nm_ok (dv_rd (S.2.1 2) k) = true) (hd : (thD (dv_tc S k) n q || thC (dv_tc S k) un q) = true)  : dv_M yX7_thing cX7_thing 4 (some .int) (dv_rm (d + 4)) [.ref 0, .int (nI q), .int y, .int (nI k)] S (fun r S' => r = some (.int (-1)) ∧ S' = (rfS (dv_tc S k) 4)) := by
  have h80 := hT.2.1
  have h20 := hS.2.1
  have h150 := hU.2.1
  have tT := tc_T k hT
  have tS := tc_S k hS
  have tU := tc_U k hU
  refine dv_M_of [some (.ref 0), some (.int (nI q)), some (.int y), some (.int (nI k))] (by decide) (fun _ _ => Nat.le_of_ble_eq_true rfl) (fun _ _ => rfl) ?_
  refine J_aload_n dX7_thing_0 (pc' := 1) rfl rfl ?_
  refine J_getr fX7_44 kd_0 rf_0_6 dX7_thing_1 (pc' := 4) rfl ?_
  refine J_iload_n dX7_thing_4 (pc' := 5) rfl rfl ?_
  refine J_v1 (As := [.int (nI q)]) (rest := []) (qX3_has _ _ _) vX3_has mX7_119 kd_19 dX7_thing_5 (pc' := 8) rfl rfl (Nat.le_of_ble_eq_true rfl) (by decide) ?_
  refine J_bne dX7_thing_8 (pt := 17) (by decide) (pc' := 11) rfl (fun c8 => ?_) (fun c8 => ?_)
  · refine J_iload_n dX7_thing_17 (pc' := 18) rfl rfl ?_
    refine J_s1 (As := [.int y]) (rest := []) (qX7_isKind _ _ _) vX7_isKind mX7_134 dX7_thing_18 (pc' := 21) rfl rfl (Nat.le_of_ble_eq_true rfl) (by decide) ?_
    refine J_beq dX7_thing_21 (pt := 32) (by decide) (pc' := 24) rfl (fun c21 => ?_) (fun c21 => ?_)
    · exact absurd c21 (by rw [hy]; decide)
    · refine J_aload_n dX7_thing_24 (pc' := 25) rfl rfl ?_
      refine J_iload_n dX7_thing_25 (pc' := 26) rfl rfl ?_
      refine J_v1 (As := [.int (nI k)]) (rest := []) (qX7_takesName _ _ k tn htn hk h200) vX7_takesName mX7_137 kd_0 dX7_thing_26 (pc' := 29) rfl rfl (Nat.le_of_ble_eq_true rfl) (by decide) ?_
      refine J_bne dX7_thing_29 (pt := 38) (by decide) (pc' := 32) rfl (fun c29 => ?_) (fun c29 => ?_)
      · refine J_aload_n dX7_thing_38 (pc' := 39) rfl rfl ?_
        refine J_iconst dX7_thing_39 (pc' := 40) rfl (v := (-1)) ic_m1 ?_
        refine J_iload_n dX7_thing_40 (pc' := 41) rfl rfl ?_
        refine J_aload_n dX7_thing_41 (pc' := 42) rfl rfl ?_
        refine J_getr fX7_18 kd_0 rf_0_1 dX7_thing_42 (pc' := 45) rfl ?_
        refine J_iconst dX7_thing_45 (pc' := 46) rfl (v := 0) ic_0 ?_
        refine J_v1 (As := [.int ((-1)), .int (nI q), .ref 3, .int 0]) (rest := []) (qX7_isNameOfOther _ (dv_tc S k) n 3 (-1) (nI q) false tT kd_tk (tc_tl S k)) vX7_isNameOfOther mX7_140 kd_0 dX7_thing_46 (pc' := 49) rfl rfl (Nat.le_of_ble_eq_true rfl) (by decide) ?_
        refine J_bne dX7_thing_49 (pt := 65) (by decide) (pc' := 52) rfl (fun c49 => ?_) (fun c49 => ?_)
        · have c49 : thD (dv_tc S k) n q = true := c49
          refine J_aload_n dX7_thing_65 (pc' := 66) rfl rfl ?_
          refine J_iconst dX7_thing_66 (pc' := 67) rfl (v := 4) ic_4 ?_
          refine J_v1 (As := [.int 4]) (rest := []) (qX7_refused _ _ _) vX7_refused mX7_122 kd_0 dX7_thing_67 (pc' := 70) rfl rfl (Nat.le_of_ble_eq_true rfl) (by decide) ?_
          refine J_iret dX7_thing_70 rfl (dv_r1 _) ?_
          exact ⟨rfl, rfl⟩
        · have c49 : thD (dv_tc S k) n q = false := c49
          refine J_aload_n dX7_thing_52 (pc' := 53) rfl rfl ?_
          refine J_iload_n dX7_thing_53 (pc' := 54) rfl rfl ?_
          refine J_aload_n dX7_thing_54 (pc' := 55) rfl rfl ?_
          refine J_getr fX7_18 kd_0 rf_0_1 dX7_thing_55 (pc' := 58) rfl ?_
          refine J_iconst dX7_thing_58 (pc' := 59) rfl (v := 0) ic_0 ?_
          refine J_v1 (As := [.int (nI q), .ref 3, .int 0]) (rest := []) (qX7_wouldCatchUse _ (dv_tc S k) n sn un 3 q false tT tS tU hq kd_tk (tc_tl S k)) vX7_wouldCatchUse mX7_144 kd_0 dX7_thing_59 (pc' := 62) rfl rfl (Nat.le_of_ble_eq_true rfl) (by decide) ?_
          refine J_beq dX7_thing_62 (pt := 71) (by decide) (pc' := 65) rfl (fun c62 => ?_) (fun c62 => ?_)
          · have c62 : thC (dv_tc S k) un q = false := c62
            rw [c49, c62] at hd
            exact absurd hd (by decide)
          · refine J_aload_n dX7_thing_65 (pc' := 66) rfl rfl ?_
            refine J_iconst dX7_thing_66 (pc' := 67) rfl (v := 4) ic_4 ?_
            refine J_v1 (As := [.int 4]) (rest := []) (qX7_refused _ _ _) vX7_refused mX7_122 kd_0 dX7_thing_67 (pc' := 70) rfl rfl (Nat.le_of_ble_eq_true rfl) (by decide) ?_
            refine J_iret dX7_thing_70 rfl (dv_r1 _) ?_
            exact ⟨rfl, rfl⟩
      · exact absurd c29 (by rw [hc]; decide)
  · exact absurd (dv_has hq hS.1 (by omega)) (by rw [c8]; decide)
set_option maxRecDepth 100000 in
set_option maxHeartbeats 400000 in
theorem qX7_thingN5 (d : Nat) (S : dv_S) (y : Int32) (n sn un q k tn : Nat) (hT : cw_T S n) (hS : cw_S S n sn) (hU : cw_U S n sn un) (hq : q < sn) (hy : decide (0 ≤ y ∧ y < 3) = true) (htn : S.1 1 1 = nI tn) (hk : k ≤ tn) (h200 : tn ≤ 200) (hc : nm_ok (dv_rd (S.2.1 2) k) = true) (hd : (thD (dv_tc S k) n q || thC (dv_tc S k) un q) = false) (hn : n = 80)  : dv_M yX7_thing cX7_thing 4 (some .int) (dv_rm (d + 4)) [.ref 0, .int (nI q), .int y, .int (nI k)] S (fun r S' => r = some (.int (-1)) ∧ S' = (rfS (dv_tc S k) 3)) := by
  have h80 := hT.2.1
  have h20 := hS.2.1
  have h150 := hU.2.1
  have tT := tc_T k hT
  have tS := tc_S k hS
  have tU := tc_U k hU
  have hn3 : (dv_tc S k).1 21 3 = nI 80 := by rw [tT.1, hn]
  refine dv_M_of [some (.ref 0), some (.int (nI q)), some (.int y), some (.int (nI k))] (by decide) (fun _ _ => Nat.le_of_ble_eq_true rfl) (fun _ _ => rfl) ?_
  refine J_aload_n dX7_thing_0 (pc' := 1) rfl rfl ?_
  refine J_getr fX7_44 kd_0 rf_0_6 dX7_thing_1 (pc' := 4) rfl ?_
  refine J_iload_n dX7_thing_4 (pc' := 5) rfl rfl ?_
  refine J_v1 (As := [.int (nI q)]) (rest := []) (qX3_has _ _ _) vX3_has mX7_119 kd_19 dX7_thing_5 (pc' := 8) rfl rfl (Nat.le_of_ble_eq_true rfl) (by decide) ?_
  refine J_bne dX7_thing_8 (pt := 17) (by decide) (pc' := 11) rfl (fun c8 => ?_) (fun c8 => ?_)
  · refine J_iload_n dX7_thing_17 (pc' := 18) rfl rfl ?_
    refine J_s1 (As := [.int y]) (rest := []) (qX7_isKind _ _ _) vX7_isKind mX7_134 dX7_thing_18 (pc' := 21) rfl rfl (Nat.le_of_ble_eq_true rfl) (by decide) ?_
    refine J_beq dX7_thing_21 (pt := 32) (by decide) (pc' := 24) rfl (fun c21 => ?_) (fun c21 => ?_)
    · exact absurd c21 (by rw [hy]; decide)
    · refine J_aload_n dX7_thing_24 (pc' := 25) rfl rfl ?_
      refine J_iload_n dX7_thing_25 (pc' := 26) rfl rfl ?_
      refine J_v1 (As := [.int (nI k)]) (rest := []) (qX7_takesName _ _ k tn htn hk h200) vX7_takesName mX7_137 kd_0 dX7_thing_26 (pc' := 29) rfl rfl (Nat.le_of_ble_eq_true rfl) (by decide) ?_
      refine J_bne dX7_thing_29 (pt := 38) (by decide) (pc' := 32) rfl (fun c29 => ?_) (fun c29 => ?_)
      · refine J_aload_n dX7_thing_38 (pc' := 39) rfl rfl ?_
        refine J_iconst dX7_thing_39 (pc' := 40) rfl (v := (-1)) ic_m1 ?_
        refine J_iload_n dX7_thing_40 (pc' := 41) rfl rfl ?_
        refine J_aload_n dX7_thing_41 (pc' := 42) rfl rfl ?_
        refine J_getr fX7_18 kd_0 rf_0_1 dX7_thing_42 (pc' := 45) rfl ?_
        refine J_iconst dX7_thing_45 (pc' := 46) rfl (v := 0) ic_0 ?_
        refine J_v1 (As := [.int ((-1)), .int (nI q), .ref 3, .int 0]) (rest := []) (qX7_isNameOfOther _ (dv_tc S k) n 3 (-1) (nI q) false tT kd_tk (tc_tl S k)) vX7_isNameOfOther mX7_140 kd_0 dX7_thing_46 (pc' := 49) rfl rfl (Nat.le_of_ble_eq_true rfl) (by decide) ?_
        refine J_bne dX7_thing_49 (pt := 65) (by decide) (pc' := 52) rfl (fun c49 => ?_) (fun c49 => ?_)
        · have c49 : thD (dv_tc S k) n q = true := c49
          rw [c49] at hd
          exact absurd hd (by simp)
        · refine J_aload_n dX7_thing_52 (pc' := 53) rfl rfl ?_
          refine J_iload_n dX7_thing_53 (pc' := 54) rfl rfl ?_
          refine J_aload_n dX7_thing_54 (pc' := 55) rfl rfl ?_
          refine J_getr fX7_18 kd_0 rf_0_1 dX7_thing_55 (pc' := 58) rfl ?_
          refine J_iconst dX7_thing_58 (pc' := 59) rfl (v := 0) ic_0 ?_
          refine J_v1 (As := [.int (nI q), .ref 3, .int 0]) (rest := []) (qX7_wouldCatchUse _ (dv_tc S k) n sn un 3 q false tT tS tU hq kd_tk (tc_tl S k)) vX7_wouldCatchUse mX7_144 kd_0 dX7_thing_59 (pc' := 62) rfl rfl (Nat.le_of_ble_eq_true rfl) (by decide) ?_
          refine J_beq dX7_thing_62 (pt := 71) (by decide) (pc' := 65) rfl (fun c62 => ?_) (fun c62 => ?_)
          · refine J_aload_n dX7_thing_71 (pc' := 72) rfl rfl ?_
            refine J_getr fX7_51 kd_0 rf_0_7 dX7_thing_72 (pc' := 75) rfl ?_
            refine J_v1 (As := []) (rest := []) (qX5_isFull _ _) vX5_isFull mX7_148 kd_21 dX7_thing_75 (pc' := 78) rfl rfl (Nat.le_of_ble_eq_true rfl) (by decide) ?_
            refine J_beq dX7_thing_78 (pt := 87) (by decide) (pc' := 81) rfl (fun c78 => ?_) (fun c78 => ?_)
            · rw [hn3] at c78
              exact absurd c78 (by decide)
            · refine J_aload_n dX7_thing_81 (pc' := 82) rfl rfl ?_
              refine J_iconst dX7_thing_82 (pc' := 83) rfl (v := 3) ic_3 ?_
              refine J_v1 (As := [.int 3]) (rest := []) (qX7_refused _ _ _) vX7_refused mX7_122 kd_0 dX7_thing_83 (pc' := 86) rfl rfl (Nat.le_of_ble_eq_true rfl) (by decide) ?_
              refine J_iret dX7_thing_86 rfl (dv_r1 _) ?_
              exact ⟨rfl, rfl⟩
          · have c62 : thC (dv_tc S k) un q = true := c62
            rw [c62] at hd
            exact absurd hd (by simp)
      · exact absurd c29 (by rw [hc]; decide)
  · exact absurd (dv_has hq hS.1 (by omega)) (by rw [c8]; decide)
set_option maxRecDepth 100000 in
set_option maxHeartbeats 400000 in
theorem qX7_thingY (d : Nat) (S : dv_S) (y : Int32) (n sn un q k tn : Nat) (hT : cw_T S n) (hS : cw_S S n sn) (hU : cw_U S n sn un) (hq : q < sn) (hy : decide (0 ≤ y ∧ y < 3) = true) (htn : S.1 1 1 = nI tn) (hk : k ≤ tn) (h200 : tn ≤ 200) (hc : nm_ok (dv_rd (S.2.1 2) k) = true) (hd : (thD (dv_tc S k) n q || thC (dv_tc S k) un q) = false) (hn : n < 80)  : dv_M yX7_thing cX7_thing 4 (some .int) (dv_rm (d + 4)) [.ref 0, .int (nI q), .int y, .int (nI k)] S (fun r S' => r = some (.int (nI n)) ∧ S' = (rfS (dv_u (dv_tx ((dv_u (dv_tc S k).1 0 13 0, (dv_tc S k).2).1, dv_u (dv_u (dv_u (dv_tc S k).1 0 13 0, (dv_tc S k).2).2.1 22 n (nI q)) 23 n y, (dv_u (dv_tc S k).1 0 13 0, (dv_tc S k).2).2.2) (25 + 2 * n) (min k 24) ((dv_u (dv_tc S k).1 0 13 0, (dv_tc S k).2).2.1 4)).1 21 3 (nI (n + 1)), (dv_tx ((dv_u (dv_tc S k).1 0 13 0, (dv_tc S k).2).1, dv_u (dv_u (dv_u (dv_tc S k).1 0 13 0, (dv_tc S k).2).2.1 22 n (nI q)) 23 n y, (dv_u (dv_tc S k).1 0 13 0, (dv_tc S k).2).2.2) (25 + 2 * n) (min k 24) ((dv_u (dv_tc S k).1 0 13 0, (dv_tc S k).2).2.1 4)).2) 0)) := by
  have h80 := hT.2.1
  have h20 := hS.2.1
  have h150 := hU.2.1
  have tT := tc_T k hT
  have tS := tc_S k hS
  have tU := tc_U k hU
  refine dv_M_of [some (.ref 0), some (.int (nI q)), some (.int y), some (.int (nI k))] (by decide) (fun _ _ => Nat.le_of_ble_eq_true rfl) (fun _ _ => rfl) ?_
  refine J_aload_n dX7_thing_0 (pc' := 1) rfl rfl ?_
  refine J_getr fX7_44 kd_0 rf_0_6 dX7_thing_1 (pc' := 4) rfl ?_
  refine J_iload_n dX7_thing_4 (pc' := 5) rfl rfl ?_
  refine J_v1 (As := [.int (nI q)]) (rest := []) (qX3_has _ _ _) vX3_has mX7_119 kd_19 dX7_thing_5 (pc' := 8) rfl rfl (Nat.le_of_ble_eq_true rfl) (by decide) ?_
  refine J_bne dX7_thing_8 (pt := 17) (by decide) (pc' := 11) rfl (fun c8 => ?_) (fun c8 => ?_)
  · refine J_iload_n dX7_thing_17 (pc' := 18) rfl rfl ?_
    refine J_s1 (As := [.int y]) (rest := []) (qX7_isKind _ _ _) vX7_isKind mX7_134 dX7_thing_18 (pc' := 21) rfl rfl (Nat.le_of_ble_eq_true rfl) (by decide) ?_
    refine J_beq dX7_thing_21 (pt := 32) (by decide) (pc' := 24) rfl (fun c21 => ?_) (fun c21 => ?_)
    · exact absurd c21 (by rw [hy]; decide)
    · refine J_aload_n dX7_thing_24 (pc' := 25) rfl rfl ?_
      refine J_iload_n dX7_thing_25 (pc' := 26) rfl rfl ?_
      refine J_v1 (As := [.int (nI k)]) (rest := []) (qX7_takesName _ _ k tn htn hk h200) vX7_takesName mX7_137 kd_0 dX7_thing_26 (pc' := 29) rfl rfl (Nat.le_of_ble_eq_true rfl) (by decide) ?_
      refine J_bne dX7_thing_29 (pt := 38) (by decide) (pc' := 32) rfl (fun c29 => ?_) (fun c29 => ?_)
      · refine J_aload_n dX7_thing_38 (pc' := 39) rfl rfl ?_
        refine J_iconst dX7_thing_39 (pc' := 40) rfl (v := (-1)) ic_m1 ?_
        refine J_iload_n dX7_thing_40 (pc' := 41) rfl rfl ?_
        refine J_aload_n dX7_thing_41 (pc' := 42) rfl rfl ?_
        refine J_getr fX7_18 kd_0 rf_0_1 dX7_thing_42 (pc' := 45) rfl ?_
        refine J_iconst dX7_thing_45 (pc' := 46) rfl (v := 0) ic_0 ?_
        refine J_v1 (As := [.int ((-1)), .int (nI q), .ref 3, .int 0]) (rest := []) (qX7_isNameOfOther _ (dv_tc S k) n 3 (-1) (nI q) false tT kd_tk (tc_tl S k)) vX7_isNameOfOther mX7_140 kd_0 dX7_thing_46 (pc' := 49) rfl rfl (Nat.le_of_ble_eq_true rfl) (by decide) ?_
        refine J_bne dX7_thing_49 (pt := 65) (by decide) (pc' := 52) rfl (fun c49 => ?_) (fun c49 => ?_)
        · have c49 : thD (dv_tc S k) n q = true := c49
          rw [c49] at hd
          exact absurd hd (by simp)
        · refine J_aload_n dX7_thing_52 (pc' := 53) rfl rfl ?_
          refine J_iload_n dX7_thing_53 (pc' := 54) rfl rfl ?_
          refine J_aload_n dX7_thing_54 (pc' := 55) rfl rfl ?_
          refine J_getr fX7_18 kd_0 rf_0_1 dX7_thing_55 (pc' := 58) rfl ?_
          refine J_iconst dX7_thing_58 (pc' := 59) rfl (v := 0) ic_0 ?_
          refine J_v1 (As := [.int (nI q), .ref 3, .int 0]) (rest := []) (qX7_wouldCatchUse _ (dv_tc S k) n sn un 3 q false tT tS tU hq kd_tk (tc_tl S k)) vX7_wouldCatchUse mX7_144 kd_0 dX7_thing_59 (pc' := 62) rfl rfl (Nat.le_of_ble_eq_true rfl) (by decide) ?_
          refine J_beq dX7_thing_62 (pt := 71) (by decide) (pc' := 65) rfl (fun c62 => ?_) (fun c62 => ?_)
          · refine J_aload_n dX7_thing_71 (pc' := 72) rfl rfl ?_
            refine J_getr fX7_51 kd_0 rf_0_7 dX7_thing_72 (pc' := 75) rfl ?_
            refine J_v1 (As := []) (rest := []) (qX5_isFull _ _) vX5_isFull mX7_148 kd_21 dX7_thing_75 (pc' := 78) rfl rfl (Nat.le_of_ble_eq_true rfl) (by decide) ?_
            refine J_beq dX7_thing_78 (pt := 87) (by decide) (pc' := 81) rfl (fun c78 => ?_) (fun c78 => ?_)
            · refine J_aload_n dX7_thing_87 (pc' := 88) rfl rfl ?_
              refine J_iconst dX7_thing_88 (pc' := 89) rfl (v := 0) ic_0 ?_
              refine J_putz fX7_80 kd_0 rf_0_13 (by decide) dX7_thing_89 (pc' := 92) rfl ?_
              refine J_aload_n dX7_thing_92 (pc' := 93) rfl rfl ?_
              refine J_aload_n dX7_thing_93 (pc' := 94) rfl rfl ?_
              refine J_getr fX7_51 kd_0 rf_0_7 dX7_thing_94 (pc' := 97) rfl ?_
              refine J_iload_n dX7_thing_97 (pc' := 98) rfl rfl ?_
              refine J_iload_n dX7_thing_98 (pc' := 99) rfl rfl ?_
              refine J_aload_n dX7_thing_99 (pc' := 100) rfl rfl ?_
              refine J_getr fX7_18 kd_0 rf_0_1 dX7_thing_100 (pc' := 103) rfl ?_
              refine J_v1 (As := [.int (nI q), .int y, .ref 3]) (rest := [.ref 0]) (qX5_add _ (dv_u (dv_tc S k).1 0 13 0, (dv_tc S k).2) (nI q) y n (min k 24) (by show dv_u (dv_tc S k).1 0 13 0 21 3 = _; rw [dv_u_ne _ _ (by decide)]; exact tT.1) hn (by show dv_u (dv_tc S k).1 0 13 0 3 1 = _; rw [dv_u_ne _ _ (by decide), dv_tc_n]) (by omega)) vX5_add mX7_149 kd_21 dX7_thing_103 (pc' := 106) rfl rfl (Nat.le_of_ble_eq_true rfl) (by decide) ?_
              refine J_v1 (As := [.int (nI n)]) (rest := []) (qX7_accepted _ _ _) vX7_accepted mX7_131 kd_0 dX7_thing_106 (pc' := 109) rfl rfl (Nat.le_of_ble_eq_true rfl) (by decide) ?_
              refine J_iret dX7_thing_109 rfl (dv_r1 _) ?_
              exact ⟨rfl, rfl⟩
            · rw [tT.1, show (80 : Int32) = nI 80 by decide] at c78
              exact absurd (of_decide_eq_true c78) (nI_ge hn (by decide))
          · have c62 : thC (dv_tc S k) un q = true := c62
            rw [c62] at hd
            exact absurd hd (by simp)
      · exact absurd c29 (by rw [hc]; decide)
  · exact absurd (dv_has hq hS.1 (by omega)) (by rw [c8]; decide)
