abbrev dv_rt : Room := { frames := 6, cells := 1, slots := 6, locals := 192 }
abbrev dv_rn : Room := { frames := 7, cells := 1, slots := 6, locals := 224 }
theorem tX7_name1 (S : dv_S) (x z : Int32) (hx : ¬ (0 ≤ x ∧ x < S.1 21 3)) : dv_xm yX7_name cX7_name 3 (some .int) dv_rt [.ref 0, .int x, .int z] S := by
  refine dv_xm_of [some (.ref 0), some (.int x), some (.int z)] (by decide) (fun _ _ => Nat.le_of_ble_eq_true rfl) (fun _ _ => rfl) ?_
  refine Z_aload_n dX7_name_0 (pc' := 1) rfl rfl ?_
  refine Z_getr fX7_51 kd_0 rf_0_7 dX7_name_1 (pc' := 4) rfl ?_
  refine Z_iload_n dX7_name_4 (pc' := 5) rfl rfl ?_
  refine Z_callv [.int x] (rest := []) (qX5_has 0 S x) vX5_has mX7_160 kd_21 dX7_name_5 (pc' := 8) rfl rfl (by decide) (by decide) (by decide) (fun r S' h => ?_)
  obtain ⟨rfl, rfl⟩ := h
  refine Z_beq dX7_name_8 (pt := 26) (by decide) (pc' := 11) rfl (fun _ => ?_) (fun c8 => ?_)
  · exact Z_thrS rfl (fun b s h => h.1) dX7_name_26 dX7_name_29 dX7_name_30 dX7_name_32 dX7_name_35 (by decide) (by decide) (by decide)
  · exact absurd (of_decide_eq_true c8) hx
theorem tX7_name2 (S : dv_S) (n t : Nat) (z : Int32) (hT : cw_T S n) (ht : t < n) (hz : ¬ (0 ≤ z ∧ z < S.1 (25 + 2 * t) 1)) : dv_xm yX7_name cX7_name 3 (some .int) dv_rt [.ref 0, .int (nI t), .int z] S := by
  have h80 := hT.2.1
  refine dv_xm_of [some (.ref 0), some (.int (nI t)), some (.int z)] (by decide) (fun _ _ => Nat.le_of_ble_eq_true rfl) (fun _ _ => rfl) ?_
  refine Z_aload_n dX7_name_0 (pc' := 1) rfl rfl ?_
  refine Z_getr fX7_51 kd_0 rf_0_7 dX7_name_1 (pc' := 4) rfl ?_
  refine Z_iload_n dX7_name_4 (pc' := 5) rfl rfl ?_
  refine Z_callv [.int (nI t)] (rest := []) (qX5_has 0 S (nI t)) vX5_has mX7_160 kd_21 dX7_name_5 (pc' := 8) rfl rfl (by decide) (by decide) (by decide) (fun r S' h => ?_)
  obtain ⟨rfl, rfl⟩ := h
  refine Z_beq dX7_name_8 (pt := 26) (by decide) (pc' := 11) rfl (fun c8 => ?_) (fun c8 => ?_)
  · exact absurd (dv_has ht hT.1 (by omega)) (by rw [c8]; decide)
  refine Z_aload_n dX7_name_11 (pc' := 12) rfl rfl ?_
  refine Z_getr fX7_51 kd_0 rf_0_7 dX7_name_12 (pc' := 15) rfl ?_
  refine Z_iload_n dX7_name_15 (pc' := 16) rfl rfl ?_
  refine Z_callv [.int (nI t)] (rest := []) (qX5_nameOf 0 _ t n hT.1 ht h80) vX5_nameOf mX7_167 kd_21 dX7_name_16 (pc' := 19) rfl rfl (by decide) (by decide) (by decide) (fun r S' h => ?_)
  obtain ⟨rfl, rfl⟩ := h
  refine Z_iload_n dX7_name_19 (pc' := 20) rfl rfl ?_
  refine Z_callv [.int z] (rest := []) (qX4_has 0 _ (25 + 2 * t) z (kd_T (by omega)).1) vX4_has mX7_185 (kd_T (by omega)).1 dX7_name_20 (pc' := 23) rfl rfl (by decide) (by decide) (by decide) (fun r S' h => ?_)
  obtain ⟨rfl, rfl⟩ := h
  refine Z_bne dX7_name_23 (pt := 36) (by decide) (pc' := 26) rfl (fun c23 => ?_) (fun _ => ?_)
  · exact absurd (of_decide_eq_true c23) hz
  · exact Z_thrS rfl (fun b s h => h.1) dX7_name_26 dX7_name_29 dX7_name_30 dX7_name_32 dX7_name_35 (by decide) (by decide) (by decide)
theorem tX7_out (S : dv_S) (x : Int32) (hx : ¬ (0 ≤ x ∧ x < S.1 7 1)) : dv_xm yX7_out cX7_out 2 (some .int) dv_rt [.ref 0, .int x] S := by
  refine dv_xm_of [some (.ref 0), some (.int x)] (by decide) (fun _ _ => Nat.le_of_ble_eq_true rfl) (fun _ _ => rfl) ?_
  refine Z_aload_n dX7_out_0 (pc' := 1) rfl rfl ?_
  refine Z_getr fX7_24 kd_0 rf_0_3 dX7_out_1 (pc' := 4) rfl ?_
  refine Z_iload_n dX7_out_4 (pc' := 5) rfl rfl ?_
  refine Z_callv [.int x] (rest := []) (qX4_has 0 S 7 x kd_7) vX4_has mX7_185 kd_7 dX7_out_5 (pc' := 8) rfl rfl (by decide) (by decide) (by decide) (fun r S' h => ?_)
  obtain ⟨rfl, rfl⟩ := h
  refine Z_bne dX7_out_8 (pt := 22) (by decide) (pc' := 11) rfl (fun c8 => ?_) (fun _ => ?_)
  · exact absurd (of_decide_eq_true c8) hx
  · exact Z_thrSW rfl (fun b s h => h.2.1) dX7_out_11 dX7_out_14 dX7_out_15 dX7_out_18 dX7_out_21 (by decide) (by decide) (by decide)
abbrev hhN : List (Nat × Nat × Nat × Nat) := [(0, 10, 13, 13)]
abbrev hhO : List (Nat × Nat × Nat × Nat) := [(0, 9, 12, 13)]
theorem lN_y (S : dv_S) (n t i : Nat) (hT : cw_T S n) (ht : t < n) (hi : i < dn (S.1 (25 + 2 * t) 1)) : dv_mh yL_name cL_name 5 (some .int) hhN dv_rn [.ref 0, .int (nI t), .int (nI i), .ref 543] S (fun r S' => r = some (.int 0) ∧ S' = (S.1, S.2.1, dv_u S.2.2 543 0 (S.2.1 (25 + 2 * t + 1) i).toInt64)) := by
  refine dv_mh_of [some (.ref 0), some (.int (nI t)), some (.int (nI i)), some (.ref 543)] (by decide) (fun _ _ => Nat.le_of_ble_eq_true rfl) (fun _ _ => rfl) ?_
  refine Z_aload_n dL_name_0 (pc' := 1) rfl rfl ?_
  refine Z_iconst (v := 0) dL_name_1 (pc' := 2) rfl (by decide) ?_
  refine Z_aload_n dL_name_2 (pc' := 3) rfl rfl ?_
  refine Z_iload_n dL_name_3 (pc' := 4) rfl rfl ?_
  refine Z_iload_n dL_name_4 (pc' := 5) rfl rfl ?_
  refine Z_callv [.int (nI t), .int (nI i)] (rest := [.int 0, .ref 543]) (qX7_nameY 0 S n t i hT ht hi) vX7_name mL_7 kd_0 dL_name_5 (pc' := 8) rfl rfl (by decide) (by decide) (by decide) (fun r S' h => ?_)
  obtain ⟨rfl, rfl⟩ := h
  refine Z_i2l dL_name_8 (pc' := 9) rfl ?_
  refine Z_last (a := 543) (j := 0) (by decide) (by decide) (by decide) dL_name_9 (pc' := 10) rfl ?_
  refine Z_goto dL_name_10 (pc' := 17) (by decide) ?_
  refine Z_iconst (v := 0) dL_name_17 (pc' := 18) rfl (by decide) ?_
  exact Z_iretH dL_name_18 rfl (by decide) ⟨rfl, rfl⟩
theorem lN_x (S : dv_S) (x z : Int32) (h : dv_xm yX7_name cX7_name 3 (some .int) dv_rt [.ref 0, .int x, .int z] S) : dv_mh yL_name cL_name 5 (some .int) hhN dv_rn [.ref 0, .int x, .int z, .ref 543] S (fun r S' => r = some (.int 1) ∧ S' = (S.1, S.2.1, S.2.2)) := by
  refine dv_mh_of [some (.ref 0), some (.int x), some (.int z), some (.ref 543)] (by decide) (fun _ _ => Nat.le_of_ble_eq_true rfl) (fun _ _ => rfl) ?_
  refine Z_aload_n dL_name_0 (pc' := 1) rfl rfl ?_
  refine Z_iconst (v := 0) dL_name_1 (pc' := 2) rfl (by decide) ?_
  refine Z_aload_n dL_name_2 (pc' := 3) rfl rfl ?_
  refine Z_iload_n dL_name_3 (pc' := 4) rfl rfl ?_
  refine Z_iload_n dL_name_4 (pc' := 5) rfl rfl ?_
  refine Z_callx (j := 4) [.int x, .int z] (rest := [.int 0, .ref 543]) ⟨0, 10, 13, 13⟩ h vX7_name mL_7 kd_0 dL_name_5 rfl (by decide) (by decide) (by decide) rfl (by decide) (by decide) x_13 dL_name_13 (pc' := 15) rfl (by decide) rfl (fun w h => by cases h) ?_
  refine Z_iconst (v := 1) dL_name_15 (pc' := 16) rfl (by decide) ?_
  exact Z_iretH dL_name_16 rfl (by decide) ⟨rfl, rfl⟩
theorem lO_y (S : dv_S) (i m : Nat) (hm : S.1 7 1 = nI m) (hi : i < m) (h24 : m ≤ 24) : dv_mh yL_out cL_out 4 (some .int) hhO dv_rn [.ref 0, .int (nI i), .ref 543] S (fun r S' => r = some (.int 0) ∧ S' = (S.1, S.2.1, dv_u S.2.2 543 0 (S.2.1 8 i).toInt64)) := by
  refine dv_mh_of [some (.ref 0), some (.int (nI i)), some (.ref 543)] (by decide) (fun _ _ => Nat.le_of_ble_eq_true rfl) (fun _ _ => rfl) ?_
  refine Z_aload_n dL_out_0 (pc' := 1) rfl rfl ?_
  refine Z_iconst (v := 0) dL_out_1 (pc' := 2) rfl (by decide) ?_
  refine Z_aload_n dL_out_2 (pc' := 3) rfl rfl ?_
  refine Z_iload_n dL_out_3 (pc' := 4) rfl rfl ?_
  refine Z_callv [.int (nI i)] (rest := [.int 0, .ref 543]) (qX7_outY 0 S i m hm hi h24) vX7_out mL_15 kd_0 dL_out_4 (pc' := 7) rfl rfl (by decide) (by decide) (by decide) (fun r S' h => ?_)
  obtain ⟨rfl, rfl⟩ := h
  refine Z_i2l dL_out_7 (pc' := 8) rfl ?_
  refine Z_last (a := 543) (j := 0) (by decide) (by decide) (by decide) dL_out_8 (pc' := 9) rfl ?_
  refine Z_goto dL_out_9 (pc' := 15) (by decide) ?_
  refine Z_iconst (v := 0) dL_out_15 (pc' := 16) rfl (by decide) ?_
  exact Z_iretH dL_out_16 rfl (by decide) ⟨rfl, rfl⟩
theorem lO_x (S : dv_S) (x : Int32) (h : dv_xm yX7_out cX7_out 2 (some .int) dv_rt [.ref 0, .int x] S) : dv_mh yL_out cL_out 4 (some .int) hhO dv_rn [.ref 0, .int x, .ref 543] S (fun r S' => r = some (.int 1) ∧ S' = (S.1, S.2.1, S.2.2)) := by
  refine dv_mh_of [some (.ref 0), some (.int x), some (.ref 543)] (by decide) (fun _ _ => Nat.le_of_ble_eq_true rfl) (fun _ _ => rfl) ?_
  refine Z_aload_n dL_out_0 (pc' := 1) rfl rfl ?_
  refine Z_iconst (v := 0) dL_out_1 (pc' := 2) rfl (by decide) ?_
  refine Z_aload_n dL_out_2 (pc' := 3) rfl rfl ?_
  refine Z_iload_n dL_out_3 (pc' := 4) rfl rfl ?_
  refine Z_callxn (j := 3) [.int x] (rest := [.int 0, .ref 543]) ⟨0, 9, 12, 13⟩ h vX7_out mL_15 kd_0 dL_out_4 rfl (by decide) (by decide) (by decide) rfl (by decide) (by decide) x_13 dL_out_12 rfl (pc' := 13) rfl (by decide) rfl (fun w h => by cases h) ?_
  refine Z_iconst (v := 1) dL_out_13 (pc' := 14) rfl (by decide) ?_
  exact Z_iretH dL_out_14 rfl (by decide) ⟨rfl, rfl⟩
theorem RelX_L {L : Int32} {xs : Nat → Int32} {n sn un w tn : Nat} {wl : Nat → Nat → Int32} {wm : Nat → Nat} {S : dv_S} {l' : Nat → Nat → Int64} (h : RelX L xs n sn un w tn wl wm S) (hl : ∀ j, l' 14 j = S.2.2 14 j) : RelX L xs n sn un w tn wl wm (S.1, S.2.1, l') := by
  obtain ⟨r1, r2, r3, r4, r5, r6, r7, r8, r9, r10, r11⟩ := h
  exact ⟨r1, r2, r3, r4, r5, r6, ⟨r7.1, fun j hj => ⟨(hl j).trans (r7.2 j hj).1, (r7.2 j hj).2⟩⟩, r8, r9, r10, r11⟩
theorem RelX_t {L : Int32} {xs : Nat → Int32} {n sn un w tn : Nat} {wl : Nat → Nat → Int32} {wm : Nat → Nat} {S : dv_S} (k : Int32) (h : RelX L xs n sn un w tn wl wm S) : RelX L xs n sn un w tn wl wm (dv_u S.1 516 0 k, S.2) :=
  RelX_sc ⟨fun a k q => dv_u_ne S.1 _ (fun z => q (by rw [z.1, z.2]; decide)), fun _ _ => rfl, rfl⟩ h
theorem out_r {x : Int32} {n : Nat} (hn : n < 2 ^ 31) : (¬ (0 ≤ x ∧ x < nI n)) ∨ ∃ j, j < n ∧ x = nI j := by
  rcases pk_ix x hn with h | h | h
  · exact Or.inl (fun q => absurd q.1 (Int32.not_le.mpr h))
  · exact Or.inl (fun q => absurd q.2 (Int32.not_lt.mpr h))
  · exact Or.inr h
/-- what name and out come to, by the class in the law's own method, and by the reference -/
def NK (yL : MethodName) (cL : ByteArray) (nL : Nat) (hh : List (Nat × Nat × Nat × Nat)) (yM : MethodName) (cM : ByteArray) (nM : Nat) (av : List Value) (S : dv_S) : Prop :=
  ∃ (k v : Int32) (l' : Nat → Nat → Int64), dv_mh yL cL nL (some .int) hh dv_rn (.ref 0 :: (av ++ [.ref 543])) S (fun r S' => r = some (.int k) ∧ S' = (S.1, S.2.1, l')) ∧
    dv_M yM cM nM (some .int) (dv_rm (0 + 1)) (.ref 516 :: av) (S.1, S.2.1, l') (fun r S' => r = some (.int v) ∧ S' = (dv_u S.1 516 0 k, S.2.1, l')) ∧ (∀ j, l' 14 j = S.2.2 14 j) ∧ (k = 0 → l' 543 0 = v.toInt64)
theorem NK_name {L : Int32} {xs : Nat → Int32} {n sn un w tn : Nat} {wl : Nat → Nat → Int32} {wm : Nat → Nat} {S : dv_S} (hR : RelX L xs n sn un w tn wl wm S) (x z : Int32) : NK yL_name cL_name 5 hhN yX8_name cX8_name 3 [.int x, .int z] S := by
  have h80 := hR.T.2.1
  rcases out_r (x := x) (n := n) (by omega) with hx | ⟨t, ht, rfl⟩
  · refine ⟨1, 0, S.2.2, lN_x S x z (tX7_name1 S x z (by rw [hR.T.1]; exact hx)), qX8_nameT1 0 (S.1, S.2.1, S.2.2) x z (decide_eq_false (by show ¬ (0 ≤ x ∧ x < S.1 516 5); rw [hR.rT.1]; exact hx)), fun _ => rfl, fun q => absurd q (by decide)⟩
  · have hN := hR.Nm t ht
    have hlen : (tx S (25 + 2 * t)).length = dn (S.1 (25 + 2 * t) 1) := dv_rd_len _ _
    have htl := (hR.T.2.2 t ht).1
    have hm : S.2.1 521 t = nI (dn (S.1 (25 + 2 * t) 1)) := by rw [hN.1, hlen]
    rcases out_r (x := z) (n := dn (S.1 (25 + 2 * t) 1)) (by have := htl.2; omega) with hz | ⟨i, hi, rfl⟩
    · exact ⟨1, 0, S.2.2, lN_x S _ z (tX7_name2 S n t z hR.T ht (by rw [htl.1]; exact hz)), qX8_nameT2 0 (S.1, S.2.1, S.2.2) n t _ z hR.rT.1 ht h80 hm hz, fun _ => rfl, fun q => absurd q (by decide)⟩
    · have hv : S.2.1 524 (24 * t + i) = S.2.1 (25 + 2 * t + 1) i := by
        have h := hN.2.2
        rw [hlen] at h
        exact (dv_rd_eq.mp h).2 i hi
      refine ⟨0, S.2.1 (25 + 2 * t + 1) i, dv_u S.2.2 543 0 (S.2.1 (25 + 2 * t + 1) i).toInt64, lN_y S n t i hR.T ht hi, ?_, fun j => dv_u_ne _ _ (by rintro ⟨q, -⟩; omega), fun _ => dv_u_eq _ _ _ _⟩
      have h := qX8_nameY 0 (S.1, S.2.1, dv_u S.2.2 543 0 (S.2.1 (25 + 2 * t + 1) i).toInt64) n t _ i hR.rT.1 ht h80 hm hi htl.2
      exact dv_M_mono h (fun r S' h => ⟨h.1.trans (by show some (Value.int (S.2.1 524 (24 * t + i))) = _; rw [hv]), h.2⟩)
theorem NK_out {L : Int32} {xs : Nat → Int32} {n sn un w tn : Nat} {wl : Nat → Nat → Int32} {wm : Nat → Nat} {S : dv_S} (hR : RelX L xs n sn un w tn wl wm S) (x : Int32) : NK yL_out cL_out 4 hhO yX8_out cX8_out 2 [.int x] S := by
  obtain ⟨m, h24, hm, hm', hv⟩ := hR.2.2.2.2.2.2.2.1
  rcases out_r (x := x) (n := m) (by omega) with hx | ⟨i, hi, rfl⟩
  · exact ⟨1, 0, S.2.2, lO_x S x (tX7_out S x (by rw [hm]; exact hx)), qX8_outT 0 (S.1, S.2.1, S.2.2) x (by show ¬ (0 ≤ x ∧ x < S.1 516 26); rw [hm']; exact hx), fun _ => rfl, fun q => absurd q (by decide)⟩
  · refine ⟨0, S.2.1 8 i, dv_u S.2.2 543 0 (S.2.1 8 i).toInt64, lO_y S i m hm hi h24, ?_, fun j => dv_u_ne _ _ (by rintro ⟨q, -⟩; omega), fun _ => dv_u_eq _ _ _ _⟩
    have h := qX8_outY 0 (S.1, S.2.1, dv_u S.2.2 543 0 (S.2.1 8 i).toInt64) i m hm' hi h24
    exact dv_M_mono h (fun r S' h => ⟨h.1.trans (by show some (Value.int (S.2.1 533 i)) = _; rw [hv i hi]), h.2⟩)
