theorem rf_fr (S : dv_S) (x : Int32) : fr [(0, 14)] [] S (rfS S x) := ⟨fun a k q => dv_u_ne S.1 _ (by simpa using q), fun _ _ => rfl, rfl⟩
theorem rt_fr (S : dv_S) (x : Int32) : fr [(516, 1)] [] S (rT S x) := ⟨fun a k q => dv_u_ne S.1 _ (by simpa using q), fun _ _ => rfl, rfl⟩
theorem rk_fr (S : dv_S) : fr [(516, 3)] [] S (rK S) := ⟨fun a k q => dv_u_ne S.1 _ (by simpa using q), fun _ _ => rfl, rfl⟩
theorem rs_fr (S : dv_S) : fr [(516, 0)] [] S (rS S) := ⟨fun a k q => dv_u_ne S.1 _ (by simpa using q), fun _ _ => rfl, rfl⟩
section
variable {L : Int32} {xs : Nat → Int32} {n sn un w tn : Nat} {wl : Nat → Nat → Int32} {wm : Nat → Nat} {S S1 : dv_S} {d : Nat}
variable {y yR : MethodName} {cc cR : ByteArray} {nn0 nR : Nat} {ret retR : Option FieldType} {av aR : List Value} {v : Int32}
theorem opu {P : dv_S → Prop} (hC : dv_M y cc nn0 ret (dv_rm (d + 7)) av S (fun r S1 => r = some (.int v) ∧ P S1)) (hM : ∀ S1, P S1 → dv_M yR cR nR retR (dv_rm (d + 7)) aR S1 (fun r S2 => r = some (.int v) ∧ Rel L xs S2)) : dv_M y cc nn0 ret (dv_rm (d + 7)) av S (OPQ L xs yR cR nR retR d aR) :=
  dv_M_mono hC (fun r S1 h => ⟨v, h.1, hM S1 h.2⟩)
/-- class's and reference's state are told outright -/
theorem ope {S2 : dv_S} {v' : Int32} (hC : dv_M y cc nn0 ret (dv_rm (d + 7)) av S (fun r S' => r = some (.int v) ∧ S' = S1)) (hM : dv_M yR cR nR retR (dv_rm (d + 7)) aR S1 (fun r S' => r = some (.int v') ∧ S' = S2)) (hv : v' = v) (hR : Rel L xs S2) : dv_M y cc nn0 ret (dv_rm (d + 7)) av S (OPQ L xs yR cR nR retR d aR) :=
  opu (P := fun S' => S' = S1) hC (fun S' h => by rw [h]; exact dv_M_mono hM (fun r S3 h3 => ⟨by rw [h3.1, hv], by rw [h3.2]; exact hR⟩))
abbrev scF2 : List (Nat × Nat) := (0, 14) :: (516, 1) :: scF
abbrev scF3 : List (Nat × Nat) := (1, 1) :: (1, 2) :: (516, 3) :: scF2
theorem RelX_tk {tn' : Nat} {S' : dv_S} (h : fr scF3 scG S S') (ht : S'.1 516 1 = S'.1 0 14) (htp : A_tape tn' S') (hR : RelX L xs n sn un w tn wl wm S) : RelX L xs n sn un w tn' wl wm S' := by
  obtain ⟨r1, r2, r3, r4, r5, r6, r7, r8, r9, r10, r11⟩ := hR
  have h2 := fr_2 h
  have hn := r5.1.2.2
  refine ⟨A_scr_fr h2 (by decide) (by decide) r1, ht, htp, A_sc_fr h2 (by decide) (by decide) r4, A_th_fr h2 ⟨by decide, by decide, fun t ht => by simp <;> omega⟩ ⟨by decide, by decide, by decide, by decide, by decide, by decide, fun t ht => by simp <;> omega⟩ r5, A_us_fr h2 (by decide) (by decide) r6, A_bk_fr h2 h.2.2 (by decide) (by decide) r7, A_out_fr h2 (by decide) (by decide) r8, A_pe_fr h2 hn ⟨by decide, fun t ht => by simp <;> omega⟩ ⟨by decide, by decide, by decide, by decide, fun t ht => by simp <;> omega⟩ r9, A_sf_fr h2 hn r6 (fun t ht => by simp <;> omega) ⟨by decide, fun t ht => by simp <;> omega⟩ r10, A_bc_fr h2 hn r6 ⟨by decide, fun t ht => ⟨by simp <;> omega, by simp <;> omega⟩⟩ ⟨by decide, by decide, by decide, by decide, fun t ht => ⟨by simp <;> omega, by simp <;> omega⟩⟩ r11⟩
theorem RelX_tr {S' : dv_S} (h : fr scF2 scG S S') (ht : S'.1 516 1 = S'.1 0 14) (hR : RelX L xs n sn un w tn wl wm S) : RelX L xs n sn un w tn wl wm S' :=
  RelX_tk (h.mono (by decide) (by decide)) ht (A_tape_fr (fr_2 h) (by decide) (by decide) hR.2.2.1) hR
/-- refused or accepted, and nothing else -/
theorem Rel_rf (hR : RelX L xs n sn un w tn wl wm S) (x : Int32) : Rel L xs (rT (rS (rfS S x)) x) := by
  refine ⟨n, sn, un, w, tn, wl, wm, RelX_tr (((rf_fr S x).mono (by decide) (by decide)).tr (((rs_fr _).mono (by decide) (by decide)).tr ((rt_fr _ x).mono (by decide) (by decide)))) ?_ hR⟩
  show dv_u (rS (rfS S x)).1 516 1 x 516 1 = dv_u (rS (rfS S x)).1 516 1 x 0 14
  rw [dv_u_eq, dv_u_ne _ _ (by decide), (rs_fr _).1 0 14 (by decide)]
  show x = dv_u S.1 0 14 x 0 14
  rw [dv_u_eq]
theorem tc_rT (S : dv_S) (k : Nat) (x : Int32) : (rT (rK (rS (rfS (dv_tc S k) x))) x).1 516 1 = (rT (rK (rS (rfS (dv_tc S k) x))) x).1 0 14 := by
  show dv_u (rK (rS (rfS (dv_tc S k) x))).1 516 1 x 516 1 = dv_u (rK (rS (rfS (dv_tc S k) x))).1 516 1 x 0 14
  rw [dv_u_eq, dv_u_ne _ _ (by decide), (rk_fr _).1 0 14 (by decide), (rs_fr _).1 0 14 (by decide)]
  show x = dv_u (dv_tc S k).1 0 14 x 0 14
  rw [dv_u_eq]
theorem tc_F3 (S : dv_S) (k : Nat) (x : Int32) : fr scF3 scG S (rT (rK (rS (rfS (dv_tc S k) x))) x) := ((tc_fr S k).mono (by decide) (by decide)).tr (((rf_fr _ x).mono (by decide) (by decide)).tr (((rs_fr _).mono (by decide) (by decide)).tr (((rk_fr _).mono (by decide) (by decide)).tr ((rt_fr _ x).mono (by decide) (by decide)))))
theorem tc_0 (S : dv_S) (k : Nat) : (dv_tc S k).1 1 1 = 0 := by
  show dv_u (dv_u (dv_tk S k).1 1 1 0) 1 2 0 1 1 = 0
  rw [dv_u_ne _ _ (by decide), dv_u_eq]
theorem A_tape0 {S : dv_S} (h1 : S.1 1 1 = 0) (h2 : S.1 516 3 = 0) : A_tape 0 S := ⟨by rw [h1, nI_0], by decide, by rw [h2, nI_0], fun k hk => absurd hk (Nat.not_lt_zero k)⟩
/-- the tape taken; refused or accepted -/
theorem Rel_tc (hR : RelX L xs n sn un w tn wl wm S) (k : Nat) (x : Int32) : Rel L xs (rT (rK (rS (rfS (dv_tc S k) x))) x) := by
  refine ⟨n, sn, un, w, 0, wl, wm, RelX_tk (tc_F3 S k x) (tc_rT S k x) (A_tape0 ?_ ?_) hR⟩
  · rw [(rt_fr _ x).1 1 1 (by decide), (rk_fr _).1 1 1 (by decide), (rs_fr _).1 1 1 (by decide), (rf_fr _ x).1 1 1 (by decide), tc_0]
  · rw [(rt_fr _ x).1 516 3 (by decide)]
    show dv_u (rS (rfS (dv_tc S k) x)).1 516 3 0 516 3 = 0
    rw [dv_u_eq]
end
/-- bytes, signed and not -/
theorem sb_n {x : Int32} (h : ∃ j, j < 256 ∧ x = nI j) : ch_n x.toInt8.toInt32 = ch_n x ∧ ch_l x.toInt8.toInt32 = ch_l x ∧ ch_d x.toInt8.toInt32 = ch_d x ∧ ch_s x.toInt8.toInt32 = ch_s x := by
  obtain ⟨j, hj, rfl⟩ := h
  have key : ∀ j, j < 256 → ch_n (nI j).toInt8.toInt32 = ch_n (nI j) ∧ ch_l (nI j).toInt8.toInt32 = ch_l (nI j) ∧ ch_d (nI j).toInt8.toInt32 = ch_d (nI j) ∧ ch_s (nI j).toInt8.toInt32 = ch_s (nI j) := by decide +kernel
  exact key j hj
section
variable {f g : Nat → Int32} {k : Nat}
theorem sb_all {p : Int32 → Bool} (h : ∀ z, z < k → p (g z) = p (f z)) : (dv_rd g k).all p = (dv_rd f k).all p := by
  rw [Bool.eq_iff_iff, List.all_eq_true, List.all_eq_true]
  constructor
  · intro q x hx
    obtain ⟨z, hz, rfl⟩ := List.mem_map.mp hx
    rw [← h z (List.mem_range.mp hz)]
    exact q _ (List.mem_map.mpr ⟨z, hz, rfl⟩)
  · intro q x hx
    obtain ⟨z, hz, rfl⟩ := List.mem_map.mp hx
    rw [h z (List.mem_range.mp hz)]
    exact q _ (List.mem_map.mpr ⟨z, hz, rfl⟩)
theorem sb_any {p : Int32 → Bool} (h : ∀ z, z < k → p (g z) = p (f z)) : (dv_rd g k).any p = (dv_rd f k).any p := by
  rw [Bool.eq_iff_iff, List.any_eq_true, List.any_eq_true]
  constructor
  · rintro ⟨x, hx, q⟩
    obtain ⟨z, hz, rfl⟩ := List.mem_map.mp hx
    exact ⟨f z, List.mem_map.mpr ⟨z, hz, rfl⟩, by rw [← h z (List.mem_range.mp hz)]; exact q⟩
  · rintro ⟨x, hx, q⟩
    obtain ⟨z, hz, rfl⟩ := List.mem_map.mp hx
    exact ⟨g z, List.mem_map.mpr ⟨z, hz, rfl⟩, by rw [h z (List.mem_range.mp hz)]; exact q⟩
theorem sb_nm (h : ∀ z, z < k → (∃ j, j < 256 ∧ f z = nI j) ∧ g z = (f z).toInt8.toInt32) : nm_ok (dv_rd g k) = nm_ok (dv_rd f k) := by
  unfold nm_ok
  rw [dv_rd_len, dv_rd_len, sb_all (f := f) (g := g) (p := ch_n) (fun z hz => by rw [(h z hz).2]; exact (sb_n (h z hz).1).1), sb_any (f := f) (g := g) (p := ch_l) (fun z hz => by rw [(h z hz).2]; exact (sb_n (h z hz).1).2.1)]
  by_cases h0 : 0 < k
  · rw [dv_rd_hd h0, dv_rd_hd h0, (h 0 h0).2, (sb_n (h 0 h0).1).2.2.1]
  · simp only [decide_eq_false (show ¬ (1 ≤ k ∧ k ≤ 24) by omega), Bool.false_and]
theorem sb_wd (h : ∀ z, z < k → (∃ j, j < 256 ∧ f z = nI j) ∧ g z = (f z).toInt8.toInt32) : wd_ok (dv_rd g k) = wd_ok (dv_rd f k) := by
  unfold wd_ok
  rw [dv_rd_len, dv_rd_len, sb_all (f := f) (g := g) (p := ch_s) (fun z hz => by rw [(h z hz).2]; exact (sb_n (h z hz).1).2.2.2)]
end
section
variable {L : Int32} {xs : Nat → Int32} {n sn un w tn : Nat} {wl : Nat → Nat → Int32} {wm : Nat → Nat} {S S1 : dv_S}
theorem RelX_sb (hR : RelX L xs n sn un w tn wl wm S) {k : Nat} (hk : k ≤ tn) : ∀ z, z < k → (∃ j, j < 256 ∧ S.2.1 2 z = nI j) ∧ S.2.1 517 z = (S.2.1 2 z).toInt8.toInt32 := fun z hz => hR.2.2.1.2.2.2 z (by omega)
/-- a NAME on the tape is the same on both sides -/
theorem RelX_tp (hR : RelX L xs n sn un w tn wl wm S) {k : Nat} (hk : k ≤ tn) (hc : nm_ok (dv_rd (S.2.1 2) k) = true) : ∀ z, z < k → S.2.1 517 z = S.2.1 2 z := by
  intro z hz
  rw [(RelX_sb hR hk z hz).2]
  exact ch_by (nm_ch hc _ (List.mem_map.mpr ⟨z, List.mem_range.mpr hz, rfl⟩))
theorem tp_len (f : Nat → Int32) (k : Nat) : (dv_rd f k).length = k := dv_rd_len f k
theorem tp_L {f g : Nat → Int32} {k : Nat} (h : ∀ z, z < k → g z = f z) : dv_rd (fun z => g (0 + z)) (dv_rd f k).length = dv_rd f k := by
  rw [dv_rd_len, dv_rd_eq]
  exact ⟨rfl, fun z hz => by rw [Nat.zero_add]; exact h z hz⟩
theorem tp_S {g : Nat → Int32} {k : Nat} : dv_rd (fun z => g (0 + z)) (dv_rd g k).length = dv_rd g k := tp_L (fun z _ => rfl)
/-- class's and reference's cells after the class took the tape -/
theorem tc_sc (S : dv_S) (k : Nat) (x : Int32) : fr [(3, 1), (3, 2), (1, 1), (1, 2), (0, 14), (516, 0)] [4] S (rS (rfS (dv_tc S k) x)) := ((tc_fr S k).mono (by decide) (by decide)).tr (((rf_fr _ x).mono (by decide) (by decide)).tr ((rs_fr _).mono (by decide) (by decide)))
theorem thM_eq (S : dv_S) {k : Nat} (hk : k ≤ 24) (n q : Nat) (hn : n ≤ 80) : thM (dv_tc S k) n q = cl_tm (hmS S) (fun t => wi S q (hmS S t) && decide (tx S (25 + 2 * t) = dv_rd (S.2.1 2) k)) n := by
  have h2 := fr_2 (tc_fr S k)
  unfold thM
  rw [hm_fr h2 (by decide), wi_fr h2 (by decide), tc_tx S hk]
  refine cl_tm_cong fun t ht => ?_
  rw [show nn (dv_tc S k) false t = 25 + 2 * t from if_neg (by simp), fr2_tx h2 (by simp <;> omega) (by simp <;> omega)]
theorem thD_eq (S : dv_S) {k : Nat} (hk : k ≤ 24) {n sn : Nat} (q : Nat) (hq : q < sn) (hS : cw_S S n sn) (hn : n ≤ 80) : thD (dv_tc S k) n q = dv_ex (fun i => decide (hmS S i = q) && decide (tx S (25 + 2 * i) = dv_rd (S.2.1 2) k)) n := by
  have h2 := fr_2 (tc_fr S k)
  unfold thD
  rw [dv_ex_fo]
  rw [dv_fo_cong (fun t ht => ?_)]
  rw [show nn (dv_tc S k) false t = 25 + 2 * t from if_neg (by simp), fr2_tx h2 (by simp <;> omega) (by simp <;> omega), tc_tx S hk, decide_eq_false (nI_m1 (by omega)), h2.2 22 (by decide), show S.2.1 22 t = nI (hmS S t) from (hS.2.2 t ht).1]
  have h3 : hmS S t < sn := (hS.2.2 t ht).2
  have h20 := hS.2.1
  have e : decide (nI (hmS S t) = nI q) = decide (hmS S t = q) := by rw [decide_eq_decide, nI_eq (by omega) (by omega)]
  rw [e]; rfl
theorem thC_eq (S : dv_S) {k : Nat} (hk : k ≤ 24) {n sn un : Nat} (q : Nat) (hU : cw_U S n sn un) (hn : n ≤ 80) : thC (dv_tc S k) un q = (dv_fo (fun u => decide (hmS S (utS S u) < q) && wi S (usS S u) q && decide (tx S (25 + 2 * utS S u) = dv_rd (S.2.1 2) k)) un).isSome := by
  have h2 := fr_2 (tc_fr S k)
  unfold thC
  rw [dv_fo_cong (fun u hu => ?_)]
  have hut : utS S u < n := (hU.2.2 u hu).2.2.2
  rw [hm_fr h2 (by decide), wi_fr h2 (by decide), us_fr h2 (by decide), ut_fr h2 (by decide), show nn (dv_tc S k) false (utS S u) = 25 + 2 * utS S u from if_neg (by simp), fr2_tx h2 (by simp <;> omega) (by simp <;> omega), tc_tx S hk]
end
