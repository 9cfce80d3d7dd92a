theorem g_aboutN {L : Int32} {xs : Nat → Int32} {n sn un w tn : Nat} {wl : Nat → Nat → Int32} {wm : Nat → Nat} {S : dv_S} (d : Nat) (hR : RelX L xs n sn un w tn wl wm S) (x y : Int32) (hx : decide (0 ≤ x ∧ x < S.1 21 3) = false) : dv_M yX7_about cX7_about 3 (some .int) (dv_rm (d + 7)) [.ref 0, .int x, .int y] S (OPQ L xs yX8_about cX8_about 5 (some .int) d [.ref 516, .int x, .int y]) :=
  opq hR (cE (qX7_aboutN (d + 1) S x y hx)) (fun S1 h1 => mE (rfl) (qX8_aboutN (d + 3) S1 (rS S1) x y rfl (by rw [(h1.tr (rS_sc S1)).1 516 5 (by decide), hR.rT.1, ← hR.T.1]; exact hx)))
theorem g_about0 {L : Int32} {xs : Nat → Int32} {n sn un w tn : Nat} {wl : Nat → Nat → Int32} {wm : Nat → Nat} {S : dv_S} (d : Nat) (hR : RelX L xs n sn un w tn wl wm S) (t : Nat) (ht : t < n) : dv_M yX7_about cX7_about 3 (some .int) (dv_rm (d + 7)) [.ref 0, .int (nI t), .int (nI 0)] S (OPQ L xs yX8_about cX8_about 5 (some .int) d [.ref 516, .int (nI t), .int (nI 0)]) :=
  opq hR (cE (qX7_about0 (d + 1) S n t hR.T ht)) (fun S1 h1 => mR (by rw [(h1.tr (rS_sc S1)).2.1 519 (by decide), (hR.rS.2.2.1 t ht).1]; exact (hR.S'.2.2 t ht).1.symm) (qX8_about0 (d + 3) S1 (rS S1) S n w wl wm t rfl (RelX_X1 hR h1) ht))
theorem g_about1 {L : Int32} {xs : Nat → Int32} {n sn un w tn : Nat} {wl : Nat → Nat → Int32} {wm : Nat → Nat} {S : dv_S} (d : Nat) (hR : RelX L xs n sn un w tn wl wm S) (t : Nat) (ht : t < n) : dv_M yX7_about cX7_about 3 (some .int) (dv_rm (d + 7)) [.ref 0, .int (nI t), .int (nI 1)] S (OPQ L xs yX8_about cX8_about 5 (some .int) d [.ref 516, .int (nI t), .int (nI 1)]) :=
  opq hR (cE (qX7_about1 (d + 1) S n t hR.T ht)) (fun S1 h1 => mR (rfl) (qX8_about1 (d + 3) S1 (rS S1) S n w wl wm t rfl (RelX_X1 hR h1) ht))
theorem g_about2 {L : Int32} {xs : Nat → Int32} {n sn un w tn : Nat} {wl : Nat → Nat → Int32} {wm : Nat → Nat} {S : dv_S} (d : Nat) (hR : RelX L xs n sn un w tn wl wm S) (t : Nat) (ht : t < n) : dv_M yX7_about cX7_about 3 (some .int) (dv_rm (d + 7)) [.ref 0, .int (nI t), .int (nI 2)] S (OPQ L xs yX8_about cX8_about 5 (some .int) d [.ref 516, .int (nI t), .int (nI 2)]) :=
  opq hR (cE (qX7_about2 (d + 1) S n t hR.T ht)) (fun S1 h1 => mR ((hR.T.2.2 t ht).1.1.symm) (qX8_about2 (d + 3) S1 (rS S1) S n w wl wm t rfl (RelX_X1 hR h1) ht))
theorem g_about3 {L : Int32} {xs : Nat → Int32} {n sn un w tn : Nat} {wl : Nat → Nat → Int32} {wm : Nat → Nat} {S : dv_S} (d : Nat) (hR : RelX L xs n sn un w tn wl wm S) (t : Nat) (ht : t < n) : dv_M yX7_about cX7_about 3 (some .int) (dv_rm (d + 7)) [.ref 0, .int (nI t), .int (nI 3)] S (OPQ L xs yX8_about cX8_about 5 (some .int) d [.ref 516, .int (nI t), .int (nI 3)]) :=
  opq hR (cS (qX7_about3 (d + 1) S n t hR.T ht)) (fun S1 h1 => mR (rfl) (qX8_about3 (d + 3) S1 (rS S1) S n w wl wm t rfl (RelX_X1 hR h1) ht))
theorem g_about4 {L : Int32} {xs : Nat → Int32} {n sn un w tn : Nat} {wl : Nat → Nat → Int32} {wm : Nat → Nat} {S : dv_S} (d : Nat) (hR : RelX L xs n sn un w tn wl wm S) (t : Nat) (ht : t < n) : dv_M yX7_about cX7_about 3 (some .int) (dv_rm (d + 7)) [.ref 0, .int (nI t), .int (nI 4)] S (OPQ L xs yX8_about cX8_about 5 (some .int) d [.ref 516, .int (nI t), .int (nI 4)]) :=
  opq hR (cE (qX7_about4 (d + 1) S n t hR.T ht)) (fun S1 h1 => mR (rfl) (qX8_about4 (d + 3) S1 (rS S1) S n w wl wm t rfl (RelX_X1 hR h1) ht))
theorem g_about5 {L : Int32} {xs : Nat → Int32} {n sn un w tn : Nat} {wl : Nat → Nat → Int32} {wm : Nat → Nat} {S : dv_S} (d : Nat) (hR : RelX L xs n sn un w tn wl wm S) (t : Nat) (ht : t < n) : dv_M yX7_about cX7_about 3 (some .int) (dv_rm (d + 7)) [.ref 0, .int (nI t), .int (nI 5)] S (OPQ L xs yX8_about cX8_about 5 (some .int) d [.ref 516, .int (nI t), .int (nI 5)]) :=
  opq hR (cS (qX7_about5 (d + 1) S n t w hR.T ht hR.B.1 hR.B.2.1)) (fun S1 h1 => mR (rfl) (qX8_about5 (d + 3) S1 (rS S1) S n w wl wm t rfl (RelX_X1 hR h1) ht))
theorem g_about6 {L : Int32} {xs : Nat → Int32} {n sn un w tn : Nat} {wl : Nat → Nat → Int32} {wm : Nat → Nat} {S : dv_S} (d : Nat) (hR : RelX L xs n sn un w tn wl wm S) (t : Nat) (ht : t < n) : dv_M yX7_about cX7_about 3 (some .int) (dv_rm (d + 7)) [.ref 0, .int (nI t), .int (nI 6)] S (OPQ L xs yX8_about cX8_about 5 (some .int) d [.ref 516, .int (nI t), .int (nI 6)]) :=
  opq hR (cE (qX7_about6 (d + 1) S n t un hR.T ht hR.U.1 hR.U.2.1)) (fun S1 h1 => mR (congrArg nI (dv_ct_cong (fun u hu => by rw [(h1.tr (rS_sc S1)).2.1 523 (by decide), (hR.rU.2.2 u hu).2.2.1, (hR.U.2.2 u hu).2.2.1]; rfl))) (qX8_about6 (d + 3) S1 (rS S1) S n w wl wm t un rfl (RelX_X1 hR h1) ht (by rw [(h1.tr (rS_sc S1)).1 516 6 (by decide)]; exact hR.rU.1) hR.rU.2.1))
theorem g_aboutO {L : Int32} {xs : Nat → Int32} {n sn un w tn : Nat} {wl : Nat → Nat → Int32} {wm : Nat → Nat} {S : dv_S} (d : Nat) (hR : RelX L xs n sn un w tn wl wm S) (t : Nat) (ht : t < n) (y : Int32) (ho : y.toInt < 0 ∨ 7 ≤ y.toInt) : dv_M yX7_about cX7_about 3 (some .int) (dv_rm (d + 7)) [.ref 0, .int (nI t), .int y] S (OPQ L xs yX8_about cX8_about 5 (some .int) d [.ref 516, .int (nI t), .int y]) :=
  opq hR (cE (qX7_aboutO (d + 1) S n t y hR.T ht ho)) (fun S1 h1 => mR (rfl) (qX8_aboutO (d + 3) S1 (rS S1) S n w wl wm t y rfl (RelX_X1 hR h1) ht ho))
theorem o_about {L : Int32} {xs : Nat → Int32} {n sn un w tn : Nat} {wl : Nat → Nat → Int32} {wm : Nat → Nat} {S : dv_S} (d : Nat) (hR : RelX L xs n sn un w tn wl wm S) (x y : Int32) : dv_M yX7_about cX7_about 3 (some .int) (dv_rm (d + 7)) [.ref 0, .int x, .int y] S (OPQ L xs yX8_about cX8_about 5 (some .int) d [.ref 516, .int x, .int y]) := by
  rcases in_or x hR.T.1 (by have := hR.T.2.1; omega) with hx | ⟨t, ht, rfl⟩
  · exact g_aboutN d hR x y hx
  · rcases dv_sw y (k := 7) (by decide) with ⟨i, hi, rfl⟩ | ho
    · have hk : i = 0 ∨ i = 1 ∨ i = 2 ∨ i = 3 ∨ i = 4 ∨ i = 5 ∨ i = 6 := by omega
      rcases hk with rfl | rfl | rfl | rfl | rfl | rfl | rfl
      · exact g_about0 d hR t ht
      · exact g_about1 d hR t ht
      · exact g_about2 d hR t ht
      · exact g_about3 d hR t ht
      · exact g_about4 d hR t ht
      · exact g_about5 d hR t ht
      · exact g_about6 d hR t ht
    · exact g_aboutO d hR t ht y ho
theorem g_toldN {L : Int32} {xs : Nat → Int32} {n sn un w tn : Nat} {wl : Nat → Nat → Int32} {wm : Nat → Nat} {S : dv_S} (d : Nat) (hR : RelX L xs n sn un w tn wl wm S) (x y : Int32) (hx : decide (0 ≤ x ∧ x < S.1 13 5) = false) : dv_M yX7_told cX7_told 3 (some .int) (dv_rm (d + 7)) [.ref 0, .int x, .int y] S (OPQ L xs yX8_told cX8_told 3 (some .int) d [.ref 516, .int x, .int y]) :=
  opq hR (cE (qX7_toldN (d + 1) S x y hx)) (fun S1 h1 => mE (rfl) (qX8_toldN (d + 3) S1 (rS S1) x y rfl (by rw [(h1.tr (rS_sc S1)).1 516 17 (by decide), hR.X.2.1.1, ← hR.B.1]; exact hx)))
theorem g_told0 {L : Int32} {xs : Nat → Int32} {n sn un w tn : Nat} {wl : Nat → Nat → Int32} {wm : Nat → Nat} {S : dv_S} (d : Nat) (hR : RelX L xs n sn un w tn wl wm S) (j : Nat) (hj : j < w) : dv_M yX7_told cX7_told 3 (some .int) (dv_rm (d + 7)) [.ref 0, .int (nI j), .int (nI 0)] S (OPQ L xs yX8_told cX8_told 3 (some .int) d [.ref 516, .int (nI j), .int (nI 0)]) :=
  opq hR (cE (qX7_told0 (d + 1) S j w hR.B.1 hj hR.B.2.1)) (fun S1 h1 => mR (rfl) (qX8_told0 (d + 3) S1 (rS S1) S n w wl wm j rfl (RelX_X1 hR h1) hj))
theorem g_told1 {L : Int32} {xs : Nat → Int32} {n sn un w tn : Nat} {wl : Nat → Nat → Int32} {wm : Nat → Nat} {S : dv_S} (d : Nat) (hR : RelX L xs n sn un w tn wl wm S) (j : Nat) (hj : j < w) : dv_M yX7_told cX7_told 3 (some .int) (dv_rm (d + 7)) [.ref 0, .int (nI j), .int (nI 1)] S (OPQ L xs yX8_told cX8_told 3 (some .int) d [.ref 516, .int (nI j), .int (nI 1)]) :=
  opq hR (cE (qX7_told1 (d + 1) S j w hR.B.1 hj hR.B.2.1)) (fun S1 h1 => mR (rfl) (qX8_told1 (d + 3) S1 (rS S1) S n w wl wm j rfl (RelX_X1 hR h1) hj))
theorem g_told2 {L : Int32} {xs : Nat → Int32} {n sn un w tn : Nat} {wl : Nat → Nat → Int32} {wm : Nat → Nat} {S : dv_S} (d : Nat) (hR : RelX L xs n sn un w tn wl wm S) (j : Nat) (hj : j < w) : dv_M yX7_told cX7_told 3 (some .int) (dv_rm (d + 7)) [.ref 0, .int (nI j), .int (nI 2)] S (OPQ L xs yX8_told cX8_told 3 (some .int) d [.ref 516, .int (nI j), .int (nI 2)]) :=
  opq hR (cS (qX7_told2 (d + 1) S n j w hR.T hR.B.1 hj hR.B.2.1)) (fun S1 h1 => mR (rfl) (qX8_told2 (d + 3) S1 (rS S1) S n w wl wm j rfl (RelX_X1 hR h1) hj))
theorem g_told3 {L : Int32} {xs : Nat → Int32} {n sn un w tn : Nat} {wl : Nat → Nat → Int32} {wm : Nat → Nat} {S : dv_S} (d : Nat) (hR : RelX L xs n sn un w tn wl wm S) (j : Nat) (hj : j < w) : dv_M yX7_told cX7_told 3 (some .int) (dv_rm (d + 7)) [.ref 0, .int (nI j), .int (nI 3)] S (OPQ L xs yX8_told cX8_told 3 (some .int) d [.ref 516, .int (nI j), .int (nI 3)]) :=
  opq hR (cS (qX7_told3 (d + 1) S n j w hR.T hR.B.1 hj hR.B.2.1)) (fun S1 h1 => mR (rfl) (qX8_told3 (d + 3) S1 (rS S1) S n w wl wm j rfl (RelX_X1 hR h1) hj))
theorem g_told4 {L : Int32} {xs : Nat → Int32} {n sn un w tn : Nat} {wl : Nat → Nat → Int32} {wm : Nat → Nat} {S : dv_S} (d : Nat) (hR : RelX L xs n sn un w tn wl wm S) (j : Nat) (hj : j < w) : dv_M yX7_told cX7_told 3 (some .int) (dv_rm (d + 7)) [.ref 0, .int (nI j), .int (nI 4)] S (OPQ L xs yX8_told cX8_told 3 (some .int) d [.ref 516, .int (nI j), .int (nI 4)]) :=
  opq hR (cE (qX7_told4 (d + 1) S j w hR.B.1 hj hR.B.2.1)) (fun S1 h1 => mR (rfl) (qX8_told4 (d + 3) S1 (rS S1) S n w wl wm j rfl (RelX_X1 hR h1) hj))
theorem g_toldO {L : Int32} {xs : Nat → Int32} {n sn un w tn : Nat} {wl : Nat → Nat → Int32} {wm : Nat → Nat} {S : dv_S} (d : Nat) (hR : RelX L xs n sn un w tn wl wm S) (j : Nat) (hj : j < w) (y : Int32) (ho : y.toInt < 0 ∨ 5 ≤ y.toInt) : dv_M yX7_told cX7_told 3 (some .int) (dv_rm (d + 7)) [.ref 0, .int (nI j), .int y] S (OPQ L xs yX8_told cX8_told 3 (some .int) d [.ref 516, .int (nI j), .int y]) :=
  opq hR (cE (qX7_toldO (d + 1) S j w y hR.B.1 hj hR.B.2.1 ho)) (fun S1 h1 => mR (rfl) (qX8_toldO (d + 3) S1 (rS S1) S n w wl wm j y rfl (RelX_X1 hR h1) hj ho))
theorem o_told {L : Int32} {xs : Nat → Int32} {n sn un w tn : Nat} {wl : Nat → Nat → Int32} {wm : Nat → Nat} {S : dv_S} (d : Nat) (hR : RelX L xs n sn un w tn wl wm S) (x y : Int32) : dv_M yX7_told cX7_told 3 (some .int) (dv_rm (d + 7)) [.ref 0, .int x, .int y] S (OPQ L xs yX8_told cX8_told 3 (some .int) d [.ref 516, .int x, .int y]) := by
  rcases in_or x hR.B.1 (by have := hR.B.2.1; omega) with hx | ⟨j, hj, rfl⟩
  · exact g_toldN d hR x y hx
  · rcases dv_sw y (k := 5) (by decide) with ⟨i, hi, rfl⟩ | ho
    · have hk : i = 0 ∨ i = 1 ∨ i = 2 ∨ i = 3 ∨ i = 4 := by omega
      rcases hk with rfl | rfl | rfl | rfl | rfl
      · exact g_told0 d hR j hj
      · exact g_told1 d hR j hj
      · exact g_told2 d hR j hj
      · exact g_told3 d hR j hj
      · exact g_told4 d hR j hj
    · exact g_toldO d hR j hj y ho
theorem g_meansN {L : Int32} {xs : Nat → Int32} {n sn un w tn : Nat} {wl : Nat → Nat → Int32} {wm : Nat → Nat} {S : dv_S} (d : Nat) (hR : RelX L xs n sn un w tn wl wm S) (x y : Int32) (hx : decide (0 ≤ x ∧ x < S.1 185 2) = false) : dv_M yX7_means cX7_means 3 (some .int) (dv_rm (d + 7)) [.ref 0, .int x, .int y] S (OPQ L xs yX8_means cX8_means 3 (some .int) d [.ref 516, .int x, .int y]) :=
  opq hR (cE (qX7_meansN (d + 5) S x y hx)) (fun S1 h1 => mE (rfl) (qX8_meansN (d + 6) S1 (rS S1) x y rfl (fun q => of_decide_eq_false hx (by rw [(h1.tr (rS_sc S1)).1 516 6 (by decide), hR.rU.1, ← hR.U.1] at q; exact q))))
theorem g_meansY {L : Int32} {xs : Nat → Int32} {n sn un w tn : Nat} {wl : Nat → Nat → Int32} {wm : Nat → Nat} {S : dv_S} (d : Nat) (hR : RelX L xs n sn un w tn wl wm S) (u : Nat) (hu : u < un) (y : Int32) : dv_M yX7_means cX7_means 3 (some .int) (dv_rm (d + 7)) [.ref 0, .int (nI u), .int y] S (OPQ L xs yX8_means cX8_means 3 (some .int) d [.ref 516, .int (nI u), .int y]) :=
  opq hR (cE (qX7_means (d + 5) S u un y hR.U.1 hu hR.U.2.1)) (fun S1 h1 => mE (by rw [(h1.tr (rS_sc S1)).2.1 522 (by decide), (h1.tr (rS_sc S1)).2.1 523 (by decide), (hR.rU.2.2 u hu).1, (hR.rU.2.2 u hu).2.2.1, show S.2.1 186 u = nI (usS S u) from (hR.U.2.2 u hu).1, show S.2.1 187 u = nI (utS S u) from (hR.U.2.2 u hu).2.2.1]) (qX8_means (d + 6) S1 (rS S1) u un y rfl (by rw [(h1.tr (rS_sc S1)).1 516 6 (by decide)]; exact hR.rU.1) hu hR.rU.2.1))
theorem o_means {L : Int32} {xs : Nat → Int32} {n sn un w tn : Nat} {wl : Nat → Nat → Int32} {wm : Nat → Nat} {S : dv_S} (d : Nat) (hR : RelX L xs n sn un w tn wl wm S) (x y : Int32) : dv_M yX7_means cX7_means 3 (some .int) (dv_rm (d + 7)) [.ref 0, .int x, .int y] S (OPQ L xs yX8_means cX8_means 3 (some .int) d [.ref 516, .int x, .int y]) := by
  rcases in_or x hR.U.1 (by have := hR.U.2.1; omega) with hx | ⟨u, hu, rfl⟩
  · exact g_meansN d hR x y hx
  · exact g_meansY d hR u hu y
theorem g_partN {L : Int32} {xs : Nat → Int32} {n sn un w tn : Nat} {wl : Nat → Nat → Int32} {wm : Nat → Nat} {S : dv_S} (d : Nat) (hR : RelX L xs n sn un w tn wl wm S) (x y : Int32) (hx : decide (0 ≤ x ∧ x < S.1 21 3) = false) : dv_M yX7_part cX7_part 3 (some .int) (dv_rm (d + 7)) [.ref 0, .int x, .int y] S (OPQ L xs yX8_part cX8_part 3 (some .int) d [.ref 516, .int x, .int y]) :=
  opq hR (cE (qX7_partN (d + 2) S x y hx)) (fun S1 h1 => mE (rfl) (qX8_partN (d + 4) S1 (rS S1) x y rfl (by rw [(h1.tr (rS_sc S1)).1 516 5 (by decide), hR.rT.1, ← hR.T.1]; exact hx)))
theorem g_partO {L : Int32} {xs : Nat → Int32} {n sn un w tn : Nat} {wl : Nat → Nat → Int32} {wm : Nat → Nat} {S : dv_S} (d : Nat) (hR : RelX L xs n sn un w tn wl wm S) (t : Nat) (ht : t < n) (y : Int32) (hy : decide (0 ≤ y ∧ y < nI (pnS S t)) = false) : dv_M yX7_part cX7_part 3 (some .int) (dv_rm (d + 7)) [.ref 0, .int (nI t), .int y] S (OPQ L xs yX8_part cX8_part 3 (some .int) d [.ref 516, .int (nI t), .int y]) :=
  opq hR (cS (qX7_partO (d + 2) S n t y hR.T ht hy)) (fun S1 h1 => mR (rfl) (qX8_partO (d + 4) S1 (rS S1) S n w wl wm t y rfl (RelX_X1 hR h1) ht hy))
theorem g_partY {L : Int32} {xs : Nat → Int32} {n sn un w tn : Nat} {wl : Nat → Nat → Int32} {wm : Nat → Nat} {S : dv_S} (d : Nat) (hR : RelX L xs n sn un w tn wl wm S) (t : Nat) (ht : t < n) (i : Nat) (hi : i < pnS S t) : dv_M yX7_part cX7_part 3 (some .int) (dv_rm (d + 7)) [.ref 0, .int (nI t), .int (nI i)] S (OPQ L xs yX8_part cX8_part 3 (some .int) d [.ref 516, .int (nI t), .int (nI i)]) :=
  opq hR (cS (qX7_partY (d + 2) S n t i w hR.T ht hR.B.1 hR.B.2.1 hi)) (fun S1 h1 => mR (rfl) (qX8_partY (d + 4) S1 (rS S1) S n w wl wm t i rfl (RelX_X1 hR h1) ht hi))
theorem o_part {L : Int32} {xs : Nat → Int32} {n sn un w tn : Nat} {wl : Nat → Nat → Int32} {wm : Nat → Nat} {S : dv_S} (d : Nat) (hR : RelX L xs n sn un w tn wl wm S) (x y : Int32) : dv_M yX7_part cX7_part 3 (some .int) (dv_rm (d + 7)) [.ref 0, .int x, .int y] S (OPQ L xs yX8_part cX8_part 3 (some .int) d [.ref 516, .int x, .int y]) := by
  rcases in_or x hR.T.1 (by have := hR.T.2.1; omega) with hx | ⟨t, ht, rfl⟩
  · exact g_partN d hR x y hx
  · rcases in_or y (n := pnS S t) rfl (by have h1 : pnS S t ≤ nlS S t := cu_le _ _ _; have h2 : nlS S t ≤ 24 := (hR.T.2.2 t ht).1.2; omega) with hy | ⟨i, hi, rfl⟩
    · exact g_partO d hR t ht y hy
    · exact g_partY d hR t ht i hi
theorem g_wayN {L : Int32} {xs : Nat → Int32} {n sn un w tn : Nat} {wl : Nat → Nat → Int32} {wm : Nat → Nat} {S : dv_S} (d : Nat) (hR : RelX L xs n sn un w tn wl wm S) (x : Int32) (hy : decide (0 ≤ x ∧ x < 3) = false) : dv_M yX7_way cX7_way 2 (some .int) (dv_rm (d + 7)) [.ref 0, .int x] S (OPQ L xs yX8_way cX8_way 2 (some .int) d [.ref 516, .int x]) :=
  opq hR (cE (qX7_wayN d S x hy)) (fun S1 h1 => mE (rfl) (qX8_wayN (d + 2) S1 (rS S1) x rfl (by rw [kd_eq]; exact hy)))
theorem g_wayY {L : Int32} {xs : Nat → Int32} {n sn un w tn : Nat} {wl : Nat → Nat → Int32} {wm : Nat → Nat} {S : dv_S} (d : Nat) (hR : RelX L xs n sn un w tn wl wm S) (x : Int32) (hy : decide (0 ≤ x ∧ x < 3) = true) : dv_M yX7_way cX7_way 2 (some .int) (dv_rm (d + 7)) [.ref 0, .int x] S (OPQ L xs yX8_way cX8_way 2 (some .int) d [.ref 516, .int x]) :=
  opq hR (cS (qX7_wayY d S n w x hR.T hR.B.1 hR.B.2.1 hy)) (fun S1 h1 => mR (rfl) (qX8_wayY (d + 2) S1 (rS S1) S n w wl wm x rfl (RelX_X1 hR h1) (by rw [kd_eq]; exact hy)))
theorem o_way {L : Int32} {xs : Nat → Int32} {n sn un w tn : Nat} {wl : Nat → Nat → Int32} {wm : Nat → Nat} {S : dv_S} (d : Nat) (hR : RelX L xs n sn un w tn wl wm S) (x : Int32) : dv_M yX7_way cX7_way 2 (some .int) (dv_rm (d + 7)) [.ref 0, .int x] S (OPQ L xs yX8_way cX8_way 2 (some .int) d [.ref 516, .int x]) := by
  cases hy : decide (0 ≤ x ∧ x < 3) with
  | false => exact g_wayN d hR x hy
  | true => exact g_wayY d hR x hy
theorem g_oddN {L : Int32} {xs : Nat → Int32} {n sn un w tn : Nat} {wl : Nat → Nat → Int32} {wm : Nat → Nat} {S : dv_S} (d : Nat) (hR : RelX L xs n sn un w tn wl wm S) (x : Int32) (hy : decide (0 ≤ x ∧ x < 3) = false) : dv_M yX7_odd cX7_odd 5 (some .int) (dv_rm (d + 7)) [.ref 0, .int x] S (OPQ L xs yX8_odd cX8_odd 5 (some .int) d [.ref 516, .int x]) :=
  opq hR (cE (qX7_oddN d S x hy)) (fun S1 h1 => mE (rfl) (qX8_oddN (d + 2) S1 (rS S1) x rfl (by rw [kd_eq]; exact hy)))
theorem g_oddY {L : Int32} {xs : Nat → Int32} {n sn un w tn : Nat} {wl : Nat → Nat → Int32} {wm : Nat → Nat} {S : dv_S} (d : Nat) (hR : RelX L xs n sn un w tn wl wm S) (x : Int32) (hy : decide (0 ≤ x ∧ x < 3) = true) : dv_M yX7_odd cX7_odd 5 (some .int) (dv_rm (d + 7)) [.ref 0, .int x] S (OPQ L xs yX8_odd cX8_odd 5 (some .int) d [.ref 516, .int x]) :=
  opq hR (cS (qX7_oddY d S n w x hR.T hR.B.1 hR.B.2.1 hy)) (fun S1 h1 => mR (rfl) (qX8_oddY (d + 2) S1 (rS S1) S n w wl wm x rfl (RelX_X1 hR h1) (by rw [kd_eq]; exact hy)))
theorem o_odd {L : Int32} {xs : Nat → Int32} {n sn un w tn : Nat} {wl : Nat → Nat → Int32} {wm : Nat → Nat} {S : dv_S} (d : Nat) (hR : RelX L xs n sn un w tn wl wm S) (x : Int32) : dv_M yX7_odd cX7_odd 5 (some .int) (dv_rm (d + 7)) [.ref 0, .int x] S (OPQ L xs yX8_odd cX8_odd 5 (some .int) d [.ref 516, .int x]) := by
  cases hy : decide (0 ≤ x ∧ x < 3) with
  | false => exact g_oddN d hR x hy
  | true => exact g_oddY d hR x hy
theorem g_isOddN {L : Int32} {xs : Nat → Int32} {n sn un w tn : Nat} {wl : Nat → Nat → Int32} {wm : Nat → Nat} {S : dv_S} (d : Nat) (hR : RelX L xs n sn un w tn wl wm S) (x : Int32) (hx : decide (0 ≤ x ∧ x < S.1 21 3) = false) : dv_M yX7_isOdd cX7_isOdd 3 (some .int) (dv_rm (d + 7)) [.ref 0, .int x] S (OPQ L xs yX8_isOdd cX8_isOdd 2 (some .int) d [.ref 516, .int x]) :=
  opq hR (cE (qX7_isOddN d S x hx)) (fun S1 h1 => mE (rfl) (qX8_isOddN (d + 2) S1 (rS S1) x rfl (by rw [(h1.tr (rS_sc S1)).1 516 5 (by decide), hR.rT.1, ← hR.T.1]; exact hx)))
theorem g_isOddY {L : Int32} {xs : Nat → Int32} {n sn un w tn : Nat} {wl : Nat → Nat → Int32} {wm : Nat → Nat} {S : dv_S} (d : Nat) (hR : RelX L xs n sn un w tn wl wm S) (t : Nat) (ht : t < n) : dv_M yX7_isOdd cX7_isOdd 3 (some .int) (dv_rm (d + 7)) [.ref 0, .int (nI t)] S (OPQ L xs yX8_isOdd cX8_isOdd 2 (some .int) d [.ref 516, .int (nI t)]) :=
  opq hR (cS (qX7_isOddY d S n w t hR.T ht hR.B.1 hR.B.2.1)) (fun S1 h1 => mR (rfl) (qX8_isOddY (d + 2) S1 (rS S1) S n w wl wm t rfl (RelX_X1 hR h1) ht))
theorem o_isOdd {L : Int32} {xs : Nat → Int32} {n sn un w tn : Nat} {wl : Nat → Nat → Int32} {wm : Nat → Nat} {S : dv_S} (d : Nat) (hR : RelX L xs n sn un w tn wl wm S) (x : Int32) : dv_M yX7_isOdd cX7_isOdd 3 (some .int) (dv_rm (d + 7)) [.ref 0, .int x] S (OPQ L xs yX8_isOdd cX8_isOdd 2 (some .int) d [.ref 516, .int x]) := by
  rcases in_or x hR.T.1 (by have := hR.T.2.1; omega) with hx | ⟨t, ht, rfl⟩
  · exact g_isOddN d hR x hx
  · exact g_isOddY d hR t ht
theorem o_mixed {L : Int32} {xs : Nat → Int32} {n sn un w tn : Nat} {wl : Nat → Nat → Int32} {wm : Nat → Nat} {S : dv_S} (d : Nat) (hR : RelX L xs n sn un w tn wl wm S) : dv_M yX7_mixed cX7_mixed 1 (some .int) (dv_rm (d + 7)) [.ref 0] S (OPQ L xs yX8_mixed cX8_mixed 6 (some .int) d [.ref 516]) :=
  opq hR (cS (qX7_mixed (d + 1) S n w hR.T hR.B.1 hR.B.2.1)) (fun S1 h1 => mR (congrArg nI (mx_eq hR.B.2.1 (fun j hj => (hR.2.2.2.2.2.2.1.2 j hj).2.2.2.2.2.2.2))) (qX8_mixed (d + 3) S1 (rS S1) S n w wl wm rfl (RelX_X1 hR h1)))
theorem o_strange {L : Int32} {xs : Nat → Int32} {n sn un w tn : Nat} {wl : Nat → Nat → Int32} {wm : Nat → Nat} {S : dv_S} (d : Nat) (hR : RelX L xs n sn un w tn wl wm S) : dv_M yX7_strange cX7_strange 4 (some .int) (dv_rm (d + 7)) [.ref 0] S (OPQ L xs yX8_strange cX8_strange 4 (some .int) d [.ref 516]) :=
  opq hR (cS (qX7_strange (d + 2) S n w hR.T hR.B.1 hR.B.2.1)) (fun S1 h1 => mR (rfl) (qX8_strange (d + 3) S1 (rS S1) S n w wl wm rfl (RelX_X1 hR h1)))
theorem o_trouble {L : Int32} {xs : Nat → Int32} {n sn un w tn : Nat} {wl : Nat → Nat → Int32} {wm : Nat → Nat} {S : dv_S} (d : Nat) (hR : RelX L xs n sn un w tn wl wm S) : dv_M yX7_trouble cX7_trouble 1 (some .int) (dv_rm (d + 7)) [.ref 0] S (OPQ L xs yX8_trouble cX8_trouble 1 (some .int) d [.ref 516]) :=
  opq hR (cE (qX7_trouble (d + 7) S )) (fun S1 h1 => mE (by rw [(h1.tr (rS_sc S1)).1 516 1 (by decide)]; exact hR.2.1) (qX8_trouble (d + 7) S1 (rS S1) rfl))
theorem g_count0 {L : Int32} {xs : Nat → Int32} {n sn un w tn : Nat} {wl : Nat → Nat → Int32} {wm : Nat → Nat} {S : dv_S} (d : Nat) (hR : RelX L xs n sn un w tn wl wm S) : dv_M yX7_count cX7_count 2 (some .int) (dv_rm (d + 7)) [.ref 0, .int (nI 0)] S (OPQ L xs yX8_count cX8_count 2 (some .int) d [.ref 516, .int (nI 0)]) :=
  opq hR (cE (qX7_count0 (d + 5) S )) (fun S1 h1 => mE (by rw [(h1.tr (rS_sc S1)).1 516 4 (by decide)]; exact hR.rS.1.trans hR.S'.1.symm) (qX8_count0 (d + 6) S1 (rS S1) rfl))
theorem g_count1 {L : Int32} {xs : Nat → Int32} {n sn un w tn : Nat} {wl : Nat → Nat → Int32} {wm : Nat → Nat} {S : dv_S} (d : Nat) (hR : RelX L xs n sn un w tn wl wm S) : dv_M yX7_count cX7_count 2 (some .int) (dv_rm (d + 7)) [.ref 0, .int (nI 1)] S (OPQ L xs yX8_count cX8_count 2 (some .int) d [.ref 516, .int (nI 1)]) :=
  opq hR (cE (qX7_count1 (d + 5) S )) (fun S1 h1 => mE (by rw [(h1.tr (rS_sc S1)).1 516 5 (by decide)]; exact hR.rT.1.trans hR.T.1.symm) (qX8_count1 (d + 6) S1 (rS S1) rfl))
theorem g_count2 {L : Int32} {xs : Nat → Int32} {n sn un w tn : Nat} {wl : Nat → Nat → Int32} {wm : Nat → Nat} {S : dv_S} (d : Nat) (hR : RelX L xs n sn un w tn wl wm S) : dv_M yX7_count cX7_count 2 (some .int) (dv_rm (d + 7)) [.ref 0, .int (nI 2)] S (OPQ L xs yX8_count cX8_count 2 (some .int) d [.ref 516, .int (nI 2)]) :=
  opq hR (cE (qX7_count2 (d + 5) S )) (fun S1 h1 => mE (by rw [(h1.tr (rS_sc S1)).1 516 6 (by decide)]; exact hR.rU.1.trans hR.U.1.symm) (qX8_count2 (d + 6) S1 (rS S1) rfl))
theorem g_count3 {L : Int32} {xs : Nat → Int32} {n sn un w tn : Nat} {wl : Nat → Nat → Int32} {wm : Nat → Nat} {S : dv_S} (d : Nat) (hR : RelX L xs n sn un w tn wl wm S) : dv_M yX7_count cX7_count 2 (some .int) (dv_rm (d + 7)) [.ref 0, .int (nI 3)] S (OPQ L xs yX8_count cX8_count 2 (some .int) d [.ref 516, .int (nI 3)]) :=
  opq hR (cE (qX7_count3 (d + 5) S )) (fun S1 h1 => mE (by rw [(h1.tr (rS_sc S1)).1 516 17 (by decide)]; exact hR.X.2.1.1.trans hR.B.1.symm) (qX8_count3 (d + 6) S1 (rS S1) rfl))
theorem g_count4 {L : Int32} {xs : Nat → Int32} {n sn un w tn : Nat} {wl : Nat → Nat → Int32} {wm : Nat → Nat} {S : dv_S} (d : Nat) (hR : RelX L xs n sn un w tn wl wm S) : dv_M yX7_count cX7_count 2 (some .int) (dv_rm (d + 7)) [.ref 0, .int (nI 4)] S (OPQ L xs yX8_count cX8_count 2 (some .int) d [.ref 516, .int (nI 4)]) :=
  opq hR (cE (qX7_count4 (d + 5) S )) (fun S1 h1 => mE (by rw [(h1.tr (rS_sc S1)).2.1 535 (by decide), pe_ct hR.2.2.2.2.2.2.2.2.1 hR.rT.2]; exact hR.2.2.2.2.2.2.2.2.1.2.1.symm) (qX8_count4 (d + 6) S1 (rS S1) n rfl (rw_T_fr (h1.tr (rS_sc S1)) (by decide) hR.rT)))
theorem g_count5 {L : Int32} {xs : Nat → Int32} {n sn un w tn : Nat} {wl : Nat → Nat → Int32} {wm : Nat → Nat} {S : dv_S} (d : Nat) (hR : RelX L xs n sn un w tn wl wm S) : dv_M yX7_count cX7_count 2 (some .int) (dv_rm (d + 7)) [.ref 0, .int (nI 5)] S (OPQ L xs yX8_count cX8_count 2 (some .int) d [.ref 516, .int (nI 5)]) :=
  opq hR (cE (qX7_count5 (d + 5) S )) (fun S1 h1 => mE (by rw [(h1.tr (rS_sc S1)).1 516 26 (by decide)]; exact (by obtain ⟨m, -, e1, e2, -⟩ := hR.2.2.2.2.2.2.2.1; rw [e1, e2])) (qX8_count5 (d + 6) S1 (rS S1) rfl))
theorem g_count6 {L : Int32} {xs : Nat → Int32} {n sn un w tn : Nat} {wl : Nat → Nat → Int32} {wm : Nat → Nat} {S : dv_S} (d : Nat) (hR : RelX L xs n sn un w tn wl wm S) : dv_M yX7_count cX7_count 2 (some .int) (dv_rm (d + 7)) [.ref 0, .int (nI 6)] S (OPQ L xs yX8_count cX8_count 2 (some .int) d [.ref 516, .int (nI 6)]) :=
  opq hR (cE (qX7_count6 (d + 5) S )) (fun S1 h1 => mE (by rw [(h1.tr (rS_sc S1)).1 516 3 (by decide)]; exact hR.2.2.1.2.2.1.trans hR.2.2.1.1.symm) (qX8_count6 (d + 6) S1 (rS S1) rfl))
theorem g_countO {L : Int32} {xs : Nat → Int32} {n sn un w tn : Nat} {wl : Nat → Nat → Int32} {wm : Nat → Nat} {S : dv_S} (d : Nat) (hR : RelX L xs n sn un w tn wl wm S) (y : Int32) (ho : y.toInt < 0 ∨ 7 ≤ y.toInt) : dv_M yX7_count cX7_count 2 (some .int) (dv_rm (d + 7)) [.ref 0, .int y] S (OPQ L xs yX8_count cX8_count 2 (some .int) d [.ref 516, .int y]) :=
  opq hR (cE (qX7_countO (d + 5) S y ho)) (fun S1 h1 => mE (rfl) (qX8_countO (d + 6) S1 (rS S1) y rfl ho))
theorem o_count {L : Int32} {xs : Nat → Int32} {n sn un w tn : Nat} {wl : Nat → Nat → Int32} {wm : Nat → Nat} {S : dv_S} (d : Nat) (hR : RelX L xs n sn un w tn wl wm S) (y : Int32) : dv_M yX7_count cX7_count 2 (some .int) (dv_rm (d + 7)) [.ref 0, .int y] S (OPQ L xs yX8_count cX8_count 2 (some .int) d [.ref 516, .int y]) := by
  rcases dv_sw y (k := 7) (by decide) with ⟨j, hj, rfl⟩ | ho
  · have hk : j = 0 ∨ j = 1 ∨ j = 2 ∨ j = 3 ∨ j = 4 ∨ j = 5 ∨ j = 6 := by omega
    rcases hk with rfl | rfl | rfl | rfl | rfl | rfl | rfl
    · exact g_count0 d hR
    · exact g_count1 d hR
    · exact g_count2 d hR
    · exact g_count3 d hR
    · exact g_count4 d hR
    · exact g_count5 d hR
    · exact g_count6 d hR
  · exact g_countO d hR y ho
theorem o_hinders {L : Int32} {xs : Nat → Int32} {n sn un w tn : Nat} {wl : Nat → Nat → Int32} {wm : Nat → Nat} {S : dv_S} (d : Nat) (hR : RelX L xs n sn un w tn wl wm S) : dv_M yX7_hinders cX7_hinders 3 (some .int) (dv_rm (d + 7)) [.ref 0] S (OPQ L xs yX8_hinders cX8_hinders 1 (some .int) d [.ref 516]) :=
  opq hR (cE (qX7_hinders (d + 1) S n sn un hR.T hR.S' hR.U)) (fun S1 h1 => mH (hi_eq hR h1) (qX8_hinders (d + 3) S1 (rS S1) n sn un (hmS S) (wi S) (usS S) (utS S) (fun t => tx S (191 + 2 * t)) (fun t => tx S (25 + 2 * t)) rfl (rw_T_fr (h1.tr (rS_sc S1)) (by decide) hR.rT) (rw_S_fr (h1.tr (rS_sc S1)) (by decide) (by decide) hR.rS) (rw_U_fr (h1.tr (rS_sc S1)) (by decide) (by decide) hR.rU) (rwN_fr (h1.tr (rS_sc S1)) (by decide) hR.rN)))
