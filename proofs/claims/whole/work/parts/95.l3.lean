theorem lw_cmp {i L : Nat} (hi : i ≤ 6000) (hL : L ≤ 3072) : nI L - 6 < nI i ↔ ¬ (i + 6 ≤ L) := by
  have h1 : (nI L - 6).toInt = (L : Int) - 6 := by
    rw [Int32.toInt_sub, nI_toInt (by omega)]
    rw [show (6 : Int32).toInt = 6 from by decide]
    exact Int.bmod_eq_of_le (by omega) (by omega)
  rw [Int32.lt_iff_toInt_lt, h1, nI_toInt (by omega)]
  omega
theorem lwR_le {R : Room} {cs ss cs' ss' : Nat} (h : lwR R cs ss) (h1 : cs' ≤ cs) (h2 : ss' ≤ ss) : lwR R cs' ss' := ⟨h.1, h.2.1, Nat.le_trans h1 h.2.2.1, Nat.le_trans h2 h.2.2.2⟩
theorem lw_loop {R : Room} {Q : dv_ZT} {L : Int32} {xs : Nat → Int32} (hE : ∀ (cs ss i : Nat) (l5 l6 : Option Value) (S : dv_S), lwR R cs ss → dv_Jz yL_law cL_law 7 (some .boolean) R cs ss 1061 (lwL i l5 l6) [] S (dv_qx pxL Q)) :
    ∀ (k i cs ss : Nat) (l5 l6 : Option Value) (S : dv_S), Rel L xs S → dv_L S ≤ 3072 → i ≤ 6000 → dv_L S < i + 6 * k + 6 → lwR R (cs + k) (ss + 6 * k) → dv_Jz yL_law cL_law 7 (some .boolean) R cs ss 23 (lwL i l5 l6) [] S (dv_qx pxL Q) := by
  intro k
  induction k with
  | zero =>
    intro i cs ss l5 l6 S hR hL hi hk hm
    refine Z_iload (x := nI i) dL_law_23 rfl rfl ?_
    refine Z_aload_n dL_law_25 rfl rfl ?_
    refine Z_slen dL_law_26 rfl ?_
    refine Z_bipush (v := 6) dL_law_27 rfl (by decide) ?_
    refine Z_isub dL_law_29 rfl ?_
    exact Z_icmp_gt dL_law_30 (pt := 1061) rfl rfl (fun _ => hE _ _ _ _ _ _ hm) (fun q => absurd ((lw_cmp hi hL).mpr (by omega)) q)
  | succ k ih =>
    intro i cs ss l5 l6 S hR hL hi hk hm
    refine Z_iload (x := nI i) dL_law_23 rfl rfl ?_
    refine Z_aload_n dL_law_25 rfl rfl ?_
    refine Z_slen dL_law_26 rfl ?_
    refine Z_bipush (v := 6) dL_law_27 rfl (by decide) ?_
    refine Z_isub dL_law_29 rfl ?_
    refine Z_icmp_gt dL_law_30 (pt := 1061) rfl rfl (fun _ => hE _ _ _ _ _ _ (lwR_le hm (by omega) (by omega))) (fun q => ?_)
    have hi6 : i + 6 ≤ dv_L S := Decidable.byContradiction (fun z => q ((lw_cmp hi hL).mpr z))
    have hn : ∀ (cs' ss' : Nat), lwR R (cs' + k) (ss' + 6 * k) → ∀ (S1 : dv_S) (l5 l6 : Option Value), Rel L xs S1 → dv_L S1 = dv_L S → dv_Jz yL_law cL_law 7 (some .boolean) R cs' ss' 1055 (lwL i l5 l6) [] S1 (dv_qx pxL Q) := by
      intro cs' ss' hm' S1 l5 l6 hR1 hL1
      refine Z_iinc (v := nI (i + 6)) dL_law_1055 rfl rfl (nI_ad i 6) (by decide) rfl rfl ?_
      refine Z_goto dL_law_1058 (pc' := 23) (by decide) ?_
      exact ih (i + 6) cs' ss' l5 l6 S1 hR1 (by omega) (by omega) (by omega) hm'
    have hm0 : lwR R cs ss := lwR_le hm (by omega) (by omega)
    have hm1 : lwR R (cs + 1) (ss + 6) := lwR_le hm (by omega) (by omega)
    have hmk : lwR R (cs + k) (ss + 6 * k) := lwR_le hm (by omega) (by omega)
    have hmk1 : lwR R (cs + 1 + k) (ss + 6 + 6 * k) := lwR_le hm (by omega) (by omega)
    refine Z_aload_n dL_law_33 rfl rfl ?_
    refine Z_iload (x := nI i) dL_law_34 rfl rfl ?_
    refine Z_sld (j := i) rfl (by omega) (by omega) dL_law_36 rfl ?_
    refine Z_bipush (v := 31) dL_law_37 rfl (by decide) ?_
    refine Z_iand dL_law_39 rfl ?_
    rcases dv_sw (S.2.1 100000 i &&& 31) (k := 29) (by decide) with ⟨j, hj, hx⟩ | h
    · rw [hx]
      clear hx
      have hjj : j = 0 ∨ j = 1 ∨ j = 2 ∨ j = 3 ∨ j = 4 ∨ j = 5 ∨ j = 6 ∨ j = 7 ∨ j = 8 ∨ j = 9 ∨ j = 10 ∨ j = 11 ∨ j = 12 ∨ j = 13 ∨ j = 14 ∨ j = 15 ∨ j = 16 ∨ j = 17 ∨ j = 18 ∨ j = 19 ∨ j = 20 ∨ j = 21 ∨ j = 22 ∨ j = 23 ∨ j = 24 ∨ j = 25 ∨ j = 26 ∨ j = 27 ∨ j = 28 := by omega
      rcases hjj with rfl | rfl | rfl | rfl | rfl | rfl | rfl | rfl | rfl | rfl | rfl | rfl | rfl | rfl | rfl | rfl | rfl | rfl | rfl | rfl | rfl | rfl | rfl | rfl | rfl | rfl | rfl | rfl | rfl
      · exact Z_tswi (off := 132) (pt := 172) dL_law_40 (by decide) (by decide) (by decide) (by decide) (b_feed hm0 hi6 hL hR (fun S1 => hn _ _ hmk S1 _ _))
      · exact Z_tswi (off := 205) (pt := 245) dL_law_40 (by decide) (by decide) (by decide) (by decide) (b_scope hm0 hi6 hL hR (fun S1 => hn _ _ hmk S1 _ _))
      · exact Z_tswi (off := 230) (pt := 270) dL_law_40 (by decide) (by decide) (by decide) (by decide) (b_thing hm0 hi6 hL hR (fun S1 => hn _ _ hmk S1 _ _))
      · exact Z_tswi (off := 279) (pt := 319) dL_law_40 (by decide) (by decide) (by decide) (by decide) (b_use hm0 hi6 hL hR (fun S1 => hn _ _ hmk S1 _ _))
      · exact Z_tswi (off := 316) (pt := 356) dL_law_40 (by decide) (by decide) (by decide) (by decide) (b_about hm0 hi6 hL hR (fun S1 => hn _ _ hmk S1 _ _))
      · exact Z_tswi (off := 353) (pt := 393) dL_law_40 (by decide) (by decide) (by decide) (by decide) (b_name hm1 hi6 hL hR (fun S1 l5 l6 => hn _ _ hmk1 S1 l5 l6))
      · exact Z_tswi (off := 421) (pt := 461) dL_law_40 (by decide) (by decide) (by decide) (by decide) (b_means hm0 hi6 hL hR (fun S1 => hn _ _ hmk S1 _ _))
      · exact Z_tswi (off := 458) (pt := 498) dL_law_40 (by decide) (by decide) (by decide) (by decide) (b_find hm0 hi6 hL hR (fun S1 => hn _ _ hmk S1 _ _))
      · exact Z_tswi (off := 495) (pt := 535) dL_law_40 (by decide) (by decide) (by decide) (by decide) (b_word hm0 hi6 hL hR (fun S1 => hn _ _ hmk S1 _ _))
      · exact Z_tswi (off := 532) (pt := 572) dL_law_40 (by decide) (by decide) (by decide) (by decide) (b_shorts hm0 hi6 hL hR (fun S1 => hn _ _ hmk S1 _ _))
      · exact Z_tswi (off := 569) (pt := 609) dL_law_40 (by decide) (by decide) (by decide) (by decide) (b_alike hm0 hi6 hL hR (fun S1 => hn _ _ hmk S1 _ _))
      · exact Z_tswi (off := 606) (pt := 646) dL_law_40 (by decide) (by decide) (by decide) (by decide) (b_told hm0 hi6 hL hR (fun S1 => hn _ _ hmk S1 _ _))
      · exact Z_tswi (off := 643) (pt := 683) dL_law_40 (by decide) (by decide) (by decide) (by decide) (b_part hm0 hi6 hL hR (fun S1 => hn _ _ hmk S1 _ _))
      · exact Z_tswi (off := 680) (pt := 720) dL_law_40 (by decide) (by decide) (by decide) (by decide) (b_way hm0 hi6 hL hR (fun S1 => hn _ _ hmk S1 _ _))
      · exact Z_tswi (off := 705) (pt := 745) dL_law_40 (by decide) (by decide) (by decide) (by decide) (b_odd hm0 hi6 hL hR (fun S1 => hn _ _ hmk S1 _ _))
      · exact Z_tswi (off := 730) (pt := 770) dL_law_40 (by decide) (by decide) (by decide) (by decide) (b_isOdd hm0 hi6 hL hR (fun S1 => hn _ _ hmk S1 _ _))
      · exact Z_tswi (off := 755) (pt := 795) dL_law_40 (by decide) (by decide) (by decide) (by decide) (b_mixed hm0 hi6 hL hR (fun S1 => hn _ _ hmk S1 _ _))
      · exact Z_tswi (off := 768) (pt := 808) dL_law_40 (by decide) (by decide) (by decide) (by decide) (b_strange hm0 hi6 hL hR (fun S1 => hn _ _ hmk S1 _ _))
      · exact Z_tswi (off := 781) (pt := 821) dL_law_40 (by decide) (by decide) (by decide) (by decide) (b_offer hm0 hi6 hL hR (fun S1 => hn _ _ hmk S1 _ _))
      · exact Z_tswi (off := 806) (pt := 846) dL_law_40 (by decide) (by decide) (by decide) (by decide) (b_out hm1 hi6 hL hR (fun S1 l5 l6 => hn _ _ hmk1 S1 l5 l6))
      · exact Z_tswi (off := 862) (pt := 902) dL_law_40 (by decide) (by decide) (by decide) (by decide) (b_rename hm0 hi6 hL hR (fun S1 => hn _ _ hmk S1 _ _))
      · exact Z_tswi (off := 899) (pt := 939) dL_law_40 (by decide) (by decide) (by decide) (by decide) (b_renames hm0 hi6 hL hR (fun S1 => hn _ _ hmk S1 _ _))
      · exact Z_tswi (off := 912) (pt := 952) dL_law_40 (by decide) (by decide) (by decide) (by decide) (b_none hm0 hi6 hL hR (fun S1 => hn _ _ hmk S1 _ _))
      · exact Z_tswi (off := 925) (pt := 965) dL_law_40 (by decide) (by decide) (by decide) (by decide) (b_hinders hm0 hi6 hL hR (fun S1 => hn _ _ hmk S1 _ _))
      · exact Z_tswi (off := 938) (pt := 978) dL_law_40 (by decide) (by decide) (by decide) (by decide) (b_turn hm0 hi6 hL hR (fun S1 => hn _ _ hmk S1 _ _))
      · exact Z_tswi (off := 951) (pt := 991) dL_law_40 (by decide) (by decide) (by decide) (by decide) (b_back hm0 hi6 hL hR (fun S1 => hn _ _ hmk S1 _ _))
      · exact Z_tswi (off := 964) (pt := 1004) dL_law_40 (by decide) (by decide) (by decide) (by decide) (b_keep hm0 hi6 hL hR (fun S1 => hn _ _ hmk S1 _ _))
      · exact Z_tswi (off := 977) (pt := 1017) dL_law_40 (by decide) (by decide) (by decide) (by decide) (b_count hm0 hi6 hL hR (fun S1 => hn _ _ hmk S1 _ _))
      · exact Z_tswi (off := 1002) (pt := 1042) dL_law_40 (by decide) (by decide) (by decide) (by decide) (b_trouble hm0 hi6 hL hR (fun S1 => hn _ _ hmk S1 _ _))
    · exact Z_tswo (pt := 1055) dL_law_40 (h.imp id (fun z => by omega)) (by decide) (hn _ _ hmk S _ _ hR rfl)
