theorem lw_rn {R : Room} {cs ss n' : Nat} (h : lwR R (cs + 1) (ss + 6)) (hn : n' ≤ 13) : (dv_rn.frames + 1 ≤ R.frames ∧ 8 + (n' + 11) + dv_rn.locals ≤ R.locals) ∧ (cs + dv_rn.cells ≤ R.cells ∧ ss + dv_rn.slots ≤ R.slots) := by
  obtain ⟨h1, h2, h3, h4⟩ := h
  refine ⟨⟨?_, ?_⟩, h3, h4⟩
  · show 7 + 1 ≤ R.frames; omega
  · show 8 + (n' + 11) + 224 ≤ R.locals; omega
theorem lw_rd {R : Room} {cs ss n' d : Nat} (h : lwR R cs ss) (hn : n' ≤ 13) (hd : d ≤ 7) : ((dv_rm d).frames + 1 ≤ R.frames ∧ 8 + (n' + 11) + (dv_rm d).locals ≤ R.locals) ∧ (cs + (dv_rm d).cells ≤ R.cells ∧ ss + (dv_rm d).slots ≤ R.slots) := by
  obtain ⟨h1, h2, h3, h4⟩ := h
  refine ⟨⟨?_, ?_⟩, h3, h4⟩
  · show d + 1 ≤ R.frames; omega
  · show 8 + (n' + 11) + 32 * d ≤ R.locals; omega
section
variable {R : Room} {cs ss : Nat} {Q : dv_ZT} {L : Int32} {xs : Nat → Int32} {S : dv_S} {i : Nat} {l5 l6 : Option Value}
theorem b_name (hm : lwR R (cs + 1) (ss + 6)) (hi : i + 6 ≤ dv_L S) (hL : dv_L S ≤ 3072) (hR : Rel L xs S) (hK : ∀ S1 l5 l6, Rel L xs S1 → dv_L S1 = dv_L S → dv_Jz yL_law cL_law 7 (some .boolean) R (cs + 1) (ss + 6) 1055 (lwL i l5 l6) [] S1 (dv_qx pxL Q)) : dv_Jz yL_law cL_law 7 (some .boolean) R cs ss 393 (lwL i l5 l6) [] S (dv_qx pxL Q) := by
  obtain ⟨n, sn, un, w, tn, wl, wm, hR⟩ := hR
  obtain ⟨k, v, l', h1, h2, h3, h4⟩ := NK_name hR (S.2.1 100000 (i + 1)) (S.2.1 100000 (i + 2))
  refine Z_aload_n dL_law_393 rfl rfl ?_
  refine Z_aload_n dL_law_394 rfl rfl ?_
  refine Z_iload (x := nI i) dL_law_395 rfl rfl ?_
  refine Z_iconst (v := nI 1) dL_law_397 rfl (by decide) ?_
  refine Z_iadd dL_law_398 rfl ?_
  refine Z_sld (j := i + 1) (nI_ad i 1) (by omega) (by omega) dL_law_399 rfl ?_
  refine Z_aload_n dL_law_400 rfl rfl ?_
  refine Z_iload (x := nI i) dL_law_401 rfl rfl ?_
  refine Z_iconst (v := nI 2) dL_law_403 rfl (by decide) ?_
  refine Z_iadd dL_law_404 rfl ?_
  refine Z_sld (j := i + 2) (nI_ad i 2) (by omega) (by omega) dL_law_405 rfl ?_
  refine Z_aload_n dL_law_406 rfl rfl ?_
  refine Z_callsh [.ref 0, .int (S.2.1 100000 (i + 1)), .int (S.2.1 100000 (i + 2)), .ref 543] (rest := []) h1 wL_name mL_45 dL_law_407 rfl rfl (by decide) (lw_rn hm (n' := 5) (by decide)).1 (lw_rn hm (n' := 5) (by decide)).2 (fun r S1 h => ?_)
  obtain ⟨rfl, rfl⟩ := h
  refine Z_istore dL_law_410 rfl (by decide) rfl rfl ?_
  refine Z_aload_n dL_law_412 rfl rfl ?_
  refine Z_aload_n dL_law_413 rfl rfl ?_
  refine Z_iload (x := nI i) dL_law_414 rfl rfl ?_
  refine Z_iconst (v := nI 1) dL_law_416 rfl (by decide) ?_
  refine Z_iadd dL_law_417 rfl ?_
  refine Z_sld (j := i + 1) (nI_ad i 1) (by change i + 1 < dv_L S; omega) (by change dv_L S < 2 ^ 31; omega) dL_law_418 rfl ?_
  refine Z_aload_n dL_law_419 rfl rfl ?_
  refine Z_iload (x := nI i) dL_law_420 rfl rfl ?_
  refine Z_iconst (v := nI 2) dL_law_422 rfl (by decide) ?_
  refine Z_iadd dL_law_423 rfl ?_
  refine Z_sld (j := i + 2) (nI_ad i 2) (by change i + 2 < dv_L S; omega) (by change dv_L S < 2 ^ 31; omega) dL_law_424 rfl ?_
  refine Z_callv [.int (S.2.1 100000 (i + 1)), .int (S.2.1 100000 (i + 2))] (rest := []) h2 vX8_name mL_50 (by decide) dL_law_425 rfl rfl (by decide) (lw_rd hm (n' := 3) (by decide) (by decide)).1 (lw_rd hm (n' := 3) (by decide) (by decide)).2 (fun r S2 h => ?_)
  obtain ⟨rfl, rfl⟩ := h
  refine Z_istore dL_law_428 rfl (by decide) rfl rfl ?_
  refine Z_aload_n dL_law_430 rfl rfl ?_
  refine Z_callv [] (rest := []) (qX8_thrown 0 _) vX8_thrown mL_51 (by decide) dL_law_431 rfl rfl (by decide) (lw_rd (d := 0 + 0) hm (n' := 1) (by decide) (by decide)).1 (lw_rd (d := 0 + 0) hm (n' := 1) (by decide) (by decide)).2 (fun r S3 h => ?_)
  obtain ⟨rfl, rfl⟩ := h
  refine Z_iload (x := k) dL_law_434 rfl rfl ?_
  have hk0 : (dv_u S.1 516 0 k) 516 0 = k := dv_u_eq _ _ _ _
  refine Z_icmp_eq dL_law_436 (pt := 441) rfl rfl (fun _ => ?_) (fun q => absurd hk0 q)
  have hR2 : Rel L xs (dv_u S.1 516 0 k, S.2.1, l') := ⟨n, sn, un, w, tn, wl, wm, RelX_t (S := (S.1, S.2.1, l')) k (RelX_L hR h3)⟩
  have hL2 : dv_L (dv_u S.1 516 0 k, S.2.1, l') = dv_L S := by
    show ((dv_u S.1 516 0 k) 100000 0).toNatClampNeg = _
    rw [dv_u_ne _ _ (by rintro ⟨q, -⟩; omega)]; rfl
  have hE : dv_Jz yL_law cL_law 7 (some .boolean) R (cs + 1) (ss + 6) 458 (lwL i (some (.int k)) (some (.int v))) [] (dv_u S.1 516 0 k, S.2.1, l') (dv_qx pxL Q) := Z_goto dL_law_458 (pc' := 1055) (by decide) (hK _ _ _ hR2 hL2)
  refine Z_iload (x := k) dL_law_441 rfl rfl ?_
  refine Z_if_ne dL_law_443 (pt := 458) rfl rfl (fun _ => hE) (fun hk => ?_)
  refine Z_aload_n dL_law_446 rfl rfl ?_
  refine Z_iconst (v := 0) dL_law_447 rfl (by decide) ?_
  refine Z_lald (a := 543) (j := 0) (by decide) (by decide) (by decide) dL_law_448 rfl ?_
  refine Z_iload (x := v) dL_law_449 rfl rfl ?_
  refine Z_i2l dL_law_451 rfl ?_
  refine Z_lcmp dL_law_452 rfl ?_
  exact Z_if_eq dL_law_453 (pt := 458) rfl rfl (fun _ => hE) (fun q => absurd (dv_cmp0.mpr (h4 hk)) q)
theorem b_out (hm : lwR R (cs + 1) (ss + 6)) (hi : i + 6 ≤ dv_L S) (hL : dv_L S ≤ 3072) (hR : Rel L xs S) (hK : ∀ S1 l5 l6, Rel L xs S1 → dv_L S1 = dv_L S → dv_Jz yL_law cL_law 7 (some .boolean) R (cs + 1) (ss + 6) 1055 (lwL i l5 l6) [] S1 (dv_qx pxL Q)) : dv_Jz yL_law cL_law 7 (some .boolean) R cs ss 846 (lwL i l5 l6) [] S (dv_qx pxL Q) := by
  obtain ⟨n, sn, un, w, tn, wl, wm, hR⟩ := hR
  obtain ⟨k, v, l', h1, h2, h3, h4⟩ := NK_out hR (S.2.1 100000 (i + 1))
  refine Z_aload_n dL_law_846 rfl rfl ?_
  refine Z_aload_n dL_law_847 rfl rfl ?_
  refine Z_iload (x := nI i) dL_law_848 rfl rfl ?_
  refine Z_iconst (v := nI 1) dL_law_850 rfl (by decide) ?_
  refine Z_iadd dL_law_851 rfl ?_
  refine Z_sld (j := i + 1) (nI_ad i 1) (by omega) (by omega) dL_law_852 rfl ?_
  refine Z_aload_n dL_law_853 rfl rfl ?_
  refine Z_callsh [.ref 0, .int (S.2.1 100000 (i + 1)), .ref 543] (rest := []) h1 wL_out mL_108 dL_law_854 rfl rfl (by decide) (lw_rn hm (n' := 4) (by decide)).1 (lw_rn hm (n' := 4) (by decide)).2 (fun r S1 h => ?_)
  obtain ⟨rfl, rfl⟩ := h
  refine Z_istore dL_law_857 rfl (by decide) rfl rfl ?_
  refine Z_aload_n dL_law_859 rfl rfl ?_
  refine Z_aload_n dL_law_860 rfl rfl ?_
  refine Z_iload (x := nI i) dL_law_861 rfl rfl ?_
  refine Z_iconst (v := nI 1) dL_law_863 rfl (by decide) ?_
  refine Z_iadd dL_law_864 rfl ?_
  refine Z_sld (j := i + 1) (nI_ad i 1) (by change i + 1 < dv_L S; omega) (by change dv_L S < 2 ^ 31; omega) dL_law_865 rfl ?_
  refine Z_callv [.int (S.2.1 100000 (i + 1))] (rest := []) h2 vX8_out mL_111 (by decide) dL_law_866 rfl rfl (by decide) (lw_rd hm (n' := 2) (by decide) (by decide)).1 (lw_rd hm (n' := 2) (by decide) (by decide)).2 (fun r S2 h => ?_)
  obtain ⟨rfl, rfl⟩ := h
  refine Z_istore dL_law_869 rfl (by decide) rfl rfl ?_
  refine Z_aload_n dL_law_871 rfl rfl ?_
  refine Z_callv [] (rest := []) (qX8_thrown 0 _) vX8_thrown mL_51 (by decide) dL_law_872 rfl rfl (by decide) (lw_rd (d := 0 + 0) hm (n' := 1) (by decide) (by decide)).1 (lw_rd (d := 0 + 0) hm (n' := 1) (by decide) (by decide)).2 (fun r S3 h => ?_)
  obtain ⟨rfl, rfl⟩ := h
  refine Z_iload (x := k) dL_law_875 rfl rfl ?_
  have hk0 : (dv_u S.1 516 0 k) 516 0 = k := dv_u_eq _ _ _ _
  refine Z_icmp_eq dL_law_877 (pt := 882) rfl rfl (fun _ => ?_) (fun q => absurd hk0 q)
  have hR2 : Rel L xs (dv_u S.1 516 0 k, S.2.1, l') := ⟨n, sn, un, w, tn, wl, wm, RelX_t (S := (S.1, S.2.1, l')) k (RelX_L hR h3)⟩
  have hL2 : dv_L (dv_u S.1 516 0 k, S.2.1, l') = dv_L S := by
    show ((dv_u S.1 516 0 k) 100000 0).toNatClampNeg = _
    rw [dv_u_ne _ _ (by rintro ⟨q, -⟩; omega)]; rfl
  have hE : dv_Jz yL_law cL_law 7 (some .boolean) R (cs + 1) (ss + 6) 899 (lwL i (some (.int k)) (some (.int v))) [] (dv_u S.1 516 0 k, S.2.1, l') (dv_qx pxL Q) := Z_goto dL_law_899 (pc' := 1055) (by decide) (hK _ _ _ hR2 hL2)
  refine Z_iload (x := k) dL_law_882 rfl rfl ?_
  refine Z_if_ne dL_law_884 (pt := 899) rfl rfl (fun _ => hE) (fun hk => ?_)
  refine Z_aload_n dL_law_887 rfl rfl ?_
  refine Z_iconst (v := 0) dL_law_888 rfl (by decide) ?_
  refine Z_lald (a := 543) (j := 0) (by decide) (by decide) (by decide) dL_law_889 rfl ?_
  refine Z_iload (x := v) dL_law_890 rfl rfl ?_
  refine Z_i2l dL_law_892 rfl ?_
  refine Z_lcmp dL_law_893 rfl ?_
  exact Z_if_eq dL_law_894 (pt := 899) rfl rfl (fun _ => hE) (fun q => absurd (dv_cmp0.mpr (h4 hk)) q)
end
