def lwL (i : Nat) (l5 l6 : Option Value) : List (Option Value) := [some (.ref 100000), some (.ref 0), some (.ref 516), some (.ref 543), some (.int (nI i)), l5, l6]
def lwR (R : Room) (cs ss : Nat) : Prop := 9 ≤ R.frames ∧ 320 ≤ R.locals ∧ cs ≤ R.cells ∧ ss ≤ R.slots
theorem lw_rr {R : Room} {cs ss n' : Nat} (h : lwR R cs ss) (hn : n' ≤ 13) : ((dv_rm (0 + 7)).frames + 1 ≤ R.frames ∧ 8 + (n' + 11) + (dv_rm (0 + 7)).locals ≤ R.locals) ∧ (cs + (dv_rm (0 + 7)).cells ≤ R.cells ∧ ss + (dv_rm (0 + 7)).slots ≤ R.slots) := by
  obtain ⟨h1, h2, h3, h4⟩ := h
  refine ⟨⟨?_, ?_⟩, h3, h4⟩
  · show 7 + 1 ≤ R.frames; omega
  · show 8 + (n' + 11) + 224 ≤ R.locals; omega
theorem nI_ad (i k : Nat) : nI i + nI k = nI (i + k) := by
  unfold nI; exact (Int32.ofNat_add i k).symm
section
variable {R : Room} {cs ss : Nat} {Q : dv_ZT} {L : Int32} {xs : Nat → Int32} {S : dv_S} {i : Nat} {l5 l6 : Option Value}
theorem b_mixed (hm : lwR R cs ss) (hi : i + 6 ≤ dv_L S) (hL : dv_L S ≤ 3072) (hR : Rel L xs S) (hK : ∀ S1, Rel L xs S1 → dv_L S1 = dv_L S → dv_Jz yL_law cL_law 7 (some .boolean) R cs ss 1055 (lwL i l5 l6) [] S1 Q) : dv_Jz yL_law cL_law 7 (some .boolean) R cs ss 795 (lwL i l5 l6) [] S Q := by
  obtain ⟨n, sn, un, w, tn, wl, wm, hR⟩ := hR
  refine Z_aload_n dL_law_795 rfl rfl ?_
  refine Z_callvx [] (o_mixed 0 hR) vX7_mixed mL_96 (by decide) dL_law_796 rfl rfl (by decide) (lw_rr hm (n' := 1) (by decide)).1 (lw_rr hm (n' := 1) (by decide)).2 (fun r S1 h hx => ?_)
  obtain ⟨v, rfl, hM⟩ := h
  refine Z_aload_n dL_law_799 rfl rfl ?_
  refine Z_callvx [] hM vX8_mixed mL_99 (by decide) dL_law_800 rfl rfl (by simp [Value.category]) (lw_rr hm (n' := 6) (by decide)).1 (lw_rr hm (n' := 6) (by decide)).2 (fun r S2 h hy => ?_)
  obtain ⟨rfl, hR2⟩ := h
  refine Z_icmp_eq dL_law_803 rfl rfl (fun _ => ?_) (fun q => absurd rfl q)
  exact hK S2 hR2 (hy.1.trans hx.1)
theorem b_scope (hm : lwR R cs ss) (hi : i + 6 ≤ dv_L S) (hL : dv_L S ≤ 3072) (hR : Rel L xs S) (hK : ∀ S1, Rel L xs S1 → dv_L S1 = dv_L S → dv_Jz yL_law cL_law 7 (some .boolean) R cs ss 1055 (lwL i l5 l6) [] S1 Q) : dv_Jz yL_law cL_law 7 (some .boolean) R cs ss 245 (lwL i l5 l6) [] S Q := by
  obtain ⟨n, sn, un, w, tn, wl, wm, hR⟩ := hR
  refine Z_aload_n dL_law_245 rfl rfl ?_
  refine Z_aload_n dL_law_246 rfl rfl ?_
  refine Z_iload (x := nI i) dL_law_247 rfl rfl ?_
  refine Z_iconst (v := nI 1) dL_law_249 rfl (by decide) ?_
  refine Z_iadd dL_law_250 rfl ?_
  refine Z_sld (j := i + 1) (nI_ad i 1) (by omega) (by omega) dL_law_251 rfl ?_
  refine Z_callvx [.int (S.2.1 100000 (i + 1))] (o_scope 0 hR (S.2.1 100000 (i + 1))) vX7_scope mL_28 (by decide) dL_law_252 rfl rfl (by decide) (lw_rr hm (n' := 2) (by decide)).1 (lw_rr hm (n' := 2) (by decide)).2 (fun r S1 h hx => ?_)
  obtain ⟨v, rfl, hM⟩ := h
  rw [← hx.2 (i + 1) (by omega)] at hM
  refine Z_aload_n dL_law_255 rfl rfl ?_
  refine Z_aload_n dL_law_256 rfl rfl ?_
  refine Z_iload (x := nI i) dL_law_257 rfl rfl ?_
  refine Z_iconst (v := nI 1) dL_law_259 rfl (by decide) ?_
  refine Z_iadd dL_law_260 rfl ?_
  refine Z_sld (j := i + 1) (nI_ad i 1) (by rw [hx.1]; omega) (by rw [hx.1]; omega) dL_law_261 rfl ?_
  refine Z_callvx [.int (S1.2.1 100000 (i + 1))] hM vX8_scope mL_31 (by decide) dL_law_262 rfl rfl (by simp [Value.category]) (lw_rr hm (n' := 2) (by decide)).1 (lw_rr hm (n' := 2) (by decide)).2 (fun r S2 h hy => ?_)
  obtain ⟨rfl, hR2⟩ := h
  refine Z_icmp_eq dL_law_265 rfl rfl (fun _ => ?_) (fun q => absurd rfl q)
  exact hK S2 hR2 (hy.1.trans hx.1)
end
