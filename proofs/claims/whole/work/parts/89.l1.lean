def lwL (i : Nat) (l5 l6 : Option Value) : List (Option Value) := [some (.ref 100000), some (.ref 0), some (.ref 516), some (.ref 543), some (.int (nI i)), l5, l6]
def lwR (R : Room) (cs ss : Nat) : Prop := 9 ≤ R.frames ∧ 320 ≤ R.locals ∧ cs ≤ R.cells ∧ ss ≤ R.slots
theorem lw_rr {R : Room} {cs ss n' : Nat} (h : lwR R cs ss) (hn : n' ≤ 13) : ((dv_rm (0 + 7)).frames + 1 ≤ R.frames ∧ 8 + (n' + 11) + (dv_rm (0 + 7)).locals ≤ R.locals) ∧ (cs + (dv_rm (0 + 7)).cells ≤ R.cells ∧ ss + (dv_rm (0 + 7)).slots ≤ R.slots) := by
  obtain ⟨h1, h2, h3, h4⟩ := h
  refine ⟨⟨?_, ?_⟩, h3, h4⟩
  · show 7 + 1 ≤ R.frames; omega
  · show 8 + (n' + 11) + 224 ≤ R.locals; omega
theorem nI_ad (i k : Nat) : nI i + nI k = nI (i + k) := by
  unfold nI; exact (Int32.ofNat_add i k).symm
section
variable {R : Room} {cs ss : Nat} {Q : dv_ZT} {L : Int32} {xs : Nat → Int32} {S : dv_S} {i : Nat} {l5 l6 : Option Value}
theorem b_feed (hm : lwR R cs ss) (hi : i + 6 ≤ dv_L S) (hL : dv_L S ≤ 3072) (hR : Rel L xs S) (hK : ∀ S1, Rel L xs S1 → dv_L S1 = dv_L S → dv_Jz yL_law cL_law 7 (some .boolean) R cs ss 1055 (lwL i l5 l6) [] S1 Q) : dv_Jz yL_law cL_law 7 (some .boolean) R cs ss 172 (lwL i l5 l6) [] S Q := by
  obtain ⟨n, sn, un, w, tn, wl, wm, hR⟩ := hR
  refine Z_aload_n dL_law_172 rfl rfl ?_
  refine Z_aload_n dL_law_173 rfl rfl ?_
  refine Z_iload (x := nI i) dL_law_174 rfl rfl ?_
  refine Z_iconst (v := nI 1) dL_law_176 rfl (by decide) ?_
  refine Z_iadd dL_law_177 rfl ?_
  refine Z_sld (j := i + 1) (nI_ad i 1) (by omega) (by omega) dL_law_178 rfl ?_
  refine Z_aload_n dL_law_179 rfl rfl ?_
  refine Z_iload (x := nI i) dL_law_180 rfl rfl ?_
  refine Z_iconst (v := nI 2) dL_law_182 rfl (by decide) ?_
  refine Z_iadd dL_law_183 rfl ?_
  refine Z_sld (j := i + 2) (nI_ad i 2) (by omega) (by omega) dL_law_184 rfl ?_
  refine Z_aload_n dL_law_185 rfl rfl ?_
  refine Z_iload (x := nI i) dL_law_186 rfl rfl ?_
  refine Z_iconst (v := nI 3) dL_law_188 rfl (by decide) ?_
  refine Z_iadd dL_law_189 rfl ?_
  refine Z_sld (j := i + 3) (nI_ad i 3) (by omega) (by omega) dL_law_190 rfl ?_
  refine Z_aload_n dL_law_191 rfl rfl ?_
  refine Z_iload (x := nI i) dL_law_192 rfl rfl ?_
  refine Z_iconst (v := nI 4) dL_law_194 rfl (by decide) ?_
  refine Z_iadd dL_law_195 rfl ?_
  refine Z_sld (j := i + 4) (nI_ad i 4) (by omega) (by omega) dL_law_196 rfl ?_
  refine Z_aload_n dL_law_197 rfl rfl ?_
  refine Z_iload (x := nI i) dL_law_198 rfl rfl ?_
  refine Z_iconst (v := nI 5) dL_law_200 rfl (by decide) ?_
  refine Z_iadd dL_law_201 rfl ?_
  refine Z_sld (j := i + 5) (nI_ad i 5) (by omega) (by omega) dL_law_202 rfl ?_
  refine Z_callvx [.int (S.2.1 100000 (i + 1)), .int (S.2.1 100000 (i + 2)), .int (S.2.1 100000 (i + 3)), .int (S.2.1 100000 (i + 4)), .int (S.2.1 100000 (i + 5))] (o_feed 0 hR (S.2.1 100000 (i + 1)) (S.2.1 100000 (i + 2)) (S.2.1 100000 (i + 3)) (S.2.1 100000 (i + 4)) (S.2.1 100000 (i + 5))) vX7_feed mL_23 (by decide) dL_law_203 rfl rfl (by decide) (lw_rr hm (n' := 6) (by decide)).1 (lw_rr hm (n' := 6) (by decide)).2 (fun r S1 h hx => ?_)
  obtain ⟨v, rfl, hM⟩ := h
  rw [← hx.2 (i + 1) (by omega)] at hM
  rw [← hx.2 (i + 2) (by omega)] at hM
  rw [← hx.2 (i + 3) (by omega)] at hM
  rw [← hx.2 (i + 4) (by omega)] at hM
  rw [← hx.2 (i + 5) (by omega)] at hM
  refine Z_aload_n dL_law_206 rfl rfl ?_
  refine Z_aload_n dL_law_207 rfl rfl ?_
  refine Z_iload (x := nI i) dL_law_208 rfl rfl ?_
  refine Z_iconst (v := nI 1) dL_law_210 rfl (by decide) ?_
  refine Z_iadd dL_law_211 rfl ?_
  refine Z_sld (j := i + 1) (nI_ad i 1) (by rw [hx.1]; omega) (by rw [hx.1]; omega) dL_law_212 rfl ?_
  refine Z_aload_n dL_law_213 rfl rfl ?_
  refine Z_iload (x := nI i) dL_law_214 rfl rfl ?_
  refine Z_iconst (v := nI 2) dL_law_216 rfl (by decide) ?_
  refine Z_iadd dL_law_217 rfl ?_
  refine Z_sld (j := i + 2) (nI_ad i 2) (by rw [hx.1]; omega) (by rw [hx.1]; omega) dL_law_218 rfl ?_
  refine Z_aload_n dL_law_219 rfl rfl ?_
  refine Z_iload (x := nI i) dL_law_220 rfl rfl ?_
  refine Z_iconst (v := nI 3) dL_law_222 rfl (by decide) ?_
  refine Z_iadd dL_law_223 rfl ?_
  refine Z_sld (j := i + 3) (nI_ad i 3) (by rw [hx.1]; omega) (by rw [hx.1]; omega) dL_law_224 rfl ?_
  refine Z_aload_n dL_law_225 rfl rfl ?_
  refine Z_iload (x := nI i) dL_law_226 rfl rfl ?_
  refine Z_iconst (v := nI 4) dL_law_228 rfl (by decide) ?_
  refine Z_iadd dL_law_229 rfl ?_
  refine Z_sld (j := i + 4) (nI_ad i 4) (by rw [hx.1]; omega) (by rw [hx.1]; omega) dL_law_230 rfl ?_
  refine Z_aload_n dL_law_231 rfl rfl ?_
  refine Z_iload (x := nI i) dL_law_232 rfl rfl ?_
  refine Z_iconst (v := nI 5) dL_law_234 rfl (by decide) ?_
  refine Z_iadd dL_law_235 rfl ?_
  refine Z_sld (j := i + 5) (nI_ad i 5) (by rw [hx.1]; omega) (by rw [hx.1]; omega) dL_law_236 rfl ?_
  refine Z_callvx [.int (S1.2.1 100000 (i + 1)), .int (S1.2.1 100000 (i + 2)), .int (S1.2.1 100000 (i + 3)), .int (S1.2.1 100000 (i + 4)), .int (S1.2.1 100000 (i + 5))] hM vX8_feed mL_27 (by decide) dL_law_237 rfl rfl (by simp [Value.category]) (lw_rr hm (n' := 8) (by decide)).1 (lw_rr hm (n' := 8) (by decide)).2 (fun r S2 h hy => ?_)
  obtain ⟨rfl, hR2⟩ := h
  refine Z_icmp_eq dL_law_240 rfl rfl (fun _ => ?_) (fun q => absurd rfl q)
  exact hK S2 hR2 (hy.1.trans hx.1)
theorem b_scope (hm : lwR R cs ss) (hi : i + 6 ≤ dv_L S) (hL : dv_L S ≤ 3072) (hR : Rel L xs S) (hK : ∀ S1, Rel L xs S1 → dv_L S1 = dv_L S → dv_Jz yL_law cL_law 7 (some .boolean) R cs ss 1055 (lwL i l5 l6) [] S1 Q) : dv_Jz yL_law cL_law 7 (some .boolean) R cs ss 245 (lwL i l5 l6) [] S Q := by
  obtain ⟨n, sn, un, w, tn, wl, wm, hR⟩ := hR
  refine Z_aload_n dL_law_245 rfl rfl ?_
  refine Z_aload_n dL_law_246 rfl rfl ?_
  refine Z_iload (x := nI i) dL_law_247 rfl rfl ?_
  refine Z_iconst (v := nI 1) dL_law_249 rfl (by decide) ?_
  refine Z_iadd dL_law_250 rfl ?_
  refine Z_sld (j := i + 1) (nI_ad i 1) (by omega) (by omega) dL_law_251 rfl ?_
  refine Z_callvx [.int (S.2.1 100000 (i + 1))] (o_scope 0 hR (S.2.1 100000 (i + 1))) vX7_scope mL_28 (by decide) dL_law_252 rfl rfl (by decide) (lw_rr hm (n' := 2) (by decide)).1 (lw_rr hm (n' := 2) (by decide)).2 (fun r S1 h hx => ?_)
  obtain ⟨v, rfl, hM⟩ := h
  rw [← hx.2 (i + 1) (by omega)] at hM
  refine Z_aload_n dL_law_255 rfl rfl ?_
  refine Z_aload_n dL_law_256 rfl rfl ?_
  refine Z_iload (x := nI i) dL_law_257 rfl rfl ?_
  refine Z_iconst (v := nI 1) dL_law_259 rfl (by decide) ?_
  refine Z_iadd dL_law_260 rfl ?_
  refine Z_sld (j := i + 1) (nI_ad i 1) (by rw [hx.1]; omega) (by rw [hx.1]; omega) dL_law_261 rfl ?_
  refine Z_callvx [.int (S1.2.1 100000 (i + 1))] hM vX8_scope mL_31 (by decide) dL_law_262 rfl rfl (by simp [Value.category]) (lw_rr hm (n' := 2) (by decide)).1 (lw_rr hm (n' := 2) (by decide)).2 (fun r S2 h hy => ?_)
  obtain ⟨rfl, hR2⟩ := h
  refine Z_icmp_eq dL_law_265 rfl rfl (fun _ => ?_) (fun q => absurd rfl q)
  exact hK S2 hR2 (hy.1.trans hx.1)
theorem b_thing (hm : lwR R cs ss) (hi : i + 6 ≤ dv_L S) (hL : dv_L S ≤ 3072) (hR : Rel L xs S) (hK : ∀ S1, Rel L xs S1 → dv_L S1 = dv_L S → dv_Jz yL_law cL_law 7 (some .boolean) R cs ss 1055 (lwL i l5 l6) [] S1 Q) : dv_Jz yL_law cL_law 7 (some .boolean) R cs ss 270 (lwL i l5 l6) [] S Q := by
  obtain ⟨n, sn, un, w, tn, wl, wm, hR⟩ := hR
  refine Z_aload_n dL_law_270 rfl rfl ?_
  refine Z_aload_n dL_law_271 rfl rfl ?_
  refine Z_iload (x := nI i) dL_law_272 rfl rfl ?_
  refine Z_iconst (v := nI 1) dL_law_274 rfl (by decide) ?_
  refine Z_iadd dL_law_275 rfl ?_
  refine Z_sld (j := i + 1) (nI_ad i 1) (by omega) (by omega) dL_law_276 rfl ?_
  refine Z_aload_n dL_law_277 rfl rfl ?_
  refine Z_iload (x := nI i) dL_law_278 rfl rfl ?_
  refine Z_iconst (v := nI 2) dL_law_280 rfl (by decide) ?_
  refine Z_iadd dL_law_281 rfl ?_
  refine Z_sld (j := i + 2) (nI_ad i 2) (by omega) (by omega) dL_law_282 rfl ?_
  refine Z_aload_n dL_law_283 rfl rfl ?_
  refine Z_iload (x := nI i) dL_law_284 rfl rfl ?_
  refine Z_iconst (v := nI 3) dL_law_286 rfl (by decide) ?_
  refine Z_iadd dL_law_287 rfl ?_
  refine Z_sld (j := i + 3) (nI_ad i 3) (by omega) (by omega) dL_law_288 rfl ?_
  refine Z_callvx [.int (S.2.1 100000 (i + 1)), .int (S.2.1 100000 (i + 2)), .int (S.2.1 100000 (i + 3))] (o_thing 0 hR (S.2.1 100000 (i + 1)) (S.2.1 100000 (i + 2)) (S.2.1 100000 (i + 3))) vX7_thing mL_32 (by decide) dL_law_289 rfl rfl (by decide) (lw_rr hm (n' := 4) (by decide)).1 (lw_rr hm (n' := 4) (by decide)).2 (fun r S1 h hx => ?_)
  obtain ⟨v, rfl, hM⟩ := h
  rw [← hx.2 (i + 1) (by omega)] at hM
  rw [← hx.2 (i + 2) (by omega)] at hM
  rw [← hx.2 (i + 3) (by omega)] at hM
  refine Z_aload_n dL_law_292 rfl rfl ?_
  refine Z_aload_n dL_law_293 rfl rfl ?_
  refine Z_iload (x := nI i) dL_law_294 rfl rfl ?_
  refine Z_iconst (v := nI 1) dL_law_296 rfl (by decide) ?_
  refine Z_iadd dL_law_297 rfl ?_
  refine Z_sld (j := i + 1) (nI_ad i 1) (by rw [hx.1]; omega) (by rw [hx.1]; omega) dL_law_298 rfl ?_
  refine Z_aload_n dL_law_299 rfl rfl ?_
  refine Z_iload (x := nI i) dL_law_300 rfl rfl ?_
  refine Z_iconst (v := nI 2) dL_law_302 rfl (by decide) ?_
  refine Z_iadd dL_law_303 rfl ?_
  refine Z_sld (j := i + 2) (nI_ad i 2) (by rw [hx.1]; omega) (by rw [hx.1]; omega) dL_law_304 rfl ?_
  refine Z_aload_n dL_law_305 rfl rfl ?_
  refine Z_iload (x := nI i) dL_law_306 rfl rfl ?_
  refine Z_iconst (v := nI 3) dL_law_308 rfl (by decide) ?_
  refine Z_iadd dL_law_309 rfl ?_
  refine Z_sld (j := i + 3) (nI_ad i 3) (by rw [hx.1]; omega) (by rw [hx.1]; omega) dL_law_310 rfl ?_
  refine Z_callvx [.int (S1.2.1 100000 (i + 1)), .int (S1.2.1 100000 (i + 2)), .int (S1.2.1 100000 (i + 3))] hM vX8_thing mL_36 (by decide) dL_law_311 rfl rfl (by simp [Value.category]) (lw_rr hm (n' := 6) (by decide)).1 (lw_rr hm (n' := 6) (by decide)).2 (fun r S2 h hy => ?_)
  obtain ⟨rfl, hR2⟩ := h
  refine Z_icmp_eq dL_law_314 rfl rfl (fun _ => ?_) (fun q => absurd rfl q)
  exact hK S2 hR2 (hy.1.trans hx.1)
theorem b_use (hm : lwR R cs ss) (hi : i + 6 ≤ dv_L S) (hL : dv_L S ≤ 3072) (hR : Rel L xs S) (hK : ∀ S1, Rel L xs S1 → dv_L S1 = dv_L S → dv_Jz yL_law cL_law 7 (some .boolean) R cs ss 1055 (lwL i l5 l6) [] S1 Q) : dv_Jz yL_law cL_law 7 (some .boolean) R cs ss 319 (lwL i l5 l6) [] S Q := by
  obtain ⟨n, sn, un, w, tn, wl, wm, hR⟩ := hR
  refine Z_aload_n dL_law_319 rfl rfl ?_
  refine Z_aload_n dL_law_320 rfl rfl ?_
  refine Z_iload (x := nI i) dL_law_321 rfl rfl ?_
  refine Z_iconst (v := nI 1) dL_law_323 rfl (by decide) ?_
  refine Z_iadd dL_law_324 rfl ?_
  refine Z_sld (j := i + 1) (nI_ad i 1) (by omega) (by omega) dL_law_325 rfl ?_
  refine Z_aload_n dL_law_326 rfl rfl ?_
  refine Z_iload (x := nI i) dL_law_327 rfl rfl ?_
  refine Z_iconst (v := nI 2) dL_law_329 rfl (by decide) ?_
  refine Z_iadd dL_law_330 rfl ?_
  refine Z_sld (j := i + 2) (nI_ad i 2) (by omega) (by omega) dL_law_331 rfl ?_
  refine Z_callvx [.int (S.2.1 100000 (i + 1)), .int (S.2.1 100000 (i + 2))] (o_use 0 hR (S.2.1 100000 (i + 1)) (S.2.1 100000 (i + 2))) vX7_use mL_37 (by decide) dL_law_332 rfl rfl (by decide) (lw_rr hm (n' := 4) (by decide)).1 (lw_rr hm (n' := 4) (by decide)).2 (fun r S1 h hx => ?_)
  obtain ⟨v, rfl, hM⟩ := h
  rw [← hx.2 (i + 1) (by omega)] at hM
  rw [← hx.2 (i + 2) (by omega)] at hM
  refine Z_aload_n dL_law_335 rfl rfl ?_
  refine Z_aload_n dL_law_336 rfl rfl ?_
  refine Z_iload (x := nI i) dL_law_337 rfl rfl ?_
  refine Z_iconst (v := nI 1) dL_law_339 rfl (by decide) ?_
  refine Z_iadd dL_law_340 rfl ?_
  refine Z_sld (j := i + 1) (nI_ad i 1) (by rw [hx.1]; omega) (by rw [hx.1]; omega) dL_law_341 rfl ?_
  refine Z_aload_n dL_law_342 rfl rfl ?_
  refine Z_iload (x := nI i) dL_law_343 rfl rfl ?_
  refine Z_iconst (v := nI 2) dL_law_345 rfl (by decide) ?_
  refine Z_iadd dL_law_346 rfl ?_
  refine Z_sld (j := i + 2) (nI_ad i 2) (by rw [hx.1]; omega) (by rw [hx.1]; omega) dL_law_347 rfl ?_
  refine Z_callvx [.int (S1.2.1 100000 (i + 1)), .int (S1.2.1 100000 (i + 2))] hM vX8_use mL_40 (by decide) dL_law_348 rfl rfl (by simp [Value.category]) (lw_rr hm (n' := 4) (by decide)).1 (lw_rr hm (n' := 4) (by decide)).2 (fun r S2 h hy => ?_)
  obtain ⟨rfl, hR2⟩ := h
  refine Z_icmp_eq dL_law_351 rfl rfl (fun _ => ?_) (fun q => absurd rfl q)
  exact hK S2 hR2 (hy.1.trans hx.1)
theorem b_about (hm : lwR R cs ss) (hi : i + 6 ≤ dv_L S) (hL : dv_L S ≤ 3072) (hR : Rel L xs S) (hK : ∀ S1, Rel L xs S1 → dv_L S1 = dv_L S → dv_Jz yL_law cL_law 7 (some .boolean) R cs ss 1055 (lwL i l5 l6) [] S1 Q) : dv_Jz yL_law cL_law 7 (some .boolean) R cs ss 356 (lwL i l5 l6) [] S Q := by
  obtain ⟨n, sn, un, w, tn, wl, wm, hR⟩ := hR
  refine Z_aload_n dL_law_356 rfl rfl ?_
  refine Z_aload_n dL_law_357 rfl rfl ?_
  refine Z_iload (x := nI i) dL_law_358 rfl rfl ?_
  refine Z_iconst (v := nI 1) dL_law_360 rfl (by decide) ?_
  refine Z_iadd dL_law_361 rfl ?_
  refine Z_sld (j := i + 1) (nI_ad i 1) (by omega) (by omega) dL_law_362 rfl ?_
  refine Z_aload_n dL_law_363 rfl rfl ?_
  refine Z_iload (x := nI i) dL_law_364 rfl rfl ?_
  refine Z_iconst (v := nI 2) dL_law_366 rfl (by decide) ?_
  refine Z_iadd dL_law_367 rfl ?_
  refine Z_sld (j := i + 2) (nI_ad i 2) (by omega) (by omega) dL_law_368 rfl ?_
  refine Z_callvx [.int (S.2.1 100000 (i + 1)), .int (S.2.1 100000 (i + 2))] (o_about 0 hR (S.2.1 100000 (i + 1)) (S.2.1 100000 (i + 2))) vX7_about mL_41 (by decide) dL_law_369 rfl rfl (by decide) (lw_rr hm (n' := 3) (by decide)).1 (lw_rr hm (n' := 3) (by decide)).2 (fun r S1 h hx => ?_)
  obtain ⟨v, rfl, hM⟩ := h
  rw [← hx.2 (i + 1) (by omega)] at hM
  rw [← hx.2 (i + 2) (by omega)] at hM
  refine Z_aload_n dL_law_372 rfl rfl ?_
  refine Z_aload_n dL_law_373 rfl rfl ?_
  refine Z_iload (x := nI i) dL_law_374 rfl rfl ?_
  refine Z_iconst (v := nI 1) dL_law_376 rfl (by decide) ?_
  refine Z_iadd dL_law_377 rfl ?_
  refine Z_sld (j := i + 1) (nI_ad i 1) (by rw [hx.1]; omega) (by rw [hx.1]; omega) dL_law_378 rfl ?_
  refine Z_aload_n dL_law_379 rfl rfl ?_
  refine Z_iload (x := nI i) dL_law_380 rfl rfl ?_
  refine Z_iconst (v := nI 2) dL_law_382 rfl (by decide) ?_
  refine Z_iadd dL_law_383 rfl ?_
  refine Z_sld (j := i + 2) (nI_ad i 2) (by rw [hx.1]; omega) (by rw [hx.1]; omega) dL_law_384 rfl ?_
  refine Z_callvx [.int (S1.2.1 100000 (i + 1)), .int (S1.2.1 100000 (i + 2))] hM vX8_about mL_44 (by decide) dL_law_385 rfl rfl (by simp [Value.category]) (lw_rr hm (n' := 5) (by decide)).1 (lw_rr hm (n' := 5) (by decide)).2 (fun r S2 h hy => ?_)
  obtain ⟨rfl, hR2⟩ := h
  refine Z_icmp_eq dL_law_388 rfl rfl (fun _ => ?_) (fun q => absurd rfl q)
  exact hK S2 hR2 (hy.1.trans hx.1)
theorem b_means (hm : lwR R cs ss) (hi : i + 6 ≤ dv_L S) (hL : dv_L S ≤ 3072) (hR : Rel L xs S) (hK : ∀ S1, Rel L xs S1 → dv_L S1 = dv_L S → dv_Jz yL_law cL_law 7 (some .boolean) R cs ss 1055 (lwL i l5 l6) [] S1 Q) : dv_Jz yL_law cL_law 7 (some .boolean) R cs ss 461 (lwL i l5 l6) [] S Q := by
  obtain ⟨n, sn, un, w, tn, wl, wm, hR⟩ := hR
  refine Z_aload_n dL_law_461 rfl rfl ?_
  refine Z_aload_n dL_law_462 rfl rfl ?_
  refine Z_iload (x := nI i) dL_law_463 rfl rfl ?_
  refine Z_iconst (v := nI 1) dL_law_465 rfl (by decide) ?_
  refine Z_iadd dL_law_466 rfl ?_
  refine Z_sld (j := i + 1) (nI_ad i 1) (by omega) (by omega) dL_law_467 rfl ?_
  refine Z_aload_n dL_law_468 rfl rfl ?_
  refine Z_iload (x := nI i) dL_law_469 rfl rfl ?_
  refine Z_iconst (v := nI 2) dL_law_471 rfl (by decide) ?_
  refine Z_iadd dL_law_472 rfl ?_
  refine Z_sld (j := i + 2) (nI_ad i 2) (by omega) (by omega) dL_law_473 rfl ?_
  refine Z_callvx [.int (S.2.1 100000 (i + 1)), .int (S.2.1 100000 (i + 2))] (o_means 0 hR (S.2.1 100000 (i + 1)) (S.2.1 100000 (i + 2))) vX7_means mL_55 (by decide) dL_law_474 rfl rfl (by decide) (lw_rr hm (n' := 3) (by decide)).1 (lw_rr hm (n' := 3) (by decide)).2 (fun r S1 h hx => ?_)
  obtain ⟨v, rfl, hM⟩ := h
  rw [← hx.2 (i + 1) (by omega)] at hM
  rw [← hx.2 (i + 2) (by omega)] at hM
  refine Z_aload_n dL_law_477 rfl rfl ?_
  refine Z_aload_n dL_law_478 rfl rfl ?_
  refine Z_iload (x := nI i) dL_law_479 rfl rfl ?_
  refine Z_iconst (v := nI 1) dL_law_481 rfl (by decide) ?_
  refine Z_iadd dL_law_482 rfl ?_
  refine Z_sld (j := i + 1) (nI_ad i 1) (by rw [hx.1]; omega) (by rw [hx.1]; omega) dL_law_483 rfl ?_
  refine Z_aload_n dL_law_484 rfl rfl ?_
  refine Z_iload (x := nI i) dL_law_485 rfl rfl ?_
  refine Z_iconst (v := nI 2) dL_law_487 rfl (by decide) ?_
  refine Z_iadd dL_law_488 rfl ?_
  refine Z_sld (j := i + 2) (nI_ad i 2) (by rw [hx.1]; omega) (by rw [hx.1]; omega) dL_law_489 rfl ?_
  refine Z_callvx [.int (S1.2.1 100000 (i + 1)), .int (S1.2.1 100000 (i + 2))] hM vX8_means mL_58 (by decide) dL_law_490 rfl rfl (by simp [Value.category]) (lw_rr hm (n' := 3) (by decide)).1 (lw_rr hm (n' := 3) (by decide)).2 (fun r S2 h hy => ?_)
  obtain ⟨rfl, hR2⟩ := h
  refine Z_icmp_eq dL_law_493 rfl rfl (fun _ => ?_) (fun q => absurd rfl q)
  exact hK S2 hR2 (hy.1.trans hx.1)
theorem b_find (hm : lwR R cs ss) (hi : i + 6 ≤ dv_L S) (hL : dv_L S ≤ 3072) (hR : Rel L xs S) (hK : ∀ S1, Rel L xs S1 → dv_L S1 = dv_L S → dv_Jz yL_law cL_law 7 (some .boolean) R cs ss 1055 (lwL i l5 l6) [] S1 Q) : dv_Jz yL_law cL_law 7 (some .boolean) R cs ss 498 (lwL i l5 l6) [] S Q := by
  obtain ⟨n, sn, un, w, tn, wl, wm, hR⟩ := hR
  refine Z_aload_n dL_law_498 rfl rfl ?_
  refine Z_aload_n dL_law_499 rfl rfl ?_
  refine Z_iload (x := nI i) dL_law_500 rfl rfl ?_
  refine Z_iconst (v := nI 1) dL_law_502 rfl (by decide) ?_
  refine Z_iadd dL_law_503 rfl ?_
  refine Z_sld (j := i + 1) (nI_ad i 1) (by omega) (by omega) dL_law_504 rfl ?_
  refine Z_aload_n dL_law_505 rfl rfl ?_
  refine Z_iload (x := nI i) dL_law_506 rfl rfl ?_
  refine Z_iconst (v := nI 2) dL_law_508 rfl (by decide) ?_
  refine Z_iadd dL_law_509 rfl ?_
  refine Z_sld (j := i + 2) (nI_ad i 2) (by omega) (by omega) dL_law_510 rfl ?_
  refine Z_callvx [.int (S.2.1 100000 (i + 1)), .int (S.2.1 100000 (i + 2))] (o_find 0 hR (S.2.1 100000 (i + 1)) (S.2.1 100000 (i + 2))) vX7_find mL_59 (by decide) dL_law_511 rfl rfl (by decide) (lw_rr hm (n' := 3) (by decide)).1 (lw_rr hm (n' := 3) (by decide)).2 (fun r S1 h hx => ?_)
  obtain ⟨v, rfl, hM⟩ := h
  rw [← hx.2 (i + 1) (by omega)] at hM
  rw [← hx.2 (i + 2) (by omega)] at hM
  refine Z_aload_n dL_law_514 rfl rfl ?_
  refine Z_aload_n dL_law_515 rfl rfl ?_
  refine Z_iload (x := nI i) dL_law_516 rfl rfl ?_
  refine Z_iconst (v := nI 1) dL_law_518 rfl (by decide) ?_
  refine Z_iadd dL_law_519 rfl ?_
  refine Z_sld (j := i + 1) (nI_ad i 1) (by rw [hx.1]; omega) (by rw [hx.1]; omega) dL_law_520 rfl ?_
  refine Z_aload_n dL_law_521 rfl rfl ?_
  refine Z_iload (x := nI i) dL_law_522 rfl rfl ?_
  refine Z_iconst (v := nI 2) dL_law_524 rfl (by decide) ?_
  refine Z_iadd dL_law_525 rfl ?_
  refine Z_sld (j := i + 2) (nI_ad i 2) (by rw [hx.1]; omega) (by rw [hx.1]; omega) dL_law_526 rfl ?_
  refine Z_callvx [.int (S1.2.1 100000 (i + 1)), .int (S1.2.1 100000 (i + 2))] hM vX8_find mL_62 (by decide) dL_law_527 rfl rfl (by simp [Value.category]) (lw_rr hm (n' := 3) (by decide)).1 (lw_rr hm (n' := 3) (by decide)).2 (fun r S2 h hy => ?_)
  obtain ⟨rfl, hR2⟩ := h
  refine Z_icmp_eq dL_law_530 rfl rfl (fun _ => ?_) (fun q => absurd rfl q)
  exact hK S2 hR2 (hy.1.trans hx.1)
theorem b_word (hm : lwR R cs ss) (hi : i + 6 ≤ dv_L S) (hL : dv_L S ≤ 3072) (hR : Rel L xs S) (hK : ∀ S1, Rel L xs S1 → dv_L S1 = dv_L S → dv_Jz yL_law cL_law 7 (some .boolean) R cs ss 1055 (lwL i l5 l6) [] S1 Q) : dv_Jz yL_law cL_law 7 (some .boolean) R cs ss 535 (lwL i l5 l6) [] S Q := by
  obtain ⟨n, sn, un, w, tn, wl, wm, hR⟩ := hR
  refine Z_aload_n dL_law_535 rfl rfl ?_
  refine Z_aload_n dL_law_536 rfl rfl ?_
  refine Z_iload (x := nI i) dL_law_537 rfl rfl ?_
  refine Z_iconst (v := nI 1) dL_law_539 rfl (by decide) ?_
  refine Z_iadd dL_law_540 rfl ?_
  refine Z_sld (j := i + 1) (nI_ad i 1) (by omega) (by omega) dL_law_541 rfl ?_
  refine Z_aload_n dL_law_542 rfl rfl ?_
  refine Z_iload (x := nI i) dL_law_543 rfl rfl ?_
  refine Z_iconst (v := nI 2) dL_law_545 rfl (by decide) ?_
  refine Z_iadd dL_law_546 rfl ?_
  refine Z_sld (j := i + 2) (nI_ad i 2) (by omega) (by omega) dL_law_547 rfl ?_
  refine Z_callvx [.int (S.2.1 100000 (i + 1)), .int (S.2.1 100000 (i + 2))] (o_word 0 hR (S.2.1 100000 (i + 1)) (S.2.1 100000 (i + 2))) vX7_word mL_63 (by decide) dL_law_548 rfl rfl (by decide) (lw_rr hm (n' := 5) (by decide)).1 (lw_rr hm (n' := 5) (by decide)).2 (fun r S1 h hx => ?_)
  obtain ⟨v, rfl, hM⟩ := h
  rw [← hx.2 (i + 1) (by omega)] at hM
  rw [← hx.2 (i + 2) (by omega)] at hM
  refine Z_aload_n dL_law_551 rfl rfl ?_
  refine Z_aload_n dL_law_552 rfl rfl ?_
  refine Z_iload (x := nI i) dL_law_553 rfl rfl ?_
  refine Z_iconst (v := nI 1) dL_law_555 rfl (by decide) ?_
  refine Z_iadd dL_law_556 rfl ?_
  refine Z_sld (j := i + 1) (nI_ad i 1) (by rw [hx.1]; omega) (by rw [hx.1]; omega) dL_law_557 rfl ?_
  refine Z_aload_n dL_law_558 rfl rfl ?_
  refine Z_iload (x := nI i) dL_law_559 rfl rfl ?_
  refine Z_iconst (v := nI 2) dL_law_561 rfl (by decide) ?_
  refine Z_iadd dL_law_562 rfl ?_
  refine Z_sld (j := i + 2) (nI_ad i 2) (by rw [hx.1]; omega) (by rw [hx.1]; omega) dL_law_563 rfl ?_
  refine Z_callvx [.int (S1.2.1 100000 (i + 1)), .int (S1.2.1 100000 (i + 2))] hM vX8_word mL_66 (by decide) dL_law_564 rfl rfl (by simp [Value.category]) (lw_rr hm (n' := 6) (by decide)).1 (lw_rr hm (n' := 6) (by decide)).2 (fun r S2 h hy => ?_)
  obtain ⟨rfl, hR2⟩ := h
  refine Z_icmp_eq dL_law_567 rfl rfl (fun _ => ?_) (fun q => absurd rfl q)
  exact hK S2 hR2 (hy.1.trans hx.1)
theorem b_shorts (hm : lwR R cs ss) (hi : i + 6 ≤ dv_L S) (hL : dv_L S ≤ 3072) (hR : Rel L xs S) (hK : ∀ S1, Rel L xs S1 → dv_L S1 = dv_L S → dv_Jz yL_law cL_law 7 (some .boolean) R cs ss 1055 (lwL i l5 l6) [] S1 Q) : dv_Jz yL_law cL_law 7 (some .boolean) R cs ss 572 (lwL i l5 l6) [] S Q := by
  obtain ⟨n, sn, un, w, tn, wl, wm, hR⟩ := hR
  refine Z_aload_n dL_law_572 rfl rfl ?_
  refine Z_aload_n dL_law_573 rfl rfl ?_
  refine Z_iload (x := nI i) dL_law_574 rfl rfl ?_
  refine Z_iconst (v := nI 1) dL_law_576 rfl (by decide) ?_
  refine Z_iadd dL_law_577 rfl ?_
  refine Z_sld (j := i + 1) (nI_ad i 1) (by omega) (by omega) dL_law_578 rfl ?_
  refine Z_aload_n dL_law_579 rfl rfl ?_
  refine Z_iload (x := nI i) dL_law_580 rfl rfl ?_
  refine Z_iconst (v := nI 2) dL_law_582 rfl (by decide) ?_
  refine Z_iadd dL_law_583 rfl ?_
  refine Z_sld (j := i + 2) (nI_ad i 2) (by omega) (by omega) dL_law_584 rfl ?_
  refine Z_callvx [.int (S.2.1 100000 (i + 1)), .int (S.2.1 100000 (i + 2))] (o_shorts 0 hR (S.2.1 100000 (i + 1)) (S.2.1 100000 (i + 2))) vX7_shorts mL_67 (by decide) dL_law_585 rfl rfl (by decide) (lw_rr hm (n' := 4) (by decide)).1 (lw_rr hm (n' := 4) (by decide)).2 (fun r S1 h hx => ?_)
  obtain ⟨v, rfl, hM⟩ := h
  rw [← hx.2 (i + 1) (by omega)] at hM
  rw [← hx.2 (i + 2) (by omega)] at hM
  refine Z_aload_n dL_law_588 rfl rfl ?_
  refine Z_aload_n dL_law_589 rfl rfl ?_
  refine Z_iload (x := nI i) dL_law_590 rfl rfl ?_
  refine Z_iconst (v := nI 1) dL_law_592 rfl (by decide) ?_
  refine Z_iadd dL_law_593 rfl ?_
  refine Z_sld (j := i + 1) (nI_ad i 1) (by rw [hx.1]; omega) (by rw [hx.1]; omega) dL_law_594 rfl ?_
  refine Z_aload_n dL_law_595 rfl rfl ?_
  refine Z_iload (x := nI i) dL_law_596 rfl rfl ?_
  refine Z_iconst (v := nI 2) dL_law_598 rfl (by decide) ?_
  refine Z_iadd dL_law_599 rfl ?_
  refine Z_sld (j := i + 2) (nI_ad i 2) (by rw [hx.1]; omega) (by rw [hx.1]; omega) dL_law_600 rfl ?_
  refine Z_callvx [.int (S1.2.1 100000 (i + 1)), .int (S1.2.1 100000 (i + 2))] hM vX8_shorts mL_71 (by decide) dL_law_601 rfl rfl (by simp [Value.category]) (lw_rr hm (n' := 3) (by decide)).1 (lw_rr hm (n' := 3) (by decide)).2 (fun r S2 h hy => ?_)
  obtain ⟨rfl, hR2⟩ := h
  refine Z_icmp_eq dL_law_604 rfl rfl (fun _ => ?_) (fun q => absurd rfl q)
  exact hK S2 hR2 (hy.1.trans hx.1)
theorem b_alike (hm : lwR R cs ss) (hi : i + 6 ≤ dv_L S) (hL : dv_L S ≤ 3072) (hR : Rel L xs S) (hK : ∀ S1, Rel L xs S1 → dv_L S1 = dv_L S → dv_Jz yL_law cL_law 7 (some .boolean) R cs ss 1055 (lwL i l5 l6) [] S1 Q) : dv_Jz yL_law cL_law 7 (some .boolean) R cs ss 609 (lwL i l5 l6) [] S Q := by
  obtain ⟨n, sn, un, w, tn, wl, wm, hR⟩ := hR
  refine Z_aload_n dL_law_609 rfl rfl ?_
  refine Z_aload_n dL_law_610 rfl rfl ?_
  refine Z_iload (x := nI i) dL_law_611 rfl rfl ?_
  refine Z_iconst (v := nI 1) dL_law_613 rfl (by decide) ?_
  refine Z_iadd dL_law_614 rfl ?_
  refine Z_sld (j := i + 1) (nI_ad i 1) (by omega) (by omega) dL_law_615 rfl ?_
  refine Z_aload_n dL_law_616 rfl rfl ?_
  refine Z_iload (x := nI i) dL_law_617 rfl rfl ?_
  refine Z_iconst (v := nI 2) dL_law_619 rfl (by decide) ?_
  refine Z_iadd dL_law_620 rfl ?_
  refine Z_sld (j := i + 2) (nI_ad i 2) (by omega) (by omega) dL_law_621 rfl ?_
  refine Z_callvx [.int (S.2.1 100000 (i + 1)), .int (S.2.1 100000 (i + 2))] (o_alike 0 hR (S.2.1 100000 (i + 1)) (S.2.1 100000 (i + 2))) vX7_alike mL_72 (by decide) dL_law_622 rfl rfl (by decide) (lw_rr hm (n' := 4) (by decide)).1 (lw_rr hm (n' := 4) (by decide)).2 (fun r S1 h hx => ?_)
  obtain ⟨v, rfl, hM⟩ := h
  rw [← hx.2 (i + 1) (by omega)] at hM
  rw [← hx.2 (i + 2) (by omega)] at hM
  refine Z_aload_n dL_law_625 rfl rfl ?_
  refine Z_aload_n dL_law_626 rfl rfl ?_
  refine Z_iload (x := nI i) dL_law_627 rfl rfl ?_
  refine Z_iconst (v := nI 1) dL_law_629 rfl (by decide) ?_
  refine Z_iadd dL_law_630 rfl ?_
  refine Z_sld (j := i + 1) (nI_ad i 1) (by rw [hx.1]; omega) (by rw [hx.1]; omega) dL_law_631 rfl ?_
  refine Z_aload_n dL_law_632 rfl rfl ?_
  refine Z_iload (x := nI i) dL_law_633 rfl rfl ?_
  refine Z_iconst (v := nI 2) dL_law_635 rfl (by decide) ?_
  refine Z_iadd dL_law_636 rfl ?_
  refine Z_sld (j := i + 2) (nI_ad i 2) (by rw [hx.1]; omega) (by rw [hx.1]; omega) dL_law_637 rfl ?_
  refine Z_callvx [.int (S1.2.1 100000 (i + 1)), .int (S1.2.1 100000 (i + 2))] hM vX8_alike mL_75 (by decide) dL_law_638 rfl rfl (by simp [Value.category]) (lw_rr hm (n' := 5) (by decide)).1 (lw_rr hm (n' := 5) (by decide)).2 (fun r S2 h hy => ?_)
  obtain ⟨rfl, hR2⟩ := h
  refine Z_icmp_eq dL_law_641 rfl rfl (fun _ => ?_) (fun q => absurd rfl q)
  exact hK S2 hR2 (hy.1.trans hx.1)
theorem b_told (hm : lwR R cs ss) (hi : i + 6 ≤ dv_L S) (hL : dv_L S ≤ 3072) (hR : Rel L xs S) (hK : ∀ S1, Rel L xs S1 → dv_L S1 = dv_L S → dv_Jz yL_law cL_law 7 (some .boolean) R cs ss 1055 (lwL i l5 l6) [] S1 Q) : dv_Jz yL_law cL_law 7 (some .boolean) R cs ss 646 (lwL i l5 l6) [] S Q := by
  obtain ⟨n, sn, un, w, tn, wl, wm, hR⟩ := hR
  refine Z_aload_n dL_law_646 rfl rfl ?_
  refine Z_aload_n dL_law_647 rfl rfl ?_
  refine Z_iload (x := nI i) dL_law_648 rfl rfl ?_
  refine Z_iconst (v := nI 1) dL_law_650 rfl (by decide) ?_
  refine Z_iadd dL_law_651 rfl ?_
  refine Z_sld (j := i + 1) (nI_ad i 1) (by omega) (by omega) dL_law_652 rfl ?_
  refine Z_aload_n dL_law_653 rfl rfl ?_
  refine Z_iload (x := nI i) dL_law_654 rfl rfl ?_
  refine Z_iconst (v := nI 2) dL_law_656 rfl (by decide) ?_
  refine Z_iadd dL_law_657 rfl ?_
  refine Z_sld (j := i + 2) (nI_ad i 2) (by omega) (by omega) dL_law_658 rfl ?_
  refine Z_callvx [.int (S.2.1 100000 (i + 1)), .int (S.2.1 100000 (i + 2))] (o_told 0 hR (S.2.1 100000 (i + 1)) (S.2.1 100000 (i + 2))) vX7_told mL_76 (by decide) dL_law_659 rfl rfl (by decide) (lw_rr hm (n' := 3) (by decide)).1 (lw_rr hm (n' := 3) (by decide)).2 (fun r S1 h hx => ?_)
  obtain ⟨v, rfl, hM⟩ := h
  rw [← hx.2 (i + 1) (by omega)] at hM
  rw [← hx.2 (i + 2) (by omega)] at hM
  refine Z_aload_n dL_law_662 rfl rfl ?_
  refine Z_aload_n dL_law_663 rfl rfl ?_
  refine Z_iload (x := nI i) dL_law_664 rfl rfl ?_
  refine Z_iconst (v := nI 1) dL_law_666 rfl (by decide) ?_
  refine Z_iadd dL_law_667 rfl ?_
  refine Z_sld (j := i + 1) (nI_ad i 1) (by rw [hx.1]; omega) (by rw [hx.1]; omega) dL_law_668 rfl ?_
  refine Z_aload_n dL_law_669 rfl rfl ?_
  refine Z_iload (x := nI i) dL_law_670 rfl rfl ?_
  refine Z_iconst (v := nI 2) dL_law_672 rfl (by decide) ?_
  refine Z_iadd dL_law_673 rfl ?_
  refine Z_sld (j := i + 2) (nI_ad i 2) (by rw [hx.1]; omega) (by rw [hx.1]; omega) dL_law_674 rfl ?_
  refine Z_callvx [.int (S1.2.1 100000 (i + 1)), .int (S1.2.1 100000 (i + 2))] hM vX8_told mL_79 (by decide) dL_law_675 rfl rfl (by simp [Value.category]) (lw_rr hm (n' := 3) (by decide)).1 (lw_rr hm (n' := 3) (by decide)).2 (fun r S2 h hy => ?_)
  obtain ⟨rfl, hR2⟩ := h
  refine Z_icmp_eq dL_law_678 rfl rfl (fun _ => ?_) (fun q => absurd rfl q)
  exact hK S2 hR2 (hy.1.trans hx.1)
theorem b_part (hm : lwR R cs ss) (hi : i + 6 ≤ dv_L S) (hL : dv_L S ≤ 3072) (hR : Rel L xs S) (hK : ∀ S1, Rel L xs S1 → dv_L S1 = dv_L S → dv_Jz yL_law cL_law 7 (some .boolean) R cs ss 1055 (lwL i l5 l6) [] S1 Q) : dv_Jz yL_law cL_law 7 (some .boolean) R cs ss 683 (lwL i l5 l6) [] S Q := by
  obtain ⟨n, sn, un, w, tn, wl, wm, hR⟩ := hR
  refine Z_aload_n dL_law_683 rfl rfl ?_
  refine Z_aload_n dL_law_684 rfl rfl ?_
  refine Z_iload (x := nI i) dL_law_685 rfl rfl ?_
  refine Z_iconst (v := nI 1) dL_law_687 rfl (by decide) ?_
  refine Z_iadd dL_law_688 rfl ?_
  refine Z_sld (j := i + 1) (nI_ad i 1) (by omega) (by omega) dL_law_689 rfl ?_
  refine Z_aload_n dL_law_690 rfl rfl ?_
  refine Z_iload (x := nI i) dL_law_691 rfl rfl ?_
  refine Z_iconst (v := nI 2) dL_law_693 rfl (by decide) ?_
  refine Z_iadd dL_law_694 rfl ?_
  refine Z_sld (j := i + 2) (nI_ad i 2) (by omega) (by omega) dL_law_695 rfl ?_
  refine Z_callvx [.int (S.2.1 100000 (i + 1)), .int (S.2.1 100000 (i + 2))] (o_part 0 hR (S.2.1 100000 (i + 1)) (S.2.1 100000 (i + 2))) vX7_part mL_80 (by decide) dL_law_696 rfl rfl (by decide) (lw_rr hm (n' := 3) (by decide)).1 (lw_rr hm (n' := 3) (by decide)).2 (fun r S1 h hx => ?_)
  obtain ⟨v, rfl, hM⟩ := h
  rw [← hx.2 (i + 1) (by omega)] at hM
  rw [← hx.2 (i + 2) (by omega)] at hM
  refine Z_aload_n dL_law_699 rfl rfl ?_
  refine Z_aload_n dL_law_700 rfl rfl ?_
  refine Z_iload (x := nI i) dL_law_701 rfl rfl ?_
  refine Z_iconst (v := nI 1) dL_law_703 rfl (by decide) ?_
  refine Z_iadd dL_law_704 rfl ?_
  refine Z_sld (j := i + 1) (nI_ad i 1) (by rw [hx.1]; omega) (by rw [hx.1]; omega) dL_law_705 rfl ?_
  refine Z_aload_n dL_law_706 rfl rfl ?_
  refine Z_iload (x := nI i) dL_law_707 rfl rfl ?_
  refine Z_iconst (v := nI 2) dL_law_709 rfl (by decide) ?_
  refine Z_iadd dL_law_710 rfl ?_
  refine Z_sld (j := i + 2) (nI_ad i 2) (by rw [hx.1]; omega) (by rw [hx.1]; omega) dL_law_711 rfl ?_
  refine Z_callvx [.int (S1.2.1 100000 (i + 1)), .int (S1.2.1 100000 (i + 2))] hM vX8_part mL_83 (by decide) dL_law_712 rfl rfl (by simp [Value.category]) (lw_rr hm (n' := 3) (by decide)).1 (lw_rr hm (n' := 3) (by decide)).2 (fun r S2 h hy => ?_)
  obtain ⟨rfl, hR2⟩ := h
  refine Z_icmp_eq dL_law_715 rfl rfl (fun _ => ?_) (fun q => absurd rfl q)
  exact hK S2 hR2 (hy.1.trans hx.1)
theorem b_way (hm : lwR R cs ss) (hi : i + 6 ≤ dv_L S) (hL : dv_L S ≤ 3072) (hR : Rel L xs S) (hK : ∀ S1, Rel L xs S1 → dv_L S1 = dv_L S → dv_Jz yL_law cL_law 7 (some .boolean) R cs ss 1055 (lwL i l5 l6) [] S1 Q) : dv_Jz yL_law cL_law 7 (some .boolean) R cs ss 720 (lwL i l5 l6) [] S Q := by
  obtain ⟨n, sn, un, w, tn, wl, wm, hR⟩ := hR
  refine Z_aload_n dL_law_720 rfl rfl ?_
  refine Z_aload_n dL_law_721 rfl rfl ?_
  refine Z_iload (x := nI i) dL_law_722 rfl rfl ?_
  refine Z_iconst (v := nI 1) dL_law_724 rfl (by decide) ?_
  refine Z_iadd dL_law_725 rfl ?_
  refine Z_sld (j := i + 1) (nI_ad i 1) (by omega) (by omega) dL_law_726 rfl ?_
  refine Z_callvx [.int (S.2.1 100000 (i + 1))] (o_way 0 hR (S.2.1 100000 (i + 1))) vX7_way mL_84 (by decide) dL_law_727 rfl rfl (by decide) (lw_rr hm (n' := 2) (by decide)).1 (lw_rr hm (n' := 2) (by decide)).2 (fun r S1 h hx => ?_)
  obtain ⟨v, rfl, hM⟩ := h
  rw [← hx.2 (i + 1) (by omega)] at hM
  refine Z_aload_n dL_law_730 rfl rfl ?_
  refine Z_aload_n dL_law_731 rfl rfl ?_
  refine Z_iload (x := nI i) dL_law_732 rfl rfl ?_
  refine Z_iconst (v := nI 1) dL_law_734 rfl (by decide) ?_
  refine Z_iadd dL_law_735 rfl ?_
  refine Z_sld (j := i + 1) (nI_ad i 1) (by rw [hx.1]; omega) (by rw [hx.1]; omega) dL_law_736 rfl ?_
  refine Z_callvx [.int (S1.2.1 100000 (i + 1))] hM vX8_way mL_87 (by decide) dL_law_737 rfl rfl (by simp [Value.category]) (lw_rr hm (n' := 2) (by decide)).1 (lw_rr hm (n' := 2) (by decide)).2 (fun r S2 h hy => ?_)
  obtain ⟨rfl, hR2⟩ := h
  refine Z_icmp_eq dL_law_740 rfl rfl (fun _ => ?_) (fun q => absurd rfl q)
  exact hK S2 hR2 (hy.1.trans hx.1)
theorem b_odd (hm : lwR R cs ss) (hi : i + 6 ≤ dv_L S) (hL : dv_L S ≤ 3072) (hR : Rel L xs S) (hK : ∀ S1, Rel L xs S1 → dv_L S1 = dv_L S → dv_Jz yL_law cL_law 7 (some .boolean) R cs ss 1055 (lwL i l5 l6) [] S1 Q) : dv_Jz yL_law cL_law 7 (some .boolean) R cs ss 745 (lwL i l5 l6) [] S Q := by
  obtain ⟨n, sn, un, w, tn, wl, wm, hR⟩ := hR
  refine Z_aload_n dL_law_745 rfl rfl ?_
  refine Z_aload_n dL_law_746 rfl rfl ?_
  refine Z_iload (x := nI i) dL_law_747 rfl rfl ?_
  refine Z_iconst (v := nI 1) dL_law_749 rfl (by decide) ?_
  refine Z_iadd dL_law_750 rfl ?_
  refine Z_sld (j := i + 1) (nI_ad i 1) (by omega) (by omega) dL_law_751 rfl ?_
  refine Z_callvx [.int (S.2.1 100000 (i + 1))] (o_odd 0 hR (S.2.1 100000 (i + 1))) vX7_odd mL_88 (by decide) dL_law_752 rfl rfl (by decide) (lw_rr hm (n' := 5) (by decide)).1 (lw_rr hm (n' := 5) (by decide)).2 (fun r S1 h hx => ?_)
  obtain ⟨v, rfl, hM⟩ := h
  rw [← hx.2 (i + 1) (by omega)] at hM
  refine Z_aload_n dL_law_755 rfl rfl ?_
  refine Z_aload_n dL_law_756 rfl rfl ?_
  refine Z_iload (x := nI i) dL_law_757 rfl rfl ?_
  refine Z_iconst (v := nI 1) dL_law_759 rfl (by decide) ?_
  refine Z_iadd dL_law_760 rfl ?_
  refine Z_sld (j := i + 1) (nI_ad i 1) (by rw [hx.1]; omega) (by rw [hx.1]; omega) dL_law_761 rfl ?_
  refine Z_callvx [.int (S1.2.1 100000 (i + 1))] hM vX8_odd mL_91 (by decide) dL_law_762 rfl rfl (by simp [Value.category]) (lw_rr hm (n' := 5) (by decide)).1 (lw_rr hm (n' := 5) (by decide)).2 (fun r S2 h hy => ?_)
  obtain ⟨rfl, hR2⟩ := h
  refine Z_icmp_eq dL_law_765 rfl rfl (fun _ => ?_) (fun q => absurd rfl q)
  exact hK S2 hR2 (hy.1.trans hx.1)
theorem b_isOdd (hm : lwR R cs ss) (hi : i + 6 ≤ dv_L S) (hL : dv_L S ≤ 3072) (hR : Rel L xs S) (hK : ∀ S1, Rel L xs S1 → dv_L S1 = dv_L S → dv_Jz yL_law cL_law 7 (some .boolean) R cs ss 1055 (lwL i l5 l6) [] S1 Q) : dv_Jz yL_law cL_law 7 (some .boolean) R cs ss 770 (lwL i l5 l6) [] S Q := by
  obtain ⟨n, sn, un, w, tn, wl, wm, hR⟩ := hR
  refine Z_aload_n dL_law_770 rfl rfl ?_
  refine Z_aload_n dL_law_771 rfl rfl ?_
  refine Z_iload (x := nI i) dL_law_772 rfl rfl ?_
  refine Z_iconst (v := nI 1) dL_law_774 rfl (by decide) ?_
  refine Z_iadd dL_law_775 rfl ?_
  refine Z_sld (j := i + 1) (nI_ad i 1) (by omega) (by omega) dL_law_776 rfl ?_
  refine Z_callvx [.int (S.2.1 100000 (i + 1))] (o_isOdd 0 hR (S.2.1 100000 (i + 1))) vX7_isOdd mL_92 (by decide) dL_law_777 rfl rfl (by decide) (lw_rr hm (n' := 3) (by decide)).1 (lw_rr hm (n' := 3) (by decide)).2 (fun r S1 h hx => ?_)
  obtain ⟨v, rfl, hM⟩ := h
  rw [← hx.2 (i + 1) (by omega)] at hM
  refine Z_aload_n dL_law_780 rfl rfl ?_
  refine Z_aload_n dL_law_781 rfl rfl ?_
  refine Z_iload (x := nI i) dL_law_782 rfl rfl ?_
  refine Z_iconst (v := nI 1) dL_law_784 rfl (by decide) ?_
  refine Z_iadd dL_law_785 rfl ?_
  refine Z_sld (j := i + 1) (nI_ad i 1) (by rw [hx.1]; omega) (by rw [hx.1]; omega) dL_law_786 rfl ?_
  refine Z_callvx [.int (S1.2.1 100000 (i + 1))] hM vX8_isOdd mL_95 (by decide) dL_law_787 rfl rfl (by simp [Value.category]) (lw_rr hm (n' := 2) (by decide)).1 (lw_rr hm (n' := 2) (by decide)).2 (fun r S2 h hy => ?_)
  obtain ⟨rfl, hR2⟩ := h
  refine Z_icmp_eq dL_law_790 rfl rfl (fun _ => ?_) (fun q => absurd rfl q)
  exact hK S2 hR2 (hy.1.trans hx.1)
theorem b_mixed (hm : lwR R cs ss) (hi : i + 6 ≤ dv_L S) (hL : dv_L S ≤ 3072) (hR : Rel L xs S) (hK : ∀ S1, Rel L xs S1 → dv_L S1 = dv_L S → dv_Jz yL_law cL_law 7 (some .boolean) R cs ss 1055 (lwL i l5 l6) [] S1 Q) : dv_Jz yL_law cL_law 7 (some .boolean) R cs ss 795 (lwL i l5 l6) [] S Q := by
  obtain ⟨n, sn, un, w, tn, wl, wm, hR⟩ := hR
  refine Z_aload_n dL_law_795 rfl rfl ?_
  refine Z_callvx [] (o_mixed 0 hR) vX7_mixed mL_96 (by decide) dL_law_796 rfl rfl (by decide) (lw_rr hm (n' := 1) (by decide)).1 (lw_rr hm (n' := 1) (by decide)).2 (fun r S1 h hx => ?_)
  obtain ⟨v, rfl, hM⟩ := h
  refine Z_aload_n dL_law_799 rfl rfl ?_
  refine Z_callvx [] hM vX8_mixed mL_99 (by decide) dL_law_800 rfl rfl (by simp [Value.category]) (lw_rr hm (n' := 6) (by decide)).1 (lw_rr hm (n' := 6) (by decide)).2 (fun r S2 h hy => ?_)
  obtain ⟨rfl, hR2⟩ := h
  refine Z_icmp_eq dL_law_803 rfl rfl (fun _ => ?_) (fun q => absurd rfl q)
  exact hK S2 hR2 (hy.1.trans hx.1)
theorem b_strange (hm : lwR R cs ss) (hi : i + 6 ≤ dv_L S) (hL : dv_L S ≤ 3072) (hR : Rel L xs S) (hK : ∀ S1, Rel L xs S1 → dv_L S1 = dv_L S → dv_Jz yL_law cL_law 7 (some .boolean) R cs ss 1055 (lwL i l5 l6) [] S1 Q) : dv_Jz yL_law cL_law 7 (some .boolean) R cs ss 808 (lwL i l5 l6) [] S Q := by
  obtain ⟨n, sn, un, w, tn, wl, wm, hR⟩ := hR
  refine Z_aload_n dL_law_808 rfl rfl ?_
  refine Z_callvx [] (o_strange 0 hR) vX7_strange mL_100 (by decide) dL_law_809 rfl rfl (by decide) (lw_rr hm (n' := 4) (by decide)).1 (lw_rr hm (n' := 4) (by decide)).2 (fun r S1 h hx => ?_)
  obtain ⟨v, rfl, hM⟩ := h
  refine Z_aload_n dL_law_812 rfl rfl ?_
  refine Z_callvx [] hM vX8_strange mL_103 (by decide) dL_law_813 rfl rfl (by simp [Value.category]) (lw_rr hm (n' := 4) (by decide)).1 (lw_rr hm (n' := 4) (by decide)).2 (fun r S2 h hy => ?_)
  obtain ⟨rfl, hR2⟩ := h
  refine Z_icmp_eq dL_law_816 rfl rfl (fun _ => ?_) (fun q => absurd rfl q)
  exact hK S2 hR2 (hy.1.trans hx.1)
theorem b_offer (hm : lwR R cs ss) (hi : i + 6 ≤ dv_L S) (hL : dv_L S ≤ 3072) (hR : Rel L xs S) (hK : ∀ S1, Rel L xs S1 → dv_L S1 = dv_L S → dv_Jz yL_law cL_law 7 (some .boolean) R cs ss 1055 (lwL i l5 l6) [] S1 Q) : dv_Jz yL_law cL_law 7 (some .boolean) R cs ss 821 (lwL i l5 l6) [] S Q := by
  obtain ⟨n, sn, un, w, tn, wl, wm, hR⟩ := hR
  refine Z_aload_n dL_law_821 rfl rfl ?_
  refine Z_aload_n dL_law_822 rfl rfl ?_
  refine Z_iload (x := nI i) dL_law_823 rfl rfl ?_
  refine Z_iconst (v := nI 1) dL_law_825 rfl (by decide) ?_
  refine Z_iadd dL_law_826 rfl ?_
  refine Z_sld (j := i + 1) (nI_ad i 1) (by omega) (by omega) dL_law_827 rfl ?_
  refine Z_callvx [.int (S.2.1 100000 (i + 1))] (o_offer 0 hR (S.2.1 100000 (i + 1))) vX7_offer mL_104 (by decide) dL_law_828 rfl rfl (by decide) (lw_rr hm (n' := 2) (by decide)).1 (lw_rr hm (n' := 2) (by decide)).2 (fun r S1 h hx => ?_)
  obtain ⟨v, rfl, hM⟩ := h
  rw [← hx.2 (i + 1) (by omega)] at hM
  refine Z_aload_n dL_law_831 rfl rfl ?_
  refine Z_aload_n dL_law_832 rfl rfl ?_
  refine Z_iload (x := nI i) dL_law_833 rfl rfl ?_
  refine Z_iconst (v := nI 1) dL_law_835 rfl (by decide) ?_
  refine Z_iadd dL_law_836 rfl ?_
  refine Z_sld (j := i + 1) (nI_ad i 1) (by rw [hx.1]; omega) (by rw [hx.1]; omega) dL_law_837 rfl ?_
  refine Z_callvx [.int (S1.2.1 100000 (i + 1))] hM vX8_offer mL_107 (by decide) dL_law_838 rfl rfl (by simp [Value.category]) (lw_rr hm (n' := 3) (by decide)).1 (lw_rr hm (n' := 3) (by decide)).2 (fun r S2 h hy => ?_)
  obtain ⟨rfl, hR2⟩ := h
  refine Z_icmp_eq dL_law_841 rfl rfl (fun _ => ?_) (fun q => absurd rfl q)
  exact hK S2 hR2 (hy.1.trans hx.1)
theorem b_rename (hm : lwR R cs ss) (hi : i + 6 ≤ dv_L S) (hL : dv_L S ≤ 3072) (hR : Rel L xs S) (hK : ∀ S1, Rel L xs S1 → dv_L S1 = dv_L S → dv_Jz yL_law cL_law 7 (some .boolean) R cs ss 1055 (lwL i l5 l6) [] S1 Q) : dv_Jz yL_law cL_law 7 (some .boolean) R cs ss 902 (lwL i l5 l6) [] S Q := by
  obtain ⟨n, sn, un, w, tn, wl, wm, hR⟩ := hR
  refine Z_aload_n dL_law_902 rfl rfl ?_
  refine Z_aload_n dL_law_903 rfl rfl ?_
  refine Z_iload (x := nI i) dL_law_904 rfl rfl ?_
  refine Z_iconst (v := nI 1) dL_law_906 rfl (by decide) ?_
  refine Z_iadd dL_law_907 rfl ?_
  refine Z_sld (j := i + 1) (nI_ad i 1) (by omega) (by omega) dL_law_908 rfl ?_
  refine Z_aload_n dL_law_909 rfl rfl ?_
  refine Z_iload (x := nI i) dL_law_910 rfl rfl ?_
  refine Z_iconst (v := nI 2) dL_law_912 rfl (by decide) ?_
  refine Z_iadd dL_law_913 rfl ?_
  refine Z_sld (j := i + 2) (nI_ad i 2) (by omega) (by omega) dL_law_914 rfl ?_
  refine Z_callvx [.int (S.2.1 100000 (i + 1)), .int (S.2.1 100000 (i + 2))] (o_rename 0 hR (S.2.1 100000 (i + 1)) (S.2.1 100000 (i + 2))) vX7_rename mL_112 (by decide) dL_law_915 rfl rfl (by decide) (lw_rr hm (n' := 3) (by decide)).1 (lw_rr hm (n' := 3) (by decide)).2 (fun r S1 h hx => ?_)
  obtain ⟨v, rfl, hM⟩ := h
  rw [← hx.2 (i + 1) (by omega)] at hM
  rw [← hx.2 (i + 2) (by omega)] at hM
  refine Z_aload_n dL_law_918 rfl rfl ?_
  refine Z_aload_n dL_law_919 rfl rfl ?_
  refine Z_iload (x := nI i) dL_law_920 rfl rfl ?_
  refine Z_iconst (v := nI 1) dL_law_922 rfl (by decide) ?_
  refine Z_iadd dL_law_923 rfl ?_
  refine Z_sld (j := i + 1) (nI_ad i 1) (by rw [hx.1]; omega) (by rw [hx.1]; omega) dL_law_924 rfl ?_
  refine Z_aload_n dL_law_925 rfl rfl ?_
  refine Z_iload (x := nI i) dL_law_926 rfl rfl ?_
  refine Z_iconst (v := nI 2) dL_law_928 rfl (by decide) ?_
  refine Z_iadd dL_law_929 rfl ?_
  refine Z_sld (j := i + 2) (nI_ad i 2) (by rw [hx.1]; omega) (by rw [hx.1]; omega) dL_law_930 rfl ?_
  refine Z_callvx [.int (S1.2.1 100000 (i + 1)), .int (S1.2.1 100000 (i + 2))] hM vX8_rename mL_115 (by decide) dL_law_931 rfl rfl (by simp [Value.category]) (lw_rr hm (n' := 4) (by decide)).1 (lw_rr hm (n' := 4) (by decide)).2 (fun r S2 h hy => ?_)
  obtain ⟨rfl, hR2⟩ := h
  refine Z_icmp_eq dL_law_934 rfl rfl (fun _ => ?_) (fun q => absurd rfl q)
  exact hK S2 hR2 (hy.1.trans hx.1)
theorem b_renames (hm : lwR R cs ss) (hi : i + 6 ≤ dv_L S) (hL : dv_L S ≤ 3072) (hR : Rel L xs S) (hK : ∀ S1, Rel L xs S1 → dv_L S1 = dv_L S → dv_Jz yL_law cL_law 7 (some .boolean) R cs ss 1055 (lwL i l5 l6) [] S1 Q) : dv_Jz yL_law cL_law 7 (some .boolean) R cs ss 939 (lwL i l5 l6) [] S Q := by
  obtain ⟨n, sn, un, w, tn, wl, wm, hR⟩ := hR
  refine Z_aload_n dL_law_939 rfl rfl ?_
  refine Z_callvx [] (o_renames 0 hR) vX7_renames mL_116 (by decide) dL_law_940 rfl rfl (by decide) (lw_rr hm (n' := 2) (by decide)).1 (lw_rr hm (n' := 2) (by decide)).2 (fun r S1 h hx => ?_)
  obtain ⟨v, rfl, hM⟩ := h
  refine Z_aload_n dL_law_943 rfl rfl ?_
  refine Z_callvx [] hM vX8_renames mL_119 (by decide) dL_law_944 rfl rfl (by simp [Value.category]) (lw_rr hm (n' := 3) (by decide)).1 (lw_rr hm (n' := 3) (by decide)).2 (fun r S2 h hy => ?_)
  obtain ⟨rfl, hR2⟩ := h
  refine Z_icmp_eq dL_law_947 rfl rfl (fun _ => ?_) (fun q => absurd rfl q)
  exact hK S2 hR2 (hy.1.trans hx.1)
theorem b_none (hm : lwR R cs ss) (hi : i + 6 ≤ dv_L S) (hL : dv_L S ≤ 3072) (hR : Rel L xs S) (hK : ∀ S1, Rel L xs S1 → dv_L S1 = dv_L S → dv_Jz yL_law cL_law 7 (some .boolean) R cs ss 1055 (lwL i l5 l6) [] S1 Q) : dv_Jz yL_law cL_law 7 (some .boolean) R cs ss 952 (lwL i l5 l6) [] S Q := by
  obtain ⟨n, sn, un, w, tn, wl, wm, hR⟩ := hR
  refine Z_aload_n dL_law_952 rfl rfl ?_
  refine Z_callvx [] (o_none 0 hR) vX7_none mL_120 (by decide) dL_law_953 rfl rfl (by decide) (lw_rr hm (n' := 2) (by decide)).1 (lw_rr hm (n' := 2) (by decide)).2 (fun r S1 h hx => ?_)
  obtain ⟨v, rfl, hM⟩ := h
  refine Z_aload_n dL_law_956 rfl rfl ?_
  refine Z_callvx [] hM vX8_none mL_123 (by decide) dL_law_957 rfl rfl (by simp [Value.category]) (lw_rr hm (n' := 3) (by decide)).1 (lw_rr hm (n' := 3) (by decide)).2 (fun r S2 h hy => ?_)
  obtain ⟨rfl, hR2⟩ := h
  refine Z_icmp_eq dL_law_960 rfl rfl (fun _ => ?_) (fun q => absurd rfl q)
  exact hK S2 hR2 (hy.1.trans hx.1)
theorem b_hinders (hm : lwR R cs ss) (hi : i + 6 ≤ dv_L S) (hL : dv_L S ≤ 3072) (hR : Rel L xs S) (hK : ∀ S1, Rel L xs S1 → dv_L S1 = dv_L S → dv_Jz yL_law cL_law 7 (some .boolean) R cs ss 1055 (lwL i l5 l6) [] S1 Q) : dv_Jz yL_law cL_law 7 (some .boolean) R cs ss 965 (lwL i l5 l6) [] S Q := by
  obtain ⟨n, sn, un, w, tn, wl, wm, hR⟩ := hR
  refine Z_aload_n dL_law_965 rfl rfl ?_
  refine Z_callvx [] (o_hinders 0 hR) vX7_hinders mL_124 (by decide) dL_law_966 rfl rfl (by decide) (lw_rr hm (n' := 3) (by decide)).1 (lw_rr hm (n' := 3) (by decide)).2 (fun r S1 h hx => ?_)
  obtain ⟨v, rfl, hM⟩ := h
  refine Z_aload_n dL_law_969 rfl rfl ?_
  refine Z_callvx [] hM vX8_hinders mL_127 (by decide) dL_law_970 rfl rfl (by simp [Value.category]) (lw_rr hm (n' := 1) (by decide)).1 (lw_rr hm (n' := 1) (by decide)).2 (fun r S2 h hy => ?_)
  obtain ⟨rfl, hR2⟩ := h
  refine Z_icmp_eq dL_law_973 rfl rfl (fun _ => ?_) (fun q => absurd rfl q)
  exact hK S2 hR2 (hy.1.trans hx.1)
theorem b_turn (hm : lwR R cs ss) (hi : i + 6 ≤ dv_L S) (hL : dv_L S ≤ 3072) (hR : Rel L xs S) (hK : ∀ S1, Rel L xs S1 → dv_L S1 = dv_L S → dv_Jz yL_law cL_law 7 (some .boolean) R cs ss 1055 (lwL i l5 l6) [] S1 Q) : dv_Jz yL_law cL_law 7 (some .boolean) R cs ss 978 (lwL i l5 l6) [] S Q := by
  obtain ⟨n, sn, un, w, tn, wl, wm, hR⟩ := hR
  refine Z_aload_n dL_law_978 rfl rfl ?_
  refine Z_callvx [] (o_turn 0 hR) vX7_turn mL_128 (by decide) dL_law_979 rfl rfl (by decide) (lw_rr hm (n' := 2) (by decide)).1 (lw_rr hm (n' := 2) (by decide)).2 (fun r S1 h hx => ?_)
  obtain ⟨v, rfl, hM⟩ := h
  refine Z_aload_n dL_law_982 rfl rfl ?_
  refine Z_callvx [] hM vX8_turn mL_131 (by decide) dL_law_983 rfl rfl (by simp [Value.category]) (lw_rr hm (n' := 3) (by decide)).1 (lw_rr hm (n' := 3) (by decide)).2 (fun r S2 h hy => ?_)
  obtain ⟨rfl, hR2⟩ := h
  refine Z_icmp_eq dL_law_986 rfl rfl (fun _ => ?_) (fun q => absurd rfl q)
  exact hK S2 hR2 (hy.1.trans hx.1)
theorem b_back (hm : lwR R cs ss) (hi : i + 6 ≤ dv_L S) (hL : dv_L S ≤ 3072) (hR : Rel L xs S) (hK : ∀ S1, Rel L xs S1 → dv_L S1 = dv_L S → dv_Jz yL_law cL_law 7 (some .boolean) R cs ss 1055 (lwL i l5 l6) [] S1 Q) : dv_Jz yL_law cL_law 7 (some .boolean) R cs ss 991 (lwL i l5 l6) [] S Q := by
  obtain ⟨n, sn, un, w, tn, wl, wm, hR⟩ := hR
  refine Z_aload_n dL_law_991 rfl rfl ?_
  refine Z_callvx [] (o_back 0 hR) vX7_back mL_132 (by decide) dL_law_992 rfl rfl (by decide) (lw_rr hm (n' := 2) (by decide)).1 (lw_rr hm (n' := 2) (by decide)).2 (fun r S1 h hx => ?_)
  obtain ⟨v, rfl, hM⟩ := h
  refine Z_aload_n dL_law_995 rfl rfl ?_
  refine Z_callvx [] hM vX8_back mL_135 (by decide) dL_law_996 rfl rfl (by simp [Value.category]) (lw_rr hm (n' := 3) (by decide)).1 (lw_rr hm (n' := 3) (by decide)).2 (fun r S2 h hy => ?_)
  obtain ⟨rfl, hR2⟩ := h
  refine Z_icmp_eq dL_law_999 rfl rfl (fun _ => ?_) (fun q => absurd rfl q)
  exact hK S2 hR2 (hy.1.trans hx.1)
theorem b_keep (hm : lwR R cs ss) (hi : i + 6 ≤ dv_L S) (hL : dv_L S ≤ 3072) (hR : Rel L xs S) (hK : ∀ S1, Rel L xs S1 → dv_L S1 = dv_L S → dv_Jz yL_law cL_law 7 (some .boolean) R cs ss 1055 (lwL i l5 l6) [] S1 Q) : dv_Jz yL_law cL_law 7 (some .boolean) R cs ss 1004 (lwL i l5 l6) [] S Q := by
  obtain ⟨n, sn, un, w, tn, wl, wm, hR⟩ := hR
  refine Z_aload_n dL_law_1004 rfl rfl ?_
  refine Z_callvx [] (o_keep 0 hR) vX7_keep mL_136 (by decide) dL_law_1005 rfl rfl (by decide) (lw_rr hm (n' := 2) (by decide)).1 (lw_rr hm (n' := 2) (by decide)).2 (fun r S1 h hx => ?_)
  obtain ⟨v, rfl, hM⟩ := h
  refine Z_aload_n dL_law_1008 rfl rfl ?_
  refine Z_callvx [] hM vX8_keep mL_139 (by decide) dL_law_1009 rfl rfl (by simp [Value.category]) (lw_rr hm (n' := 2) (by decide)).1 (lw_rr hm (n' := 2) (by decide)).2 (fun r S2 h hy => ?_)
  obtain ⟨rfl, hR2⟩ := h
  refine Z_icmp_eq dL_law_1012 rfl rfl (fun _ => ?_) (fun q => absurd rfl q)
  exact hK S2 hR2 (hy.1.trans hx.1)
theorem b_count (hm : lwR R cs ss) (hi : i + 6 ≤ dv_L S) (hL : dv_L S ≤ 3072) (hR : Rel L xs S) (hK : ∀ S1, Rel L xs S1 → dv_L S1 = dv_L S → dv_Jz yL_law cL_law 7 (some .boolean) R cs ss 1055 (lwL i l5 l6) [] S1 Q) : dv_Jz yL_law cL_law 7 (some .boolean) R cs ss 1017 (lwL i l5 l6) [] S Q := by
  obtain ⟨n, sn, un, w, tn, wl, wm, hR⟩ := hR
  refine Z_aload_n dL_law_1017 rfl rfl ?_
  refine Z_aload_n dL_law_1018 rfl rfl ?_
  refine Z_iload (x := nI i) dL_law_1019 rfl rfl ?_
  refine Z_iconst (v := nI 1) dL_law_1021 rfl (by decide) ?_
  refine Z_iadd dL_law_1022 rfl ?_
  refine Z_sld (j := i + 1) (nI_ad i 1) (by omega) (by omega) dL_law_1023 rfl ?_
  refine Z_callvx [.int (S.2.1 100000 (i + 1))] (o_count 0 hR (S.2.1 100000 (i + 1))) vX7_count mL_140 (by decide) dL_law_1024 rfl rfl (by decide) (lw_rr hm (n' := 2) (by decide)).1 (lw_rr hm (n' := 2) (by decide)).2 (fun r S1 h hx => ?_)
  obtain ⟨v, rfl, hM⟩ := h
  rw [← hx.2 (i + 1) (by omega)] at hM
  refine Z_aload_n dL_law_1027 rfl rfl ?_
  refine Z_aload_n dL_law_1028 rfl rfl ?_
  refine Z_iload (x := nI i) dL_law_1029 rfl rfl ?_
  refine Z_iconst (v := nI 1) dL_law_1031 rfl (by decide) ?_
  refine Z_iadd dL_law_1032 rfl ?_
  refine Z_sld (j := i + 1) (nI_ad i 1) (by rw [hx.1]; omega) (by rw [hx.1]; omega) dL_law_1033 rfl ?_
  refine Z_callvx [.int (S1.2.1 100000 (i + 1))] hM vX8_count mL_143 (by decide) dL_law_1034 rfl rfl (by simp [Value.category]) (lw_rr hm (n' := 2) (by decide)).1 (lw_rr hm (n' := 2) (by decide)).2 (fun r S2 h hy => ?_)
  obtain ⟨rfl, hR2⟩ := h
  refine Z_icmp_eq dL_law_1037 rfl rfl (fun _ => ?_) (fun q => absurd rfl q)
  exact hK S2 hR2 (hy.1.trans hx.1)
theorem b_trouble (hm : lwR R cs ss) (hi : i + 6 ≤ dv_L S) (hL : dv_L S ≤ 3072) (hR : Rel L xs S) (hK : ∀ S1, Rel L xs S1 → dv_L S1 = dv_L S → dv_Jz yL_law cL_law 7 (some .boolean) R cs ss 1055 (lwL i l5 l6) [] S1 Q) : dv_Jz yL_law cL_law 7 (some .boolean) R cs ss 1042 (lwL i l5 l6) [] S Q := by
  obtain ⟨n, sn, un, w, tn, wl, wm, hR⟩ := hR
  refine Z_aload_n dL_law_1042 rfl rfl ?_
  refine Z_callvx [] (o_trouble 0 hR) vX7_trouble mL_144 (by decide) dL_law_1043 rfl rfl (by decide) (lw_rr hm (n' := 1) (by decide)).1 (lw_rr hm (n' := 1) (by decide)).2 (fun r S1 h hx => ?_)
  obtain ⟨v, rfl, hM⟩ := h
  refine Z_aload_n dL_law_1046 rfl rfl ?_
  refine Z_callvx [] hM vX8_trouble mL_147 (by decide) dL_law_1047 rfl rfl (by simp [Value.category]) (lw_rr hm (n' := 1) (by decide)).1 (lw_rr hm (n' := 1) (by decide)).2 (fun r S2 h hy => ?_)
  obtain ⟨rfl, hR2⟩ := h
  refine Z_icmp_eq dL_law_1050 rfl rfl (fun _ => ?_) (fun q => absurd rfl q)
  exact hK S2 hR2 (hy.1.trans hx.1)
end
