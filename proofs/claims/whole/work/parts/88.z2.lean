theorem va_X_u {scr L L' : Nat} {f f' : Nat → Int32} {s : State} {H : Heap} (h : va_X scr L f s H) (h' : va_X scr L' f' s H) : L' = L ∧ ∀ j, j < L → f' j = f j := by
  obtain ⟨a, h1, h2, h3, h4, h5⟩ := h
  obtain ⟨a', h1', h2', h3', h4', h5'⟩ := h'
  rw [h1] at h1'
  have e : a = a' := Option.some.inj h1'
  subst e
  have hL : L' = L := by rw [← h4, ← h4']
  subst hL
  refine ⟨rfl, fun j hj => ?_⟩
  have x1 := h5 j hj
  have x2 := h5' j hj
  rw [x1] at x2
  injection Option.some.inj x2 with x
  exact x.symm
section
variable {y : MethodName} {cc : ByteArray} {n : Nat} {ret : Option FieldType} {R : Room} {cs ss pc pc' : Nat} {l l' : List (Option Value)} {st : List Value} {S : dv_S} {Q : dv_ZT}
theorem Z_callvx {y' : MethodName} {cc' : ByteArray} {n' : Nat} {ret' : Option FieldType} {R' : Room} {Qc : Option Value → dv_S → Prop} {a ci idx : Nat} (As : List Value) {rest : List Value} (hM : dv_M y' cc' n' ret' R' (.ref a :: As) S Qc) (hf : dv_mv y' cc' n' ret' As.length ci) (hlk : Cond.methodLink y.cls idx y' ∈ dv_T) (ha : dv_kd a = ci) (hd : decode cc pc = .ok (.invokevirtual idx, 3)) (hp : pc + 3 = pc') (hst : st = As.reverse ++ .ref a :: rest) (hrm : (rest.map fun v => v.category).sum ≤ 8) (hR : R'.frames + 1 ≤ R.frames ∧ 8 + (n' + 11) + R'.locals ≤ R.locals) (hcs : cs + R'.cells ≤ R.cells ∧ ss + R'.slots ≤ R.slots)
    (kk : ∀ (r : Option Value) (S' : dv_S), Qc r S' → (dv_L S' = dv_L S ∧ ∀ j, j < dv_L S → S'.2.1 100000 j = S.2.1 100000 j) → dv_Jz y cc n ret R (cs + R'.cells) (ss + R'.slots) pc' l (r.toList ++ rest) S' Q) : dv_Jz y cc n ret R cs ss pc l st S Q := by
  intro la b scr dC dI dA p e s m args below meth c H locs ls hc hl hP hS hX
  subst hp
  subst hst
  obtain ⟨⟨f1, f2, f3, f4⟩, f5, f6, T, N, f7, f8, f9, -⟩ := hf
  have hsb := hc.2.2.2.2.2.2.2.2.1
  have hbs := hc.2.2.2.2.2.2.2.2.2.1
  have hts := hc.2.2.2.2.2.2.1
  have h545 := dv_lt (a := a) (by omega)
  obtain ⟨q0, hq⟩ := dv_get dA b S h545
  rw [dv_cell_o ha f8] at hq
  have hK := hc.2.2.2.2.2.2.2.1
  refine dv_after (va_runV (b := b + dv_p a) (As := As.map (dv_tr scr b)) (rest := rest.map (dv_tr scr b)) (C := y'.cls) ⟨hc.1, hc.2.1, hc.2.2.1, hc.2.2.2.2.2.1, hts⟩ (hM la b scr dC dI dA hsb) (n := As.length) (mc := R'.cells) (ms := R'.slots)
    ⟨callB_of As.length hts (dv_good f1) rfl rfl rfl (hts _ f2) (hts _ hlk) ⟨f3.1, f3.2, f4⟩ hR, hts _ f5, hts _ f6⟩
    ⟨dv_blind, va_recv hK hP f7 hq, fun U hU hW => ⟨?_, ?_, va_K.moved hW.alike hK, ?_, ?_, hc.2.2.2.2.2.2.2.2.2.2.warm hW⟩⟩ rfl (List.length_map _) hl.1 ?_ ?_ hd hcs) hS hsb hbs (fun r S' H1 locs1 hqc hP1 hX1 hS1 => ?_)
  · rw [List.map_cons, dv_tr_ref h545]
  · rw [hU]; exact Nat.le_trans hbs hS.1
  · rw [hU]; exact hP
  · rw [hU]; exact va_X.moved hW.alike (va_X.kept hX (hS.2.1 scr (by omega) (by simp only [Nat.not_le]; exact hsb)))
  · show (As.reverse ++ Value.ref a :: rest).map (dv_tr scr b) = _
    rw [List.map_append, List.map_reverse, List.map_cons, dv_tr_ref h545]
  · show 2 * 0 + _ ≤ 8
    rw [List.map_map]
    have : ((fun v : Value => v.category) ∘ dv_tr scr b) = fun v => v.category := by funext v; exact dv_tr_cat scr b v
    rw [this]; omega
  · have h := kk r S' hqc (va_X_u hX hX1) la b scr dC dI dA p e s m args below meth c H1 locs1 ls hc hl hP1 hS1 hX1
    have h5 : (r.toList ++ rest).map (dv_tr scr b) = (r.map (dv_tr scr b)).toList ++ rest.map (dv_tr scr b) := by
      cases r <;> simp
    rw [h5] at h
    exact h
end
