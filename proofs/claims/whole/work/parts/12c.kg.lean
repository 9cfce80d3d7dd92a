theorem J_min {cc : ByteArray} {n : Nat} {ret : Option FieldType} {R : Room} {cs ss pc pc' : Nat} {l : List (Option Value)} {st : List Value} {S : dv_S} {Q : Option Value → dv_S → Prop} {y : MethodName} {x z : Int32} (hy : y.cls = RX1) (hcs : cs ≤ R.cells ∧ ss ≤ R.slots) (hR : 1 ≤ R.frames ∧ 21 ≤ R.locals) (hrm : (st.map fun v => v.category).sum ≤ 8) (hd : decode cc pc = .ok (.invokestatic 49, 3)) (hp : pc + 3 = pc') (k : dv_J y cc n ret R cs ss pc' l (.int (if z < x then z else x) :: st) S Q) : dv_J y cc n ret R cs ss pc l (.int z :: .int x :: st) S Q := by
  intro la b scr dC dI dA p e s m args below meth c H locs ls hc hl hP hS hX
  subst hp
  have hts := hc.2.2.2.2.2.2.1
  have hown := hc.2.2.2.2.2.1
  rw [hy] at hown
  refine va_mmin hc.1 hc.2.1 (hc.2.2.1.trans hl.1.symm) hown (hts _ mX1_49) (hts _ vJ9_min_7cf53.2) (hts _ vJ9_min_7cf53.1.2.1) (hts _ vJ9_min_7cf53.1.1) hR.1 ?_ hcs.1 hcs.2 hd (k la b scr dC dI dA p e s m args below meth c H locs ls hc hl hP hS hX)
  rw [List.map_map]
  have : ((fun v : Value => v.category) ∘ dv_tr scr b) = fun v => v.category := by funext v; exact dv_tr_cat scr b v
  rw [this]; omega
theorem dv_rmin (d : Nat) : 1 ≤ (dv_rm (d + 1)).frames ∧ 21 ≤ (dv_rm (d + 1)).locals := ⟨Nat.le_add_left 1 d, by show 21 ≤ 32 * (d + 1); omega⟩
