theorem nX4_34 : (RX4, 34, yX7_isDigit) ∈ dv_NL := List.mem_of_getElem? (i := 0) rfl
theorem nX4_37 : (RX4, 37, yX7_isLetter) ∈ dv_NL := List.mem_of_getElem? (i := 1) rfl
theorem nX4_40 : (RX4, 40, yX7_isSmall) ∈ dv_NL := List.mem_of_getElem? (i := 2) rfl
theorem nX4_43 : (RX4, 43, yX7_isGreat) ∈ dv_NL := List.mem_of_getElem? (i := 3) rfl
theorem nX1_56 : (RX1, 56, yX7_smallOf) ∈ dv_NL := List.mem_of_getElem? (i := 4) rfl
theorem nX1_41 : (RX1, 41, yX7_isDigit) ∈ dv_NL := List.mem_of_getElem? (i := 5) rfl
theorem nX1_76 : (RX1, 76, yX7_isGreat) ∈ dv_NL := List.mem_of_getElem? (i := 6) rfl
theorem nX1_71 : (RX1, 71, yX7_isSmall) ∈ dv_NL := List.mem_of_getElem? (i := 7) rfl
theorem dv_rf4_0 {a : Nat} (h : dv_kd a = 4) : dv_rf a 0 = some (a + 1) := by simp [dv_rf, h]
theorem dv_rf4_1 {a : Nat} (h : dv_kd a = 4) : dv_rf a 1 = none := by simp [dv_rf, h]
theorem dv_rf4_2 {a : Nat} (h : dv_kd a = 4) : dv_rf a 2 = none := by simp [dv_rf, h]
section
variable {y : MethodName} {cc : ByteArray} {n : Nat} {ret : Option FieldType} {d pc pc' : Nat} {l l' : List (Option Value)} {st : List Value} {S S1 : dv_S} {Q : Option Value → dv_S → Prop}
variable {y' : MethodName} {cc' : ByteArray} {n' : Nat} {ret' : Option FieldType} {a ci idx : Nat} {As rest : List Value} {v : Value} {Qc : Option Value → dv_S → Prop}
theorem J_v1 (hM : dv_M y' cc' n' ret' (dv_rm d) (.ref a :: As) S (fun r S' => r = some v ∧ S' = S1)) (hf : dv_mv y' cc' n' ret' As.length ci) (hlk : Cond.methodLink y.cls idx y' ∈ dv_T) (ha : dv_kd a = ci) (hd : decode cc pc = .ok (.invokevirtual idx, 3)) (hp : pc + 3 = pc') (hst : st = As.reverse ++ .ref a :: rest) (hrm : (rest.map fun v => v.category).sum ≤ 8) (hn : n' ≤ 13) (k : dv_J y cc n ret (dv_rm (d + 1)) 0 0 pc' l (v :: rest) S1 Q) : dv_J y cc n ret (dv_rm (d + 1)) 0 0 pc l st S Q :=
  J_callv As hM hf hlk ha hd hp hst hrm (dv_rR d hn) (dv_r0 _ _) (fun r S' h => by obtain ⟨rfl, rfl⟩ := h; exact k)
theorem J_v0 (hM : dv_M y' cc' n' ret' (dv_rm d) (.ref a :: As) S (fun r S' => r = none ∧ S' = S1)) (hf : dv_mv y' cc' n' ret' As.length ci) (hlk : Cond.methodLink y.cls idx y' ∈ dv_T) (ha : dv_kd a = ci) (hd : decode cc pc = .ok (.invokevirtual idx, 3)) (hp : pc + 3 = pc') (hst : st = As.reverse ++ .ref a :: rest) (hrm : (rest.map fun v => v.category).sum ≤ 8) (hn : n' ≤ 13) (k : dv_J y cc n ret (dv_rm (d + 1)) 0 0 pc' l rest S1 Q) : dv_J y cc n ret (dv_rm (d + 1)) 0 0 pc l st S Q :=
  J_callv As hM hf hlk ha hd hp hst hrm (dv_rR d hn) (dv_r0 _ _) (fun r S' h => by obtain ⟨rfl, rfl⟩ := h; exact k)
theorem J_vq (hM : dv_M y' cc' n' ret' (dv_rm d) (.ref a :: As) S Qc) (hf : dv_mv y' cc' n' ret' As.length ci) (hlk : Cond.methodLink y.cls idx y' ∈ dv_T) (ha : dv_kd a = ci) (hd : decode cc pc = .ok (.invokevirtual idx, 3)) (hp : pc + 3 = pc') (hst : st = As.reverse ++ .ref a :: rest) (hrm : (rest.map fun v => v.category).sum ≤ 8) (hn : n' ≤ 13) (k : ∀ r S', Qc r S' → dv_J y cc n ret (dv_rm (d + 1)) 0 0 pc' l (r.toList ++ rest) S' Q) : dv_J y cc n ret (dv_rm (d + 1)) 0 0 pc l st S Q :=
  J_callv As hM hf hlk ha hd hp hst hrm (dv_rR d hn) (dv_r0 _ _) k
theorem J_s1 (hM : dv_M y' cc' n' ret' (dv_rm d) As S (fun r S' => r = some v ∧ S' = S1)) (hf : dv_ms y' cc' n' ret' As.length) (hlk : Cond.methodLink y.cls idx y' ∈ dv_T) (hd : decode cc pc = .ok (.invokestatic idx, 3)) (hp : pc + 3 = pc') (hst : st = As.reverse ++ rest) (hrm : (rest.map fun v => v.category).sum ≤ 8) (hn : n' ≤ 13) (k : dv_J y cc n ret (dv_rm (d + 1)) 0 0 pc' l (v :: rest) S1 Q) : dv_J y cc n ret (dv_rm (d + 1)) 0 0 pc l st S Q :=
  J_calls As hM hf hlk hd hp hst hrm (dv_rR d hn) (dv_r0 _ _) (fun r S' h => by obtain ⟨rfl, rfl⟩ := h; exact k)
theorem J_n1 (hM : dv_M y' cc' n' ret' (dv_rm d) As S (fun r S' => r = some v ∧ S' = S1)) (hf : dv_ms y' cc' n' ret' As.length) (hlk : (y.cls, idx, y') ∈ dv_NL) (hd : decode cc pc = .ok (.invokestatic idx, 3)) (hp : pc + 3 = pc') (hst : st = As.reverse ++ rest) (hrm : (rest.map fun v => v.category).sum ≤ 8) (hn : n' ≤ 13) (k : dv_J y cc n ret (dv_rm (d + 1)) 0 0 pc' l (v :: rest) S1 Q) : dv_J y cc n ret (dv_rm (d + 1)) 0 0 pc l st S Q :=
  J_calln As hM hf hlk hd hp hst hrm (dv_rR d hn) (dv_r0 _ _) (fun r S' h => by obtain ⟨rfl, rfl⟩ := h; exact k)
end

theorem dv_pr_drop {scr b : Nat} {l : List (Option Value)} {j : Nat} {q : Nat × Value} (h : q ∈ dv_pr scr b 0 (l.set j none)) : q ∈ dv_pr scr b 0 l := by
  obtain ⟨i, v, rfl, hi⟩ := dv_pr_of _ _ _ h
  refine dv_pr_in l 0 i v ?_
  by_cases hj : i = j
  · subst hj
    rw [List.getElem?_set_self (by have := (List.getElem?_eq_some_iff.mp hi).1; simpa using this)] at hi
    cases hi
  · rwa [List.getElem?_set_ne (Ne.symm hj)] at hi
theorem J_drop {y : MethodName} {cc : ByteArray} {n : Nat} {ret : Option FieldType} {R : Room} {cs ss pc : Nat} {l l' : List (Option Value)} {st : List Value} {S : dv_S} {Q : Option Value → dv_S → Prop} (j : Nat) (hs : l.set j none = l') (k : dv_J y cc n ret R cs ss pc l' st S Q) : dv_J y cc n ret R cs ss pc l st S Q := by
  intro la b scr dC dI dA p e s m args below meth c H locs ls hc hl hP hS hX
  subst hs
  exact k la b scr dC dI dA p e s m args below meth c H locs ls hc ⟨hl.1, hl.2.1, fun q hq => hl.2.2 q (dv_pr_drop hq)⟩ hP hS hX
