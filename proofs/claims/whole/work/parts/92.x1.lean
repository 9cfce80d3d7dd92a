def dv_bad : List Cond := [.castable dv_EX dv_EX, .declares (Bundle.initS dv_RT), .declares (Bundle.initS "java/lang/Exception"), .declares (Bundle.initS Bundle.tN)]
theorem dv_bad_ok : ∀ w ∈ dv_ownS.filter (fun w => !goodWord w), w ∈ dv_bad := by decide +kernel
theorem dv_own_l : ∀ w ∈ dv_ownS.filter goodWord, w ∈ lw_tbl := by decide +kernel
theorem dv_own_in : ∀ w ∈ dv_ownS.filter goodWord, w ∈ dv_T := fun w hw => List.mem_filter.mpr ⟨dv_own_l w hw, (List.mem_filter.mp hw).2⟩
theorem dv_own_ot : ∀ w ∈ Cond.classLink "NameHouse" 186 dv_EX :: Cond.initialized dv_EX :: dv_ownS, vx_ot w = true := by decide +kernel
theorem x_186 : Cond.classLink "NameHouse" 186 dv_EX ∈ dv_T := dv_T_in (i := 765) (by decide +kernel) rfl
theorem x_ini : Cond.initialized dv_EX ∈ dv_T := dv_T_in (i := 61) (by decide +kernel) rfl
theorem x_13 : Cond.classLink RL 13 dv_EX ∈ dv_T := dv_T_in (i := 759) (by decide +kernel) rfl
/-- what a throw needs of the state -/
def dv_px (b : Nat) (U : State) : Prop :=
  (∃ sa, vk_R "NameHouse" 188 "no such byte of a name" sa U) ∧ (∃ sa, vk_R "NameHouse" 286 "no such byte of the offer" sa U) ∧ (∀ w ∈ dv_bad, va_Nw w U) ∧
  vx_Zq Bundle.tN "UNASSIGNED_STACK" Bundle.steD (fun q => b ≤ q) U U.heap ∧ vx_Zq Bundle.tN "SUPPRESSED_SENTINEL" Bundle.listD (fun q => b ≤ q) U U.heap
theorem dv_bad_on {w : Cond} (h : w ∈ dv_bad) : w.onTables = true := by
  simp only [dv_bad, List.mem_cons, List.not_mem_nil, or_false] at h
  rcases h with rfl | rfl | rfl | rfl <;> rfl
theorem dv_px.go {b : Nat} {s U : State} {H : Heap} {locs : List Loc} (h : dv_px b s) (hS : va_S (fun q => b ≤ q) s.heap H locs) (hU : U.heap = H) (hW : s.WarmedH U.vm) : dv_px b U := by
  obtain ⟨⟨s1, h1⟩, ⟨s2, h2⟩, h3, h4, h5⟩ := h
  refine ⟨⟨s1, vk_R.warm hW h1⟩, ⟨s2, vk_R.warm hW h2⟩, fun w hw => ?_, ?_, ?_⟩
  · have q := h3 w hw
    simp only [dv_bad, List.mem_cons, List.not_mem_nil, or_false] at hw
    rcases hw with rfl | rfl | rfl | rfl
    · exact va_Nw.warmC hW q
    · exact va_Nw.warmD hW q
    · exact va_Nw.warmD hW q
    · exact va_Nw.warmD hW q
  · rw [hU]; exact vx_Zq.moved hW.alike (h4.kept hS.2.1)
  · rw [hU]; exact vx_Zq.moved hW.alike (h5.kept hS.2.1)
theorem dv_px.call {b : Nat} {U : State} (g : JFrame) (mk : MethodId) (a : Array Value) (h : dv_px b U) : dv_px b (U.calling g mk a) := by
  obtain ⟨⟨s1, h1⟩, ⟨s2, h2⟩, h3, h4, h5⟩ := h
  exact ⟨⟨s1, vk_R.same (u := U) (U := U.calling g mk a) rfl h1⟩, ⟨s2, vk_R.same (u := U) (U := U.calling g mk a) rfl h2⟩, fun w hw => va_Nw.same (u := U) (U := U.calling g mk a) (dv_bad_on hw) rfl (h3 w hw),
    vx_Zq.moved (u := U) (U := U.calling g mk a) (Vm.Alike.refl U.vm) h4, vx_Zq.moved (u := U) (U := U.calling g mk a) (Vm.Alike.refl U.vm) h5⟩
def dv_pc (scr b : Nat) (dC : Nat → ClassId) (dI : Nat → Nat → Nat) (dA : Nat → ClassId) (S : dv_S) (U : State) : Prop :=
  (b ≤ U.heap.size ∧ va_K (dC, dI) vwCl (dv_tys dA) U ∧ va_P (dC, dI) vwCl (dv_ws dA b S) U.heap ∧ va_X scr (dv_L S) (S.2.1 100000) U U.heap ∧ dv_nw U) ∧ dv_px b U
theorem dv_blindx {av : List Value} {S : dv_S} {scr b : Nat} {dC : Nat → ClassId} {dI : Nat → Nat → Nat} {dA : Nat → ClassId} : FrameBlind (va_Pc (av.map (dv_tr scr b)) (dv_pc scr b dC dI dA S)) := by
  intro a U g mk q
  obtain ⟨q0, ⟨q1, q2, q3, q4, q5⟩, q6⟩ := q
  exact ⟨q0, ⟨q1, va_K.moved (u := U) (U := U.calling g mk a) (Vm.Alike.refl U.vm) q2, q3, va_X.moved (u := U) (U := U.calling g mk a) (Vm.Alike.refl U.vm) q4, dv_nw.same (s := U) (U := U.calling g mk a) rfl q5⟩, q6.call g mk a⟩
section
variable {p : Program} {l : Launch} {e : Env} {R : Room} {s : State} {m : MethodId} {args : Array Value} {below : List Frame} {meth : Method} {c : Code} {H : Heap} {locs : List Loc} {cells slots : Nat} {Q Q' : State → Prop} {g : JFrame}
theorem W_imp (h : ∀ t, Q t → Q' t) (k : W p l e R s m args below meth c H locs cells slots Q g) : W p l e R s m args below meth c H locs cells slots Q' g := by
  intro T hT X
  obtain ⟨t, a, b⟩ := k T hT X
  exact ⟨t, a, h t b⟩
theorem W_by {P : Prop} (k : P → W p l e R s m args below meth c H locs cells slots Q g) (hq : ¬ P → ∀ t, Q t) : W p l e R s m args below meth c H locs cells slots Q g := by
  by_cases hp : P
  · exact k hp
  · intro T hT X
    exact ⟨_, Steps.refl _, hq hp _⟩
end
/-- under what the place gives -/
def dv_qx (Px : Launch → Nat → State → Code → Prop) (Q : dv_ZT) : dv_ZT := fun la b scr dC dI dA p s m args below meth c t => Px la b s c → Q la b scr dC dI dA p s m args below meth c t
def pxE : Launch → Nat → State → Code → Prop := fun la b s c => la.stackTraces = false ∧ dv_px b s ∧ ∀ x ∈ c.exceptionTable.toList, False
def pxH (hh : List (Nat × Nat × Nat × Nat)) : Launch → Nat → State → Code → Prop := fun la b s c => la.stackTraces = false ∧ dv_px b s ∧ c.exceptionTable.toList = tableOf hh
def pxL : Launch → Nat → State → Code → Prop := fun la b s _ => la.stackTraces = false ∧ dv_px b s
def dv_XC (b : Nat) (dC : Nat → ClassId) (dI : Nat → Nat → Nat) (dA : Nat → ClassId) (S : dv_S) : String → State → State → Prop := fun E st t => E = dv_EX ∧ va_P (dC, dI) vwCl (dv_ws dA b S) t.heap ∧ va_F (fun q => b ≤ q) st t
def dv_Qt (R : Room) (S : dv_S) : dv_ZT := fun _ b _ dC dI dA _ s _ args below _ _ => vx_MQ below (fun _ _ _ _ => False) (dv_XC b dC dI dA S) args s R.cells R.slots (fun q => b ≤ q)
def dv_Qh (R : Room) (Q : Option Value → dv_S → Prop) : dv_ZT := fun _ b scr dC dI dA _ s _ args below _ _ => vx_MQ below (dv_Q dC dI dA scr b Q) (fun _ _ _ => False) args s R.cells R.slots (fun q => b ≤ q)
section
variable {y : MethodName} {cc : ByteArray} {n : Nat} {ret : Option FieldType} {R : Room} {cs ss pc pc' : Nat} {l l' : List (Option Value)} {st : List Value} {S : dv_S} {Q : dv_ZT}
theorem Z_thrS {is : Nat} {text : String} (hy : y.cls = "NameHouse") (hstr : ∀ b s, dv_px b s → ∃ sa, vk_R "NameHouse" is text sa s) (d0 : decode cc pc = .ok (.new 186, 3)) (d3 : decode cc (pc + 3) = .ok (.dup, 1)) (d4 : decode cc (pc + 4) = .ok (.ldc is, 2)) (d6 : decode cc (pc + 6) = .ok (.invokespecial 190, 3)) (d9 : decode cc (pc + 9) = .ok (.athrow, 1))
    (hRf : 5 < R.frames) (hRl : 82 ≤ R.locals) (hcs : cs + 1 ≤ R.cells ∧ ss + 6 ≤ R.slots) : dv_Jz y cc n ret R cs ss pc l [] S (dv_qx pxE (dv_Qt R S)) := by
  intro la b scr dC dI dA p e s m args below meth c H locs ls hc hl hP hS hX
  refine W_by (P := pxE la b s c) (fun hp => ?_) (fun hn t q => absurd q hn)
  obtain ⟨hlt, hpx, htab⟩ := hp
  obtain ⟨sa, hsa⟩ := hstr b s hpx
  have hts := hc.2.2.2.2.2.2.1
  have hown := hc.2.2.2.2.2.1
  rw [hy] at hown
  refine W_imp (fun t q _ => q) ?_
  refine dv_throwS hc.1 hc.2.1 hlt hown (hts _ x_186) (hts _ x_ini) hsa (vx_hat (fun w hw => hts w (dv_own_in w hw)) dv_bad_ok (fun w hw => va_Nw.use (dv_bad_on hw) (hpx.2.2.1 w hw))) dv_own_ot hpx.2.2.2.1 hpx.2.2.2.2 hS (hl.1.trans hc.2.2.1.symm) d0 d3 d4 d6 d9 (fun x hx => absurd (htab x hx) id) hRf hRl hcs.1 hcs.2 hc.2.2.2.2.1 (fun t ha hz hk => ⟨rfl, ?_, ?_, ?_⟩) hS.2.2 hcs.1 hcs.2
  · exact hP.kept (fun k q hq => hk _ (vx_lt hP hq))
  · exact Nat.le_trans hS.1 hz
  · intro q hq hn
    exact (hk q (Nat.lt_of_lt_of_le hq hS.1)).trans (hS.2.1 q hq hn)
theorem Z_thrSW {is : Nat} {text : String} (hy : y.cls = "NameHouse") (hstr : ∀ b s, dv_px b s → ∃ sa, vk_R "NameHouse" is text sa s) (d0 : decode cc pc = .ok (.new 186, 3)) (d3 : decode cc (pc + 3) = .ok (.dup, 1)) (d4 : decode cc (pc + 4) = .ok (.ldc_w is, 3)) (d6 : decode cc (pc + 7) = .ok (.invokespecial 190, 3)) (d9 : decode cc (pc + 10) = .ok (.athrow, 1))
    (hRf : 5 < R.frames) (hRl : 82 ≤ R.locals) (hcs : cs + 1 ≤ R.cells ∧ ss + 6 ≤ R.slots) : dv_Jz y cc n ret R cs ss pc l [] S (dv_qx pxE (dv_Qt R S)) := by
  intro la b scr dC dI dA p e s m args below meth c H locs ls hc hl hP hS hX
  refine W_by (P := pxE la b s c) (fun hp => ?_) (fun hn t q => absurd q hn)
  obtain ⟨hlt, hpx, htab⟩ := hp
  obtain ⟨sa, hsa⟩ := hstr b s hpx
  have hts := hc.2.2.2.2.2.2.1
  have hown := hc.2.2.2.2.2.1
  rw [hy] at hown
  refine W_imp (fun t q _ => q) ?_
  refine dv_throwSW hc.1 hc.2.1 hlt hown (hts _ x_186) (hts _ x_ini) hsa (vx_hat (fun w hw => hts w (dv_own_in w hw)) dv_bad_ok (fun w hw => va_Nw.use (dv_bad_on hw) (hpx.2.2.1 w hw))) dv_own_ot hpx.2.2.2.1 hpx.2.2.2.2 hS (hl.1.trans hc.2.2.1.symm) d0 d3 d4 d6 d9 (fun x hx => absurd (htab x hx) id) hRf hRl hcs.1 hcs.2 hc.2.2.2.2.1 (fun t ha hz hk => ⟨rfl, ?_, ?_, ?_⟩) hS.2.2 hcs.1 hcs.2
  · exact hP.kept (fun k q hq => hk _ (vx_lt hP hq))
  · exact Nat.le_trans hS.1 hz
  · intro q hq hn
    exact (hk q (Nat.lt_of_lt_of_le hq hS.1)).trans (hS.2.1 q hq hn)
theorem Z_iretH {v : Int32} {Px : Launch → Nat → State → Code → Prop} {Qc : Option Value → dv_S → Prop} (hd : decode cc pc = .ok (.ireturn, 1)) (hr : ret = some .int) (hcs : cs ≤ R.cells ∧ ss ≤ R.slots) (hq : Qc (some (.int v)) S) : dv_Jz y cc n ret R cs ss pc l [.int v] S (dv_qx Px (dv_Qh R Qc)) := by
  intro la b scr dC dI dA p e s m args below meth c H locs ls hc hl hP hS hX
  exact W_imp (fun t q _ => q) (vx_ret (J_iret hd hr hcs hq la b scr dC dI dA p e s m args below meth c H locs ls hc hl hP hS hX))
end
/-- the method always throws -/
def dv_xm (y : MethodName) (cc : ByteArray) (n : Nat) (ret : Option FieldType) (R : Room) (av : List Value) (S : dv_S) : Prop :=
  ∀ (la : Launch) (b scr : Nat) (dC : Nat → ClassId) (dI : Nat → Nat → Nat) (dA : Nat → ClassId), scr < b → la.stackTraces = false →
    vx_Met la y (dv_wm y cc n ret) R (va_Pc (av.map (dv_tr scr b)) (dv_pc scr b dC dI dA S)) (fun _ _ _ _ => False) (dv_XC b dC dI dA S) R.cells R.slots (fun q => b ≤ q)
theorem dv_xm_of {y : MethodName} {cc : ByteArray} {n : Nat} {ret : Option FieldType} {R : Room} {av : List Value} {S : dv_S} (l0 : List (Option Value)) (hy : plainName y.cls = true) (hn : ∀ scr b, (lg_sl (av.map (dv_tr scr b))).length ≤ n) (hl0 : ∀ scr b, lv_args 0 (av.map (dv_tr scr b)) = dv_pr scr b 0 l0)
    (k : dv_Jz y cc n ret R 0 0 0 l0 [] S (dv_qx pxE (dv_Qt R S))) : dv_xm y cc n ret R av S := by
  intro la b scr dC dI dA hsb hlt
  refine vx_ofW (cc := cc) (maxL := n) (ret := ret) hy rfl ?_
  intro p e s m args below meth c s₁ B hml htab hv
  obtain ⟨rfl, ⟨hbs, hK, hP, hX, hnw⟩, hpx⟩ := hv
  have hts := atoms_spec (ws := dv_wm y cc n ret) B.pre
  have hown : s.vm.findClass y.cls = some m.cls := findClass_of_methodNamed B.named
  have hl := lv_entry (av.map (dv_tr scr b)) (n := n) (hn scr b)
  rw [hl0 scr b] at hl
  rw [lg_entry_eq]
  exact W_imp (fun t q => q ⟨hlt, hpx, htab⟩) (k la b scr dC dI dA p e s m _ below meth c s.heap [] _ ⟨B.exec, B.bytes, hml, B.returns, B.notSynchronized, hown, fun w hw => hts w (List.mem_cons_of_mem _ hw), hK, hsb, hbs, hnw⟩ hl hP va_S.rf hX)
/-- a method with a table of its own, that returns -/
def dv_mh (y : MethodName) (cc : ByteArray) (n : Nat) (ret : Option FieldType) (hh : List (Nat × Nat × Nat × Nat)) (R : Room) (av : List Value) (S : dv_S) (Q : Option Value → dv_S → Prop) : Prop :=
  ∀ (la : Launch) (b scr : Nat) (dC : Nat → ClassId) (dI : Nat → Nat → Nat) (dA : Nat → ClassId), scr < b → la.stackTraces = false →
    vx_Met la y (.codeWith y cc n ret hh :: dv_T) R (va_Pc (av.map (dv_tr scr b)) (dv_pc scr b dC dI dA S)) (dv_Q dC dI dA scr b Q) (fun _ _ _ => False) R.cells R.slots (fun q => b ≤ q)
theorem dv_mh_of {y : MethodName} {cc : ByteArray} {n : Nat} {ret : Option FieldType} {hh : List (Nat × Nat × Nat × Nat)} {R : Room} {av : List Value} {S : dv_S} {Q : Option Value → dv_S → Prop} (l0 : List (Option Value)) (hy : plainName y.cls = true) (hn : ∀ scr b, (lg_sl (av.map (dv_tr scr b))).length ≤ n) (hl0 : ∀ scr b, lv_args 0 (av.map (dv_tr scr b)) = dv_pr scr b 0 l0)
    (k : dv_Jz y cc n ret R 0 0 0 l0 [] S (dv_qx (pxH hh) (dv_Qh R Q))) : dv_mh y cc n ret hh R av S Q := by
  intro la b scr dC dI dA hsb hlt
  refine vx_ofWH (cc := cc) (maxL := n) (ret := ret) (hh := hh) hy rfl ?_
  intro p e s m args below meth c s₁ B hml hv
  obtain ⟨rfl, ⟨hbs, hK, hP, hX, hnw⟩, hpx⟩ := hv
  have hts := atoms_spec (ws := .codeWith y cc n ret hh :: dv_T) B.pre
  have hown : s.vm.findClass y.cls = some m.cls := findClass_of_methodNamed B.named
  have htab : c.exceptionTable.toList = tableOf hh := vx_table (x := y) B (hts _ List.mem_cons_self)
  have hl := lv_entry (av.map (dv_tr scr b)) (n := n) (hn scr b)
  rw [hl0 scr b] at hl
  rw [lg_entry_eq]
  exact W_imp (fun t q => q ⟨hlt, hpx, htab⟩) (k la b scr dC dI dA p e s m _ below meth c s.heap [] _ ⟨B.exec, B.bytes, hml, B.returns, B.notSynchronized, hown, fun w hw => hts w (List.mem_cons_of_mem _ hw), hK, hsb, hbs, hnw⟩ hl hP va_S.rf hX)
theorem dv_lr_none {scr b n i : Nat} {ls' : Array Slot} {l : List (Option Value)} {v : Value} (h : lv_has ls' n ((i, v) :: (dv_pr scr b 0 l).filter (fun q => !(q.1 == i) && !(q.1 + 1 == i && q.2.category == 2)))) (hok : dv_ok l i = true) (hn : ∀ w, l[i]? ≠ some (some w)) : dv_lr scr b ls' n l := by
  refine ⟨h.1, h.2.1, fun q hq => h.2.2 q ?_⟩
  obtain ⟨j, w, rfl, hj⟩ := dv_pr_of _ _ _ hq
  rw [Nat.zero_add] at *
  have hji : j ≠ i := by rintro rfl; exact hn w hj
  refine List.mem_cons_of_mem _ (List.mem_filter.mpr ⟨?_, ?_⟩)
  · have := dv_pr_in (scr := scr) (b := b) l 0 j w hj
    rwa [Nat.zero_add] at this
  · by_cases hj1 : j + 1 = i
    · subst hj1
      have := dv_ok_spec hok hj
      simp [dv_tr_cat, this]
    · simp [hji, hj1]
section
variable {y : MethodName} {cc : ByteArray} {n : Nat} {ret : Option FieldType} {R : Room} {cs ss pc pc' : Nat} {l l' : List (Option Value)} {st : List Value} {S : dv_S} {Q : dv_ZT}
/-- a call that throws; this method's table takes it, and the handler's first row stores it away -/
theorem Z_callx {y' : MethodName} {cc' : ByteArray} {n' : Nat} {ret' : Option FieldType} {R' : Room} {a ci idx j : Nat} (As : List Value) {rest : List Value} {hh : List (Nat × Nat × Nat × Nat)} (x : ExceptionTableEntry) (hM : dv_xm y' cc' n' ret' R' (.ref a :: As) S) (hf : dv_mv y' cc' n' ret' As.length ci) (hlk : Cond.methodLink y.cls idx y' ∈ dv_T) (ha : dv_kd a = ci) (hd : decode cc pc = .ok (.invokevirtual idx, 3)) (hst : st = As.reverse ++ .ref a :: rest) (hrm : (rest.map fun v => v.category).sum ≤ 8) (hR : R'.frames + 1 ≤ R.frames ∧ 8 + (n' + 11) + R'.locals ≤ R.locals) (hcs : cs + R'.cells ≤ R.cells ∧ ss + R'.slots ≤ R.slots)
    (hx1 : tableOf hh = [x]) (hx2 : covers x pc = true) (hx3 : x.catchType ≠ 0) (hx4 : Cond.classLink y.cls x.catchType dv_EX ∈ dv_T) (hd2 : decode cc x.handlerPc = .ok (.astore j, 2)) (hp : x.handlerPc + 2 = pc') (hj : j < n) (hok : dv_ok l j = true) (hn : ∀ w, l[j]? ≠ some (some w))
    (kk : dv_Jz y cc n ret R (cs + R'.cells) (ss + R'.slots) pc' l [] S (dv_qx (pxH hh) Q)) : dv_Jz y cc n ret R cs ss pc l st S (dv_qx (pxH hh) Q) := by
  intro la b scr dC dI dA p e s m args below meth c H locs ls hc hl hP hS hX
  subst hp
  subst hst
  refine W_by (P := pxH hh la b s c) (fun hpp => ?_) (fun hn t q => absurd q hn)
  obtain ⟨hlt, hpx, htab⟩ := hpp
  obtain ⟨⟨f1, f2, f3, f4⟩, f5, f6, T, N, f7, f8, f9, -⟩ := hf
  have hsb := hc.2.2.2.2.2.2.2.2.1
  have hbs := hc.2.2.2.2.2.2.2.2.2.1
  have hts := hc.2.2.2.2.2.2.1
  have h545 := dv_lt (a := a) (by omega)
  obtain ⟨q0, hq⟩ := dv_get dA b S h545
  rw [dv_cell_o ha f8] at hq
  have hK := hc.2.2.2.2.2.2.2.1
  have hrun : vx_Run p la e R s m args below meth c H locs cs ss R'.cells R'.slots (F0 m pc ls ((As.reverse ++ .ref a :: rest).map (dv_tr scr b))) (rest.map (dv_tr scr b)) (fun _ _ _ => False) (dv_XC b dC dI dA S) (fun q => b ≤ q) := by
    refine vx_runV (b := b + dv_p a) (As := As.map (dv_tr scr b)) (rest := rest.map (dv_tr scr b)) (C := y'.cls) ⟨hc.1, hc.2.1, hc.2.2.1, hc.2.2.2.2.2.1, hts⟩ (hM la b scr dC dI dA hsb hlt) (n := As.length) (mc := R'.cells) (ms := R'.slots)
      ⟨callB_of As.length hts (dv_good f1) rfl rfl rfl (hts _ f2) (hts _ hlk) ⟨f3.1, f3.2, f4⟩ hR, hts _ f5, hts _ f6⟩
      ⟨dv_blindx, va_recv hK hP f7 hq, fun U hU hW => ⟨?_, ⟨?_, va_K.moved hW.alike hK, ?_, ?_, hc.2.2.2.2.2.2.2.2.2.2.warm hW⟩, hpx.go hS hU hW⟩⟩ rfl (List.length_map _) hl.1 ?_ ?_ hd hcs
    · rw [List.map_cons, dv_tr_ref h545]
    · rw [hU]; exact Nat.le_trans hbs hS.1
    · rw [hU]; exact hP
    · rw [hU]; exact va_X.moved hW.alike (va_X.kept hX (hS.2.1 scr (by omega) (by simp only [Nat.not_le]; exact hsb)))
    · show (As.reverse ++ Value.ref a :: rest).map (dv_tr scr b) = _
      rw [List.map_append, List.map_reverse, List.map_cons, dv_tr_ref h545]
    · show 2 * 0 + _ ≤ 8
      rw [List.map_map]
      have : ((fun v : Value => v.category) ∘ dv_tr scr b) = fun v => v.category := by funext v; exact dv_tr_cat scr b v
      rw [this]; omega
  intro T0 hT0 X0
  rcases hrun T0 hT0 X0 with ⟨v, st₀, t, T', L, h0, X', hL, e1, e2, hF, sg⟩ | ⟨q, st₀, t, T', L, E, ce, h0, X', hL, e1, e2, ⟨hE, hP1, hz, hk⟩, hce, hcv, hcl, sg⟩
  · exact hF.elim
  · subst hE
    rw [h0] at hz hk
    have hS1 : va_S (fun q => b ≤ q) s.heap T'.heap (locs ++ L) := by
      refine ⟨Nat.le_trans hS.1 (by rw [e1]; exact hz), fun q h1 h2 => ?_, fun q hq => ?_⟩
      · rw [e1, hk q (Nat.lt_of_lt_of_le h1 hS.1) h2]; exact hS.2.1 q h1 h2
      · rcases List.mem_append.mp hq with h | h
        · exact hS.2.2 q h
        · exact hL q h
    have hcat : vx_W p la e R s m args below meth c T'.heap (locs ++ L) (cs + R'.cells) (ss + R'.slots) (dv_qx (pxH hh) Q la b scr dC dI dA p s m args below meth c) (F0 m pc ls (rest.map (dv_tr scr b))) q := by
      refine vx_catch (own := y.cls) (name := dv_EX) (E := dv_EX) (ce := ce) hc.2.2.2.2.2.1 x (by rw [htab, hx1]) hx2 hx3 (hts _ hx4) (va_Nw.use rfl (hpx.2.2.1 _ List.mem_cons_self)) (by rw [e1]; exact hce) hcv hcl ?_
      exact lv_astore hc.1 hc.2.1 hd2 hl hj rfl (fun ls' hl' => kk la b scr dC dI dA p e s m args below meth c T'.heap (locs ++ L) ls' hc (dv_lr_none hl' hok hn) (by rw [e1]; exact hP1) hS1 hX)
    obtain ⟨t2, a1, b1⟩ := hcat T' rfl X'
    exact ⟨t2, sg.trans a1, b1⟩
/-- the same, the store by a short row; this method's table takes it, and the handler's first row stores it away -/
theorem Z_callxn {y' : MethodName} {cc' : ByteArray} {n' : Nat} {ret' : Option FieldType} {R' : Room} {a ci idx j : Nat} {j4 : Fin 4} (As : List Value) {rest : List Value} {hh : List (Nat × Nat × Nat × Nat)} (x : ExceptionTableEntry) (hM : dv_xm y' cc' n' ret' R' (.ref a :: As) S) (hf : dv_mv y' cc' n' ret' As.length ci) (hlk : Cond.methodLink y.cls idx y' ∈ dv_T) (ha : dv_kd a = ci) (hd : decode cc pc = .ok (.invokevirtual idx, 3)) (hst : st = As.reverse ++ .ref a :: rest) (hrm : (rest.map fun v => v.category).sum ≤ 8) (hR : R'.frames + 1 ≤ R.frames ∧ 8 + (n' + 11) + R'.locals ≤ R.locals) (hcs : cs + R'.cells ≤ R.cells ∧ ss + R'.slots ≤ R.slots)
    (hx1 : tableOf hh = [x]) (hx2 : covers x pc = true) (hx3 : x.catchType ≠ 0) (hx4 : Cond.classLink y.cls x.catchType dv_EX ∈ dv_T) (hd2 : decode cc x.handlerPc = .ok (.astore_n j4, 1)) (hj4 : (j4 : Nat) = j) (hp : x.handlerPc + 1 = pc') (hj : j < n) (hok : dv_ok l j = true) (hn : ∀ w, l[j]? ≠ some (some w))
    (kk : dv_Jz y cc n ret R (cs + R'.cells) (ss + R'.slots) pc' l [] S (dv_qx (pxH hh) Q)) : dv_Jz y cc n ret R cs ss pc l st S (dv_qx (pxH hh) Q) := by
  intro la b scr dC dI dA p e s m args below meth c H locs ls hc hl hP hS hX
  subst hp
  subst hst
  refine W_by (P := pxH hh la b s c) (fun hpp => ?_) (fun hn t q => absurd q hn)
  obtain ⟨hlt, hpx, htab⟩ := hpp
  obtain ⟨⟨f1, f2, f3, f4⟩, f5, f6, T, N, f7, f8, f9, -⟩ := hf
  have hsb := hc.2.2.2.2.2.2.2.2.1
  have hbs := hc.2.2.2.2.2.2.2.2.2.1
  have hts := hc.2.2.2.2.2.2.1
  have h545 := dv_lt (a := a) (by omega)
  obtain ⟨q0, hq⟩ := dv_get dA b S h545
  rw [dv_cell_o ha f8] at hq
  have hK := hc.2.2.2.2.2.2.2.1
  have hrun : vx_Run p la e R s m args below meth c H locs cs ss R'.cells R'.slots (F0 m pc ls ((As.reverse ++ .ref a :: rest).map (dv_tr scr b))) (rest.map (dv_tr scr b)) (fun _ _ _ => False) (dv_XC b dC dI dA S) (fun q => b ≤ q) := by
    refine vx_runV (b := b + dv_p a) (As := As.map (dv_tr scr b)) (rest := rest.map (dv_tr scr b)) (C := y'.cls) ⟨hc.1, hc.2.1, hc.2.2.1, hc.2.2.2.2.2.1, hts⟩ (hM la b scr dC dI dA hsb hlt) (n := As.length) (mc := R'.cells) (ms := R'.slots)
      ⟨callB_of As.length hts (dv_good f1) rfl rfl rfl (hts _ f2) (hts _ hlk) ⟨f3.1, f3.2, f4⟩ hR, hts _ f5, hts _ f6⟩
      ⟨dv_blindx, va_recv hK hP f7 hq, fun U hU hW => ⟨?_, ⟨?_, va_K.moved hW.alike hK, ?_, ?_, hc.2.2.2.2.2.2.2.2.2.2.warm hW⟩, hpx.go hS hU hW⟩⟩ rfl (List.length_map _) hl.1 ?_ ?_ hd hcs
    · rw [List.map_cons, dv_tr_ref h545]
    · rw [hU]; exact Nat.le_trans hbs hS.1
    · rw [hU]; exact hP
    · rw [hU]; exact va_X.moved hW.alike (va_X.kept hX (hS.2.1 scr (by omega) (by simp only [Nat.not_le]; exact hsb)))
    · show (As.reverse ++ Value.ref a :: rest).map (dv_tr scr b) = _
      rw [List.map_append, List.map_reverse, List.map_cons, dv_tr_ref h545]
    · show 2 * 0 + _ ≤ 8
      rw [List.map_map]
      have : ((fun v : Value => v.category) ∘ dv_tr scr b) = fun v => v.category := by funext v; exact dv_tr_cat scr b v
      rw [this]; omega
  intro T0 hT0 X0
  rcases hrun T0 hT0 X0 with ⟨v, st₀, t, T', L, h0, X', hL, e1, e2, hF, sg⟩ | ⟨q, st₀, t, T', L, E, ce, h0, X', hL, e1, e2, ⟨hE, hP1, hz, hk⟩, hce, hcv, hcl, sg⟩
  · exact hF.elim
  · subst hE
    rw [h0] at hz hk
    have hS1 : va_S (fun q => b ≤ q) s.heap T'.heap (locs ++ L) := by
      refine ⟨Nat.le_trans hS.1 (by rw [e1]; exact hz), fun q h1 h2 => ?_, fun q hq => ?_⟩
      · rw [e1, hk q (Nat.lt_of_lt_of_le h1 hS.1) h2]; exact hS.2.1 q h1 h2
      · rcases List.mem_append.mp hq with h | h
        · exact hS.2.2 q h
        · exact hL q h
    have hcat : vx_W p la e R s m args below meth c T'.heap (locs ++ L) (cs + R'.cells) (ss + R'.slots) (dv_qx (pxH hh) Q la b scr dC dI dA p s m args below meth c) (F0 m pc ls (rest.map (dv_tr scr b))) q := by
      refine vx_catch (own := y.cls) (name := dv_EX) (E := dv_EX) (ce := ce) hc.2.2.2.2.2.1 x (by rw [htab, hx1]) hx2 hx3 (hts _ hx4) (va_Nw.use rfl (hpx.2.2.1 _ List.mem_cons_self)) (by rw [e1]; exact hce) hcv hcl ?_
      exact lv_astore_n hc.1 hc.2.1 hd2 hj4 hl hj rfl (fun ls' hl' => kk la b scr dC dI dA p e s m args below meth c T'.heap (locs ++ L) ls' hc (dv_lr_none hl' hok hn) (by rw [e1]; exact hP1) hS1 hX)
    obtain ⟨t2, a1, b1⟩ := hcat T' rfl X'
    exact ⟨t2, sg.trans a1, b1⟩
def dv_mw (y : MethodName) (cc : ByteArray) (n : Nat) (ret : Option FieldType) (hh : List (Nat × Nat × Nat × Nat)) (np : Nat) : Prop := Cond.codeWith y cc n ret hh ∈ dv_T ∧ Cond.initialized y.cls ∈ dv_T ∧ (y.cls ≠ "java/lang/invoke/MethodHandle" ∧ y.cls ≠ "java/lang/invoke/VarHandle") ∧ (parseMethodDescriptor y.desc).map (fun d => d.parameters.length) = some np ∧ Cond.static y ∈ dv_T
/-- a static call of a method with a table of its own -/
theorem Z_callsh {y' : MethodName} {cc' : ByteArray} {n' : Nat} {ret' : Option FieldType} {hh : List (Nat × Nat × Nat × Nat)} {R' : Room} {Qc : Option Value → dv_S → Prop} {idx : Nat} (As : List Value) {rest : List Value} (hM : dv_mh y' cc' n' ret' hh R' As S Qc) (hf : dv_mw y' cc' n' ret' hh As.length) (hlk : Cond.methodLink y.cls idx y' ∈ dv_T) (hd : decode cc pc = .ok (.invokestatic idx, 3)) (hp : pc + 3 = pc') (hst : st = As.reverse ++ rest) (hrm : (rest.map fun v => v.category).sum ≤ 8) (hR : R'.frames + 1 ≤ R.frames ∧ 8 + (n' + 11) + R'.locals ≤ R.locals) (hcs : cs + R'.cells ≤ R.cells ∧ ss + R'.slots ≤ R.slots)
    (kk : ∀ (r : Option Value) (S' : dv_S), Qc r S' → dv_Jz y cc n ret R (cs + R'.cells) (ss + R'.slots) pc' l (r.toList ++ rest) S' (dv_qx pxL Q)) : dv_Jz y cc n ret R cs ss pc l st S (dv_qx pxL Q) := by
  intro la b scr dC dI dA p e s m args below meth c H locs ls hc hl hP hS hX
  subst hp
  subst hst
  refine W_by (P := pxL la b s c) (fun hpp => ?_) (fun hn t q => absurd q hn)
  obtain ⟨hlt, hpx⟩ := hpp
  obtain ⟨f1, f2, f3, f4, f5⟩ := hf
  have hsb := hc.2.2.2.2.2.2.2.2.1
  have hbs := hc.2.2.2.2.2.2.2.2.2.1
  have hts := hc.2.2.2.2.2.2.1
  have hK := hc.2.2.2.2.2.2.2.1
  have hG : GoodIn dv_T (Cond.codeWith y' cc' n' ret' hh :: dv_T) := by
    intro w hw
    have h1 : w ∈ dv_T := by
      rcases List.mem_cons.mp hw with rfl | h2
      · exact f1
      · exact h2
    exact ⟨h1, good_of_word (List.mem_filter.mp h1).2⟩
  have hrun : vx_Run p la e R s m args below meth c H locs cs ss R'.cells R'.slots (F0 m pc ls ((As.reverse ++ rest).map (dv_tr scr b))) (rest.map (dv_tr scr b)) (dv_Q dC dI dA scr b Qc (As.map (dv_tr scr b)).toArray) (fun _ _ _ => False) (fun q => b ≤ q) := by
    refine vx_runSX (As := As.map (dv_tr scr b)) (rest := rest.map (dv_tr scr b)) (hh := hh) (bytes := cc') (maxL := n') (ret := ret') ⟨hc.1, hc.2.1, hc.2.2.1, hc.2.2.2.2.2.1, hts⟩ (hM la b scr dC dI dA hsb hlt) (n := As.length) (mc := R'.cells) (ms := R'.slots)
      ⟨⟨rfl, rfl, hR.1, hR.2, pay_in hts hG, List.mem_cons_self⟩, hts _ f1, hts _ f2, f3, fun sig h => ?_, hts _ hlk, hts _ f5⟩
      ⟨dv_blindx, fun U hU hW => ⟨rfl, ⟨?_, va_K.moved hW.alike hK, ?_, ?_, hc.2.2.2.2.2.2.2.2.2.2.warm hW⟩, hpx.go hS hU hW⟩⟩ rfl (List.length_map _) hl.1 ?_ ?_ hd hcs
    · rw [h] at f4
      exact (Option.some.inj f4).symm
    · rw [hU]; exact Nat.le_trans hbs hS.1
    · rw [hU]; exact hP
    · rw [hU]; exact va_X.moved hW.alike (va_X.kept hX (hS.2.1 scr (by omega) (by simp only [Nat.not_le]; exact hsb)))
    · show (As.reverse ++ rest).map (dv_tr scr b) = _
      rw [List.map_append, List.map_reverse]
    · show 2 * 0 + _ ≤ 8
      rw [List.map_map]
      have : ((fun v : Value => v.category) ∘ dv_tr scr b) = fun v => v.category := by funext v; exact dv_tr_cat scr b v
      rw [this]; omega
  have hrun' : va_Run p la e R s m args below meth c H locs cs ss R'.cells R'.slots (F0 m pc ls ((As.reverse ++ rest).map (dv_tr scr b))) (rest.map (dv_tr scr b)) (dv_Q dC dI dA scr b Qc (As.map (dv_tr scr b)).toArray) (fun q => b ≤ q) := by
    intro T0 hT0 X0
    rcases hrun T0 hT0 X0 with h | ⟨q, st₀, t, T', L, E, ce, h0, X', hL, e1, e2, hF, -⟩
    · exact h
    · exact hF.elim
  refine dv_after hrun' hS hsb hbs (fun r S' H1 locs1 hqc hP1 hX1 hS1 => ?_)
  have h := kk r S' hqc la b scr dC dI dA p e s m args below meth c H1 locs1 ls hc hl hP1 hS1 hX1
  have h5 : (r.toList ++ rest).map (dv_tr scr b) = (r.map (dv_tr scr b)).toList ++ rest.map (dv_tr scr b) := by
    cases r <;> simp
  rw [h5] at h
  exact h
end
theorem wL_name : dv_mw yL_name cL_name 5 (some .int) [(0, 10, 13, 13)] 4 := ⟨dv_T_in (i := 758) (by decide +kernel) rfl, dv_T_in (i := 47) (by decide +kernel) rfl, ⟨by decide +kernel, by decide +kernel⟩, by decide +kernel, dv_T_in (i := 757) (by decide +kernel) rfl⟩
theorem wL_out : dv_mw yL_out cL_out 4 (some .int) [(0, 9, 12, 13)] 3 := ⟨dv_T_in (i := 833) (by decide +kernel) rfl, dv_T_in (i := 47) (by decide +kernel) rfl, ⟨by decide +kernel, by decide +kernel⟩, by decide +kernel, dv_T_in (i := 832) (by decide +kernel) rfl⟩
