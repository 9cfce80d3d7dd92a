def R_law : String := "NameHouseLaw"
def lw_P (b : Addr) (xs : List Int32) (args : Array Value) (s : State) : Prop := args = #[.ref b] ∧ s.IntsAt b xs ∧ xs.length ≤ 3072 ∧ (Jvm.Cond.and given_1 narrow_1).before args s = true
def lw_Q (_ : Array Value) (s : State) (o : Outcome) (t : State) : Prop := o = .returned (some (.int 1)) ∧ Framed s o t [] 601024 7293034
def lw_Z (below : List Frame) (a : Array Value) (s : State) : State → Prop := fun t => ∃ o, t.status = .running ∧ Ended t below o ∧ lw_Q a s o t
/-- the law's own end, with 1 on the stack, nothing written that was there before, its room as the claim has it -/
theorem lw_ret {p : Program} {l : Launch} {e : Env} {s : State} {m : MethodId} {below : List Frame} {meth : Method} {c : Code} {b : Nat} (hx : p.tables.exec = Jvm.exec) (hb : c.code = code) (hr : meth.sig.returnType = ret) (hlocks : meth.locks = false) {pc : Nat} {H : Heap} {ls : Array Slot} (hdg : decode code pc = .ok (.ireturn, 1)) : W p l e room_1 s m #[Value.ref b] below meth c H [] 601024 7293034 (lw_Z below #[Value.ref b] s) (F0 m pc ls [.int 1]) := by
  intro T hT X
  obtain ⟨fs, hret, hrun, hended, hW, hframe⟩ := X.leave (v := some (.int 1)) (hlocks := hlocks) (fun h => by rw [hr] at h; cases h)
  have hmeth' : T.vm.method? m = some meth := X.method'
  refine ⟨T.setFrames fs, ?_, .returned (some (.int 1)), hrun, hended, rfl, ⟨_, rfl⟩, hW, hframe⟩
  jvm_step X.here [X.here.top, hx, hb, hdg, hmeth', hr, ret, narrow_b1]
  (try refine ⟨rfl, ?_⟩); (try refine ⟨rfl, ?_⟩)
  first | (intro acts; rw [hret _ acts rfl rfl rfl]) | rw [hret _ _ rfl rfl rfl]
  exact Steps.refl _
/-- what holds at the law's entry: the machine, the code, the tables' words (any of lw_tbl by 'hts w (by decide +kernel)'), the script of L ints xs at the cell b, what the Statement gives of the start (any of its parts by flat_of_before) -/
def lw_At (p : Program) (s : State) (m : MethodId) (meth : Method) (c : Code) (b L : Nat) (xs : Nat → Int32) : Prop :=
  p.tables.exec = Jvm.exec ∧ c.code = code ∧ meth.sig.returnType = ret ∧ c.maxLocals = 7 ∧ s.vm.findClass R_law = some m.cls ∧ (∀ w ∈ lw_tbl, w.before #[Value.ref b] s = true) ∧ va_X b L xs s s.heap ∧ b < s.heap.size ∧ meth.locks = false ∧ (Jvm.Cond.and given_1 narrow_1).before #[Value.ref b] s = true ∧ meth.name = "law"
def dv_qv (S : dv_S) (Q : dv_ZT) : dv_ZT := fun la b scr dC dI dA p s m args below meth c t => va_X scr (dv_L S) (S.2.1 100000) s s.heap → Q la b scr dC dI dA p s m args below meth c t
theorem K_Z {y : MethodName} {cc : ByteArray} {n : Nat} {ret : Option FieldType} {R : Room} {cs ss pc : Nat} {l : List (Option Value)} {st : List Value} {S : dv_S} {Q : dv_ZT} (k : dv_Jz y cc n ret R cs ss pc l st S Q) : dv_K y cc n ret R cs ss pc l st 545 (fun dA b a => dv_co dA b S a) (dv_qv S Q) := by
  intro la b scr dC dI dA p e s m args below meth c H locs ls hc hk hm hl hP hz hS
  refine W_by (P := va_X scr (dv_L S) (S.2.1 100000) s s.heap) (fun hX => ?_) (fun hn t q => absurd q hn)
  refine W_imp (fun t q _ => q) (k la b scr dC dI dA p e s m args below meth c H locs ls hc hl ?_ hS hX)
  intro i q hq
  simp only [dv_ws, va_pl, dv_ad, List.nil_append, List.map_map, List.getElem?_map, Option.map_eq_some_iff] at hq
  obtain ⟨j, hj, rfl⟩ := hq
  rw [List.getElem?_eq_some_iff] at hj
  obtain ⟨hlt, hj⟩ := hj
  simp at hj hlt
  subst hj
  have h := hP i hlt
  show va_at (dC, dI) vwCl (b + i, dv_cell dA b S (dv_q (b + i - b))) H
  rw [Nat.add_sub_cancel_left]
  exact h
abbrev lw_l0 : List (Option Value) := [some (.ref 100000), none, none, none, none, none, none]
theorem law_fin {L : Int32} {xs : Nat → Int32} {h : gC} {e0 e8 : (Nat → ClassId) → Nat → va_E} : ∀ (dA : Nat → ClassId) (b a : Nat), a < 545 → gu (gd 517 (SZ L xs) (gu (gd 0 (SZ L xs) (gu h 0 e0)) 517 e8)) 544 (fun dA _ => .inl (dA 11, 1, .inr (.inl (fun _ => 0)))) dA b a = dv_co dA b (SZ L xs) a := by
  intro dA b a _
  by_cases q : a = 544
  · subst q
    rw [gu_at]; exact (cellL (S := SZ L xs) (N := 544) (len := 1) rfl rfl rfl).symm
  · simp only [gu, gd, if_neg q]
    by_cases q2 : 517 ≤ a
    · simp only [if_pos q2]
    · simp only [if_neg q2, if_neg (show ¬ a = 517 by omega), if_pos (Nat.zero_le a)]
set_option maxRecDepth 100000 in
theorem law_start {L : Int32} {xs : Nat → Int32} {h : gC} {Q : dv_ZT} (k : dv_Jz yL_law cL_law 7 (some .boolean) room_1 545 23054 23 (lwL 0 none none) [] (SZ L xs) Q) : dv_K yL_law cL_law 7 (some .boolean) room_1 0 0 0 lw_l0 [] 0 h (dv_qv (SZ L xs) Q) := by
  refine K_new tyX7 kX7 tyX7_ok clL_8 inX7 ilX7 fsX7 (by decide) ⟨Nat.le_of_ble_eq_true rfl, Nat.le_of_ble_eq_true rfl⟩ dL_law_0 (pc' := 3) rfl ?_
  refine K_dup dL_law_3 (pc' := 4) rfl rfl ?_
  refine K_call [] (iX7 (L := L) (xs := xs) _ gu_at) miX7 mlL_19 (by decide) dL_law_4 (pc' := 7) rfl rfl (Nat.le_of_ble_eq_true rfl) ⟨Nat.le_of_ble_eq_true rfl, Nat.le_of_ble_eq_true rfl⟩ ⟨Nat.le_of_ble_eq_true rfl, Nat.le_of_ble_eq_true rfl⟩ ?_
  refine K_astore_n dL_law_7 (pc' := 8) rfl (j := 1) rfl (by decide) rfl rfl ?_
  refine K_new tyX8 kX8 tyX8_ok clL_20 inX8 ilX8 fsX8 (by decide) ⟨Nat.le_of_ble_eq_true rfl, Nat.le_of_ble_eq_true rfl⟩ dL_law_8 (pc' := 11) rfl ?_
  refine K_dup dL_law_11 (pc' := 12) rfl rfl ?_
  refine K_call [] (iX8 (L := L) (xs := xs) _ gu_at) miX8 mlL_22 (by decide) dL_law_12 (pc' := 15) rfl rfl (Nat.le_of_ble_eq_true rfl) ⟨Nat.le_of_ble_eq_true rfl, Nat.le_of_ble_eq_true rfl⟩ ⟨Nat.le_of_ble_eq_true rfl, Nat.le_of_ble_eq_true rfl⟩ ?_
  refine K_astore_n dL_law_15 (pc' := 16) rfl (j := 2) rfl (by decide) rfl rfl ?_
  refine K_iconst (v := nI 1) dL_law_16 (pc' := 17) rfl (by decide) ?_
  refine K_newa ar_long ra_long (z := .inr (.inl (fun _ => 0))) (fun _ => rfl) (len := 1) rfl (by decide) (by decide) (by decide) ⟨Nat.le_of_ble_eq_true rfl, Nat.le_of_ble_eq_true rfl⟩ dL_law_17 (pc' := 19) rfl ?_
  refine K_eqs law_fin ?_
  refine K_astore_n dL_law_19 (pc' := 20) rfl (j := 3) rfl (by decide) rfl rfl ?_
  refine K_iconst (v := nI 0) dL_law_20 (pc' := 21) rfl (by decide) ?_
  refine K_istore dL_law_21 (pc' := 23) rfl (by decide) rfl (l' := lwL 0 none none) rfl ?_
  exact K_Z k
theorem NL_in : ∀ q ∈ dv_NL, Cond.methodLinkNest q.1 q.2.1 q.2.2 "NameHouse" ∈ lw_tbl := by decide +kernel
theorem NL2_in : ∀ q ∈ dv_NL2, Cond.methodLinkNest RX7 q.1 q.2 "NameHouse" ∈ lw_tbl := by decide +kernel
theorem bad_in : ∀ w ∈ dv_bad, w ∈ lw_tbl := by decide +kernel
theorem px_start {s : State} {args : Array Value} (hts : ∀ w ∈ lw_tbl, w.before args s = true) (hgv : (Jvm.Cond.and given_1 narrow_1).before args s = true) : dv_px s.heap.size s := by
  have hs := flat_of_before _ hgv
  have hA : ∀ a : Nat, a < s.heap.size → ¬ (fun q : Nat => s.heap.size ≤ q) a := fun a h => Nat.not_le.mpr h
  refine ⟨?_, ?_, fun w hw => va_Nw.of (dv_bad_on hw) (hts w (bad_in w hw)), ?_, ?_⟩
  · obtain ⟨a, c, cA, kA, q1, -⟩ := Cond.exactly_spec (args := args) (first := s) (o := none) (s := s) (idx := []) (t := .string "NameHouse" 188) (cls := "java/lang/String") (hs (.exactly (.string "NameHouse" 188) "java/lang/String") (by decide +kernel))
    exact ⟨a, vk_R.of (hts (.stringRef "NameHouse" 188 "no such byte of a name") (by decide +kernel)) q1⟩
  · obtain ⟨a, c, cA, kA, q1, -⟩ := Cond.exactly_spec (args := args) (first := s) (o := none) (s := s) (idx := []) (t := .string "NameHouse" 286) (cls := "java/lang/String") (hs (.exactly (.string "NameHouse" 286) "java/lang/String") (by decide +kernel))
    exact ⟨a, vk_R.of (hts (.stringRef "NameHouse" 286 "no such byte of the offer") (by decide +kernel)) q1⟩
  · exact vx_Zqof (hts (.laysStatic Bundle.tN "UNASSIGNED_STACK" Bundle.steD) (by decide +kernel)) (hts (.initialized Bundle.tN) (by decide +kernel)) (hs (.isRef (.static Bundle.tN "UNASSIGNED_STACK" Bundle.steD)) (by decide +kernel)) hA
  · exact vx_Zqof (hts (.laysStatic Bundle.tN "SUPPRESSED_SENTINEL" Bundle.listD) (by decide +kernel)) (hts (.initialized Bundle.tN) (by decide +kernel)) (hs (.isRef (.static Bundle.tN "SUPPRESSED_SENTINEL" Bundle.listD)) (by decide +kernel)) hA
theorem ao_in : Cond.arrayOver (.object "NameHouse$Text") ∈ lw_tbl := by decide +kernel
theorem ar_start {s : State} {args : Array Value} {ty : FieldType} (h : (Cond.arrayClass ty).before args s = true) : ∃ cA : ClassId, ArrOfT s cA ty ∧ s.vm.findClass ("[" ++ ty.toString) = some cA := by
  obtain ⟨c, k, comp, h1, h2, h3⟩ := Cond.arrayClass_spec (args := args) (first := s) (o := none) (s := s) (idx := []) h
  exact ⟨c, fun N z => ⟨(fun k h => by cases h), k, h2, comp, h3⟩, h1⟩
theorem K_start {s : State} {args : Array Value} (hts : ∀ w ∈ dv_T, w.before args s = true) (hao : va_AO "NameHouse$Text" s) : ∃ (dC : Nat → ClassId) (dI : Nat → Nat → Nat) (dA : Nat → ClassId), va_K (dC, dI) vwCl (dv_tys dA) s := by
  obtain ⟨c0, i0, h0⟩ := u_known (C := RX0) (T := TX0) (N := 6) (n := 6) hts kX0.2.2.2.1 (hts _ inX0)
  obtain ⟨c1, i1, h1⟩ := u_known (C := RX1) (T := TX1) (N := 5) (n := 5) hts kX1.2.2.2.1 (hts _ inX1)
  obtain ⟨c2, i2, h2⟩ := u_known (C := RX2) (T := TX2) (N := 3) (n := 3) hts kX2.2.2.2.1 (hts _ inX2)
  obtain ⟨c3, i3, h3⟩ := u_known (C := RX3) (T := TX3) (N := 2) (n := 2) hts kX3.2.2.2.1 (hts _ inX3)
  obtain ⟨c4, i4, h4⟩ := u_known (C := RX4) (T := TX4) (N := 3) (n := 3) hts kX4.2.2.2.1 (hts _ inX4)
  obtain ⟨c5, i5, h5⟩ := u_known (C := RX5) (T := TX5) (N := 4) (n := 4) hts kX5.2.2.2.1 (hts _ inX5)
  obtain ⟨c6, i6, h6⟩ := u_known (C := RX6) (T := TX6) (N := 3) (n := 3) hts kX6.2.2.2.1 (hts _ inX6)
  obtain ⟨c7, i7, h7⟩ := u_known (C := RX7) (T := TX7) (N := 15) (n := 15) hts kX7.2.2.2.1 (hts _ inX7)
  obtain ⟨c8, i8, h8⟩ := u_known (C := RX8) (T := TX8) (N := 38) (n := 38) hts kX8.2.2.2.1 (hts _ inX8)
  obtain ⟨a9, q9, r9⟩ := ar_start (hts _ ar_byte)
  obtain ⟨a10, q10, r10⟩ := ar_start (hts _ ar_int)
  obtain ⟨a11, q11, r11⟩ := ar_start (hts _ ar_long)
  obtain ⟨a12, q12, r12⟩ := ar_start (hts _ ar_boolean)
  obtain ⟨comp, a13, kA, g1, -, g3, g4, g5⟩ := Cond.arrayOver_spec hao
  refine ⟨fun k => if k = 0 then c0 else if k = 1 then c1 else if k = 2 then c2 else if k = 3 then c3 else if k = 4 then c4 else if k = 5 then c5 else if k = 6 then c6 else if k = 7 then c7 else c8, fun k => if k = 0 then i0 else if k = 1 then i1 else if k = 2 then i2 else if k = 3 then i3 else if k = 4 then i4 else if k = 5 then i5 else if k = 6 then i6 else if k = 7 then i7 else i8, fun k => if k = 9 then a9 else if k = 10 then a10 else if k = 11 then a11 else if k = 12 then a12 else a13, fun k q hq => ?_, fun k q hq => ?_⟩
  · match k, hq with
    | 0, hq => cases hq; exact h0
    | 1, hq => cases hq; exact h1
    | 2, hq => cases hq; exact h2
    | 3, hq => cases hq; exact h3
    | 4, hq => cases hq; exact h4
    | 5, hq => cases hq; exact h5
    | 6, hq => cases hq; exact h6
    | 7, hq => cases hq; exact h7
    | 8, hq => cases hq; exact h8
    | k + 9, hq => simp [vwCl] at hq
  · match k, hq with
    | 0, hq => cases hq; exact ⟨q9, r9⟩
    | 1, hq => cases hq; exact ⟨q10, r10⟩
    | 2, hq => cases hq; exact ⟨q11, r11⟩
    | 3, hq => cases hq; exact ⟨q12, r12⟩
    | 4, hq => cases hq; exact ⟨fun N z => ⟨(fun k h => by cases h), kA, g3, comp, g4⟩, kA, comp, g3, g4, g1, g5⟩
    | k + 5, hq => simp [dv_tys] at hq
def dv_Ql : dv_ZT := fun _ b scr _ _ _ _ s _ args below _ _ t => (b = s.heap.size ∧ args = #[Value.ref scr]) → lw_Z below args s t
theorem lw_end (cs ss i : Nat) (l5 l6 : Option Value) (S : dv_S) (hm : lwR room_1 cs ss) : dv_Jz yL_law cL_law 7 (some .boolean) room_1 cs ss 1061 (lwL i l5 l6) [] S (dv_qx pxL dv_Ql) := by
  refine Z_iconst (v := 1) dL_law_1061 (pc' := 1062) rfl (by decide) ?_
  intro la b scr dC dI dA p e s m args below meth c H locs ls hc hl hP hS hX
  refine W_by (P := b = s.heap.size ∧ args = #[Value.ref scr]) (fun hp => ?_) (fun hn t _ q => absurd q hn)
  obtain ⟨hb, ha⟩ := hp
  subst ha
  refine W_imp (fun t q _ _ => q) ?_
  refine va_forget (fun q hq => by rw [← hb]; exact hS.2.2 q hq) ?_
  refine W.widen (k := 601024) (n := 7293034) hm.2.2.1 hm.2.2.2 ?_
  exact lw_ret hc.1 hc.2.1 hc.2.2.2.1 hc.2.2.2.2.1 dL_law_1062
theorem SZ_rel {L : Int32} {xs : Nat → Int32} : Rel L xs (SZ L xs) := by
  refine Rel_0 ⟨rfl, rfl⟩ rfl rfl rfl rfl rfl rfl rfl rfl rfl rfl rfl rfl rfl rfl rfl rfl (fun t ht => ?_) rfl rfl
  rw [SZ_r (by decide) (by decide) (by decide)]
theorem lw_R0 : lwR room_1 (545 + 512) (23054 + 6 * 512) := ⟨by decide, by decide, by decide, by decide⟩
