/-! constructors: places 0 .. N-1 behind b are made; what stands at each -/
abbrev gC : Type := (Nat → ClassId) → Nat → Nat → va_E
def gu (h : gC) (a : Nat) (e : (Nat → ClassId) → Nat → va_E) : gC := fun dA b x => if x = a then e dA b else h dA b x
def gP (D : va_G) (dA : Nat → ClassId) (b N : Nat) (h : gC) (H : Heap) : Prop := ∀ a, a < N → va_at D vwCl (b + a, h dA b a) H
theorem gP_push {D : va_G} {dA : Nat → ClassId} {b N : Nat} {h : gC} {H H1 : Heap} {e : (Nat → ClassId) → Nat → va_E} (hP : gP D dA b N h H) (o1 : ∀ q, q < b + N → H1[q]? = H[q]?) (he : va_at D vwCl (b + N, e dA b) H1) : gP D dA b (N + 1) (gu h N e) H1 := by
  intro a ha
  by_cases q : a = N
  · subst q
    simp only [gu, if_true]; exact he
  · simp only [gu, if_neg q]
    exact (hP a (by omega)).kept (o1 _ (by show b + a < b + N; omega))
theorem gP_set {D : va_G} {dA : Nat → ClassId} {b N a : Nat} {h : gC} {H H1 : Heap} {e : (Nat → ClassId) → Nat → va_E} (hP : gP D dA b N h H) (oq : ∀ q : Nat, q ≠ b + a → H1[q]? = H[q]?) (he : va_at D vwCl (b + a, e dA b) H1) : gP D dA b N (gu h a e) H1 := by
  intro x hx
  by_cases q : x = a
  · subst q
    simp only [gu, if_true]; exact he
  · simp only [gu, if_neg q]
    exact (hP x hx).kept (oq _ (by show b + x ≠ b + a; omega))
theorem dv_tr_q {scr b a : Nat} (h : a < 545) : dv_tr scr b (.ref (dv_q a)) = .ref (b + a) := by rw [dv_tr_ref (dv_q_lt h), dv_pq h]
def dv_NL2 : List (Nat × MethodName) := [(29, yX1_init), (36, yX0_init), (57, yX6_init)]
def dv_nk (U : State) : Prop := va_AO "NameHouse$Text" U ∧ ∀ q ∈ dv_NL2, va_Nw (.methodLinkNest RX7 q.1 q.2 "NameHouse") U
theorem dv_nk.warm {s U : State} (hW : s.WarmedH U.vm) (h : dv_nk s) : dv_nk U := ⟨va_AO.moved hW.alike h.1, fun q hq => va_Nw.warmM hW (h.2 q hq)⟩
theorem dv_nk.call {U : State} (g : JFrame) (mk : MethodId) (a : Array Value) (h : dv_nk U) : dv_nk (U.calling g mk a) := ⟨va_AO.moved (u := U) (U := U.calling g mk a) (Vm.Alike.refl U.vm) h.1, fun q hq => va_Nw.same (u := U) (U := U.calling g mk a) rfl rfl (h.2 q hq)⟩
def dv_K (y : MethodName) (cc : ByteArray) (n : Nat) (ret : Option FieldType) (R : Room) (cs ss pc : Nat) (l : List (Option Value)) (st : List Value) (N : Nat) (h : gC) (Q : dv_ZT) : Prop :=
  ∀ (la : Launch) (b scr : Nat) (dC : Nat → ClassId) (dI : Nat → Nat → Nat) (dA : Nat → ClassId) (p : Program) (e : Env) (s : State) (m : MethodId) (args : Array Value) (below : List Frame) (meth : Method) (c : Code) (H : Heap) (locs : List Loc) (ls : Array Slot),
    dv_cx y cc n ret scr b dC dI dA p s m args meth c → dv_nk s → meth.name = y.name → dv_lr scr b ls n l → gP (dC, dI) dA b N h H → H.size = b + N → va_S (fun q => b ≤ q) s.heap H locs →
    W p la e R s m args below meth c H locs cs ss (Q la b scr dC dI dA p s m args below meth c) (F0 m pc ls (st.map (dv_tr scr b)))
section
variable {y : MethodName} {cc : ByteArray} {n : Nat} {ret : Option FieldType} {R : Room} {cs ss pc pc' : Nat} {l l' : List (Option Value)} {st : List Value} {N : Nat} {h : gC} {Q : dv_ZT}
theorem K_iconst {i : Int} {v : Int32} (hd : decode cc pc = .ok (.iconst i, 1)) (hp : pc + 1 = pc') (hv : Int32.ofInt i = v) (k : dv_K y cc n ret R cs ss pc' l (.int v :: st) N h Q) : dv_K y cc n ret R cs ss pc l st N h Q := by
  intro la b scr dC dI dA p e s m args below meth c H locs ls hc hk hm hl hP hz hS
  subst hp
  exact lv_iconst hc.1 hc.2.1 hd hv (k la b scr dC dI dA p e s m args below meth c H locs ls hc hk hm hl hP hz hS)
theorem K_bipush {i : Int} {v : Int32} (hd : decode cc pc = .ok (.bipush i, 2)) (hp : pc + 2 = pc') (hv : (Int8.ofInt i).toInt32 = v) (k : dv_K y cc n ret R cs ss pc' l (.int v :: st) N h Q) : dv_K y cc n ret R cs ss pc l st N h Q := by
  intro la b scr dC dI dA p e s m args below meth c H locs ls hc hk hm hl hP hz hS
  subst hp
  exact lv_bipush hc.1 hc.2.1 hd hv (k la b scr dC dI dA p e s m args below meth c H locs ls hc hk hm hl hP hz hS)
theorem K_sipush {i : Int} {v : Int32} (hd : decode cc pc = .ok (.sipush i, 3)) (hp : pc + 3 = pc') (hv : (Int16.ofInt i).toInt32 = v) (k : dv_K y cc n ret R cs ss pc' l (.int v :: st) N h Q) : dv_K y cc n ret R cs ss pc l st N h Q := by
  intro la b scr dC dI dA p e s m args below meth c H locs ls hc hk hm hl hP hz hS
  subst hp
  exact lv_sipush hc.1 hc.2.1 hd hv (k la b scr dC dI dA p e s m args below meth c H locs ls hc hk hm hl hP hz hS)
theorem K_iload_n {x : Int32} {j : Fin 4} (hd : decode cc pc = .ok (.iload_n j, 1)) (hp : pc + 1 = pc') (hv : l[(j : Nat)]? = some (some (.int x))) (k : dv_K y cc n ret R cs ss pc' l (.int x :: st) N h Q) : dv_K y cc n ret R cs ss pc l st N h Q := by
  intro la b scr dC dI dA p e s m args below meth c H locs ls hc hk hm hl hP hz hS
  subst hp
  exact lv_iload_n hc.1 hc.2.1 hd rfl (dv_lr_at hl hv) (k la b scr dC dI dA p e s m args below meth c H locs ls hc hk hm hl hP hz hS)
theorem K_aload_n {a : Nat} {j : Fin 4} (hd : decode cc pc = .ok (.aload_n j, 1)) (hp : pc + 1 = pc') (hv : l[(j : Nat)]? = some (some (.ref a))) (k : dv_K y cc n ret R cs ss pc' l (.ref a :: st) N h Q) : dv_K y cc n ret R cs ss pc l st N h Q := by
  intro la b scr dC dI dA p e s m args below meth c H locs ls hc hk hm hl hP hz hS
  subst hp
  exact lv_aload_n hc.1 hc.2.1 hd rfl (dv_lr_at hl hv) (k la b scr dC dI dA p e s m args below meth c H locs ls hc hk hm hl hP hz hS)
theorem K_istore_n {x : Int32} {i : Fin 4} {j : Nat} (hd : decode cc pc = .ok (.istore_n i, 1)) (hp : pc + 1 = pc') (hi : (i : Nat) = j) (hj : j < n) (hok : dv_ok l j = true) (hs : l.set j (some (.int x)) = l') (k : dv_K y cc n ret R cs ss pc' l' st N h Q) : dv_K y cc n ret R cs ss pc l (.int x :: st) N h Q := by
  intro la b scr dC dI dA p e s m args below meth c H locs ls hc hk hm hl hP hz hS
  subst hp
  subst hs
  exact lv_istore_n hc.1 hc.2.1 hd hi hl hj rfl (fun ls' hl' => k la b scr dC dI dA p e s m args below meth c H locs ls' hc hk hm (dv_lr_set (v := .int x) hl' hok) hP hz hS)
theorem K_istore {x : Int32} {j : Nat} (hd : decode cc pc = .ok (.istore j, 2)) (hp : pc + 2 = pc') (hj : j < n) (hok : dv_ok l j = true) (hs : l.set j (some (.int x)) = l') (k : dv_K y cc n ret R cs ss pc' l' st N h Q) : dv_K y cc n ret R cs ss pc l (.int x :: st) N h Q := by
  intro la b scr dC dI dA p e s m args below meth c H locs ls hc hk hm hl hP hz hS
  subst hp
  subst hs
  exact lv_istore hc.1 hc.2.1 hd hl hj rfl (fun ls' hl' => k la b scr dC dI dA p e s m args below meth c H locs ls' hc hk hm (dv_lr_set (v := .int x) hl' hok) hP hz hS)
theorem K_astore_n {a : Nat} {i : Fin 4} {j : Nat} (hd : decode cc pc = .ok (.astore_n i, 1)) (hp : pc + 1 = pc') (hi : (i : Nat) = j) (hj : j < n) (hok : dv_ok l j = true) (hs : l.set j (some (.ref a)) = l') (k : dv_K y cc n ret R cs ss pc' l' st N h Q) : dv_K y cc n ret R cs ss pc l (.ref a :: st) N h Q := by
  intro la b scr dC dI dA p e s m args below meth c H locs ls hc hk hm hl hP hz hS
  subst hp
  subst hs
  exact lv_astore_n hc.1 hc.2.1 hd hi hl hj rfl (fun ls' hl' => k la b scr dC dI dA p e s m args below meth c H locs ls' hc hk hm (dv_lr_set (v := .ref a) hl' hok) hP hz hS)
theorem K_iinc {x v : Int32} {j : Nat} {i : Int} (hd : decode cc pc = .ok (.iinc j i, 3)) (hp : pc + 3 = pc') (hx : l[j]? = some (some (.int x))) (hv : x + Int32.ofInt i = v) (hj : j < n) (hok : dv_ok l j = true) (hs : l.set j (some (.int v)) = l') (k : dv_K y cc n ret R cs ss pc' l' st N h Q) : dv_K y cc n ret R cs ss pc l st N h Q := by
  intro la b scr dC dI dA p e s m args below meth c H locs ls hc hk hm hl hP hz hS
  subst hp
  subst hs
  obtain ⟨q, hq⟩ := List.getElem?_of_mem (dv_pr_in (scr := scr) (b := b) l 0 j (.int x) hx)
  rw [Nat.zero_add] at hq
  exact lv_iinc hc.1 hc.2.1 hd hl hq hv hj rfl (fun ls' hl' => k la b scr dC dI dA p e s m args below meth c H locs ls' hc hk hm (dv_lr_set (v := .int v) hl' hok) hP hz hS)
theorem K_dup {v : Value} (hd : decode cc pc = .ok (.dup, 1)) (hp : pc + 1 = pc') (hv : v.category = 1) (k : dv_K y cc n ret R cs ss pc' l (v :: v :: st) N h Q) : dv_K y cc n ret R cs ss pc l (v :: st) N h Q := by
  intro la b scr dC dI dA p e s m args below meth c H locs ls hc hk hm hl hP hz hS
  subst hp
  exact lv_dup hc.1 hc.2.1 hd (by rw [dv_tr_cat]; exact hv) (k la b scr dC dI dA p e s m args below meth c H locs ls hc hk hm hl hP hz hS)
theorem K_goto {o : Int} (hd : decode cc pc = .ok (.goto o, 3)) (ht : (pc : Int) + o = (pc' : Int)) (k : dv_K y cc n ret R cs ss pc' l st N h Q) : dv_K y cc n ret R cs ss pc l st N h Q := by
  intro la b scr dC dI dA p e s m args below meth c H locs ls hc hk hm hl hP hz hS
  exact lv_goto hc.1 hc.2.1 hd ht (k la b scr dC dI dA p e s m args below meth c H locs ls hc hk hm hl hP hz hS)
theorem K_icmp_ge {x z : Int32} {o : Int} {pt : Nat} (hd : decode cc pc = .ok (.if_icmp .ge o, 3)) (ht : (pc : Int) + o = (pt : Int)) (hp : pc + 3 = pc') (kt : z ≤ x → dv_K y cc n ret R cs ss pt l st N h Q) (kf : ¬ z ≤ x → dv_K y cc n ret R cs ss pc' l st N h Q) : dv_K y cc n ret R cs ss pc l (.int z :: .int x :: st) N h Q := by
  intro la b scr dC dI dA p e s m args below meth c H locs ls hc hk hm hl hP hz hS
  subst hp
  exact lv_icmp_ge hc.1 hc.2.1 hd ht (fun q => kt q la b scr dC dI dA p e s m args below meth c H locs ls hc hk hm hl hP hz hS) (fun q => kf q la b scr dC dI dA p e s m args below meth c H locs ls hc hk hm hl hP hz hS)
theorem K_if_le {x : Int32} {o : Int} {pt : Nat} (hd : decode cc pc = .ok (.ifCond .le o, 3)) (ht : (pc : Int) + o = (pt : Int)) (hp : pc + 3 = pc') (kt : x ≤ 0 → dv_K y cc n ret R cs ss pt l st N h Q) (kf : ¬ x ≤ 0 → dv_K y cc n ret R cs ss pc' l st N h Q) : dv_K y cc n ret R cs ss pc l (.int x :: st) N h Q := by
  intro la b scr dC dI dA p e s m args below meth c H locs ls hc hk hm hl hP hz hS
  subst hp
  exact lv_if_le hc.1 hc.2.1 hd ht (fun q => kt q la b scr dC dI dA p e s m args below meth c H locs ls hc hk hm hl hP hz hS) (fun q => kf q la b scr dC dI dA p e s m args below meth c H locs ls hc hk hm hl hP hz hS)
theorem K_eq {h2 : gC} (hE : ∀ (D : va_G) (dA : Nat → ClassId) (b : Nat) (H : Heap) (a : Nat), a < N → va_at D vwCl (b + a, h dA b a) H → va_at D vwCl (b + a, h2 dA b a) H) (k : dv_K y cc n ret R cs ss pc l st N h2 Q) : dv_K y cc n ret R cs ss pc l st N h Q := by
  intro la b scr dC dI dA p e s m args below meth c H locs ls hc hk hm hl hP hz hS
  exact k la b scr dC dI dA p e s m args below meth c H locs ls hc hk hm hl (fun a ha => hE _ _ _ _ a ha (hP a ha)) hz hS
theorem K_eqs {h2 : gC} (hE : ∀ (dA : Nat → ClassId) (b a : Nat), a < N → h dA b a = h2 dA b a) (k : dv_K y cc n ret R cs ss pc l st N h2 Q) : dv_K y cc n ret R cs ss pc l st N h Q :=
  K_eq (fun D dA b H a ha q => by rw [← hE dA b a ha]; exact q) k
theorem x_oi : Cond.instanceMethod Lib.objectInit ∈ dv_T := dv_T_in (i := 68) (by decide +kernel) rfl
theorem x_oc : Cond.code Lib.objectInit ⟨#[0xb1]⟩ 1 none ∈ dv_T := dv_T_in (i := 69) (by decide +kernel) rfl
theorem K_obj {a idx : Nat} (hlk : Cond.methodLink y.cls idx Lib.objectInit ∈ dv_T) (ha : a < 545) (hR : 1 ≤ R.frames ∧ 12 ≤ R.locals) (hd : decode cc pc = .ok (.invokespecial idx, 3)) (hp : pc + 3 = pc') (k : dv_K y cc n ret R cs ss pc' l [] N h Q) : dv_K y cc n ret R cs ss pc l [.ref (dv_q a)] N h Q := by
  intro la b scr dC dI dA p e s m args below meth c H locs ls hc hk hm hl hP hz hS
  subst hp
  have hts := hc.2.2.2.2.2.2.1
  show W _ _ _ _ _ _ _ _ _ _ _ _ _ _ _ (F0 m pc ls [dv_tr scr b (.ref (dv_q a))])
  rw [dv_tr_q ha]
  exact W.objInit hc.1 hc.2.1 hc.2.2.2.2.2.1 (hts _ hlk) (hts _ x_oi) (hts _ x_oc) rfl (hl.1.trans hc.2.2.1.symm) rfl hd hR.1 hR.2 (k la b scr dC dI dA p e s m args below meth c H locs ls hc hk hm hl hP hz hS)
theorem gS_new {b N : Nat} {s : State} {H H1 : Heap} {locs : List Loc} (hS : va_S (fun q => b ≤ q) s.heap H locs) (hz : H.size = b + N) (z1 : H1.size = b + N + 1) (o1 : ∀ q, q < b + N → H1[q]? = H[q]?) : va_S (fun q => b ≤ q) s.heap H1 locs :=
  ⟨Nat.le_trans hS.1 (by omega), fun x h1 h2 => (o1 x (Nat.lt_of_lt_of_le h1 (hz ▸ hS.1))).trans (hS.2.1 x h1 h2), hS.2.2⟩
theorem K_newa {atype : ArrayType} {t len : Nat} {x : Int32} {z : (Nat → Int32) ⊕ (Nat → Int64) ⊕ (Nat → UInt32) ⊕ (Nat → UInt64) ⊕ (Nat → Option Nat)} (harr : Cond.arrayClass (newarray.typeOf atype) ∈ dv_T) (hRA : ∀ (dC : Nat → ClassId) (dI : Nat → Nat → Nat) (dA : Nat → ClassId) (s : State), va_K (dC, dI) vwCl (dv_tys dA) s → s.vm.findClass ("[" ++ (newarray.typeOf atype).toString) = some (dA t)) (hcell : ∀ cA : ClassId, vp_cell cA (len, z) = arrV cA len (fun _ => defaultValue (newarray.typeOf atype)))
    (hx : x = nI len) (hlen : len ≤ 2000) (hby : componentBytes (newarray.typeOf atype) ≤ 8) (hN : N < 545) (hcs : cs + 1 ≤ R.cells ∧ ss + len ≤ R.slots) (hd : decode cc pc = .ok (.newarray atype, 2)) (hp : pc + 2 = pc')
    (k : dv_K y cc n ret R (cs + 1) (ss + len) pc' l (.ref (dv_q N) :: st) (N + 1) (gu h N (fun dA _ => .inl (dA t, len, z))) Q) : dv_K y cc n ret R cs ss pc l (.int x :: st) N h Q := by
  intro la b scr dC dI dA p e s m args below meth c H locs ls hc hk hm hl hP hz hS
  subst hp
  subst hx
  have hts := hc.2.2.2.2.2.2.1
  refine va_newaK hc.1 hc.2.1 (hts _ harr) rfl hd (rest := st.map (dv_tr scr b)) rfl (fun q => absurd q (Int32.not_lt.mpr (by rw [show (0 : Int32) = nI 0 from rfl]; exact nI_le (Nat.zero_le _) (by omega)))) (nI_clamp (by omega)) (Nat.le_trans (Nat.mul_le_mul hlen hby) (by decide)) hcs.1 hcs.2 hz (fun H1 cA e1 z1 o1 hAr hNm => ?_)
  have hcA : cA = dA t := Option.some.inj (hNm.symm.trans (hRA dC dI dA s hc.2.2.2.2.2.2.2.1))
  subst hcA
  have h9 := k la b scr dC dI dA p e s m args below meth c H1 locs ls hc hk hm hl (gP_push hP o1 (by show H1[b + N]? = some (vp_cell _ _); rw [hcell]; exact e1)) (by omega) (gS_new hS hz z1 o1)
  have h8 : (Value.ref (dv_q N) :: st).map (dv_tr scr b) = .ref (b + N) :: st.map (dv_tr scr b) := by rw [List.map_cons, dv_tr_q hN]
  rw [h8] at h9
  exact h9
theorem K_anew {idx len : Nat} {x : Int32} (hlk : Cond.classLink y.cls idx "NameHouse$Text" ∈ dv_T) (hx : x = nI len) (hlen : len ≤ 2000) (hN : N < 545) (hcs : cs + 1 ≤ R.cells ∧ ss + len ≤ R.slots) (hd : decode cc pc = .ok (.anewarray idx, 3)) (hp : pc + 3 = pc')
    (k : dv_K y cc n ret R (cs + 1) (ss + len) pc' l (.ref (dv_q N) :: st) (N + 1) (gu h N (fun dA _ => .inl (dA 13, len, .inr (.inr (.inr (.inr (fun _ => none))))))) Q) : dv_K y cc n ret R cs ss pc l (.int x :: st) N h Q := by
  intro la b scr dC dI dA p e s m args below meth c H locs ls hc hk hm hl hP hz hS
  subst hp
  subst hx
  have hts := hc.2.2.2.2.2.2.1
  have hcl : (nI len).toNatClampNeg = len := nI_clamp (by omega)
  refine W.anew hc.1 hc.2.1 hc.2.2.2.2.2.1 (hts _ hlk) (va_AO.use hk.1) rfl hd (rest := st.map (dv_tr scr b)) rfl (fun q => absurd q (Int32.not_lt.mpr (by rw [show (0 : Int32) = nI 0 from rfl]; exact nI_le (Nat.zero_le _) (by omega)))) (by rw [hcl]; omega) hcs.1 (by rw [hcl]; exact hcs.2) (fun cA kA comp f1 f2 f3 f4 => ?_)
  rw [hcl]
  obtain ⟨kA', comp', g1, g2, g3, g4⟩ := (hc.2.2.2.2.2.2.2.1.2 4 (dA 13, .object "NameHouse$Text") rfl).2
  have hcA : cA = dA 13 := Option.some.inj (f1.symm.trans g4)
  subst hcA
  generalize hH1 : H.push ({ cls := dA 13, slots := Array.replicate len .null, vm := .none } : Cell) = H1
  have z1 : H1.size = b + N + 1 := by rw [← hH1, Array.size_push, hz]
  have e1 : H1[b + N]? = some (arrV (dA 13) len (fun _ => .null)) := by rw [← hz, ← hH1, Array.getElem?_push_size, ← arrV_new]
  have o1 : ∀ q : Nat, q < b + N → H1[q]? = H[q]? := fun q hq => by rw [← hH1, Array.getElem?_push, if_neg (by omega)]
  have h9 := k la b scr dC dI dA p e s m args below meth c H1 locs ls hc hk hm hl (gP_push hP o1 (by show H1[b + N]? = some (vp_cell _ _); rw [vp_cell_q]; exact e1)) (by omega) (gS_new hS hz z1 o1)
  have h8 : (Value.ref (dv_q N) :: st).map (dv_tr scr b) = .ref (b + N) :: st.map (dv_tr scr b) := by rw [List.map_cons, dv_tr_q hN]
  rw [h8] at h9
  rw [hz]
  exact h9
theorem K_new {ci idx Nf : Nat} {C : String} {Tf : u_T} {fs : List Value} (ty : Nat → FieldType) (hcl : dv_cl ci C Tf Nf) (hty : ∀ k, k < Nf → parseFieldDescriptor (Tf k).2.2.1 = some (ty k)) (hlk : Cond.classLink y.cls idx C ∈ dv_T) (hins : Cond.instantiable C Nf ∈ dv_T) (hini : Cond.initialized C ∈ dv_T) (hfs : ∀ j, j < Nf → defaultValue (ty j) = vp_V fs j) (hN : N < 545) (hcs : cs + 1 ≤ R.cells ∧ ss + Nf ≤ R.slots) (hd : decode cc pc = .ok (.new idx, 3)) (hp : pc + 3 = pc')
    (k : dv_K y cc n ret R (cs + 1) (ss + Nf) pc' l (.ref (dv_q N) :: st) (N + 1) (gu h N (fun _ _ => .inr (ci, fs))) Q) : dv_K y cc n ret R cs ss pc l st N h Q := by
  intro la b scr dC dI dA p e s m args below meth c H locs ls hc hk hm hl hP hz hS
  subst hp
  have hts := hc.2.2.2.2.2.2.1
  obtain ⟨h1, h9', hNf, hin, -⟩ := hcl
  have hKn := hc.2.2.2.2.2.2.2.1.1 ci _ h1
  refine W.newcK hc.1 hc.2.1 hc.2.2.2.2.2.1 (hts _ hlk) (hts _ hins) (hts _ hini) rfl hd hcs.1 hcs.2 hKn.2.1 hz (fun H1 kC hkC e1 z1 o1 => ?_)
  have h9 := k la b scr dC dI dA p e s m args below meth c H1 locs ls hc hk hm hl (gP_push hP o1 ⟨_, h1, (u_born ty hts hin hKn hkC e1 hty).to hfs⟩) (by omega) (gS_new hS hz z1 o1)
  have h8 : (Value.ref (dv_q N) :: st).map (dv_tr scr b) = .ref (b + N) :: st.map (dv_tr scr b) := by rw [List.map_cons, dv_tr_q hN]
  rw [h8] at h9
  exact h9
theorem K_puti {a idx ci k : Nat} {ty : FieldType} {v : Int32} {fl : Nat → List Value} (hF : dv_F y.cls idx ci k false ty) (hfl : ∀ dA b, h dA b a = .inr (ci, fl b)) (hlen : ∀ b, k < (fl b).length) (ha : a < N) (h544 : a < 545) (hn : narrow ty (.int v) = .int v) (hfit : fits ty (.int v) = true) (hd : decode cc pc = .ok (.putfield idx, 3)) (hp : pc + 3 = pc')
    (kk : dv_K y cc n ret R cs ss pc' l st N (gu h a (fun _ b => .inr (ci, (fl b).set k (.int v)))) Q) : dv_K y cc n ret R cs ss pc l (.int v :: .ref (dv_q a) :: st) N h Q := by
  intro la b scr dC dI dA p e s m args below meth c H locs ls hc hk hm hl hP hz hS
  subst hp
  obtain ⟨C, Tf, Nf, ⟨h1, h9, hNf, hin, ty0, hty, hnm⟩, hkN, hlk, hfin, hdy⟩ := hF
  have hts := hc.2.2.2.2.2.2.1
  have hK := hc.2.2.2.2.2.2.2.1
  show W _ _ _ _ _ _ _ _ _ _ _ _ _ _ _ (F0 m pc ls (.int v :: dv_tr scr b (.ref (dv_q a)) :: st.map (dv_tr scr b)))
  rw [dv_tr_q h544]
  have hap := va_apart (own := y.cls) hts hin ty0 hty hnm hK h1
  have hPa := hP a ha
  rw [hfl dA b] at hPa
  obtain ⟨r, h1', cell, q1, q2, q3, q4⟩ := hPa
  have hr : r = (C, Tf, Nf) := Option.some.inj (h1'.symm.trans h1)
  subst hr
  obtain ⟨hSl, hfc, kC, hkC, hkind⟩ := hK.1 ci _ h1
  obtain ⟨cf, kf, fi, f, hi, hsl⟩ := hSl k hkN
  have hlay := hts _ (hin _ (u_in_lay hkN))
  unfold u_lay at hlay
  rw [if_neg (by rw [hfin]; decide)] at hlay
  have hst := (u_facts hfc hkC (u_lays hts hin hkN) hi).1
  have h6 := u_store hfc hkC hkind hlay hi hdy hn hfit
  refine W.putK hc.1 hc.2.1 (f := f) ⟨hc.2.2.2.2.2.1, hts _ hlk, ⟨_, _, _, hi⟩, hst⟩ (by rw [q2]; exact h6) q1 q3 (by rw [hsl]; exact k2_hasslot (q4 k hkN)) rfl rfl hd fun H' e1 e2 e3 => ?_
  rw [hsl] at e1 ⊢
  exact kk la b scr dC dI dA p e s m args below meth c H' _ ls hc hk hm hl (gP_set hP e3 ⟨_, h1, t_OB.to (V := updV (vp_V (fl b)) k (.int v)) ⟨_, e1, q2, q3, t_set q4 hap hkN (.int v)⟩ (fun j _ => vp_updV_set (hlen b) (.int v) j)⟩) (e2.trans hz) (hS.put e2 e3 (Nat.le_add_right b a))
theorem K_putr {a idx ci k t : Nat} {ty : FieldType} {fl : Nat → List Value} (hF : dv_F y.cls idx ci k true ty) (hdc : ∀ C Tf Nf, vwCl[ci]? = some (C, Tf, Nf) → ∀ k, k < Nf → (Tf k).1 = y.cls) (hin2 : y.name = "<init>") (hfl : ∀ dA b, h dA b a = .inr (ci, fl b)) (hlen : ∀ b, k < (fl b).length) (ha : a < N) (h544 : a < 545) (ht : t < 545) (hn : ∀ q, narrow ty (.ref q) = .ref q) (hfit : ∀ q, fits ty (.ref q) = true) (hd : decode cc pc = .ok (.putfield idx, 3)) (hp : pc + 3 = pc')
    (kk : dv_K y cc n ret R cs ss pc' l st N (gu h a (fun _ b => .inr (ci, (fl b).set k (.ref (b + t))))) Q) : dv_K y cc n ret R cs ss pc l (.ref (dv_q t) :: .ref (dv_q a) :: st) N h Q := by
  intro la b scr dC dI dA p e s m args below meth c H locs ls hc hk hm hl hP hz hS
  subst hp
  obtain ⟨C, Tf, Nf, ⟨h1, h9, hNf, hin, ty0, hty, hnm⟩, hkN, hlk, hfin, hdy⟩ := hF
  have hts := hc.2.2.2.2.2.2.1
  have hK := hc.2.2.2.2.2.2.2.1
  have hown := hc.2.2.2.2.2.1
  show W _ _ _ _ _ _ _ _ _ _ _ _ _ _ _ (F0 m pc ls (dv_tr scr b (.ref (dv_q t)) :: dv_tr scr b (.ref (dv_q a)) :: st.map (dv_tr scr b)))
  rw [dv_tr_q h544, dv_tr_q ht]
  have hap := va_apart (own := y.cls) hts hin ty0 hty hnm hK h1
  have hPa := hP a ha
  rw [hfl dA b] at hPa
  obtain ⟨r, h1', cell, q1, q2, q3, q4⟩ := hPa
  have hr : r = (C, Tf, Nf) := Option.some.inj (h1'.symm.trans h1)
  subst hr
  obtain ⟨hSl, hfc, kC, hkC, hkind⟩ := hK.1 ci _ h1
  obtain ⟨cf, kf, fi, f, hi, hsl⟩ := hSl k hkN
  have hlay := hts _ (hin _ (u_in_lay hkN))
  unfold u_lay at hlay
  rw [if_pos hfin] at hlay
  have hst := (u_facts hfc hkC (u_lays hts hin hkN) hi).1
  have hcf : m.cls = cf := by
    obtain ⟨_, _, c', _, _, _, -, -, hf', -, -, -, hown2, -⟩ := Cond.laysFinal_spec hlay
    have e1 : c' = cf := by have := hi.symm.trans hf'; simp at this; exact this.1.symm
    rw [hdc _ _ _ h1 k hkN] at hown2
    rw [← e1]; exact Option.some.inj (hown.symm.trans hown2)
  have h6 := u_fits hfc hkC hkind (Or.inr hlay) hi hdy (hn (b + t)) (hfit (b + t))
  refine W.putFinK hc.1 hc.2.1 hown (hts _ hlk) hi hst hcf (hm.trans hin2) (by rw [q2]; exact h6) q1 q3 (by rw [hsl]; exact k2_hasslot (q4 k hkN)) rfl rfl hd fun H' e1 e2 e3 => ?_
  rw [hsl] at e1 ⊢
  exact kk la b scr dC dI dA p e s m args below meth c H' _ ls hc hk hm hl (gP_set hP e3 ⟨_, h1, t_OB.to (V := updV (vp_V (fl b)) k (.ref (b + t))) ⟨_, e1, q2, q3, t_set q4 hap hkN (.ref (b + t))⟩ (fun j _ => vp_updV_set (hlen b) (.ref (b + t)) j)⟩) (e2.trans hz) (hS.put e2 e3 (Nat.le_add_right b a))
theorem K_getr {a idx ci k t : Nat} {fin : Bool} {ty : FieldType} {fl : Nat → List Value} (hF : dv_F y.cls idx ci k fin ty) (hfl : ∀ dA b, h dA b a = .inr (ci, fl b)) (hv : ∀ b, (fl b)[k]? = some (.ref (b + t))) (ha : a < N) (h544 : a < 545) (ht : t < 545) (hd : decode cc pc = .ok (.getfield idx, 3)) (hp : pc + 3 = pc')
    (kk : dv_K y cc n ret R cs ss pc' l (.ref (dv_q t) :: st) N h Q) : dv_K y cc n ret R cs ss pc l (.ref (dv_q a) :: st) N h Q := by
  intro la b scr dC dI dA p e s m args below meth c H locs ls hc hk hm hl hP hz hS
  subst hp
  obtain ⟨C, Tf, Nf, ⟨h1, h9, hNf, hin, ty0, hty, hnm⟩, hkN, hlk, -, -⟩ := hF
  show W _ _ _ _ _ _ _ _ _ _ _ _ _ _ _ (F0 m pc ls (dv_tr scr b (.ref (dv_q a)) :: st.map (dv_tr scr b)))
  rw [dv_tr_q h544]
  have hPa := hP a ha
  rw [hfl dA b] at hPa
  have hP1 : va_P (dC, dI) vwCl [(b + a, .inr (ci, fl b))] H := by
    intro i q hq
    cases i with
    | zero => cases hq; exact hPa
    | succ i => simp at hq
  refine va_get hc.1 hc.2.1 hc.2.2.2.2.2.2.1 hin hc.2.2.2.2.2.1 hc.2.2.2.2.2.2.2.1 hP1 0 rfl h1 k hkN (hc.2.2.2.2.2.2.1 _ hlk) (fun _ h => h) (v := dv_tr scr b (.ref (dv_q t))) ?_ hd (kk la b scr dC dI dA p e s m args below meth c H locs ls hc hk hm hl hP hz hS)
  rw [dv_tr_q ht]; exact hv b
theorem K_iast {a j len : Nat} {i x : Int32} {f : Nat → Int32} (hfl : ∀ dA b, h dA b a = .inl (dA 10, len, .inl f)) (hi : i = nI j) (hj : j < len) (hln : len ≤ 2000) (ha : a < N) (h544 : a < 545) (hd : decode cc pc = .ok (.iastore, 1)) (hp : pc + 1 = pc')
    (kk : dv_K y cc n ret R cs ss pc' l st N (gu h a (fun dA _ => .inl (dA 10, len, .inl (upd f j x)))) Q) : dv_K y cc n ret R cs ss pc l (.int x :: .int i :: .ref (dv_q a) :: st) N h Q := by
  intro la b scr dC dI dA p e s m args below meth c H locs ls hc hk hm hl hP hz hS
  subst hp
  obtain ⟨h1, h2⟩ := dv_j hi hj (by omega)
  show W _ _ _ _ _ _ _ _ _ _ _ _ _ _ _ (F0 m pc ls (.int x :: .int i :: dv_tr scr b (.ref (dv_q a)) :: st.map (dv_tr scr b)))
  rw [dv_tr_q h544]
  have hPa := hP a ha
  rw [hfl dA b] at hPa
  have hPb : H[b + a]? = some (vp_cell (dA 10) (len, .inl f)) := hPa
  refine W.iast hc.1 hc.2.1 hPb ((hc.2.2.2.2.2.2.2.1.2 1 (dA 10, .int) rfl).1 len (fun j => .int (f j))) (fun q => by cases q) (by show ¬ (i < 0 ∨ (arrV _ _ _).slots.size ≤ _); rw [arrV_size]; exact h1) rfl rfl hd fun H1 e1 z oq => ?_
  refine kk la b scr dC dI dA p e s m args below meth c H1 _ ls hc hk hm hl (gP_set hP oq ?_) (z.trans hz) (hS.put z oq (Nat.le_add_right b a))
  show H1[b + a]? = some (vp_cell _ _)
  rw [e1, vp_cell_i, vp_cell_i, arrV_store, h2]
  congr 2
  funext q
  by_cases hq : q = j
  · subst hq
    simp [updV, upd]
  · simp [updV, upd, hq]
theorem K_aast {a j len v : Nat} {i : Int32} {f : Nat → Nat → Option Nat} {fv : Nat → List Value} (hfl : ∀ dA b, h dA b a = .inl (dA 13, len, .inr (.inr (.inr (.inr (f b)))))) (hv : ∀ dA b, h dA b v = .inr (4, fv b)) (hi : i = nI j) (hj : j < len) (hln : len ≤ 2000) (ha : a < N) (hvN : v < N) (h544 : a < 545) (hv544 : v < 545) (hd : decode cc pc = .ok (.aastore, 1)) (hp : pc + 1 = pc')
    (kk : dv_K y cc n ret R cs ss pc' l st N (gu h a (fun dA b => .inl (dA 13, len, .inr (.inr (.inr (.inr (va_up (f b) j (some (b + v)))))))) ) Q) : dv_K y cc n ret R cs ss pc l (.ref (dv_q v) :: .int i :: .ref (dv_q a) :: st) N h Q := by
  intro la b scr dC dI dA p e s m args below meth c H locs ls hc hk hm hl hP hz hS
  subst hp
  obtain ⟨h1, h2⟩ := dv_j hi hj (by omega)
  show W _ _ _ _ _ _ _ _ _ _ _ _ _ _ _ (F0 m pc ls (dv_tr scr b (.ref (dv_q v)) :: .int i :: dv_tr scr b (.ref (dv_q a)) :: st.map (dv_tr scr b)))
  rw [dv_tr_q h544, dv_tr_q hv544]
  have hPa := hP a ha
  rw [hfl dA b] at hPa
  have hPb : H[b + a]? = some (vp_cell (dA 13) (len, .inr (.inr (.inr (.inr (f b)))))) := hPa
  have hPv := hP v hvN
  rw [hv dA b] at hPv
  obtain ⟨r', hr', cellV, g1, g2, g3, -⟩ := hPv
  have hK := hc.2.2.2.2.2.2.2.1
  have hlt : i.toNatClampNeg < len := by rw [h2]; exact hj
  have h0 : ¬ i < 0 := fun q => h1 (Or.inl q)
  have hcls := (hK.1 4 (RX4, TX4, 3) rfl).2
  obtain ⟨kA, comp, k1, k2, k3, -⟩ := (hK.2 4 (dA 13, .object "NameHouse$Text") rfl).2
  have hcomp : comp = dC 4 := Option.some.inj (k3.symm.trans hcls.1)
  subst hcomp
  have hcls' := hcls
  obtain ⟨kC, hkC, -⟩ := hcls.2
  refine W.aast hc.1 hc.2.1 hPb (fun q h => by cases h) (fun h => by cases h) k1 k2 rfl hkC ⟨h0, by show _ < (arrV _ _ _).slots.size; rw [arrV_size]; exact hlt⟩ g1 (fun q h => by rw [g3] at h; cases h) (by rw [g2]; exact hkC) (by rw [g2]; exact va_assign hcls') rfl rfl hd fun H1 e1 z oq => ?_
  refine kk la b scr dC dI dA p e s m args below meth c H1 _ ls hc hk hm hl (gP_set hP oq ?_) (z.trans hz) (hS.put z oq (Nat.le_add_right b a))
  show H1[b + a]? = some (vp_cell _ _)
  rw [e1, vp_cell_q, vp_cell_q, arrV_store, h2]
  congr 2
  funext q
  by_cases hq : q = j
  · subst hq
    simp [updV, va_up, va_rf]
  · simp [updV, va_up, hq]
end
def dv_qi (dC : Nat → ClassId) (dI : Nat → Nat → Nat) (dA : Nat → ClassId) (b N : Nat) (h : gC) : Array Value → State → Outcome → State → Prop := fun _ st oc t => oc = .returned none ∧ t.heap.size = b + N ∧ gP (dC, dI) dA b N h t.heap ∧ va_F (fun q => b ≤ q) st t
def dv_Qi (R : Room) (N : Nat) (h : gC) : dv_ZT := fun _ b _ dC dI dA _ s _ args below _ _ => MQ below (dv_qi dC dI dA b N h) args s R.cells R.slots (fun q => b ≤ q)
/-- the constructor, called where places below N are made: it returns, places below N' are made -/
def dv_I (y : MethodName) (cc : ByteArray) (n : Nat) (R : Room) (av : List Value) (N : Nat) (h : gC) (N' : Nat) (h' : gC) : Prop :=
  ∀ (la : Launch) (b scr : Nat) (dC : Nat → ClassId) (dI : Nat → Nat → Nat) (dA : Nat → ClassId), scr < b →
    Met la y (dv_wm y cc n none) R (va_Pc (av.map (dv_tr scr b)) (fun U => U.heap.size = b + N ∧ va_K (dC, dI) vwCl (dv_tys dA) U ∧ gP (dC, dI) dA b N h U.heap ∧ dv_nw U ∧ dv_nk U)) (dv_qi dC dI dA b N' h') R.cells R.slots (fun q => b ≤ q)
theorem dv_I_of {y : MethodName} {cc : ByteArray} {n : Nat} {R : Room} {av : List Value} {N N' : Nat} {h h' : gC} (l0 : List (Option Value)) (hy : plainName y.cls = true) (hn : ∀ scr b, (lg_sl (av.map (dv_tr scr b))).length ≤ n) (hl0 : ∀ scr b, lv_args 0 (av.map (dv_tr scr b)) = dv_pr scr b 0 l0)
    (k : dv_K y cc n none R 0 0 0 l0 [] N h (dv_Qi R N' h')) : dv_I y cc n R av N h N' h' := by
  intro la b scr dC dI dA hsb
  refine Met.ofW (cc := cc) (maxL := n) (ret := none) hy rfl ?_
  intro p e s m args below meth c s₁ B hml hv
  obtain ⟨rfl, hz, hK, hP, hnw, hnk⟩ := hv
  have hts := atoms_spec (ws := dv_wm y cc n none) B.pre
  have hown : s.vm.findClass y.cls = some m.cls := findClass_of_methodNamed B.named
  have hl := lv_entry (av.map (dv_tr scr b)) (n := n) (hn scr b)
  rw [hl0 scr b] at hl
  rw [lg_entry_eq]
  exact k la b scr dC dI dA p e s m _ below meth c s.heap [] _ ⟨B.exec, B.bytes, hml, B.returns, B.notSynchronized, hown, fun w hw => hts w (List.mem_cons_of_mem _ hw), hK, hsb, by omega, hnw⟩ hnk (name_of_methodNamed B.named B.method).1 hl hP hz va_S.rf
def dv_mi (y : MethodName) (cc : ByteArray) (n np : Nat) : Prop := dv_mf y cc n none np ∧ y.name = "<init>" ∧ Cond.instanceMethod y ∈ dv_T
section
variable {y : MethodName} {cc : ByteArray} {n : Nat} {ret : Option FieldType} {R : Room} {cs ss pc pc' : Nat} {l l' : List (Option Value)} {st : List Value} {N : Nat} {h : gC} {Q : dv_ZT}
theorem K_vret (hd : decode cc pc = .ok (.return_, 1)) (hr : ret = none) (hcs : cs ≤ R.cells ∧ ss ≤ R.slots) : dv_K y cc n ret R cs ss pc l [] N h (dv_Qi R N h) := by
  intro la b scr dC dI dA p e s m args below meth c H locs ls hc hk hm hl hP hz hS
  refine W.widen hcs.1 hcs.2 ?_
  exact W.vret hc.1 hc.2.1 (hc.2.2.2.1.trans hr) (fun t ht hW => ⟨rfl, by rw [ht]; exact hz, by rw [ht]; exact hP, hS.F ht⟩) hS.2.2 hd hc.2.2.2.2.1
theorem dv_blindi {av : List Value} {b scr : Nat} {dC : Nat → ClassId} {dI : Nat → Nat → Nat} {dA : Nat → ClassId} : FrameBlind (va_Pc (av.map (dv_tr scr b)) (fun U => U.heap.size = b + N ∧ va_K (dC, dI) vwCl (dv_tys dA) U ∧ gP (dC, dI) dA b N h U.heap ∧ dv_nw U ∧ dv_nk U)) := by
  intro a U g mk q
  obtain ⟨q0, q1, q2, q3, q4, q5⟩ := q
  exact ⟨q0, q1, va_K.moved (u := U) (U := U.calling g mk a) (Vm.Alike.refl U.vm) q2, q3, dv_nw.same (s := U) (U := U.calling g mk a) rfl q4, q5.call g mk a⟩

theorem K_call {y' : MethodName} {cc' : ByteArray} {n' : Nat} {R' : Room} {a idx N' : Nat} {h' : gC} (As : List Value) {rest : List Value} (hM : dv_I y' cc' n' R' (.ref (dv_q a) :: As) N h N' h') (hf : dv_mi y' cc' n' As.length) (hlk : Cond.methodLink y.cls idx y' ∈ dv_T) (ha : a < 545) (hd : decode cc pc = .ok (.invokespecial idx, 3)) (hp : pc + 3 = pc') (hst : st = As.reverse ++ .ref (dv_q a) :: rest) (hrm : (rest.map fun v => v.category).sum ≤ 8) (hR : R'.frames + 1 ≤ R.frames ∧ 8 + (n' + 11) + R'.locals ≤ R.locals) (hcs : cs + R'.cells ≤ R.cells ∧ ss + R'.slots ≤ R.slots)
    (kk : dv_K y cc n ret R (cs + R'.cells) (ss + R'.slots) pc' l rest N' h' Q) : dv_K y cc n ret R cs ss pc l st N h Q := by
  intro la b scr dC dI dA p e s m args below meth c H locs ls hc hk hm hl hP hz hS
  subst hp
  subst hst
  obtain ⟨⟨f1, f2, f3, f4⟩, f5, f6⟩ := hf
  have hsb := hc.2.2.2.2.2.2.2.2.1
  have hts := hc.2.2.2.2.2.2.1
  have hK := hc.2.2.2.2.2.2.2.1
  have hrun : va_Run p la e R s m args below meth c H locs cs ss R'.cells R'.slots (F0 m pc ls ((As.reverse ++ .ref (dv_q a) :: rest).map (dv_tr scr b))) (rest.map (dv_tr scr b)) (dv_qi dC dI dA b N' h' (Value.ref (b + a) :: As.map (dv_tr scr b)).toArray) (fun q => b ≤ q) := by
    refine va_runI (b := b + a) (As := As.map (dv_tr scr b)) (rest := rest.map (dv_tr scr b)) ⟨hc.1, hc.2.1, hc.2.2.1, hc.2.2.2.2.2.1, hts⟩ (hM la b scr dC dI dA hsb) (n := As.length) (mc := R'.cells) (ms := R'.slots)
      ⟨callB_of As.length hts (dv_good f1) rfl rfl rfl (hts _ f2) (hts _ hlk) ⟨f3.1, f3.2, f4⟩ hR, f5, hts _ f6⟩
      ⟨dv_blindi, fun U hU hW => ⟨?_, ?_, va_K.moved hW.alike hK, ?_, hc.2.2.2.2.2.2.2.2.2.2.warm hW, hk.warm hW⟩⟩ rfl (List.length_map _) hl.1 ?_ ?_ hd hcs
    · rw [List.map_cons, dv_tr_q ha]
    · rw [hU]; exact hz
    · rw [hU]; exact hP
    · show (As.reverse ++ Value.ref (dv_q a) :: rest).map (dv_tr scr b) = _
      rw [List.map_append, List.map_reverse, List.map_cons, dv_tr_q ha]
    · show 2 * 0 + _ ≤ 8
      rw [List.map_map]
      have : ((fun v : Value => v.category) ∘ dv_tr scr b) = fun v => v.category := by funext v; exact dv_tr_cat scr b v
      rw [this]; omega
  intro T0 hT0 X0
  obtain ⟨v, st₀, t, T', L, h0, X', hL, e1, e2, ⟨hv, hz1, hP1, hzz, hkk⟩, sg⟩ := hrun T0 hT0 X0
  cases hv
  rw [h0] at hzz hkk
  have hS1 : va_S (fun q => b ≤ q) s.heap T'.heap (locs ++ L) := by
    refine ⟨Nat.le_trans hS.1 (by rw [e1]; exact hzz), fun q h1 h2 => ?_, fun q hq => ?_⟩
    · rw [e1, hkk q (Nat.lt_of_lt_of_le h1 hS.1) h2]; exact hS.2.1 q h1 h2
    · rcases List.mem_append.mp hq with h | h
      · exact hS.2.2 q h
      · exact hL q h
  obtain ⟨t2, a1, b1⟩ := kk la b scr dC dI dA p e s m args below meth c T'.heap (locs ++ L) ls hc hk hm hl (by rw [e1]; exact hP1) (by rw [e1]; exact hz1) hS1 T' rfl X'
  exact ⟨t2, sg t2 a1, b1⟩
theorem K_calln {y' : MethodName} {cc' : ByteArray} {n' : Nat} {R' : Room} {a idx N' : Nat} {h' : gC} (As : List Value) {rest : List Value} (hM : dv_I y' cc' n' R' (.ref (dv_q a) :: As) N h N' h') (hf : dv_mi y' cc' n' As.length) (hlk : y.cls = RX7 ∧ (idx, y') ∈ dv_NL2) (ha : a < 545) (hd : decode cc pc = .ok (.invokespecial idx, 3)) (hp : pc + 3 = pc') (hst : st = As.reverse ++ .ref (dv_q a) :: rest) (hrm : (rest.map fun v => v.category).sum ≤ 8) (hR : R'.frames + 1 ≤ R.frames ∧ 8 + (n' + 11) + R'.locals ≤ R.locals) (hcs : cs + R'.cells ≤ R.cells ∧ ss + R'.slots ≤ R.slots)
    (kk : dv_K y cc n ret R (cs + R'.cells) (ss + R'.slots) pc' l rest N' h' Q) : dv_K y cc n ret R cs ss pc l st N h Q := by
  intro la b scr dC dI dA p e s m args below meth c H locs ls hc hk hm hl hP hz hS
  subst hp
  subst hst
  obtain ⟨⟨f1, f2, f3, f4⟩, f5, f6⟩ := hf
  have hsb := hc.2.2.2.2.2.2.2.2.1
  have hts := hc.2.2.2.2.2.2.1
  have hK := hc.2.2.2.2.2.2.2.1
  have hrun : va_Run p la e R s m args below meth c H locs cs ss R'.cells R'.slots (F0 m pc ls ((As.reverse ++ .ref (dv_q a) :: rest).map (dv_tr scr b))) (rest.map (dv_tr scr b)) (dv_qi dC dI dA b N' h' (Value.ref (b + a) :: As.map (dv_tr scr b)).toArray) (fun q => b ≤ q) := by
    refine va_runIN (host := "NameHouse") (b := b + a) (As := As.map (dv_tr scr b)) (rest := rest.map (dv_tr scr b)) ⟨hc.1, hc.2.1, hc.2.2.1, hc.2.2.2.2.2.1, hts⟩ (hM la b scr dC dI dA hsb) (n := As.length) (mc := R'.cells) (ms := R'.slots)
      ⟨va_cnB As.length hts (dv_good f1) rfl rfl rfl (by rw [hlk.1]; exact hk.2 _ hlk.2) (hts _ f2) ⟨f3.1, f3.2, f4⟩ hR, f5, hts _ f6⟩
      ⟨dv_blindi, fun U hU hW => ⟨?_, ?_, va_K.moved hW.alike hK, ?_, hc.2.2.2.2.2.2.2.2.2.2.warm hW, hk.warm hW⟩⟩ rfl (List.length_map _) hl.1 ?_ ?_ hd hcs
    · rw [List.map_cons, dv_tr_q ha]
    · rw [hU]; exact hz
    · rw [hU]; exact hP
    · show (As.reverse ++ Value.ref (dv_q a) :: rest).map (dv_tr scr b) = _
      rw [List.map_append, List.map_reverse, List.map_cons, dv_tr_q ha]
    · show 2 * 0 + _ ≤ 8
      rw [List.map_map]
      have : ((fun v : Value => v.category) ∘ dv_tr scr b) = fun v => v.category := by funext v; exact dv_tr_cat scr b v
      rw [this]; omega
  intro T0 hT0 X0
  obtain ⟨v, st₀, t, T', L, h0, X', hL, e1, e2, ⟨hv, hz1, hP1, hzz, hkk⟩, sg⟩ := hrun T0 hT0 X0
  cases hv
  rw [h0] at hzz hkk
  have hS1 : va_S (fun q => b ≤ q) s.heap T'.heap (locs ++ L) := by
    refine ⟨Nat.le_trans hS.1 (by rw [e1]; exact hzz), fun q h1 h2 => ?_, fun q hq => ?_⟩
    · rw [e1, hkk q (Nat.lt_of_lt_of_le h1 hS.1) h2]; exact hS.2.1 q h1 h2
    · rcases List.mem_append.mp hq with h | h
      · exact hS.2.2 q h
      · exact hL q h
  obtain ⟨t2, a1, b1⟩ := kk la b scr dC dI dA p e s m args below meth c T'.heap (locs ++ L) ls hc hk hm hl (by rw [e1]; exact hP1) (by rw [e1]; exact hz1) hS1 T' rfl X'
  exact ⟨t2, sg t2 a1, b1⟩
end
