/-- from here the machine comes to Q: as dv_J, but the end is any word about the place where the method stands -/
abbrev dv_ZT : Type := Launch → Nat → Nat → (Nat → ClassId) → (Nat → Nat → Nat) → (Nat → ClassId) → Program → State → MethodId → Array Value → List Frame → Method → Code → State → Prop
def dv_Jz (y : MethodName) (cc : ByteArray) (n : Nat) (ret : Option FieldType) (R : Room) (cs ss pc : Nat) (l : List (Option Value)) (st : List Value) (S : dv_S) (Q : dv_ZT) : Prop :=
  ∀ (la : Launch) (b scr : Nat) (dC : Nat → ClassId) (dI : Nat → Nat → Nat) (dA : Nat → ClassId) (p : Program) (e : Env) (s : State) (m : MethodId) (args : Array Value) (below : List Frame) (meth : Method) (c : Code) (H : Heap) (locs : List Loc) (ls : Array Slot),
    dv_cx y cc n ret scr b dC dI dA p s m args meth c → dv_lr scr b ls n l → va_P (dC, dI) vwCl (dv_ws dA b S) H → va_S (fun q => b ≤ q) s.heap H locs → va_X scr (dv_L S) (S.2.1 100000) s s.heap →
    W p la e R s m args below meth c H locs cs ss (Q la b scr dC dI dA p s m args below meth c) (F0 m pc ls (st.map (dv_tr scr b)))
theorem J_z {y : MethodName} {cc : ByteArray} {n : Nat} {ret : Option FieldType} {R : Room} {cs ss pc : Nat} {l : List (Option Value)} {st : List Value} {S : dv_S} {Q : Option Value → dv_S → Prop} : dv_Jz y cc n ret R cs ss pc l st S (fun _ b scr dC dI dA _ s _ args below _ _ => MQ below (dv_Q dC dI dA scr b Q) args s R.cells R.slots (fun q => b ≤ q)) ↔ dv_J y cc n ret R cs ss pc l st S Q := Iff.rfl
section
variable {y : MethodName} {cc : ByteArray} {n : Nat} {ret : Option FieldType} {R : Room} {cs ss pc pc' : Nat} {l l' : List (Option Value)} {st : List Value} {S : dv_S} {Q : dv_ZT}
theorem Z_iconst {i : Int} {v : Int32} (hd : decode cc pc = .ok (.iconst i, 1)) (hp : pc + 1 = pc') (hv : Int32.ofInt i = v) (k : dv_Jz y cc n ret R cs ss pc' l (.int v :: st) S Q) : dv_Jz y cc n ret R cs ss pc l st S Q := by
  intro la b scr dC dI dA p e s m args below meth c H locs ls hc hl hP hS hX
  subst hp
  exact lv_iconst hc.1 hc.2.1 hd hv (k la b scr dC dI dA p e s m args below meth c H locs ls hc hl hP hS hX)
theorem Z_bipush {i : Int} {v : Int32} (hd : decode cc pc = .ok (.bipush i, 2)) (hp : pc + 2 = pc') (hv : (Int8.ofInt i).toInt32 = v) (k : dv_Jz y cc n ret R cs ss pc' l (.int v :: st) S Q) : dv_Jz y cc n ret R cs ss pc l st S Q := by
  intro la b scr dC dI dA p e s m args below meth c H locs ls hc hl hP hS hX
  subst hp
  exact lv_bipush hc.1 hc.2.1 hd hv (k la b scr dC dI dA p e s m args below meth c H locs ls hc hl hP hS hX)
theorem Z_sipush {i : Int} {v : Int32} (hd : decode cc pc = .ok (.sipush i, 3)) (hp : pc + 3 = pc') (hv : (Int16.ofInt i).toInt32 = v) (k : dv_Jz y cc n ret R cs ss pc' l (.int v :: st) S Q) : dv_Jz y cc n ret R cs ss pc l st S Q := by
  intro la b scr dC dI dA p e s m args below meth c H locs ls hc hl hP hS hX
  subst hp
  exact lv_sipush hc.1 hc.2.1 hd hv (k la b scr dC dI dA p e s m args below meth c H locs ls hc hl hP hS hX)
theorem Z_lconst {i : Fin 2} {v : Int64} (hd : decode cc pc = .ok (.lconst i, 1)) (hp : pc + 1 = pc') (hv : Int64.ofNat (i : Nat) = v) (k : dv_Jz y cc n ret R cs ss pc' l (.long v :: st) S Q) : dv_Jz y cc n ret R cs ss pc l st S Q := by
  intro la b scr dC dI dA p e s m args below meth c H locs ls hc hl hP hS hX
  subst hp
  exact lv_lconst hc.1 hc.2.1 hd hv (k la b scr dC dI dA p e s m args below meth c H locs ls hc hl hP hS hX)
theorem Z_iadd {x z : Int32} (hd : decode cc pc = .ok (.iadd, 1)) (hp : pc + 1 = pc') (k : dv_Jz y cc n ret R cs ss pc' l (.int (x + z) :: st) S Q) : dv_Jz y cc n ret R cs ss pc l (.int z :: .int x :: st) S Q := by
  intro la b scr dC dI dA p e s m args below meth c H locs ls hc hl hP hS hX
  subst hp
  exact lv_iadd hc.1 hc.2.1 hd (k la b scr dC dI dA p e s m args below meth c H locs ls hc hl hP hS hX)
theorem Z_isub {x z : Int32} (hd : decode cc pc = .ok (.isub, 1)) (hp : pc + 1 = pc') (k : dv_Jz y cc n ret R cs ss pc' l (.int (x - z) :: st) S Q) : dv_Jz y cc n ret R cs ss pc l (.int z :: .int x :: st) S Q := by
  intro la b scr dC dI dA p e s m args below meth c H locs ls hc hl hP hS hX
  subst hp
  exact lv_isub hc.1 hc.2.1 hd (k la b scr dC dI dA p e s m args below meth c H locs ls hc hl hP hS hX)
theorem Z_imul {x z : Int32} (hd : decode cc pc = .ok (.imul, 1)) (hp : pc + 1 = pc') (k : dv_Jz y cc n ret R cs ss pc' l (.int (x * z) :: st) S Q) : dv_Jz y cc n ret R cs ss pc l (.int z :: .int x :: st) S Q := by
  intro la b scr dC dI dA p e s m args below meth c H locs ls hc hl hP hS hX
  subst hp
  exact lv_imul hc.1 hc.2.1 hd (k la b scr dC dI dA p e s m args below meth c H locs ls hc hl hP hS hX)
theorem Z_iand {x z : Int32} (hd : decode cc pc = .ok (.iand, 1)) (hp : pc + 1 = pc') (k : dv_Jz y cc n ret R cs ss pc' l (.int (x &&& z) :: st) S Q) : dv_Jz y cc n ret R cs ss pc l (.int z :: .int x :: st) S Q := by
  intro la b scr dC dI dA p e s m args below meth c H locs ls hc hl hP hS hX
  subst hp
  exact lv_iand hc.1 hc.2.1 hd (k la b scr dC dI dA p e s m args below meth c H locs ls hc hl hP hS hX)
theorem Z_ior {x z : Int32} (hd : decode cc pc = .ok (.ior, 1)) (hp : pc + 1 = pc') (k : dv_Jz y cc n ret R cs ss pc' l (.int (x ||| z) :: st) S Q) : dv_Jz y cc n ret R cs ss pc l (.int z :: .int x :: st) S Q := by
  intro la b scr dC dI dA p e s m args below meth c H locs ls hc hl hP hS hX
  subst hp
  exact lv_ior hc.1 hc.2.1 hd (k la b scr dC dI dA p e s m args below meth c H locs ls hc hl hP hS hX)
theorem Z_ishr {x z : Int32} (hd : decode cc pc = .ok (.ishr, 1)) (hp : pc + 1 = pc') (k : dv_Jz y cc n ret R cs ss pc' l (.int (x >>> (z &&& 31)) :: st) S Q) : dv_Jz y cc n ret R cs ss pc l (.int z :: .int x :: st) S Q := by
  intro la b scr dC dI dA p e s m args below meth c H locs ls hc hl hP hS hX
  subst hp
  exact lv_ishr hc.1 hc.2.1 hd (k la b scr dC dI dA p e s m args below meth c H locs ls hc hl hP hS hX)
theorem Z_ishl {x z : Int32} (hd : decode cc pc = .ok (.ishl, 1)) (hp : pc + 1 = pc') (k : dv_Jz y cc n ret R cs ss pc' l (.int (x <<< (z &&& 31)) :: st) S Q) : dv_Jz y cc n ret R cs ss pc l (.int z :: .int x :: st) S Q := by
  intro la b scr dC dI dA p e s m args below meth c H locs ls hc hl hP hS hX
  subst hp
  exact lv_ishl hc.1 hc.2.1 hd (k la b scr dC dI dA p e s m args below meth c H locs ls hc hl hP hS hX)
theorem Z_irem {x z : Int32} (hd : decode cc pc = .ok (.irem, 1)) (hp : pc + 1 = pc') (hne : ¬ z = 0) (k : dv_Jz y cc n ret R cs ss pc' l (.int (x - x / z * z) :: st) S Q) : dv_Jz y cc n ret R cs ss pc l (.int z :: .int x :: st) S Q := by
  intro la b scr dC dI dA p e s m args below meth c H locs ls hc hl hP hS hX
  subst hp
  exact lv_irem hc.1 hc.2.1 hd hne (k la b scr dC dI dA p e s m args below meth c H locs ls hc hl hP hS hX)
theorem Z_ineg {x : Int32} (hd : decode cc pc = .ok (.ineg, 1)) (hp : pc + 1 = pc') (k : dv_Jz y cc n ret R cs ss pc' l (.int (-x) :: st) S Q) : dv_Jz y cc n ret R cs ss pc l (.int x :: st) S Q := by
  intro la b scr dC dI dA p e s m args below meth c H locs ls hc hl hP hS hX
  subst hp
  exact lv_ineg hc.1 hc.2.1 hd (k la b scr dC dI dA p e s m args below meth c H locs ls hc hl hP hS hX)
theorem Z_ladd {x z : Int64} (hd : decode cc pc = .ok (.ladd, 1)) (hp : pc + 1 = pc') (k : dv_Jz y cc n ret R cs ss pc' l (.long (x + z) :: st) S Q) : dv_Jz y cc n ret R cs ss pc l (.long z :: .long x :: st) S Q := by
  intro la b scr dC dI dA p e s m args below meth c H locs ls hc hl hP hS hX
  subst hp
  exact lv_ladd hc.1 hc.2.1 hd (k la b scr dC dI dA p e s m args below meth c H locs ls hc hl hP hS hX)
theorem Z_lmul {x z : Int64} (hd : decode cc pc = .ok (.lmul, 1)) (hp : pc + 1 = pc') (k : dv_Jz y cc n ret R cs ss pc' l (.long (x * z) :: st) S Q) : dv_Jz y cc n ret R cs ss pc l (.long z :: .long x :: st) S Q := by
  intro la b scr dC dI dA p e s m args below meth c H locs ls hc hl hP hS hX
  subst hp
  exact lv_lmul hc.1 hc.2.1 hd (k la b scr dC dI dA p e s m args below meth c H locs ls hc hl hP hS hX)
theorem Z_land {x z : Int64} (hd : decode cc pc = .ok (.land, 1)) (hp : pc + 1 = pc') (k : dv_Jz y cc n ret R cs ss pc' l (.long (x &&& z) :: st) S Q) : dv_Jz y cc n ret R cs ss pc l (.long z :: .long x :: st) S Q := by
  intro la b scr dC dI dA p e s m args below meth c H locs ls hc hl hP hS hX
  subst hp
  exact lv_land hc.1 hc.2.1 hd (k la b scr dC dI dA p e s m args below meth c H locs ls hc hl hP hS hX)
theorem Z_lshr {x : Int64} {z : Int32} (hd : decode cc pc = .ok (.lshr, 1)) (hp : pc + 1 = pc') (k : dv_Jz y cc n ret R cs ss pc' l (.long (x >>> (z.toInt64 &&& 63)) :: st) S Q) : dv_Jz y cc n ret R cs ss pc l (.int z :: .long x :: st) S Q := by
  intro la b scr dC dI dA p e s m args below meth c H locs ls hc hl hP hS hX
  subst hp
  exact lv_lshr hc.1 hc.2.1 hd rfl (k la b scr dC dI dA p e s m args below meth c H locs ls hc hl hP hS hX)
theorem Z_i2l {x : Int32} (hd : decode cc pc = .ok (.i2l, 1)) (hp : pc + 1 = pc') (k : dv_Jz y cc n ret R cs ss pc' l (.long x.toInt64 :: st) S Q) : dv_Jz y cc n ret R cs ss pc l (.int x :: st) S Q := by
  intro la b scr dC dI dA p e s m args below meth c H locs ls hc hl hP hS hX
  subst hp
  exact lv_i2l hc.1 hc.2.1 hd rfl (k la b scr dC dI dA p e s m args below meth c H locs ls hc hl hP hS hX)
theorem Z_l2i {x : Int64} (hd : decode cc pc = .ok (.l2i, 1)) (hp : pc + 1 = pc') (k : dv_Jz y cc n ret R cs ss pc' l (.int x.toInt32 :: st) S Q) : dv_Jz y cc n ret R cs ss pc l (.long x :: st) S Q := by
  intro la b scr dC dI dA p e s m args below meth c H locs ls hc hl hP hS hX
  subst hp
  exact lv_l2i hc.1 hc.2.1 hd rfl (k la b scr dC dI dA p e s m args below meth c H locs ls hc hl hP hS hX)
theorem Z_i2b {x : Int32} (hd : decode cc pc = .ok (.i2b, 1)) (hp : pc + 1 = pc') (k : dv_Jz y cc n ret R cs ss pc' l (.int x.toInt8.toInt32 :: st) S Q) : dv_Jz y cc n ret R cs ss pc l (.int x :: st) S Q := by
  intro la b scr dC dI dA p e s m args below meth c H locs ls hc hl hP hS hX
  subst hp
  exact lv_i2b hc.1 hc.2.1 hd rfl (k la b scr dC dI dA p e s m args below meth c H locs ls hc hl hP hS hX)
theorem Z_iload_n {x : Int32} {j : Fin 4} (hd : decode cc pc = .ok (.iload_n j, 1)) (hp : pc + 1 = pc') (hv : l[(j : Nat)]? = some (some (.int x))) (k : dv_Jz y cc n ret R cs ss pc' l (.int x :: st) S Q) : dv_Jz y cc n ret R cs ss pc l st S Q := by
  intro la b scr dC dI dA p e s m args below meth c H locs ls hc hl hP hS hX
  subst hp
  exact lv_iload_n hc.1 hc.2.1 hd rfl (dv_lr_at hl hv) (k la b scr dC dI dA p e s m args below meth c H locs ls hc hl hP hS hX)
theorem Z_iload {x : Int32} {j : Nat} (hd : decode cc pc = .ok (.iload j, 2)) (hp : pc + 2 = pc') (hv : l[(j : Nat)]? = some (some (.int x))) (k : dv_Jz y cc n ret R cs ss pc' l (.int x :: st) S Q) : dv_Jz y cc n ret R cs ss pc l st S Q := by
  intro la b scr dC dI dA p e s m args below meth c H locs ls hc hl hP hS hX
  subst hp
  exact lv_iload hc.1 hc.2.1 hd (dv_lr_at hl hv) (k la b scr dC dI dA p e s m args below meth c H locs ls hc hl hP hS hX)
theorem Z_lload_n {x : Int64} {j : Fin 4} (hd : decode cc pc = .ok (.lload_n j, 1)) (hp : pc + 1 = pc') (hv : l[(j : Nat)]? = some (some (.long x))) (k : dv_Jz y cc n ret R cs ss pc' l (.long x :: st) S Q) : dv_Jz y cc n ret R cs ss pc l st S Q := by
  intro la b scr dC dI dA p e s m args below meth c H locs ls hc hl hP hS hX
  subst hp
  exact lv_lload_n hc.1 hc.2.1 hd rfl (dv_lr_at hl hv) (k la b scr dC dI dA p e s m args below meth c H locs ls hc hl hP hS hX)
theorem Z_lload {x : Int64} {j : Nat} (hd : decode cc pc = .ok (.lload j, 2)) (hp : pc + 2 = pc') (hv : l[(j : Nat)]? = some (some (.long x))) (k : dv_Jz y cc n ret R cs ss pc' l (.long x :: st) S Q) : dv_Jz y cc n ret R cs ss pc l st S Q := by
  intro la b scr dC dI dA p e s m args below meth c H locs ls hc hl hP hS hX
  subst hp
  exact lv_lload hc.1 hc.2.1 hd (dv_lr_at hl hv) (k la b scr dC dI dA p e s m args below meth c H locs ls hc hl hP hS hX)
theorem Z_aload_n {a : Nat} {j : Fin 4} (hd : decode cc pc = .ok (.aload_n j, 1)) (hp : pc + 1 = pc') (hv : l[(j : Nat)]? = some (some (.ref a))) (k : dv_Jz y cc n ret R cs ss pc' l (.ref a :: st) S Q) : dv_Jz y cc n ret R cs ss pc l st S Q := by
  intro la b scr dC dI dA p e s m args below meth c H locs ls hc hl hP hS hX
  subst hp
  exact lv_aload_n hc.1 hc.2.1 hd rfl (dv_lr_at hl hv) (k la b scr dC dI dA p e s m args below meth c H locs ls hc hl hP hS hX)
theorem Z_aload {a : Nat} {j : Nat} (hd : decode cc pc = .ok (.aload j, 2)) (hp : pc + 2 = pc') (hv : l[(j : Nat)]? = some (some (.ref a))) (k : dv_Jz y cc n ret R cs ss pc' l (.ref a :: st) S Q) : dv_Jz y cc n ret R cs ss pc l st S Q := by
  intro la b scr dC dI dA p e s m args below meth c H locs ls hc hl hP hS hX
  subst hp
  exact lv_aload hc.1 hc.2.1 hd (dv_lr_at hl hv) (k la b scr dC dI dA p e s m args below meth c H locs ls hc hl hP hS hX)
theorem Z_istore_n {x : Int32} {i : Fin 4} {j : Nat} (hd : decode cc pc = .ok (.istore_n i, 1)) (hp : pc + 1 = pc') (hi : (i : Nat) = j) (hj : j < n) (hok : dv_ok l j = true) (hs : l.set j (some (.int x)) = l') (k : dv_Jz y cc n ret R cs ss pc' l' st S Q) : dv_Jz y cc n ret R cs ss pc l (.int x :: st) S Q := by
  intro la b scr dC dI dA p e s m args below meth c H locs ls hc hl hP hS hX
  subst hp
  subst hs
  exact lv_istore_n hc.1 hc.2.1 hd hi hl hj rfl (fun ls' hl' => k la b scr dC dI dA p e s m args below meth c H locs ls' hc (dv_lr_set (v := .int x) hl' hok) hP hS hX)
theorem Z_istore {x : Int32} {j : Nat} (hd : decode cc pc = .ok (.istore j, 2)) (hp : pc + 2 = pc') (hj : j < n) (hok : dv_ok l j = true) (hs : l.set j (some (.int x)) = l') (k : dv_Jz y cc n ret R cs ss pc' l' st S Q) : dv_Jz y cc n ret R cs ss pc l (.int x :: st) S Q := by
  intro la b scr dC dI dA p e s m args below meth c H locs ls hc hl hP hS hX
  subst hp
  subst hs
  exact lv_istore hc.1 hc.2.1 hd hl hj rfl (fun ls' hl' => k la b scr dC dI dA p e s m args below meth c H locs ls' hc (dv_lr_set (v := .int x) hl' hok) hP hS hX)
theorem Z_astore_n {a : Nat} {i : Fin 4} {j : Nat} (hd : decode cc pc = .ok (.astore_n i, 1)) (hp : pc + 1 = pc') (hi : (i : Nat) = j) (hj : j < n) (hok : dv_ok l j = true) (hs : l.set j (some (.ref a)) = l') (k : dv_Jz y cc n ret R cs ss pc' l' st S Q) : dv_Jz y cc n ret R cs ss pc l (.ref a :: st) S Q := by
  intro la b scr dC dI dA p e s m args below meth c H locs ls hc hl hP hS hX
  subst hp
  subst hs
  exact lv_astore_n hc.1 hc.2.1 hd hi hl hj rfl (fun ls' hl' => k la b scr dC dI dA p e s m args below meth c H locs ls' hc (dv_lr_set (v := .ref a) hl' hok) hP hS hX)
theorem Z_astore {a : Nat} {j : Nat} (hd : decode cc pc = .ok (.astore j, 2)) (hp : pc + 2 = pc') (hj : j < n) (hok : dv_ok l j = true) (hs : l.set j (some (.ref a)) = l') (k : dv_Jz y cc n ret R cs ss pc' l' st S Q) : dv_Jz y cc n ret R cs ss pc l (.ref a :: st) S Q := by
  intro la b scr dC dI dA p e s m args below meth c H locs ls hc hl hP hS hX
  subst hp
  subst hs
  exact lv_astore hc.1 hc.2.1 hd hl hj rfl (fun ls' hl' => k la b scr dC dI dA p e s m args below meth c H locs ls' hc (dv_lr_set (v := .ref a) hl' hok) hP hS hX)
theorem Z_lstore_n {x : Int64} {i : Fin 4} {j : Nat} (hd : decode cc pc = .ok (.lstore_n i, 1)) (hp : pc + 1 = pc') (hi : (i : Nat) = j) (hj : j + 1 < n) (hok : dv_ok l j = true) (hs : (l.set j (some (.long x))).set (j + 1) none = l') (k : dv_Jz y cc n ret R cs ss pc' l' st S Q) : dv_Jz y cc n ret R cs ss pc l (.long x :: st) S Q := by
  intro la b scr dC dI dA p e s m args below meth c H locs ls hc hl hP hS hX
  subst hp
  subst hs
  exact lv_lstore_n hc.1 hc.2.1 hd hi hl hj rfl (fun ls' hl' => k la b scr dC dI dA p e s m args below meth c H locs ls' hc (dv_lr_set2 (v := .long x) hl' hok) hP hS hX)
theorem Z_lstore {x : Int64} {j : Nat} (hd : decode cc pc = .ok (.lstore j, 2)) (hp : pc + 2 = pc') (hj : j + 1 < n) (hok : dv_ok l j = true) (hs : (l.set j (some (.long x))).set (j + 1) none = l') (k : dv_Jz y cc n ret R cs ss pc' l' st S Q) : dv_Jz y cc n ret R cs ss pc l (.long x :: st) S Q := by
  intro la b scr dC dI dA p e s m args below meth c H locs ls hc hl hP hS hX
  subst hp
  subst hs
  exact lv_lstore hc.1 hc.2.1 hd hl hj rfl (fun ls' hl' => k la b scr dC dI dA p e s m args below meth c H locs ls' hc (dv_lr_set2 (v := .long x) hl' hok) hP hS hX)
theorem Z_iinc {x v : Int32} {j : Nat} {i : Int} (hd : decode cc pc = .ok (.iinc j i, 3)) (hp : pc + 3 = pc') (hx : l[j]? = some (some (.int x))) (hv : x + Int32.ofInt i = v) (hj : j < n) (hok : dv_ok l j = true) (hs : l.set j (some (.int v)) = l') (k : dv_Jz y cc n ret R cs ss pc' l' st S Q) : dv_Jz y cc n ret R cs ss pc l st S Q := by
  intro la b scr dC dI dA p e s m args below meth c H locs ls hc hl hP hS hX
  subst hp
  subst hs
  obtain ⟨q, hq⟩ := List.getElem?_of_mem (dv_pr_in (scr := scr) (b := b) l 0 j (.int x) hx)
  rw [Nat.zero_add] at hq
  exact lv_iinc hc.1 hc.2.1 hd hl hq hv hj rfl (fun ls' hl' => k la b scr dC dI dA p e s m args below meth c H locs ls' hc (dv_lr_set (v := .int v) hl' hok) hP hS hX)
theorem Z_dup {v : Value} (hd : decode cc pc = .ok (.dup, 1)) (hp : pc + 1 = pc') (hv : v.category = 1) (k : dv_Jz y cc n ret R cs ss pc' l (v :: v :: st) S Q) : dv_Jz y cc n ret R cs ss pc l (v :: st) S Q := by
  intro la b scr dC dI dA p e s m args below meth c H locs ls hc hl hP hS hX
  subst hp
  exact lv_dup hc.1 hc.2.1 hd (by rw [dv_tr_cat]; exact hv) (k la b scr dC dI dA p e s m args below meth c H locs ls hc hl hP hS hX)
theorem Z_dup2 {v w : Value} (hd : decode cc pc = .ok (.dup2, 1)) (hp : pc + 1 = pc') (hv : v.category = 1) (hw : w.category = 1) (k : dv_Jz y cc n ret R cs ss pc' l (v :: w :: v :: w :: st) S Q) : dv_Jz y cc n ret R cs ss pc l (v :: w :: st) S Q := by
  intro la b scr dC dI dA p e s m args below meth c H locs ls hc hl hP hS hX
  subst hp
  exact lv_dup2_11 hc.1 hc.2.1 hd (by rw [dv_tr_cat]; exact hv) (by rw [dv_tr_cat]; exact hw) (k la b scr dC dI dA p e s m args below meth c H locs ls hc hl hP hS hX)
theorem Z_top {v w : Value} (h : v = w) (k : dv_Jz y cc n ret R cs ss pc l (w :: st) S Q) : dv_Jz y cc n ret R cs ss pc l (v :: st) S Q := h ▸ k
theorem Z_topi {x z : Int32} (h : x = z) (k : dv_Jz y cc n ret R cs ss pc l (.int z :: st) S Q) : dv_Jz y cc n ret R cs ss pc l (.int x :: st) S Q := h ▸ k
theorem Z_loc (h : l = l') (k : dv_Jz y cc n ret R cs ss pc l' st S Q) : dv_Jz y cc n ret R cs ss pc l st S Q := h ▸ k
theorem Z_sto {S' : dv_S} (h : S = S') (k : dv_Jz y cc n ret R cs ss pc l st S' Q) : dv_Jz y cc n ret R cs ss pc l st S Q := h ▸ k
theorem Z_pop {v : Value} (hd : decode cc pc = .ok (.pop, 1)) (hp : pc + 1 = pc') (hv : v.category = 1) (k : dv_Jz y cc n ret R cs ss pc' l st S Q) : dv_Jz y cc n ret R cs ss pc l (v :: st) S Q := by
  intro la b scr dC dI dA p e s m args below meth c H locs ls hc hl hP hS hX
  subst hp
  exact lv_pop hc.1 hc.2.1 hd (by rw [dv_tr_cat]; exact hv) (k la b scr dC dI dA p e s m args below meth c H locs ls hc hl hP hS hX)
theorem Z_goto {o : Int} (hd : decode cc pc = .ok (.goto o, 3)) (ht : (pc : Int) + o = (pc' : Int)) (k : dv_Jz y cc n ret R cs ss pc' l st S Q) : dv_Jz y cc n ret R cs ss pc l st S Q := by
  intro la b scr dC dI dA p e s m args below meth c H locs ls hc hl hP hS hX
  exact lv_goto hc.1 hc.2.1 hd ht (k la b scr dC dI dA p e s m args below meth c H locs ls hc hl hP hS hX)
theorem Z_if_eq {x : Int32} {o : Int} {pt : Nat} (hd : decode cc pc = .ok (.ifCond .eq o, 3)) (ht : (pc : Int) + o = (pt : Int)) (hp : pc + 3 = pc') (kt : x = 0 → dv_Jz y cc n ret R cs ss pt l st S Q) (kf : ¬ x = 0 → dv_Jz y cc n ret R cs ss pc' l st S Q) : dv_Jz y cc n ret R cs ss pc l (.int x :: st) S Q := by
  intro la b scr dC dI dA p e s m args below meth c H locs ls hc hl hP hS hX
  subst hp
  exact lv_if_eq hc.1 hc.2.1 hd ht (fun q => kt q la b scr dC dI dA p e s m args below meth c H locs ls hc hl hP hS hX) (fun q => kf q la b scr dC dI dA p e s m args below meth c H locs ls hc hl hP hS hX)
theorem Z_icmp_eq {x z : Int32} {o : Int} {pt : Nat} (hd : decode cc pc = .ok (.if_icmp .eq o, 3)) (ht : (pc : Int) + o = (pt : Int)) (hp : pc + 3 = pc') (kt : x = z → dv_Jz y cc n ret R cs ss pt l st S Q) (kf : ¬ x = z → dv_Jz y cc n ret R cs ss pc' l st S Q) : dv_Jz y cc n ret R cs ss pc l (.int z :: .int x :: st) S Q := by
  intro la b scr dC dI dA p e s m args below meth c H locs ls hc hl hP hS hX
  subst hp
  exact lv_icmp_eq hc.1 hc.2.1 hd ht (fun q => kt q la b scr dC dI dA p e s m args below meth c H locs ls hc hl hP hS hX) (fun q => kf q la b scr dC dI dA p e s m args below meth c H locs ls hc hl hP hS hX)
theorem Z_if_ne {x : Int32} {o : Int} {pt : Nat} (hd : decode cc pc = .ok (.ifCond .ne o, 3)) (ht : (pc : Int) + o = (pt : Int)) (hp : pc + 3 = pc') (kt : ¬ x = 0 → dv_Jz y cc n ret R cs ss pt l st S Q) (kf : x = 0 → dv_Jz y cc n ret R cs ss pc' l st S Q) : dv_Jz y cc n ret R cs ss pc l (.int x :: st) S Q := by
  intro la b scr dC dI dA p e s m args below meth c H locs ls hc hl hP hS hX
  subst hp
  exact lv_if_ne hc.1 hc.2.1 hd ht (fun q => kt q la b scr dC dI dA p e s m args below meth c H locs ls hc hl hP hS hX) (fun q => kf q la b scr dC dI dA p e s m args below meth c H locs ls hc hl hP hS hX)
theorem Z_icmp_ne {x z : Int32} {o : Int} {pt : Nat} (hd : decode cc pc = .ok (.if_icmp .ne o, 3)) (ht : (pc : Int) + o = (pt : Int)) (hp : pc + 3 = pc') (kt : ¬ x = z → dv_Jz y cc n ret R cs ss pt l st S Q) (kf : x = z → dv_Jz y cc n ret R cs ss pc' l st S Q) : dv_Jz y cc n ret R cs ss pc l (.int z :: .int x :: st) S Q := by
  intro la b scr dC dI dA p e s m args below meth c H locs ls hc hl hP hS hX
  subst hp
  exact lv_icmp_ne hc.1 hc.2.1 hd ht (fun q => kt q la b scr dC dI dA p e s m args below meth c H locs ls hc hl hP hS hX) (fun q => kf q la b scr dC dI dA p e s m args below meth c H locs ls hc hl hP hS hX)
theorem Z_if_lt {x : Int32} {o : Int} {pt : Nat} (hd : decode cc pc = .ok (.ifCond .lt o, 3)) (ht : (pc : Int) + o = (pt : Int)) (hp : pc + 3 = pc') (kt : x < 0 → dv_Jz y cc n ret R cs ss pt l st S Q) (kf : ¬ x < 0 → dv_Jz y cc n ret R cs ss pc' l st S Q) : dv_Jz y cc n ret R cs ss pc l (.int x :: st) S Q := by
  intro la b scr dC dI dA p e s m args below meth c H locs ls hc hl hP hS hX
  subst hp
  exact lv_if_lt hc.1 hc.2.1 hd ht (fun q => kt q la b scr dC dI dA p e s m args below meth c H locs ls hc hl hP hS hX) (fun q => kf q la b scr dC dI dA p e s m args below meth c H locs ls hc hl hP hS hX)
theorem Z_icmp_lt {x z : Int32} {o : Int} {pt : Nat} (hd : decode cc pc = .ok (.if_icmp .lt o, 3)) (ht : (pc : Int) + o = (pt : Int)) (hp : pc + 3 = pc') (kt : x < z → dv_Jz y cc n ret R cs ss pt l st S Q) (kf : ¬ x < z → dv_Jz y cc n ret R cs ss pc' l st S Q) : dv_Jz y cc n ret R cs ss pc l (.int z :: .int x :: st) S Q := by
  intro la b scr dC dI dA p e s m args below meth c H locs ls hc hl hP hS hX
  subst hp
  exact lv_icmp_lt hc.1 hc.2.1 hd ht (fun q => kt q la b scr dC dI dA p e s m args below meth c H locs ls hc hl hP hS hX) (fun q => kf q la b scr dC dI dA p e s m args below meth c H locs ls hc hl hP hS hX)
theorem Z_if_ge {x : Int32} {o : Int} {pt : Nat} (hd : decode cc pc = .ok (.ifCond .ge o, 3)) (ht : (pc : Int) + o = (pt : Int)) (hp : pc + 3 = pc') (kt : 0 ≤ x → dv_Jz y cc n ret R cs ss pt l st S Q) (kf : ¬ 0 ≤ x → dv_Jz y cc n ret R cs ss pc' l st S Q) : dv_Jz y cc n ret R cs ss pc l (.int x :: st) S Q := by
  intro la b scr dC dI dA p e s m args below meth c H locs ls hc hl hP hS hX
  subst hp
  exact lv_if_ge hc.1 hc.2.1 hd ht (fun q => kt q la b scr dC dI dA p e s m args below meth c H locs ls hc hl hP hS hX) (fun q => kf q la b scr dC dI dA p e s m args below meth c H locs ls hc hl hP hS hX)
theorem Z_icmp_ge {x z : Int32} {o : Int} {pt : Nat} (hd : decode cc pc = .ok (.if_icmp .ge o, 3)) (ht : (pc : Int) + o = (pt : Int)) (hp : pc + 3 = pc') (kt : z ≤ x → dv_Jz y cc n ret R cs ss pt l st S Q) (kf : ¬ z ≤ x → dv_Jz y cc n ret R cs ss pc' l st S Q) : dv_Jz y cc n ret R cs ss pc l (.int z :: .int x :: st) S Q := by
  intro la b scr dC dI dA p e s m args below meth c H locs ls hc hl hP hS hX
  subst hp
  exact lv_icmp_ge hc.1 hc.2.1 hd ht (fun q => kt q la b scr dC dI dA p e s m args below meth c H locs ls hc hl hP hS hX) (fun q => kf q la b scr dC dI dA p e s m args below meth c H locs ls hc hl hP hS hX)
theorem Z_if_gt {x : Int32} {o : Int} {pt : Nat} (hd : decode cc pc = .ok (.ifCond .gt o, 3)) (ht : (pc : Int) + o = (pt : Int)) (hp : pc + 3 = pc') (kt : 0 < x → dv_Jz y cc n ret R cs ss pt l st S Q) (kf : ¬ 0 < x → dv_Jz y cc n ret R cs ss pc' l st S Q) : dv_Jz y cc n ret R cs ss pc l (.int x :: st) S Q := by
  intro la b scr dC dI dA p e s m args below meth c H locs ls hc hl hP hS hX
  subst hp
  exact lv_if_gt hc.1 hc.2.1 hd ht (fun q => kt q la b scr dC dI dA p e s m args below meth c H locs ls hc hl hP hS hX) (fun q => kf q la b scr dC dI dA p e s m args below meth c H locs ls hc hl hP hS hX)
theorem Z_icmp_gt {x z : Int32} {o : Int} {pt : Nat} (hd : decode cc pc = .ok (.if_icmp .gt o, 3)) (ht : (pc : Int) + o = (pt : Int)) (hp : pc + 3 = pc') (kt : z < x → dv_Jz y cc n ret R cs ss pt l st S Q) (kf : ¬ z < x → dv_Jz y cc n ret R cs ss pc' l st S Q) : dv_Jz y cc n ret R cs ss pc l (.int z :: .int x :: st) S Q := by
  intro la b scr dC dI dA p e s m args below meth c H locs ls hc hl hP hS hX
  subst hp
  exact lv_icmp_gt hc.1 hc.2.1 hd ht (fun q => kt q la b scr dC dI dA p e s m args below meth c H locs ls hc hl hP hS hX) (fun q => kf q la b scr dC dI dA p e s m args below meth c H locs ls hc hl hP hS hX)
theorem Z_if_le {x : Int32} {o : Int} {pt : Nat} (hd : decode cc pc = .ok (.ifCond .le o, 3)) (ht : (pc : Int) + o = (pt : Int)) (hp : pc + 3 = pc') (kt : x ≤ 0 → dv_Jz y cc n ret R cs ss pt l st S Q) (kf : ¬ x ≤ 0 → dv_Jz y cc n ret R cs ss pc' l st S Q) : dv_Jz y cc n ret R cs ss pc l (.int x :: st) S Q := by
  intro la b scr dC dI dA p e s m args below meth c H locs ls hc hl hP hS hX
  subst hp
  exact lv_if_le hc.1 hc.2.1 hd ht (fun q => kt q la b scr dC dI dA p e s m args below meth c H locs ls hc hl hP hS hX) (fun q => kf q la b scr dC dI dA p e s m args below meth c H locs ls hc hl hP hS hX)
theorem Z_icmp_le {x z : Int32} {o : Int} {pt : Nat} (hd : decode cc pc = .ok (.if_icmp .le o, 3)) (ht : (pc : Int) + o = (pt : Int)) (hp : pc + 3 = pc') (kt : x ≤ z → dv_Jz y cc n ret R cs ss pt l st S Q) (kf : ¬ x ≤ z → dv_Jz y cc n ret R cs ss pc' l st S Q) : dv_Jz y cc n ret R cs ss pc l (.int z :: .int x :: st) S Q := by
  intro la b scr dC dI dA p e s m args below meth c H locs ls hc hl hP hS hX
  subst hp
  exact lv_icmp_le hc.1 hc.2.1 hd ht (fun q => kt q la b scr dC dI dA p e s m args below meth c H locs ls hc hl hP hS hX) (fun q => kf q la b scr dC dI dA p e s m args below meth c H locs ls hc hl hP hS hX)
theorem Z_beq {q : Bool} {o : Int} {pt : Nat} (hd : decode cc pc = .ok (.ifCond .eq o, 3)) (ht : (pc : Int) + o = (pt : Int)) (hp : pc + 3 = pc') (kt : q = false → dv_Jz y cc n ret R cs ss pt l st S Q) (kf : q = true → dv_Jz y cc n ret R cs ss pc' l st S Q) : dv_Jz y cc n ret R cs ss pc l (.int (dv_b q) :: st) S Q := by
  refine Z_if_eq hd ht hp (fun h => kt (dv_b_0.mp h)) (fun h => kf ?_)
  cases q with
  | false => exact absurd rfl h
  | true => rfl
theorem Z_bne {q : Bool} {o : Int} {pt : Nat} (hd : decode cc pc = .ok (.ifCond .ne o, 3)) (ht : (pc : Int) + o = (pt : Int)) (hp : pc + 3 = pc') (kt : q = true → dv_Jz y cc n ret R cs ss pt l st S Q) (kf : q = false → dv_Jz y cc n ret R cs ss pc' l st S Q) : dv_Jz y cc n ret R cs ss pc l (.int (dv_b q) :: st) S Q := by
  refine Z_if_ne hd ht hp (fun h => kt ?_) (fun h => kf ?_)
  · cases q with
    | false => exact absurd rfl h
    | true => rfl
  · cases q with
    | false => rfl
    | true => exact absurd h (by decide)
end
section
variable {y : MethodName} {cc : ByteArray} {n : Nat} {ret : Option FieldType} {R : Room} {cs ss pc pc' : Nat} {l l' : List (Option Value)} {st : List Value} {S : dv_S} {Q : dv_ZT}
theorem Z_geti {a idx ci k : Nat} {fin : Bool} {ty : FieldType} (hF : dv_F y.cls idx ci k fin ty) (ha : dv_kd a = ci) (hr : dv_rf a k = none) (hd : decode cc pc = .ok (.getfield idx, 3)) (hp : pc + 3 = pc') (kk : dv_Jz y cc n ret R cs ss pc' l (.int (S.1 a k) :: st) S Q) : dv_Jz y cc n ret R cs ss pc l (.ref a :: st) S Q := by
  intro la b scr dC dI dA p e s m args below meth c H locs ls hc hl hP hS hX
  subst hp
  obtain ⟨C, T, N, ⟨h1, h9, hN, hin, ty0, hty, hnm⟩, hk, hlk, -, -⟩ := hF
  have h545 := dv_lt (a := a) (by omega)
  obtain ⟨q0, hq⟩ := dv_get dA b S h545
  rw [dv_cell_o ha h9] at hq
  show W _ _ _ _ _ _ _ _ _ _ _ _ _ _ _ (F0 m pc ls (dv_tr scr b (.ref a) :: st.map (dv_tr scr b)))
  rw [dv_tr_ref h545]
  refine va_get hc.1 hc.2.1 hc.2.2.2.2.2.2.1 hin hc.2.2.2.2.2.1 hc.2.2.2.2.2.2.2.1 hP q0 hq h1 k hk (hc.2.2.2.2.2.2.1 _ hlk) (fun _ h => h) (v := .int (S.1 a k)) ?_ hd (kk la b scr dC dI dA p e s m args below meth c H locs ls hc hl hP hS hX)
  rw [dv_fl_at ha (hN ▸ hk)]
  simp [dv_fv, hr]
theorem Z_getr {a idx ci k t : Nat} {fin : Bool} {ty : FieldType} (hF : dv_F y.cls idx ci k fin ty) (ha : dv_kd a = ci) (hr : dv_rf a k = some t) (hd : decode cc pc = .ok (.getfield idx, 3)) (hp : pc + 3 = pc') (kk : dv_Jz y cc n ret R cs ss pc' l (.ref t :: st) S Q) : dv_Jz y cc n ret R cs ss pc l (.ref a :: st) S Q := by
  intro la b scr dC dI dA p e s m args below meth c H locs ls hc hl hP hS hX
  subst hp
  obtain ⟨C, T, N, ⟨h1, h9, hN, hin, ty0, hty, hnm⟩, hk, hlk, -, -⟩ := hF
  have h545 := dv_lt (a := a) (by omega)
  obtain ⟨q0, hq⟩ := dv_get dA b S h545
  rw [dv_cell_o ha h9] at hq
  show W _ _ _ _ _ _ _ _ _ _ _ _ _ _ _ (F0 m pc ls (dv_tr scr b (.ref a) :: st.map (dv_tr scr b)))
  rw [dv_tr_ref h545]
  refine va_get hc.1 hc.2.1 hc.2.2.2.2.2.2.1 hin hc.2.2.2.2.2.1 hc.2.2.2.2.2.2.2.1 hP q0 hq h1 k hk (hc.2.2.2.2.2.2.1 _ hlk) (fun _ h => h) (v := dv_tr scr b (.ref t)) ?_ hd (kk la b scr dC dI dA p e s m args below meth c H locs ls hc hl hP hS hX)
  rw [dv_fl_at ha (hN ▸ hk), dv_tr_ref (dv_rf_lt hr)]
  simp [dv_fv, hr]
theorem Z_put0 {a idx ci k : Nat} {ty : FieldType} {v : Int32} (hF : dv_F y.cls idx ci k false ty) (ha : dv_kd a = ci) (hr : dv_rf a k = none) (hn : narrow ty (.int v) = .int v) (hfit : fits ty (.int v) = true) (hd : decode cc pc = .ok (.putfield idx, 3)) (hp : pc + 3 = pc') (kk : dv_Jz y cc n ret R cs ss pc' l st (dv_u S.1 a k v, S.2) Q) : dv_Jz y cc n ret R cs ss pc l (.int v :: .ref a :: st) S Q := by
  intro la b scr dC dI dA p e s m args below meth c H locs ls hc hl hP hS hX
  subst hp
  obtain ⟨C, T, N, ⟨h1, h9, hN, hin, ty0, hty, hnm⟩, hk, hlk, hfin, hdy⟩ := hF
  have h545 := dv_lt (a := a) (by omega)
  obtain ⟨q0, hq⟩ := dv_get dA b S h545
  have hq' := hq
  rw [dv_cell_o ha h9] at hq
  show W _ _ _ _ _ _ _ _ _ _ _ _ _ _ _ (F0 m pc ls (.int v :: dv_tr scr b (.ref a) :: st.map (dv_tr scr b)))
  rw [dv_tr_ref h545]
  refine va_put hc.1 hc.2.1 hc.2.2.2.2.2.2.1 hin ty0 hty hnm hc.2.2.2.2.2.1 hc.2.2.2.2.2.2.2.1 hP (dv_D dA b S) hS q0 hq h1 k hk (hc.2.2.2.2.2.2.1 _ hlk) (fun _ h => h) hfin hdy hn hfit (by rw [dv_fl_len ha]; exact hN ▸ hk) hd (fun H1 locs1 hP1 _ hS1 => ?_)
  rw [dv_set (S' := (dv_u S.1 a k v, S.2)) h545 hq' (by rw [dv_cell_o ha h9, dv_fl_set hr]) (fun x hx => dv_cell_F (dv_u_row _ _ hx) rfl rfl rfl)] at hP1
  refine kk la b scr dC dI dA p e s m args below meth c H1 locs1 ls hc hl hP1 hS1 ?_
  have h0 : dv_L (dv_u S.1 a k v, S.2) = dv_L S := by
    show (dv_u S.1 a k v 100000 0).toNatClampNeg = _
    rw [dv_u_ne _ _ (by rintro ⟨q, -⟩; omega)]; rfl
  rw [h0]; exact hX
theorem Z_puti {a idx ci k : Nat} {v : Int32} (hF : dv_F y.cls idx ci k false .int) (ha : dv_kd a = ci) (hr : dv_rf a k = none) (hd : decode cc pc = .ok (.putfield idx, 3)) (hp : pc + 3 = pc') (kk : dv_Jz y cc n ret R cs ss pc' l st (dv_u S.1 a k v, S.2) Q) : dv_Jz y cc n ret R cs ss pc l (.int v :: .ref a :: st) S Q :=
  Z_put0 hF ha hr rfl rfl hd hp kk
theorem Z_putz {a idx ci k : Nat} {v : Int32} (hF : dv_F y.cls idx ci k false .boolean) (ha : dv_kd a = ci) (hr : dv_rf a k = none) (hv : v = 0 ∨ v = 1) (hd : decode cc pc = .ok (.putfield idx, 3)) (hp : pc + 3 = pc') (kk : dv_Jz y cc n ret R cs ss pc' l st (dv_u S.1 a k v, S.2) Q) : dv_Jz y cc n ret R cs ss pc l (.int v :: .ref a :: st) S Q := by
  rcases hv with rfl | rfl
  · exact Z_put0 hF ha hr (by decide) (by decide) hd hp kk
  · exact Z_put0 hF ha hr (by decide) (by decide) hd hp kk
theorem Z_iald {a j : Nat} {i : Int32} (ha : dv_kd a = 10) (hi : i = nI j) (hj : j < dv_ln a) (hd : decode cc pc = .ok (.iaload, 1)) (hp : pc + 1 = pc') (kk : dv_Jz y cc n ret R cs ss pc' l (.int (S.2.1 a j) :: st) S Q) : dv_Jz y cc n ret R cs ss pc l (.int i :: .ref a :: st) S Q := by
  intro la b scr dC dI dA p e s m args below meth c H locs ls hc hl hP hS hX
  subst hp
  have h545 := dv_lt (a := a) (by omega)
  obtain ⟨h1, h2⟩ := dv_j hi hj (dv_ln_lt a)
  obtain ⟨q0, hq⟩ := dv_get dA b S h545
  rw [dv_cell_i ha (by decide)] at hq
  show W _ _ _ _ _ _ _ _ _ _ _ _ _ _ _ (F0 m pc ls (.int i :: dv_tr scr b (.ref a) :: st.map (dv_tr scr b)))
  rw [dv_tr_ref h545]
  refine va_iald hc.1 hc.2.1 hc.2.2.2.2.2.2.2.1 hP q0 1 hq rfl h1 hd ?_
  rw [h2, dv_mk_in _ hj]
  exact kk la b scr dC dI dA p e s m args below meth c H locs ls hc hl hP hS hX
theorem Z_bald {a j : Nat} {i : Int32} (ha : dv_kd a = 9) (hi : i = nI j) (hj : j < dv_ln a) (hd : decode cc pc = .ok (.baload, 1)) (hp : pc + 1 = pc') (kk : dv_Jz y cc n ret R cs ss pc' l (.int (S.2.1 a j) :: st) S Q) : dv_Jz y cc n ret R cs ss pc l (.int i :: .ref a :: st) S Q := by
  intro la b scr dC dI dA p e s m args below meth c H locs ls hc hl hP hS hX
  subst hp
  have h545 := dv_lt (a := a) (by omega)
  obtain ⟨h1, h2⟩ := dv_j hi hj (dv_ln_lt a)
  obtain ⟨q0, hq⟩ := dv_get dA b S h545
  rw [dv_cell_i ha (by decide)] at hq
  show W _ _ _ _ _ _ _ _ _ _ _ _ _ _ _ (F0 m pc ls (.int i :: dv_tr scr b (.ref a) :: st.map (dv_tr scr b)))
  rw [dv_tr_ref h545]
  refine va_bald hc.1 hc.2.1 hc.2.2.2.2.2.2.2.1 hP q0 0 hq rfl h1 hd ?_
  rw [h2, dv_mk_in _ hj]
  exact kk la b scr dC dI dA p e s m args below meth c H locs ls hc hl hP hS hX
theorem Z_zald {a j : Nat} {i : Int32} (ha : dv_kd a = 12) (hi : i = nI j) (hj : j < dv_ln a) (hd : decode cc pc = .ok (.baload, 1)) (hp : pc + 1 = pc') (kk : dv_Jz y cc n ret R cs ss pc' l (.int (S.2.1 a j) :: st) S Q) : dv_Jz y cc n ret R cs ss pc l (.int i :: .ref a :: st) S Q := by
  intro la b scr dC dI dA p e s m args below meth c H locs ls hc hl hP hS hX
  subst hp
  have h545 := dv_lt (a := a) (by omega)
  obtain ⟨h1, h2⟩ := dv_j hi hj (dv_ln_lt a)
  obtain ⟨q0, hq⟩ := dv_get dA b S h545
  rw [dv_cell_i ha (by decide)] at hq
  show W _ _ _ _ _ _ _ _ _ _ _ _ _ _ _ (F0 m pc ls (.int i :: dv_tr scr b (.ref a) :: st.map (dv_tr scr b)))
  rw [dv_tr_ref h545]
  refine va_zald hc.1 hc.2.1 hc.2.2.2.2.2.2.2.1 hP q0 3 hq rfl h1 hd ?_
  rw [h2, dv_mk_in _ hj]
  exact kk la b scr dC dI dA p e s m args below meth c H locs ls hc hl hP hS hX
theorem Z_lald {a j : Nat} {i : Int32} (ha : dv_kd a = 11) (hi : i = nI j) (hj : j < dv_ln a) (hd : decode cc pc = .ok (.laload, 1)) (hp : pc + 1 = pc') (kk : dv_Jz y cc n ret R cs ss pc' l (.long (S.2.2 a j) :: st) S Q) : dv_Jz y cc n ret R cs ss pc l (.int i :: .ref a :: st) S Q := by
  intro la b scr dC dI dA p e s m args below meth c H locs ls hc hl hP hS hX
  subst hp
  have h545 := dv_lt (a := a) (by omega)
  obtain ⟨h1, h2⟩ := dv_j hi hj (dv_ln_lt a)
  obtain ⟨q0, hq⟩ := dv_get dA b S h545
  rw [dv_cell_l ha] at hq
  show W _ _ _ _ _ _ _ _ _ _ _ _ _ _ _ (F0 m pc ls (.int i :: dv_tr scr b (.ref a) :: st.map (dv_tr scr b)))
  rw [dv_tr_ref h545]
  refine va_lald hc.1 hc.2.1 hc.2.2.2.2.2.2.2.1 hP q0 2 hq rfl h1 hd ?_
  rw [h2]
  exact kk la b scr dC dI dA p e s m args below meth c H locs ls hc hl hP hS hX
theorem Z_kald {a j : Nat} {i : Int32} (ha : dv_kd a = 14) (hi : i = nI j) (hj : j < dv_ln a) (hd : decode cc pc = .ok (.laload, 1)) (hp : pc + 1 = pc') (kk : dv_Jz y cc n ret R cs ss pc' l (.long (dv_ky S.2.1 j) :: st) S Q) : dv_Jz y cc n ret R cs ss pc l (.int i :: .ref a :: st) S Q := by
  intro la b scr dC dI dA p e s m args below meth c H locs ls hc hl hP hS hX
  subst hp
  have h545 := dv_lt (a := a) (by omega)
  obtain ⟨h1, h2⟩ := dv_j hi hj (dv_ln_lt a)
  obtain ⟨q0, hq⟩ := dv_get dA b S h545
  rw [dv_cell_k ha] at hq
  show W _ _ _ _ _ _ _ _ _ _ _ _ _ _ _ (F0 m pc ls (.int i :: dv_tr scr b (.ref a) :: st.map (dv_tr scr b)))
  rw [dv_tr_ref h545]
  refine va_lald hc.1 hc.2.1 hc.2.2.2.2.2.2.2.1 hP q0 2 hq rfl h1 hd ?_
  rw [h2]
  exact kk la b scr dC dI dA p e s m args below meth c H locs ls hc hl hP hS hX
theorem Z_aald {a j : Nat} {i : Int32} (ha : dv_kd a = 13) (hi : i = nI j) (hj : j < dv_ln a) (hd : decode cc pc = .ok (.aaload, 1)) (hp : pc + 1 = pc') (kk : dv_Jz y cc n ret R cs ss pc' l (.ref (dv_ra a j) :: st) S Q) : dv_Jz y cc n ret R cs ss pc l (.int i :: .ref a :: st) S Q := by
  intro la b scr dC dI dA p e s m args below meth c H locs ls hc hl hP hS hX
  subst hp
  have h545 := dv_lt (a := a) (by omega)
  obtain ⟨h1, h2⟩ := dv_j hi hj (dv_ln_lt a)
  obtain ⟨q0, hq⟩ := dv_get dA b S h545
  rw [dv_cell_q ha] at hq
  show W _ _ _ _ _ _ _ _ _ _ _ _ _ _ _ (F0 m pc ls (.int i :: dv_tr scr b (.ref a) :: st.map (dv_tr scr b)))
  rw [dv_tr_ref h545]
  refine va_aldq hc.1 hc.2.1 hc.2.2.2.2.2.2.2.1 hP q0 4 hq rfl h1 hd ?_
  rw [h2]
  have h3 : dv_ra a j ≠ 100000 := by
    have : dv_ln a < 2000 := by
      have h13 : ∀ x, x < 545 → dv_kd x = 13 → dv_ln x < 2000 := by decide +kernel
      exact h13 a h545 ha
    unfold dv_ra; omega
  have h4 := kk la b scr dC dI dA p e s m args below meth c H locs ls hc hl hP hS hX
  have h5 : dv_tr scr b (.ref (dv_ra a j)) = .ref (b + dv_p (dv_ra a j)) := by
    show Value.ref (if dv_ra a j = 100000 then scr else b + dv_p (dv_ra a j)) = _
    rw [if_neg h3]
  rw [List.map_cons, h5] at h4
  exact h4
theorem Z_iast {a j : Nat} {i v : Int32} (ha : dv_kd a = 10) (hi : i = nI j) (hj : j < dv_ln a) (hd : decode cc pc = .ok (.iastore, 1)) (hp : pc + 1 = pc') (kk : dv_Jz y cc n ret R cs ss pc' l st (S.1, dv_u S.2.1 a j v, S.2.2) Q) : dv_Jz y cc n ret R cs ss pc l (.int v :: .int i :: .ref a :: st) S Q := by
  intro la b scr dC dI dA p e s m args below meth c H locs ls hc hl hP hS hX
  subst hp
  have h545 := dv_lt (a := a) (by omega)
  obtain ⟨h1, h2⟩ := dv_j hi hj (dv_ln_lt a)
  obtain ⟨q0, hq⟩ := dv_get dA b S h545
  have hq' := hq
  rw [dv_cell_i ha (by decide)] at hq
  show W _ _ _ _ _ _ _ _ _ _ _ _ _ _ _ (F0 m pc ls (.int v :: .int i :: dv_tr scr b (.ref a) :: st.map (dv_tr scr b)))
  rw [dv_tr_ref h545]
  refine va_iast hc.1 hc.2.1 hc.2.2.2.2.2.2.2.1 hP (dv_D dA b S) hS q0 1 hq rfl h1 hd (fun H1 locs1 hP1 _ hS1 => ?_)
  rw [h2] at hP1
  rw [dv_set (S' := (S.1, dv_u S.2.1 a j v, S.2.2)) h545 hq' (by rw [dv_cell_i ha (by decide), dv_mk_upd hj]; simp only [dv_u_upd]) (fun x hx => dv_cell_F rfl (dv_u_row _ _ hx) rfl (dv_ky_u (dv_j12 hj)))] at hP1
  refine kk la b scr dC dI dA p e s m args below meth c H1 locs1 ls hc hl hP1 hS1 ?_
  show va_X scr (dv_L S) (dv_u S.2.1 a j v 100000) s s.heap
  rw [dv_u_row _ _ (by omega)]; exact hX
theorem Z_bast {a j : Nat} {i v : Int32} (ha : dv_kd a = 9) (hi : i = nI j) (hj : j < dv_ln a) (hd : decode cc pc = .ok (.bastore, 1)) (hp : pc + 1 = pc') (kk : dv_Jz y cc n ret R cs ss pc' l st (S.1, dv_u S.2.1 a j v.toInt8.toInt32, S.2.2) Q) : dv_Jz y cc n ret R cs ss pc l (.int v :: .int i :: .ref a :: st) S Q := by
  intro la b scr dC dI dA p e s m args below meth c H locs ls hc hl hP hS hX
  subst hp
  have h545 := dv_lt (a := a) (by omega)
  obtain ⟨h1, h2⟩ := dv_j hi hj (dv_ln_lt a)
  obtain ⟨q0, hq⟩ := dv_get dA b S h545
  have hq' := hq
  rw [dv_cell_i ha (by decide)] at hq
  show W _ _ _ _ _ _ _ _ _ _ _ _ _ _ _ (F0 m pc ls (.int v :: .int i :: dv_tr scr b (.ref a) :: st.map (dv_tr scr b)))
  rw [dv_tr_ref h545]
  refine va_bast hc.1 hc.2.1 hc.2.2.2.2.2.2.2.1 hP (dv_D dA b S) hS q0 0 hq rfl h1 hd (fun H1 locs1 hP1 _ hS1 => ?_)
  rw [h2, vp_nar_byte] at hP1
  rw [dv_set (S' := (S.1, dv_u S.2.1 a j v.toInt8.toInt32, S.2.2)) h545 hq' (by rw [dv_cell_i ha (by decide), dv_mk_upd hj]; simp only [dv_u_upd]) (fun x hx => dv_cell_F rfl (dv_u_row _ _ hx) rfl (dv_ky_u (dv_j12 hj)))] at hP1
  refine kk la b scr dC dI dA p e s m args below meth c H1 locs1 ls hc hl hP1 hS1 ?_
  show va_X scr (dv_L S) (dv_u S.2.1 a j v.toInt8.toInt32 100000) s s.heap
  rw [dv_u_row _ _ (by omega)]; exact hX
theorem Z_zast {a j : Nat} {i v : Int32} (ha : dv_kd a = 12) (hi : i = nI j) (hj : j < dv_ln a) (hv : v = 0 ∨ v = 1) (hd : decode cc pc = .ok (.bastore, 1)) (hp : pc + 1 = pc') (kk : dv_Jz y cc n ret R cs ss pc' l st (S.1, dv_u S.2.1 a j v, S.2.2) Q) : dv_Jz y cc n ret R cs ss pc l (.int v :: .int i :: .ref a :: st) S Q := by
  intro la b scr dC dI dA p e s m args below meth c H locs ls hc hl hP hS hX
  subst hp
  have h545 := dv_lt (a := a) (by omega)
  obtain ⟨h1, h2⟩ := dv_j hi hj (dv_ln_lt a)
  obtain ⟨q0, hq⟩ := dv_get dA b S h545
  have hq' := hq
  rw [dv_cell_i ha (by decide)] at hq
  show W _ _ _ _ _ _ _ _ _ _ _ _ _ _ _ (F0 m pc ls (.int v :: .int i :: dv_tr scr b (.ref a) :: st.map (dv_tr scr b)))
  rw [dv_tr_ref h545]
  have hnv : vp_nar .boolean v = v := by rcases hv with rfl | rfl <;> decide
  refine va_zast hc.1 hc.2.1 hc.2.2.2.2.2.2.2.1 hP (dv_D dA b S) hS q0 3 hq rfl h1 hd (fun H1 locs1 hP1 _ hS1 => ?_)
  rw [h2, hnv] at hP1
  rw [dv_set (S' := (S.1, dv_u S.2.1 a j v, S.2.2)) h545 hq' (by rw [dv_cell_i ha (by decide), dv_mk_upd hj]; simp only [dv_u_upd]) (fun x hx => dv_cell_F rfl (dv_u_row _ _ hx) rfl (dv_ky_u (dv_j12 hj)))] at hP1
  refine kk la b scr dC dI dA p e s m args below meth c H1 locs1 ls hc hl hP1 hS1 ?_
  show va_X scr (dv_L S) (dv_u S.2.1 a j v 100000) s s.heap
  rw [dv_u_row _ _ (by omega)]; exact hX
theorem Z_last {a j : Nat} {i : Int32} {v : Int64} (ha : dv_kd a = 11) (hi : i = nI j) (hj : j < dv_ln a) (hd : decode cc pc = .ok (.lastore, 1)) (hp : pc + 1 = pc') (kk : dv_Jz y cc n ret R cs ss pc' l st (S.1, S.2.1, dv_u S.2.2 a j v) Q) : dv_Jz y cc n ret R cs ss pc l (.long v :: .int i :: .ref a :: st) S Q := by
  intro la b scr dC dI dA p e s m args below meth c H locs ls hc hl hP hS hX
  subst hp
  have h545 := dv_lt (a := a) (by omega)
  obtain ⟨h1, h2⟩ := dv_j hi hj (dv_ln_lt a)
  obtain ⟨q0, hq⟩ := dv_get dA b S h545
  have hq' := hq
  rw [dv_cell_l ha] at hq
  show W _ _ _ _ _ _ _ _ _ _ _ _ _ _ _ (F0 m pc ls (.long v :: .int i :: dv_tr scr b (.ref a) :: st.map (dv_tr scr b)))
  rw [dv_tr_ref h545]
  refine va_last hc.1 hc.2.1 hc.2.2.2.2.2.2.2.1 hP (dv_D dA b S) hS q0 2 hq rfl h1 hd (fun H1 locs1 hP1 _ hS1 => ?_)
  rw [h2] at hP1
  rw [dv_set (S' := (S.1, S.2.1, dv_u S.2.2 a j v)) h545 hq' (by rw [dv_cell_l ha]; simp only [dv_u_updL]) (fun x hx => dv_cell_F rfl rfl (dv_u_row _ _ hx) rfl)] at hP1
  exact kk la b scr dC dI dA p e s m args below meth c H1 locs1 ls hc hl hP1 hS1 hX
theorem Z_kast {a j : Nat} {i : Int32} {v : Int64} (ha : dv_kd a = 14) (hi : i = nI j) (hj : j < dv_ln a) (hd : decode cc pc = .ok (.lastore, 1)) (hp : pc + 1 = pc') (kk : dv_Jz y cc n ret R cs ss pc' l st (S.1, dv_kw S.2.1 j v, S.2.2) Q) : dv_Jz y cc n ret R cs ss pc l (.long v :: .int i :: .ref a :: st) S Q := by
  intro la b scr dC dI dA p e s m args below meth c H locs ls hc hl hP hS hX
  subst hp
  have h545 := dv_lt (a := a) (by omega)
  obtain ⟨h1, h2⟩ := dv_j hi hj (dv_ln_lt a)
  obtain ⟨q0, hq⟩ := dv_get dA b S h545
  have hq' := hq
  rw [dv_cell_k ha] at hq
  show W _ _ _ _ _ _ _ _ _ _ _ _ _ _ _ (F0 m pc ls (.long v :: .int i :: dv_tr scr b (.ref a) :: st.map (dv_tr scr b)))
  rw [dv_tr_ref h545]
  refine va_last hc.1 hc.2.1 hc.2.2.2.2.2.2.2.1 hP (dv_D dA b S) hS q0 2 hq rfl h1 hd (fun H1 locs1 hP1 _ hS1 => ?_)
  rw [h2] at hP1
  have hky : dv_ky (dv_kw S.2.1 j v) = vp_updL (dv_ky S.2.1) j v := by
    funext x; rw [dv_ky_w]; simp [vp_updL]
  have hoth : ∀ x, x ≠ a → dv_cell dA b (S.1, dv_kw S.2.1 j v, S.2.2) x = dv_cell dA b S x := by
    intro x hx
    refine dv_cell_F' rfl ?_ rfl (fun hk => absurd (dv_k14 hk) (by rw [dv_k14 ha] at hx; exact hx))
    by_cases h12 : x = 12
    · subst h12
      funext i
      by_cases hi : i < dv_ln 12
      · rw [dv_mk_in _ hi, dv_mk_in _ hi]
        exact dv_kw_12 _ _ _ (by have : dv_ln 12 = 24 := by decide
                                 omega)
      · simp [dv_mk, hi]
    · show dv_mk _ (dv_kw S.2.1 j v x) = _
      rw [dv_kw_row _ _ _ h12]
  rw [dv_set (S' := (S.1, dv_kw S.2.1 j v, S.2.2)) h545 hq' (by rw [dv_cell_k ha]; exact congrArg (fun g => (.inl (dA 11, dv_ln a, .inr (.inl g)) : va_E)) hky) hoth] at hP1
  refine kk la b scr dC dI dA p e s m args below meth c H1 locs1 ls hc hl hP1 hS1 ?_
  show va_X scr (dv_L S) (dv_kw S.2.1 j v 100000) s s.heap
  rw [dv_kw_row _ _ _ (by decide)]; exact hX
theorem Z_alen {a : Nat} (ha : dv_kd a = 10) (hd : decode cc pc = .ok (.arraylength, 1)) (hp : pc + 1 = pc') (kk : dv_Jz y cc n ret R cs ss pc' l (.int (nI (dv_ln a)) :: st) S Q) : dv_Jz y cc n ret R cs ss pc l (.ref a :: st) S Q := by
  intro la b scr dC dI dA p e s m args below meth c H locs ls hc hl hP hS hX
  subst hp
  have h545 := dv_lt (a := a) (by omega)
  obtain ⟨q0, hq⟩ := dv_get dA b S h545
  rw [dv_cell_i ha (by decide)] at hq
  show W _ _ _ _ _ _ _ _ _ _ _ _ _ _ _ (F0 m pc ls (dv_tr scr b (.ref a) :: st.map (dv_tr scr b)))
  rw [dv_tr_ref h545]
  exact va_alen hc.1 hc.2.1 hc.2.2.2.2.2.2.2.1 hP q0 1 hq (ty := .int) rfl (v := nI (dv_ln a)) rfl hd (kk la b scr dC dI dA p e s m args below meth c H locs ls hc hl hP hS hX)
theorem Z_slen (hd : decode cc pc = .ok (.arraylength, 1)) (hp : pc + 1 = pc') (kk : dv_Jz y cc n ret R cs ss pc' l (.int (nI (dv_L S)) :: st) S Q) : dv_Jz y cc n ret R cs ss pc l (.ref 100000 :: st) S Q := by
  intro la b scr dC dI dA p e s m args below meth c H locs ls hc hl hP hS hX
  subst hp
  have hsb := hc.2.2.2.2.2.2.2.2.1
  have hbs := hc.2.2.2.2.2.2.2.2.2.1
  show W _ _ _ _ _ _ _ _ _ _ _ _ _ _ _ (F0 m pc ls (dv_tr scr b (.ref 100000) :: st.map (dv_tr scr b)))
  rw [dv_tr_scr]
  exact va_slen hc.1 hc.2.1 hX (by omega) (A := fun q => b ≤ q) (by simp only [Nat.not_le]; exact hsb) hS hd (kk la b scr dC dI dA p e s m args below meth c H locs ls hc hl hP hS hX)
theorem Z_sld {j : Nat} {i : Int32} (hi : i = nI j) (hj : j < dv_L S) (hL : dv_L S < 2 ^ 31) (hd : decode cc pc = .ok (.iaload, 1)) (hp : pc + 1 = pc') (kk : dv_Jz y cc n ret R cs ss pc' l (.int (S.2.1 100000 j) :: st) S Q) : dv_Jz y cc n ret R cs ss pc l (.int i :: .ref 100000 :: st) S Q := by
  intro la b scr dC dI dA p e s m args below meth c H locs ls hc hl hP hS hX
  subst hp
  have hsb := hc.2.2.2.2.2.2.2.2.1
  have hbs := hc.2.2.2.2.2.2.2.2.2.1
  obtain ⟨h1, h2⟩ := dv_j hi hj hL
  show W _ _ _ _ _ _ _ _ _ _ _ _ _ _ _ (F0 m pc ls (.int i :: dv_tr scr b (.ref 100000) :: st.map (dv_tr scr b)))
  rw [dv_tr_scr]
  refine va_sld hc.1 hc.2.1 hX (by omega) (A := fun q => b ≤ q) (by simp only [Nat.not_le]; exact hsb) hS h1 hd ?_
  rw [h2]
  exact kk la b scr dC dI dA p e s m args below meth c H locs ls hc hl hP hS hX
theorem Z_callv {y' : MethodName} {cc' : ByteArray} {n' : Nat} {ret' : Option FieldType} {R' : Room} {Qc : Option Value → dv_S → Prop} {a ci idx : Nat} (As : List Value) {rest : List Value} (hM : dv_M y' cc' n' ret' R' (.ref a :: As) S Qc) (hf : dv_mv y' cc' n' ret' As.length ci) (hlk : Cond.methodLink y.cls idx y' ∈ dv_T) (ha : dv_kd a = ci) (hd : decode cc pc = .ok (.invokevirtual idx, 3)) (hp : pc + 3 = pc') (hst : st = As.reverse ++ .ref a :: rest) (hrm : (rest.map fun v => v.category).sum ≤ 8) (hR : R'.frames + 1 ≤ R.frames ∧ 8 + (n' + 11) + R'.locals ≤ R.locals) (hcs : cs + R'.cells ≤ R.cells ∧ ss + R'.slots ≤ R.slots)
    (kk : ∀ (r : Option Value) (S' : dv_S), Qc r S' → dv_Jz y cc n ret R (cs + R'.cells) (ss + R'.slots) pc' l (r.toList ++ rest) S' Q) : dv_Jz y cc n ret R cs ss pc l st S Q := by
  intro la b scr dC dI dA p e s m args below meth c H locs ls hc hl hP hS hX
  subst hp
  subst hst
  obtain ⟨⟨f1, f2, f3, f4⟩, f5, f6, T, N, f7, f8, f9, -⟩ := hf
  have hsb := hc.2.2.2.2.2.2.2.2.1
  have hbs := hc.2.2.2.2.2.2.2.2.2.1
  have hts := hc.2.2.2.2.2.2.1
  have h545 := dv_lt (a := a) (by omega)
  obtain ⟨q0, hq⟩ := dv_get dA b S h545
  rw [dv_cell_o ha f8] at hq
  have hK := hc.2.2.2.2.2.2.2.1
  refine dv_after (va_runV (b := b + dv_p a) (As := As.map (dv_tr scr b)) (rest := rest.map (dv_tr scr b)) (C := y'.cls) ⟨hc.1, hc.2.1, hc.2.2.1, hc.2.2.2.2.2.1, hts⟩ (hM la b scr dC dI dA hsb) (n := As.length) (mc := R'.cells) (ms := R'.slots)
    ⟨callB_of As.length hts (dv_good f1) rfl rfl rfl (hts _ f2) (hts _ hlk) ⟨f3.1, f3.2, f4⟩ hR, hts _ f5, hts _ f6⟩
    ⟨dv_blind, va_recv hK hP f7 hq, fun U hU hW => ⟨?_, ?_, va_K.moved hW.alike hK, ?_, ?_, hc.2.2.2.2.2.2.2.2.2.2.warm hW⟩⟩ rfl (List.length_map _) hl.1 ?_ ?_ hd hcs) hS hsb hbs (fun r S' H1 locs1 hqc hP1 hX1 hS1 => ?_)
  · rw [List.map_cons, dv_tr_ref h545]
  · rw [hU]; exact Nat.le_trans hbs hS.1
  · rw [hU]; exact hP
  · rw [hU]; exact va_X.moved hW.alike (va_X.kept hX (hS.2.1 scr (by omega) (by simp only [Nat.not_le]; exact hsb)))
  · show (As.reverse ++ Value.ref a :: rest).map (dv_tr scr b) = _
    rw [List.map_append, List.map_reverse, List.map_cons, dv_tr_ref h545]
  · show 2 * 0 + _ ≤ 8
    rw [List.map_map]
    have : ((fun v : Value => v.category) ∘ dv_tr scr b) = fun v => v.category := by funext v; exact dv_tr_cat scr b v
    rw [this]; omega
  · have h := kk r S' hqc la b scr dC dI dA p e s m args below meth c H1 locs1 ls hc hl hP1 hS1 hX1
    have h5 : (r.toList ++ rest).map (dv_tr scr b) = (r.map (dv_tr scr b)).toList ++ rest.map (dv_tr scr b) := by
      cases r <;> simp
    rw [h5] at h
    exact h
theorem Z_calls {y' : MethodName} {cc' : ByteArray} {n' : Nat} {ret' : Option FieldType} {R' : Room} {Qc : Option Value → dv_S → Prop} {idx : Nat} (As : List Value) {rest : List Value} (hM : dv_M y' cc' n' ret' R' As S Qc) (hf : dv_ms y' cc' n' ret' As.length) (hlk : Cond.methodLink y.cls idx y' ∈ dv_T) (hd : decode cc pc = .ok (.invokestatic idx, 3)) (hp : pc + 3 = pc') (hst : st = As.reverse ++ rest) (hrm : (rest.map fun v => v.category).sum ≤ 8) (hR : R'.frames + 1 ≤ R.frames ∧ 8 + (n' + 11) + R'.locals ≤ R.locals) (hcs : cs + R'.cells ≤ R.cells ∧ ss + R'.slots ≤ R.slots)
    (kk : ∀ (r : Option Value) (S' : dv_S), Qc r S' → dv_Jz y cc n ret R (cs + R'.cells) (ss + R'.slots) pc' l (r.toList ++ rest) S' Q) : dv_Jz y cc n ret R cs ss pc l st S Q := by
  intro la b scr dC dI dA p e s m args below meth c H locs ls hc hl hP hS hX
  subst hp
  subst hst
  obtain ⟨⟨f1, f2, f3, f4⟩, f5⟩ := hf
  have hsb := hc.2.2.2.2.2.2.2.2.1
  have hbs := hc.2.2.2.2.2.2.2.2.2.1
  have hts := hc.2.2.2.2.2.2.1
  have hK := hc.2.2.2.2.2.2.2.1
  refine dv_after (va_runS (As := As.map (dv_tr scr b)) (rest := rest.map (dv_tr scr b)) ⟨hc.1, hc.2.1, hc.2.2.1, hc.2.2.2.2.2.1, hts⟩ (hM la b scr dC dI dA hsb) (n := As.length) (mc := R'.cells) (ms := R'.slots)
    ⟨callB_of As.length hts (dv_good f1) rfl rfl rfl (hts _ f2) (hts _ hlk) ⟨f3.1, f3.2, f4⟩ hR, hts _ f5⟩
    ⟨dv_blind, fun U hU hW => ⟨rfl, ?_, va_K.moved hW.alike hK, ?_, ?_, hc.2.2.2.2.2.2.2.2.2.2.warm hW⟩⟩ rfl (List.length_map _) hl.1 ?_ ?_ hd hcs) hS hsb hbs (fun r S' H1 locs1 hqc hP1 hX1 hS1 => ?_)
  · rw [hU]; exact Nat.le_trans hbs hS.1
  · rw [hU]; exact hP
  · rw [hU]; exact va_X.moved hW.alike (va_X.kept hX (hS.2.1 scr (by omega) (by simp only [Nat.not_le]; exact hsb)))
  · show (As.reverse ++ rest).map (dv_tr scr b) = _
    rw [List.map_append, List.map_reverse]
  · show 2 * 0 + _ ≤ 8
    rw [List.map_map]
    have : ((fun v : Value => v.category) ∘ dv_tr scr b) = fun v => v.category := by funext v; exact dv_tr_cat scr b v
    rw [this]; omega
  · have h := kk r S' hqc la b scr dC dI dA p e s m args below meth c H1 locs1 ls hc hl hP1 hS1 hX1
    have h5 : (r.toList ++ rest).map (dv_tr scr b) = (r.map (dv_tr scr b)).toList ++ rest.map (dv_tr scr b) := by
      cases r <;> simp
    rw [h5] at h
    exact h
theorem Z_calln {y' : MethodName} {cc' : ByteArray} {n' : Nat} {ret' : Option FieldType} {R' : Room} {Qc : Option Value → dv_S → Prop} {idx : Nat} (As : List Value) {rest : List Value} (hM : dv_M y' cc' n' ret' R' As S Qc) (hf : dv_ms y' cc' n' ret' As.length) (hlk : (y.cls, idx, y') ∈ dv_NL) (hd : decode cc pc = .ok (.invokestatic idx, 3)) (hp : pc + 3 = pc') (hst : st = As.reverse ++ rest) (hrm : (rest.map fun v => v.category).sum ≤ 8) (hR : R'.frames + 1 ≤ R.frames ∧ 8 + (n' + 11) + R'.locals ≤ R.locals) (hcs : cs + R'.cells ≤ R.cells ∧ ss + R'.slots ≤ R.slots)
    (kk : ∀ (r : Option Value) (S' : dv_S), Qc r S' → dv_Jz y cc n ret R (cs + R'.cells) (ss + R'.slots) pc' l (r.toList ++ rest) S' Q) : dv_Jz y cc n ret R cs ss pc l st S Q := by
  intro la b scr dC dI dA p e s m args below meth c H locs ls hc hl hP hS hX
  subst hp
  subst hst
  obtain ⟨⟨f1, f2, f3, f4⟩, f5⟩ := hf
  have hsb := hc.2.2.2.2.2.2.2.2.1
  have hbs := hc.2.2.2.2.2.2.2.2.2.1
  have hts := hc.2.2.2.2.2.2.1
  have hK := hc.2.2.2.2.2.2.2.1
  refine dv_after (va_runSN (host := "NameHouse") (As := As.map (dv_tr scr b)) (rest := rest.map (dv_tr scr b)) ⟨hc.1, hc.2.1, hc.2.2.1, hc.2.2.2.2.2.1, hts⟩ (hM la b scr dC dI dA hsb) (n := As.length) (mc := R'.cells) (ms := R'.slots)
    ⟨va_cnB As.length hts (dv_good f1) rfl rfl rfl (hc.2.2.2.2.2.2.2.2.2.2 _ hlk) (hts _ f2) ⟨f3.1, f3.2, f4⟩ hR, hts _ f5, trivial⟩
    ⟨dv_blind, fun U hU hW => ⟨rfl, ?_, va_K.moved hW.alike hK, ?_, ?_, hc.2.2.2.2.2.2.2.2.2.2.warm hW⟩⟩ rfl (List.length_map _) hl.1 ?_ ?_ hd hcs) hS hsb hbs (fun r S' H1 locs1 hqc hP1 hX1 hS1 => ?_)
  · rw [hU]; exact Nat.le_trans hbs hS.1
  · rw [hU]; exact hP
  · rw [hU]; exact va_X.moved hW.alike (va_X.kept hX (hS.2.1 scr (by omega) (by simp only [Nat.not_le]; exact hsb)))
  · show (As.reverse ++ rest).map (dv_tr scr b) = _
    rw [List.map_append, List.map_reverse]
  · show 2 * 0 + _ ≤ 8
    rw [List.map_map]
    have : ((fun v : Value => v.category) ∘ dv_tr scr b) = fun v => v.category := by funext v; exact dv_tr_cat scr b v
    rw [this]; omega
  · have h := kk r S' hqc la b scr dC dI dA p e s m args below meth c H1 locs1 ls hc hl hP1 hS1 hX1
    have h5 : (r.toList ++ rest).map (dv_tr scr b) = (r.map (dv_tr scr b)).toList ++ rest.map (dv_tr scr b) := by
      cases r <;> simp
    rw [h5] at h
    exact h
theorem Z_ldc2 {idx : Nat} {v : Int64} (hk : Cond.constantLong y.cls idx v ∈ dv_T) (hd : decode cc pc = .ok (.ldc2_w idx, 3)) (hp : pc + 3 = pc') (k : dv_Jz y cc n ret R cs ss pc' l (.long v :: st) S Q) : dv_Jz y cc n ret R cs ss pc l st S Q := by
  intro la b scr dC dI dA p e s m args below meth c H locs ls hc hl hP hS hX
  subst hp
  exact lv_ldc2 hc.1 hc.2.1 hc.2.2.2.2.2.1 (hc.2.2.2.2.2.2.1 _ hk) hd (k la b scr dC dI dA p e s m args below meth c H locs ls hc hl hP hS hX)
end
section
variable {y : MethodName} {cc : ByteArray} {n : Nat} {ret : Option FieldType} {R : Room} {cs ss pc pc' : Nat} {l l' : List (Option Value)} {st : List Value} {S : dv_S} {Q : dv_ZT}
theorem Z_lcmp {x z : Int64} (hd : decode cc pc = .ok (.lcmp, 1)) (hp : pc + 1 = pc') (k : dv_Jz y cc n ret R cs ss pc' l (.int (lg_cmp x z) :: st) S Q) : dv_Jz y cc n ret R cs ss pc l (.long z :: .long x :: st) S Q := by
  intro la b scr dC dI dA p e s m args below meth c H locs ls hc hl hP hS hX
  subst hp
  exact W.lcmp hc.1 hc.2.1 hd (k la b scr dC dI dA p e s m args below meth c H locs ls hc hl hP hS hX)
theorem Z_tswi {dflt lo hi off : Int} {offs : Array Int} {len pt : Nat} {x : Int32} (hd : decode cc pc = .ok (.tableswitch dflt lo hi offs, len)) (h1 : ¬ x.toInt < lo) (h2 : ¬ hi < x.toInt) (ho : offs[(x.toInt - lo).toNat]? = some off) (ht : (pc : Int) + off = (pt : Int)) (k : dv_Jz y cc n ret R cs ss pt l st S Q) : dv_Jz y cc n ret R cs ss pc l (.int x :: st) S Q := by
  intro la b scr dC dI dA p e s m args below meth c H locs ls hc hl hP hS hX
  exact lv_tableIn hc.1 hc.2.1 hd h1 h2 ho ht (k la b scr dC dI dA p e s m args below meth c H locs ls hc hl hP hS hX)
theorem Z_tswo {dflt lo hi : Int} {offs : Array Int} {len pt : Nat} {x : Int32} (hd : decode cc pc = .ok (.tableswitch dflt lo hi offs, len)) (h : x.toInt < lo ∨ hi < x.toInt) (ht : (pc : Int) + dflt = (pt : Int)) (k : dv_Jz y cc n ret R cs ss pt l st S Q) : dv_Jz y cc n ret R cs ss pc l (.int x :: st) S Q := by
  intro la b scr dC dI dA p e s m args below meth c H locs ls hc hl hP hS hX
  exact lv_tableOut hc.1 hc.2.1 hd h ht (k la b scr dC dI dA p e s m args below meth c H locs ls hc hl hP hS hX)
end
section
variable {y : MethodName} {cc : ByteArray} {n : Nat} {ret : Option FieldType} {d pc pc' : Nat} {l l' : List (Option Value)} {st : List Value} {S S1 : dv_S} {Q : dv_ZT}
variable {y' : MethodName} {cc' : ByteArray} {n' : Nat} {ret' : Option FieldType} {a ci idx : Nat} {As rest : List Value} {v : Value} {Qc : Option Value → dv_S → Prop}
theorem Z_v1 (hM : dv_M y' cc' n' ret' (dv_rm d) (.ref a :: As) S (fun r S' => r = some v ∧ S' = S1)) (hf : dv_mv y' cc' n' ret' As.length ci) (hlk : Cond.methodLink y.cls idx y' ∈ dv_T) (ha : dv_kd a = ci) (hd : decode cc pc = .ok (.invokevirtual idx, 3)) (hp : pc + 3 = pc') (hst : st = As.reverse ++ .ref a :: rest) (hrm : (rest.map fun v => v.category).sum ≤ 8) (hn : n' ≤ 13) (k : dv_Jz y cc n ret (dv_rm (d + 1)) 0 0 pc' l (v :: rest) S1 Q) : dv_Jz y cc n ret (dv_rm (d + 1)) 0 0 pc l st S Q :=
  Z_callv As hM hf hlk ha hd hp hst hrm (dv_rR d hn) (dv_r0 _ _) (fun r S' h => by obtain ⟨rfl, rfl⟩ := h; exact k)
theorem Z_v0 (hM : dv_M y' cc' n' ret' (dv_rm d) (.ref a :: As) S (fun r S' => r = none ∧ S' = S1)) (hf : dv_mv y' cc' n' ret' As.length ci) (hlk : Cond.methodLink y.cls idx y' ∈ dv_T) (ha : dv_kd a = ci) (hd : decode cc pc = .ok (.invokevirtual idx, 3)) (hp : pc + 3 = pc') (hst : st = As.reverse ++ .ref a :: rest) (hrm : (rest.map fun v => v.category).sum ≤ 8) (hn : n' ≤ 13) (k : dv_Jz y cc n ret (dv_rm (d + 1)) 0 0 pc' l rest S1 Q) : dv_Jz y cc n ret (dv_rm (d + 1)) 0 0 pc l st S Q :=
  Z_callv As hM hf hlk ha hd hp hst hrm (dv_rR d hn) (dv_r0 _ _) (fun r S' h => by obtain ⟨rfl, rfl⟩ := h; exact k)
theorem Z_vq (hM : dv_M y' cc' n' ret' (dv_rm d) (.ref a :: As) S Qc) (hf : dv_mv y' cc' n' ret' As.length ci) (hlk : Cond.methodLink y.cls idx y' ∈ dv_T) (ha : dv_kd a = ci) (hd : decode cc pc = .ok (.invokevirtual idx, 3)) (hp : pc + 3 = pc') (hst : st = As.reverse ++ .ref a :: rest) (hrm : (rest.map fun v => v.category).sum ≤ 8) (hn : n' ≤ 13) (k : ∀ r S', Qc r S' → dv_Jz y cc n ret (dv_rm (d + 1)) 0 0 pc' l (r.toList ++ rest) S' Q) : dv_Jz y cc n ret (dv_rm (d + 1)) 0 0 pc l st S Q :=
  Z_callv As hM hf hlk ha hd hp hst hrm (dv_rR d hn) (dv_r0 _ _) k
theorem Z_s1 (hM : dv_M y' cc' n' ret' (dv_rm d) As S (fun r S' => r = some v ∧ S' = S1)) (hf : dv_ms y' cc' n' ret' As.length) (hlk : Cond.methodLink y.cls idx y' ∈ dv_T) (hd : decode cc pc = .ok (.invokestatic idx, 3)) (hp : pc + 3 = pc') (hst : st = As.reverse ++ rest) (hrm : (rest.map fun v => v.category).sum ≤ 8) (hn : n' ≤ 13) (k : dv_Jz y cc n ret (dv_rm (d + 1)) 0 0 pc' l (v :: rest) S1 Q) : dv_Jz y cc n ret (dv_rm (d + 1)) 0 0 pc l st S Q :=
  Z_calls As hM hf hlk hd hp hst hrm (dv_rR d hn) (dv_r0 _ _) (fun r S' h => by obtain ⟨rfl, rfl⟩ := h; exact k)
theorem Z_n1 (hM : dv_M y' cc' n' ret' (dv_rm d) As S (fun r S' => r = some v ∧ S' = S1)) (hf : dv_ms y' cc' n' ret' As.length) (hlk : (y.cls, idx, y') ∈ dv_NL) (hd : decode cc pc = .ok (.invokestatic idx, 3)) (hp : pc + 3 = pc') (hst : st = As.reverse ++ rest) (hrm : (rest.map fun v => v.category).sum ≤ 8) (hn : n' ≤ 13) (k : dv_Jz y cc n ret (dv_rm (d + 1)) 0 0 pc' l (v :: rest) S1 Q) : dv_Jz y cc n ret (dv_rm (d + 1)) 0 0 pc l st S Q :=
  Z_calln As hM hf hlk hd hp hst hrm (dv_rR d hn) (dv_r0 _ _) (fun r S' h => by obtain ⟨rfl, rfl⟩ := h; exact k)
end
theorem Z_drop {y : MethodName} {cc : ByteArray} {n : Nat} {ret : Option FieldType} {R : Room} {cs ss pc : Nat} {l l' : List (Option Value)} {st : List Value} {S : dv_S} {Q : dv_ZT} (j : Nat) (hs : l.set j none = l') (k : dv_Jz y cc n ret R cs ss pc l' st S Q) : dv_Jz y cc n ret R cs ss pc l st S Q := by
  intro la b scr dC dI dA p e s m args below meth c H locs ls hc hl hP hS hX
  subst hs
  exact k la b scr dC dI dA p e s m args below meth c H locs ls hc ⟨hl.1, hl.2.1, fun q hq => hl.2.2 q (dv_pr_drop hq)⟩ hP hS hX
