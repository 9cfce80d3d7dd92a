section
variable {y : MethodName} {cc : ByteArray} {n : Nat} {ret : Option FieldType} {R : Room} {cs ss pc pc' : Nat} {l l' : List (Option Value)} {st : List Value} {S : dv_S} {Q : Option Value → dv_S → Prop}

theorem J_iconst {i : Int} {v : Int32} (hd : decode cc pc = .ok (.iconst i, 1)) (hp : pc + 1 = pc') (hv : Int32.ofInt i = v) (k : dv_J y cc n ret R cs ss pc' l (.int v :: st) S Q) : dv_J y cc n ret R cs ss pc l st S Q := by
  intro la b scr dC dI dA p e s m args below meth c H locs ls hc hl hP hS hX
  subst hp
  exact lv_iconst hc.1 hc.2.1 hd hv (k la b scr dC dI dA p e s m args below meth c H locs ls hc hl hP hS hX)

theorem J_bipush {i : Int} {v : Int32} (hd : decode cc pc = .ok (.bipush i, 2)) (hp : pc + 2 = pc') (hv : (Int8.ofInt i).toInt32 = v) (k : dv_J y cc n ret R cs ss pc' l (.int v :: st) S Q) : dv_J y cc n ret R cs ss pc l st S Q := by
  intro la b scr dC dI dA p e s m args below meth c H locs ls hc hl hP hS hX
  subst hp
  exact lv_bipush hc.1 hc.2.1 hd hv (k la b scr dC dI dA p e s m args below meth c H locs ls hc hl hP hS hX)

theorem J_sipush {i : Int} {v : Int32} (hd : decode cc pc = .ok (.sipush i, 3)) (hp : pc + 3 = pc') (hv : (Int16.ofInt i).toInt32 = v) (k : dv_J y cc n ret R cs ss pc' l (.int v :: st) S Q) : dv_J y cc n ret R cs ss pc l st S Q := by
  intro la b scr dC dI dA p e s m args below meth c H locs ls hc hl hP hS hX
  subst hp
  exact lv_sipush hc.1 hc.2.1 hd hv (k la b scr dC dI dA p e s m args below meth c H locs ls hc hl hP hS hX)

theorem J_lconst {i : Fin 2} {v : Int64} (hd : decode cc pc = .ok (.lconst i, 1)) (hp : pc + 1 = pc') (hv : Int64.ofNat (i : Nat) = v) (k : dv_J y cc n ret R cs ss pc' l (.long v :: st) S Q) : dv_J y cc n ret R cs ss pc l st S Q := by
  intro la b scr dC dI dA p e s m args below meth c H locs ls hc hl hP hS hX
  subst hp
  exact lv_lconst hc.1 hc.2.1 hd hv (k la b scr dC dI dA p e s m args below meth c H locs ls hc hl hP hS hX)

theorem J_iadd {x z : Int32} (hd : decode cc pc = .ok (.iadd, 1)) (hp : pc + 1 = pc') (k : dv_J y cc n ret R cs ss pc' l (.int (x + z) :: st) S Q) : dv_J y cc n ret R cs ss pc l (.int z :: .int x :: st) S Q := by
  intro la b scr dC dI dA p e s m args below meth c H locs ls hc hl hP hS hX
  subst hp
  exact lv_iadd hc.1 hc.2.1 hd (k la b scr dC dI dA p e s m args below meth c H locs ls hc hl hP hS hX)

theorem J_isub {x z : Int32} (hd : decode cc pc = .ok (.isub, 1)) (hp : pc + 1 = pc') (k : dv_J y cc n ret R cs ss pc' l (.int (x - z) :: st) S Q) : dv_J y cc n ret R cs ss pc l (.int z :: .int x :: st) S Q := by
  intro la b scr dC dI dA p e s m args below meth c H locs ls hc hl hP hS hX
  subst hp
  exact lv_isub hc.1 hc.2.1 hd (k la b scr dC dI dA p e s m args below meth c H locs ls hc hl hP hS hX)

theorem J_imul {x z : Int32} (hd : decode cc pc = .ok (.imul, 1)) (hp : pc + 1 = pc') (k : dv_J y cc n ret R cs ss pc' l (.int (x * z) :: st) S Q) : dv_J y cc n ret R cs ss pc l (.int z :: .int x :: st) S Q := by
  intro la b scr dC dI dA p e s m args below meth c H locs ls hc hl hP hS hX
  subst hp
  exact lv_imul hc.1 hc.2.1 hd (k la b scr dC dI dA p e s m args below meth c H locs ls hc hl hP hS hX)

theorem J_iand {x z : Int32} (hd : decode cc pc = .ok (.iand, 1)) (hp : pc + 1 = pc') (k : dv_J y cc n ret R cs ss pc' l (.int (x &&& z) :: st) S Q) : dv_J y cc n ret R cs ss pc l (.int z :: .int x :: st) S Q := by
  intro la b scr dC dI dA p e s m args below meth c H locs ls hc hl hP hS hX
  subst hp
  exact lv_iand hc.1 hc.2.1 hd (k la b scr dC dI dA p e s m args below meth c H locs ls hc hl hP hS hX)

theorem J_ior {x z : Int32} (hd : decode cc pc = .ok (.ior, 1)) (hp : pc + 1 = pc') (k : dv_J y cc n ret R cs ss pc' l (.int (x ||| z) :: st) S Q) : dv_J y cc n ret R cs ss pc l (.int z :: .int x :: st) S Q := by
  intro la b scr dC dI dA p e s m args below meth c H locs ls hc hl hP hS hX
  subst hp
  exact lv_ior hc.1 hc.2.1 hd (k la b scr dC dI dA p e s m args below meth c H locs ls hc hl hP hS hX)

theorem J_ishr {x z : Int32} (hd : decode cc pc = .ok (.ishr, 1)) (hp : pc + 1 = pc') (k : dv_J y cc n ret R cs ss pc' l (.int (x >>> (z &&& 31)) :: st) S Q) : dv_J y cc n ret R cs ss pc l (.int z :: .int x :: st) S Q := by
  intro la b scr dC dI dA p e s m args below meth c H locs ls hc hl hP hS hX
  subst hp
  exact lv_ishr hc.1 hc.2.1 hd (k la b scr dC dI dA p e s m args below meth c H locs ls hc hl hP hS hX)

theorem J_ishl {x z : Int32} (hd : decode cc pc = .ok (.ishl, 1)) (hp : pc + 1 = pc') (k : dv_J y cc n ret R cs ss pc' l (.int (x <<< (z &&& 31)) :: st) S Q) : dv_J y cc n ret R cs ss pc l (.int z :: .int x :: st) S Q := by
  intro la b scr dC dI dA p e s m args below meth c H locs ls hc hl hP hS hX
  subst hp
  exact lv_ishl hc.1 hc.2.1 hd (k la b scr dC dI dA p e s m args below meth c H locs ls hc hl hP hS hX)

theorem J_irem {x z : Int32} (hd : decode cc pc = .ok (.irem, 1)) (hp : pc + 1 = pc') (hne : ¬ z = 0) (k : dv_J y cc n ret R cs ss pc' l (.int (x - x / z * z) :: st) S Q) : dv_J y cc n ret R cs ss pc l (.int z :: .int x :: st) S Q := by
  intro la b scr dC dI dA p e s m args below meth c H locs ls hc hl hP hS hX
  subst hp
  exact lv_irem hc.1 hc.2.1 hd hne (k la b scr dC dI dA p e s m args below meth c H locs ls hc hl hP hS hX)

theorem J_ineg {x : Int32} (hd : decode cc pc = .ok (.ineg, 1)) (hp : pc + 1 = pc') (k : dv_J y cc n ret R cs ss pc' l (.int (-x) :: st) S Q) : dv_J y cc n ret R cs ss pc l (.int x :: st) S Q := by
  intro la b scr dC dI dA p e s m args below meth c H locs ls hc hl hP hS hX
  subst hp
  exact lv_ineg hc.1 hc.2.1 hd (k la b scr dC dI dA p e s m args below meth c H locs ls hc hl hP hS hX)

theorem J_ladd {x z : Int64} (hd : decode cc pc = .ok (.ladd, 1)) (hp : pc + 1 = pc') (k : dv_J y cc n ret R cs ss pc' l (.long (x + z) :: st) S Q) : dv_J y cc n ret R cs ss pc l (.long z :: .long x :: st) S Q := by
  intro la b scr dC dI dA p e s m args below meth c H locs ls hc hl hP hS hX
  subst hp
  exact lv_ladd hc.1 hc.2.1 hd (k la b scr dC dI dA p e s m args below meth c H locs ls hc hl hP hS hX)

theorem J_lmul {x z : Int64} (hd : decode cc pc = .ok (.lmul, 1)) (hp : pc + 1 = pc') (k : dv_J y cc n ret R cs ss pc' l (.long (x * z) :: st) S Q) : dv_J y cc n ret R cs ss pc l (.long z :: .long x :: st) S Q := by
  intro la b scr dC dI dA p e s m args below meth c H locs ls hc hl hP hS hX
  subst hp
  exact lv_lmul hc.1 hc.2.1 hd (k la b scr dC dI dA p e s m args below meth c H locs ls hc hl hP hS hX)

theorem J_land {x z : Int64} (hd : decode cc pc = .ok (.land, 1)) (hp : pc + 1 = pc') (k : dv_J y cc n ret R cs ss pc' l (.long (x &&& z) :: st) S Q) : dv_J y cc n ret R cs ss pc l (.long z :: .long x :: st) S Q := by
  intro la b scr dC dI dA p e s m args below meth c H locs ls hc hl hP hS hX
  subst hp
  exact lv_land hc.1 hc.2.1 hd (k la b scr dC dI dA p e s m args below meth c H locs ls hc hl hP hS hX)

theorem J_lshr {x : Int64} {z : Int32} (hd : decode cc pc = .ok (.lshr, 1)) (hp : pc + 1 = pc') (k : dv_J y cc n ret R cs ss pc' l (.long (x >>> (z.toInt64 &&& 63)) :: st) S Q) : dv_J y cc n ret R cs ss pc l (.int z :: .long x :: st) S Q := by
  intro la b scr dC dI dA p e s m args below meth c H locs ls hc hl hP hS hX
  subst hp
  exact lv_lshr hc.1 hc.2.1 hd rfl (k la b scr dC dI dA p e s m args below meth c H locs ls hc hl hP hS hX)

theorem J_i2l {x : Int32} (hd : decode cc pc = .ok (.i2l, 1)) (hp : pc + 1 = pc') (k : dv_J y cc n ret R cs ss pc' l (.long x.toInt64 :: st) S Q) : dv_J y cc n ret R cs ss pc l (.int x :: st) S Q := by
  intro la b scr dC dI dA p e s m args below meth c H locs ls hc hl hP hS hX
  subst hp
  exact lv_i2l hc.1 hc.2.1 hd rfl (k la b scr dC dI dA p e s m args below meth c H locs ls hc hl hP hS hX)

theorem J_l2i {x : Int64} (hd : decode cc pc = .ok (.l2i, 1)) (hp : pc + 1 = pc') (k : dv_J y cc n ret R cs ss pc' l (.int x.toInt32 :: st) S Q) : dv_J y cc n ret R cs ss pc l (.long x :: st) S Q := by
  intro la b scr dC dI dA p e s m args below meth c H locs ls hc hl hP hS hX
  subst hp
  exact lv_l2i hc.1 hc.2.1 hd rfl (k la b scr dC dI dA p e s m args below meth c H locs ls hc hl hP hS hX)

theorem J_i2b {x : Int32} (hd : decode cc pc = .ok (.i2b, 1)) (hp : pc + 1 = pc') (k : dv_J y cc n ret R cs ss pc' l (.int x.toInt8.toInt32 :: st) S Q) : dv_J y cc n ret R cs ss pc l (.int x :: st) S Q := by
  intro la b scr dC dI dA p e s m args below meth c H locs ls hc hl hP hS hX
  subst hp
  exact lv_i2b hc.1 hc.2.1 hd rfl (k la b scr dC dI dA p e s m args below meth c H locs ls hc hl hP hS hX)

theorem J_iload_n {x : Int32} {j : Fin 4} (hd : decode cc pc = .ok (.iload_n j, 1)) (hp : pc + 1 = pc') (hv : l[(j : Nat)]? = some (some (.int x))) (k : dv_J y cc n ret R cs ss pc' l (.int x :: st) S Q) : dv_J y cc n ret R cs ss pc l st S Q := by
  intro la b scr dC dI dA p e s m args below meth c H locs ls hc hl hP hS hX
  subst hp
  exact lv_iload_n hc.1 hc.2.1 hd rfl (dv_lr_at hl hv) (k la b scr dC dI dA p e s m args below meth c H locs ls hc hl hP hS hX)

theorem J_iload {x : Int32} {j : Nat} (hd : decode cc pc = .ok (.iload j, 2)) (hp : pc + 2 = pc') (hv : l[(j : Nat)]? = some (some (.int x))) (k : dv_J y cc n ret R cs ss pc' l (.int x :: st) S Q) : dv_J y cc n ret R cs ss pc l st S Q := by
  intro la b scr dC dI dA p e s m args below meth c H locs ls hc hl hP hS hX
  subst hp
  exact lv_iload hc.1 hc.2.1 hd (dv_lr_at hl hv) (k la b scr dC dI dA p e s m args below meth c H locs ls hc hl hP hS hX)

theorem J_lload_n {x : Int64} {j : Fin 4} (hd : decode cc pc = .ok (.lload_n j, 1)) (hp : pc + 1 = pc') (hv : l[(j : Nat)]? = some (some (.long x))) (k : dv_J y cc n ret R cs ss pc' l (.long x :: st) S Q) : dv_J y cc n ret R cs ss pc l st S Q := by
  intro la b scr dC dI dA p e s m args below meth c H locs ls hc hl hP hS hX
  subst hp
  exact lv_lload_n hc.1 hc.2.1 hd rfl (dv_lr_at hl hv) (k la b scr dC dI dA p e s m args below meth c H locs ls hc hl hP hS hX)

theorem J_lload {x : Int64} {j : Nat} (hd : decode cc pc = .ok (.lload j, 2)) (hp : pc + 2 = pc') (hv : l[(j : Nat)]? = some (some (.long x))) (k : dv_J y cc n ret R cs ss pc' l (.long x :: st) S Q) : dv_J y cc n ret R cs ss pc l st S Q := by
  intro la b scr dC dI dA p e s m args below meth c H locs ls hc hl hP hS hX
  subst hp
  exact lv_lload hc.1 hc.2.1 hd (dv_lr_at hl hv) (k la b scr dC dI dA p e s m args below meth c H locs ls hc hl hP hS hX)

theorem J_aload_n {a : Nat} {j : Fin 4} (hd : decode cc pc = .ok (.aload_n j, 1)) (hp : pc + 1 = pc') (hv : l[(j : Nat)]? = some (some (.ref a))) (k : dv_J y cc n ret R cs ss pc' l (.ref a :: st) S Q) : dv_J y cc n ret R cs ss pc l st S Q := by
  intro la b scr dC dI dA p e s m args below meth c H locs ls hc hl hP hS hX
  subst hp
  exact lv_aload_n hc.1 hc.2.1 hd rfl (dv_lr_at hl hv) (k la b scr dC dI dA p e s m args below meth c H locs ls hc hl hP hS hX)

theorem J_aload {a : Nat} {j : Nat} (hd : decode cc pc = .ok (.aload j, 2)) (hp : pc + 2 = pc') (hv : l[(j : Nat)]? = some (some (.ref a))) (k : dv_J y cc n ret R cs ss pc' l (.ref a :: st) S Q) : dv_J y cc n ret R cs ss pc l st S Q := by
  intro la b scr dC dI dA p e s m args below meth c H locs ls hc hl hP hS hX
  subst hp
  exact lv_aload hc.1 hc.2.1 hd (dv_lr_at hl hv) (k la b scr dC dI dA p e s m args below meth c H locs ls hc hl hP hS hX)

theorem J_istore_n {x : Int32} {i : Fin 4} {j : Nat} (hd : decode cc pc = .ok (.istore_n i, 1)) (hp : pc + 1 = pc') (hi : (i : Nat) = j) (hj : j < n) (hok : dv_ok l j = true) (hs : l.set j (some (.int x)) = l') (k : dv_J y cc n ret R cs ss pc' l' st S Q) : dv_J y cc n ret R cs ss pc l (.int x :: st) S Q := by
  intro la b scr dC dI dA p e s m args below meth c H locs ls hc hl hP hS hX
  subst hp
  subst hs
  exact lv_istore_n hc.1 hc.2.1 hd hi hl hj rfl (fun ls' hl' => k la b scr dC dI dA p e s m args below meth c H locs ls' hc (dv_lr_set (v := .int x) hl' hok) hP hS hX)

theorem J_istore {x : Int32} {j : Nat} (hd : decode cc pc = .ok (.istore j, 2)) (hp : pc + 2 = pc') (hj : j < n) (hok : dv_ok l j = true) (hs : l.set j (some (.int x)) = l') (k : dv_J y cc n ret R cs ss pc' l' st S Q) : dv_J y cc n ret R cs ss pc l (.int x :: st) S Q := by
  intro la b scr dC dI dA p e s m args below meth c H locs ls hc hl hP hS hX
  subst hp
  subst hs
  exact lv_istore hc.1 hc.2.1 hd hl hj rfl (fun ls' hl' => k la b scr dC dI dA p e s m args below meth c H locs ls' hc (dv_lr_set (v := .int x) hl' hok) hP hS hX)

theorem J_astore_n {a : Nat} {i : Fin 4} {j : Nat} (hd : decode cc pc = .ok (.astore_n i, 1)) (hp : pc + 1 = pc') (hi : (i : Nat) = j) (hj : j < n) (hok : dv_ok l j = true) (hs : l.set j (some (.ref a)) = l') (k : dv_J y cc n ret R cs ss pc' l' st S Q) : dv_J y cc n ret R cs ss pc l (.ref a :: st) S Q := by
  intro la b scr dC dI dA p e s m args below meth c H locs ls hc hl hP hS hX
  subst hp
  subst hs
  exact lv_astore_n hc.1 hc.2.1 hd hi hl hj rfl (fun ls' hl' => k la b scr dC dI dA p e s m args below meth c H locs ls' hc (dv_lr_set (v := .ref a) hl' hok) hP hS hX)

theorem J_astore {a : Nat} {j : Nat} (hd : decode cc pc = .ok (.astore j, 2)) (hp : pc + 2 = pc') (hj : j < n) (hok : dv_ok l j = true) (hs : l.set j (some (.ref a)) = l') (k : dv_J y cc n ret R cs ss pc' l' st S Q) : dv_J y cc n ret R cs ss pc l (.ref a :: st) S Q := by
  intro la b scr dC dI dA p e s m args below meth c H locs ls hc hl hP hS hX
  subst hp
  subst hs
  exact lv_astore hc.1 hc.2.1 hd hl hj rfl (fun ls' hl' => k la b scr dC dI dA p e s m args below meth c H locs ls' hc (dv_lr_set (v := .ref a) hl' hok) hP hS hX)

theorem J_lstore_n {x : Int64} {i : Fin 4} {j : Nat} (hd : decode cc pc = .ok (.lstore_n i, 1)) (hp : pc + 1 = pc') (hi : (i : Nat) = j) (hj : j + 1 < n) (hok : dv_ok l j = true) (hs : (l.set j (some (.long x))).set (j + 1) none = l') (k : dv_J y cc n ret R cs ss pc' l' st S Q) : dv_J y cc n ret R cs ss pc l (.long x :: st) S Q := by
  intro la b scr dC dI dA p e s m args below meth c H locs ls hc hl hP hS hX
  subst hp
  subst hs
  exact lv_lstore_n hc.1 hc.2.1 hd hi hl hj rfl (fun ls' hl' => k la b scr dC dI dA p e s m args below meth c H locs ls' hc (dv_lr_set2 (v := .long x) hl' hok) hP hS hX)

theorem J_lstore {x : Int64} {j : Nat} (hd : decode cc pc = .ok (.lstore j, 2)) (hp : pc + 2 = pc') (hj : j + 1 < n) (hok : dv_ok l j = true) (hs : (l.set j (some (.long x))).set (j + 1) none = l') (k : dv_J y cc n ret R cs ss pc' l' st S Q) : dv_J y cc n ret R cs ss pc l (.long x :: st) S Q := by
  intro la b scr dC dI dA p e s m args below meth c H locs ls hc hl hP hS hX
  subst hp
  subst hs
  exact lv_lstore hc.1 hc.2.1 hd hl hj rfl (fun ls' hl' => k la b scr dC dI dA p e s m args below meth c H locs ls' hc (dv_lr_set2 (v := .long x) hl' hok) hP hS hX)

theorem J_iinc {x v : Int32} {j : Nat} {i : Int} (hd : decode cc pc = .ok (.iinc j i, 3)) (hp : pc + 3 = pc') (hx : l[j]? = some (some (.int x))) (hv : x + Int32.ofInt i = v) (hj : j < n) (hok : dv_ok l j = true) (hs : l.set j (some (.int v)) = l') (k : dv_J y cc n ret R cs ss pc' l' st S Q) : dv_J y cc n ret R cs ss pc l st S Q := by
  intro la b scr dC dI dA p e s m args below meth c H locs ls hc hl hP hS hX
  subst hp
  subst hs
  obtain ⟨q, hq⟩ := List.getElem?_of_mem (dv_pr_in (scr := scr) (b := b) l 0 j (.int x) hx)
  rw [Nat.zero_add] at hq
  exact lv_iinc hc.1 hc.2.1 hd hl hq hv hj rfl (fun ls' hl' => k la b scr dC dI dA p e s m args below meth c H locs ls' hc (dv_lr_set (v := .int v) hl' hok) hP hS hX)

theorem J_dup {v : Value} (hd : decode cc pc = .ok (.dup, 1)) (hp : pc + 1 = pc') (hv : v.category = 1) (k : dv_J y cc n ret R cs ss pc' l (v :: v :: st) S Q) : dv_J y cc n ret R cs ss pc l (v :: st) S Q := by
  intro la b scr dC dI dA p e s m args below meth c H locs ls hc hl hP hS hX
  subst hp
  exact lv_dup hc.1 hc.2.1 hd (by rw [dv_tr_cat]; exact hv) (k la b scr dC dI dA p e s m args below meth c H locs ls hc hl hP hS hX)
theorem J_dup2 {v w : Value} (hd : decode cc pc = .ok (.dup2, 1)) (hp : pc + 1 = pc') (hv : v.category = 1) (hw : w.category = 1) (k : dv_J y cc n ret R cs ss pc' l (v :: w :: v :: w :: st) S Q) : dv_J y cc n ret R cs ss pc l (v :: w :: st) S Q := by
  intro la b scr dC dI dA p e s m args below meth c H locs ls hc hl hP hS hX
  subst hp
  exact lv_dup2_11 hc.1 hc.2.1 hd (by rw [dv_tr_cat]; exact hv) (by rw [dv_tr_cat]; exact hw) (k la b scr dC dI dA p e s m args below meth c H locs ls hc hl hP hS hX)
theorem J_top {v w : Value} (h : v = w) (k : dv_J y cc n ret R cs ss pc l (w :: st) S Q) : dv_J y cc n ret R cs ss pc l (v :: st) S Q := h ▸ k
theorem J_topi {x z : Int32} (h : x = z) (k : dv_J y cc n ret R cs ss pc l (.int z :: st) S Q) : dv_J y cc n ret R cs ss pc l (.int x :: st) S Q := h ▸ k
theorem J_loc (h : l = l') (k : dv_J y cc n ret R cs ss pc l' st S Q) : dv_J y cc n ret R cs ss pc l st S Q := h ▸ k
theorem J_sto {S' : dv_S} (h : S = S') (k : dv_J y cc n ret R cs ss pc l st S' Q) : dv_J y cc n ret R cs ss pc l st S Q := h ▸ k
theorem J_pop {v : Value} (hd : decode cc pc = .ok (.pop, 1)) (hp : pc + 1 = pc') (hv : v.category = 1) (k : dv_J y cc n ret R cs ss pc' l st S Q) : dv_J y cc n ret R cs ss pc l (v :: st) S Q := by
  intro la b scr dC dI dA p e s m args below meth c H locs ls hc hl hP hS hX
  subst hp
  exact lv_pop hc.1 hc.2.1 hd (by rw [dv_tr_cat]; exact hv) (k la b scr dC dI dA p e s m args below meth c H locs ls hc hl hP hS hX)
theorem J_goto {o : Int} (hd : decode cc pc = .ok (.goto o, 3)) (ht : (pc : Int) + o = (pc' : Int)) (k : dv_J y cc n ret R cs ss pc' l st S Q) : dv_J y cc n ret R cs ss pc l st S Q := by
  intro la b scr dC dI dA p e s m args below meth c H locs ls hc hl hP hS hX
  exact lv_goto hc.1 hc.2.1 hd ht (k la b scr dC dI dA p e s m args below meth c H locs ls hc hl hP hS hX)

theorem J_if_eq {x : Int32} {o : Int} {pt : Nat} (hd : decode cc pc = .ok (.ifCond .eq o, 3)) (ht : (pc : Int) + o = (pt : Int)) (hp : pc + 3 = pc') (kt : x = 0 → dv_J y cc n ret R cs ss pt l st S Q) (kf : ¬ x = 0 → dv_J y cc n ret R cs ss pc' l st S Q) : dv_J y cc n ret R cs ss pc l (.int x :: st) S Q := by
  intro la b scr dC dI dA p e s m args below meth c H locs ls hc hl hP hS hX
  subst hp
  exact lv_if_eq hc.1 hc.2.1 hd ht (fun q => kt q la b scr dC dI dA p e s m args below meth c H locs ls hc hl hP hS hX) (fun q => kf q la b scr dC dI dA p e s m args below meth c H locs ls hc hl hP hS hX)
theorem J_icmp_eq {x z : Int32} {o : Int} {pt : Nat} (hd : decode cc pc = .ok (.if_icmp .eq o, 3)) (ht : (pc : Int) + o = (pt : Int)) (hp : pc + 3 = pc') (kt : x = z → dv_J y cc n ret R cs ss pt l st S Q) (kf : ¬ x = z → dv_J y cc n ret R cs ss pc' l st S Q) : dv_J y cc n ret R cs ss pc l (.int z :: .int x :: st) S Q := by
  intro la b scr dC dI dA p e s m args below meth c H locs ls hc hl hP hS hX
  subst hp
  exact lv_icmp_eq hc.1 hc.2.1 hd ht (fun q => kt q la b scr dC dI dA p e s m args below meth c H locs ls hc hl hP hS hX) (fun q => kf q la b scr dC dI dA p e s m args below meth c H locs ls hc hl hP hS hX)

theorem J_if_ne {x : Int32} {o : Int} {pt : Nat} (hd : decode cc pc = .ok (.ifCond .ne o, 3)) (ht : (pc : Int) + o = (pt : Int)) (hp : pc + 3 = pc') (kt : ¬ x = 0 → dv_J y cc n ret R cs ss pt l st S Q) (kf : x = 0 → dv_J y cc n ret R cs ss pc' l st S Q) : dv_J y cc n ret R cs ss pc l (.int x :: st) S Q := by
  intro la b scr dC dI dA p e s m args below meth c H locs ls hc hl hP hS hX
  subst hp
  exact lv_if_ne hc.1 hc.2.1 hd ht (fun q => kt q la b scr dC dI dA p e s m args below meth c H locs ls hc hl hP hS hX) (fun q => kf q la b scr dC dI dA p e s m args below meth c H locs ls hc hl hP hS hX)
theorem J_icmp_ne {x z : Int32} {o : Int} {pt : Nat} (hd : decode cc pc = .ok (.if_icmp .ne o, 3)) (ht : (pc : Int) + o = (pt : Int)) (hp : pc + 3 = pc') (kt : ¬ x = z → dv_J y cc n ret R cs ss pt l st S Q) (kf : x = z → dv_J y cc n ret R cs ss pc' l st S Q) : dv_J y cc n ret R cs ss pc l (.int z :: .int x :: st) S Q := by
  intro la b scr dC dI dA p e s m args below meth c H locs ls hc hl hP hS hX
  subst hp
  exact lv_icmp_ne hc.1 hc.2.1 hd ht (fun q => kt q la b scr dC dI dA p e s m args below meth c H locs ls hc hl hP hS hX) (fun q => kf q la b scr dC dI dA p e s m args below meth c H locs ls hc hl hP hS hX)

theorem J_if_lt {x : Int32} {o : Int} {pt : Nat} (hd : decode cc pc = .ok (.ifCond .lt o, 3)) (ht : (pc : Int) + o = (pt : Int)) (hp : pc + 3 = pc') (kt : x < 0 → dv_J y cc n ret R cs ss pt l st S Q) (kf : ¬ x < 0 → dv_J y cc n ret R cs ss pc' l st S Q) : dv_J y cc n ret R cs ss pc l (.int x :: st) S Q := by
  intro la b scr dC dI dA p e s m args below meth c H locs ls hc hl hP hS hX
  subst hp
  exact lv_if_lt hc.1 hc.2.1 hd ht (fun q => kt q la b scr dC dI dA p e s m args below meth c H locs ls hc hl hP hS hX) (fun q => kf q la b scr dC dI dA p e s m args below meth c H locs ls hc hl hP hS hX)
theorem J_icmp_lt {x z : Int32} {o : Int} {pt : Nat} (hd : decode cc pc = .ok (.if_icmp .lt o, 3)) (ht : (pc : Int) + o = (pt : Int)) (hp : pc + 3 = pc') (kt : x < z → dv_J y cc n ret R cs ss pt l st S Q) (kf : ¬ x < z → dv_J y cc n ret R cs ss pc' l st S Q) : dv_J y cc n ret R cs ss pc l (.int z :: .int x :: st) S Q := by
  intro la b scr dC dI dA p e s m args below meth c H locs ls hc hl hP hS hX
  subst hp
  exact lv_icmp_lt hc.1 hc.2.1 hd ht (fun q => kt q la b scr dC dI dA p e s m args below meth c H locs ls hc hl hP hS hX) (fun q => kf q la b scr dC dI dA p e s m args below meth c H locs ls hc hl hP hS hX)

theorem J_if_ge {x : Int32} {o : Int} {pt : Nat} (hd : decode cc pc = .ok (.ifCond .ge o, 3)) (ht : (pc : Int) + o = (pt : Int)) (hp : pc + 3 = pc') (kt : 0 ≤ x → dv_J y cc n ret R cs ss pt l st S Q) (kf : ¬ 0 ≤ x → dv_J y cc n ret R cs ss pc' l st S Q) : dv_J y cc n ret R cs ss pc l (.int x :: st) S Q := by
  intro la b scr dC dI dA p e s m args below meth c H locs ls hc hl hP hS hX
  subst hp
  exact lv_if_ge hc.1 hc.2.1 hd ht (fun q => kt q la b scr dC dI dA p e s m args below meth c H locs ls hc hl hP hS hX) (fun q => kf q la b scr dC dI dA p e s m args below meth c H locs ls hc hl hP hS hX)
theorem J_icmp_ge {x z : Int32} {o : Int} {pt : Nat} (hd : decode cc pc = .ok (.if_icmp .ge o, 3)) (ht : (pc : Int) + o = (pt : Int)) (hp : pc + 3 = pc') (kt : z ≤ x → dv_J y cc n ret R cs ss pt l st S Q) (kf : ¬ z ≤ x → dv_J y cc n ret R cs ss pc' l st S Q) : dv_J y cc n ret R cs ss pc l (.int z :: .int x :: st) S Q := by
  intro la b scr dC dI dA p e s m args below meth c H locs ls hc hl hP hS hX
  subst hp
  exact lv_icmp_ge hc.1 hc.2.1 hd ht (fun q => kt q la b scr dC dI dA p e s m args below meth c H locs ls hc hl hP hS hX) (fun q => kf q la b scr dC dI dA p e s m args below meth c H locs ls hc hl hP hS hX)

theorem J_if_gt {x : Int32} {o : Int} {pt : Nat} (hd : decode cc pc = .ok (.ifCond .gt o, 3)) (ht : (pc : Int) + o = (pt : Int)) (hp : pc + 3 = pc') (kt : 0 < x → dv_J y cc n ret R cs ss pt l st S Q) (kf : ¬ 0 < x → dv_J y cc n ret R cs ss pc' l st S Q) : dv_J y cc n ret R cs ss pc l (.int x :: st) S Q := by
  intro la b scr dC dI dA p e s m args below meth c H locs ls hc hl hP hS hX
  subst hp
  exact lv_if_gt hc.1 hc.2.1 hd ht (fun q => kt q la b scr dC dI dA p e s m args below meth c H locs ls hc hl hP hS hX) (fun q => kf q la b scr dC dI dA p e s m args below meth c H locs ls hc hl hP hS hX)
theorem J_icmp_gt {x z : Int32} {o : Int} {pt : Nat} (hd : decode cc pc = .ok (.if_icmp .gt o, 3)) (ht : (pc : Int) + o = (pt : Int)) (hp : pc + 3 = pc') (kt : z < x → dv_J y cc n ret R cs ss pt l st S Q) (kf : ¬ z < x → dv_J y cc n ret R cs ss pc' l st S Q) : dv_J y cc n ret R cs ss pc l (.int z :: .int x :: st) S Q := by
  intro la b scr dC dI dA p e s m args below meth c H locs ls hc hl hP hS hX
  subst hp
  exact lv_icmp_gt hc.1 hc.2.1 hd ht (fun q => kt q la b scr dC dI dA p e s m args below meth c H locs ls hc hl hP hS hX) (fun q => kf q la b scr dC dI dA p e s m args below meth c H locs ls hc hl hP hS hX)

theorem J_if_le {x : Int32} {o : Int} {pt : Nat} (hd : decode cc pc = .ok (.ifCond .le o, 3)) (ht : (pc : Int) + o = (pt : Int)) (hp : pc + 3 = pc') (kt : x ≤ 0 → dv_J y cc n ret R cs ss pt l st S Q) (kf : ¬ x ≤ 0 → dv_J y cc n ret R cs ss pc' l st S Q) : dv_J y cc n ret R cs ss pc l (.int x :: st) S Q := by
  intro la b scr dC dI dA p e s m args below meth c H locs ls hc hl hP hS hX
  subst hp
  exact lv_if_le hc.1 hc.2.1 hd ht (fun q => kt q la b scr dC dI dA p e s m args below meth c H locs ls hc hl hP hS hX) (fun q => kf q la b scr dC dI dA p e s m args below meth c H locs ls hc hl hP hS hX)
theorem J_icmp_le {x z : Int32} {o : Int} {pt : Nat} (hd : decode cc pc = .ok (.if_icmp .le o, 3)) (ht : (pc : Int) + o = (pt : Int)) (hp : pc + 3 = pc') (kt : x ≤ z → dv_J y cc n ret R cs ss pt l st S Q) (kf : ¬ x ≤ z → dv_J y cc n ret R cs ss pc' l st S Q) : dv_J y cc n ret R cs ss pc l (.int z :: .int x :: st) S Q := by
  intro la b scr dC dI dA p e s m args below meth c H locs ls hc hl hP hS hX
  subst hp
  exact lv_icmp_le hc.1 hc.2.1 hd ht (fun q => kt q la b scr dC dI dA p e s m args below meth c H locs ls hc hl hP hS hX) (fun q => kf q la b scr dC dI dA p e s m args below meth c H locs ls hc hl hP hS hX)

/-- a truth as a number -/
def dv_b (c : Bool) : Int32 := if c then 1 else 0
theorem dv_b_0 {c : Bool} : dv_b c = 0 ↔ c = false := by cases c <;> decide
theorem dv_b_01 (c : Bool) : dv_b c = 0 ∨ dv_b c = 1 := by cases c <;> decide
theorem dv_b_t : dv_b true = 1 := rfl
theorem dv_b_f : dv_b false = 0 := rfl
theorem J_beq {q : Bool} {o : Int} {pt : Nat} (hd : decode cc pc = .ok (.ifCond .eq o, 3)) (ht : (pc : Int) + o = (pt : Int)) (hp : pc + 3 = pc') (kt : q = false → dv_J y cc n ret R cs ss pt l st S Q) (kf : q = true → dv_J y cc n ret R cs ss pc' l st S Q) : dv_J y cc n ret R cs ss pc l (.int (dv_b q) :: st) S Q := by
  refine J_if_eq hd ht hp (fun h => kt (dv_b_0.mp h)) (fun h => kf ?_)
  cases q with
  | false => exact absurd rfl h
  | true => rfl
theorem J_bne {q : Bool} {o : Int} {pt : Nat} (hd : decode cc pc = .ok (.ifCond .ne o, 3)) (ht : (pc : Int) + o = (pt : Int)) (hp : pc + 3 = pc') (kt : q = true → dv_J y cc n ret R cs ss pt l st S Q) (kf : q = false → dv_J y cc n ret R cs ss pc' l st S Q) : dv_J y cc n ret R cs ss pc l (.int (dv_b q) :: st) S Q := by
  refine J_if_ne hd ht hp (fun h => kt ?_) (fun h => kf ?_)
  · cases q with
    | false => exact absurd rfl h
    | true => rfl
  · cases q with
    | false => rfl
    | true => exact absurd h (by decide)

end
