section
variable {y : MethodName} {cc : ByteArray} {n : Nat} {ret : Option FieldType} {R : Room} {cs ss pc pc' : Nat} {l l' : List (Option Value)} {st : List Value} {S : dv_S} {Q : Option Value → dv_S → Prop}
theorem J_lcmp {x z : Int64} (hd : decode cc pc = .ok (.lcmp, 1)) (hp : pc + 1 = pc') (k : dv_J y cc n ret R cs ss pc' l (.int (lg_cmp x z) :: st) S Q) : dv_J y cc n ret R cs ss pc l (.long z :: .long x :: st) S Q := by
  intro la b scr dC dI dA p e s m args below meth c H locs ls hc hl hP hS hX
  subst hp
  exact W.lcmp hc.1 hc.2.1 hd (k la b scr dC dI dA p e s m args below meth c H locs ls hc hl hP hS hX)
theorem dv_cmp0 {x z : Int64} : lg_cmp x z = 0 ↔ x = z := by
  unfold lg_cmp
  constructor
  · intro h
    repeat' split at h
    all_goals first | exact absurd h (by decide) | assumption
  · rintro rfl
    simp
theorem J_tswi {dflt lo hi off : Int} {offs : Array Int} {len pt : Nat} {x : Int32} (hd : decode cc pc = .ok (.tableswitch dflt lo hi offs, len)) (h1 : ¬ x.toInt < lo) (h2 : ¬ hi < x.toInt) (ho : offs[(x.toInt - lo).toNat]? = some off) (ht : (pc : Int) + off = (pt : Int)) (k : dv_J y cc n ret R cs ss pt l st S Q) : dv_J y cc n ret R cs ss pc l (.int x :: st) S Q := by
  intro la b scr dC dI dA p e s m args below meth c H locs ls hc hl hP hS hX
  exact lv_tableIn hc.1 hc.2.1 hd h1 h2 ho ht (k la b scr dC dI dA p e s m args below meth c H locs ls hc hl hP hS hX)
theorem J_tswo {dflt lo hi : Int} {offs : Array Int} {len pt : Nat} {x : Int32} (hd : decode cc pc = .ok (.tableswitch dflt lo hi offs, len)) (h : x.toInt < lo ∨ hi < x.toInt) (ht : (pc : Int) + dflt = (pt : Int)) (k : dv_J y cc n ret R cs ss pt l st S Q) : dv_J y cc n ret R cs ss pc l (.int x :: st) S Q := by
  intro la b scr dC dI dA p e s m args below meth c H locs ls hc hl hP hS hX
  exact lv_tableOut hc.1 hc.2.1 hd h ht (k la b scr dC dI dA p e s m args below meth c H locs ls hc hl hP hS hX)
theorem dv_sw (x : Int32) {k : Nat} (hk : k < 2 ^ 31) : (∃ j : Nat, j < k ∧ x = nI j) ∨ (x.toInt < 0 ∨ (k : Int) ≤ x.toInt) := by
  rcases pk_ix x hk with h | h | h
  · exact Or.inr (Or.inl (by simpa [Int32.lt_iff_toInt_lt] using h))
  · refine Or.inr (Or.inr ?_)
    rw [Int32.le_iff_toInt_le, nI_toInt hk] at h
    exact h
  · exact Or.inl h
end
/-- the room of a method d calls deep, that makes nothing -/
def dv_rm (d : Nat) : Room := { frames := d, cells := 0, slots := 0, locals := 32 * d }
theorem dv_rR (d : Nat) {n' : Nat} (h : n' ≤ 13) : (dv_rm d).frames + 1 ≤ (dv_rm (d + 1)).frames ∧ 8 + (n' + 11) + (dv_rm d).locals ≤ (dv_rm (d + 1)).locals := ⟨Nat.le_refl _, by show 8 + (n' + 11) + 32 * d ≤ 32 * (d + 1); omega⟩
theorem dv_r0 (d d' : Nat) : 0 + (dv_rm d').cells ≤ (dv_rm d).cells ∧ 0 + (dv_rm d').slots ≤ (dv_rm d).slots := ⟨Nat.le_refl _, Nat.le_refl _⟩
theorem dv_r1 (d : Nat) : 0 ≤ (dv_rm d).cells ∧ 0 ≤ (dv_rm d).slots := ⟨Nat.le_refl _, Nat.le_refl _⟩
