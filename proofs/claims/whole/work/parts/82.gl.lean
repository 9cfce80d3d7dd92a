/-- only the class's cells, and the reference's steps and tape count -/
def cO (S S' : dv_S) : Prop := frP (fun x => x.1 < 516 ∨ x = (516, 0) ∨ x = (516, 3)) (fun a => a < 516) S S'
theorem cO_tr {S S' S'' : dv_S} (h : cO S S') (h' : cO S' S'') : cO S S'' := frP_tr h h'
theorem cO_of {Fs : List (Nat × Nat)} {Gs : List Nat} {S S' : dv_S} (h : fr Fs Gs S S') (h1 : ∀ x ∈ Fs, x.1 < 516 ∨ x = (516, 0) ∨ x = (516, 3)) (h2 : ∀ x ∈ Gs, x < 516) : cO S S' := frP_of h h1 h2
theorem cO_rs (S : dv_S) : cO S (rS S) := cO_of (rs_fr S) (by simp) (by simp)
theorem cO_rk (S : dv_S) : cO S (rK S) := cO_of (rk_fr S) (by simp) (by simp)
theorem cO_rf (S : dv_S) (x : Int32) : cO S (rfS S x) := cO_of (rf_fr S x) (by simp) (by simp)
theorem cO_rsf (S : dv_S) (x : Int32) : cO S (rS (rfS S x)) := cO_tr (cO_rf S x) (cO_rs _)
theorem cO_u (S : dv_S) {a k : Nat} (v : Int32) (h : a < 516) : cO S (dv_u S.1 a k v, S.2) := ⟨fun x y q => dv_u_ne S.1 _ (fun z => q (Or.inl (by simp [z.1, h]))), fun _ _ => rfl⟩
theorem cO_r (S : dv_S) {f : Nat → Nat → Int64} {a k : Nat} (v : Int32) (h : a < 516) : cO S (S.1, dv_u S.2.1 a k v, f) := ⟨fun _ _ _ => rfl, fun x q => dv_u_row S.2.1 _ (fun z => q (by simp [z, h]))⟩
section
variable {S S' : dv_S} {n sn un w : Nat} {hm us ut : Nat → Nat} {an : Nat → Nat → Bool} {wl : Nat → Nat → Int32} {wm : Nat → Nat} {N RN NN : Nat → List Int32} {C : dv_S}
theorem cO.f (h : cO S S') {k : Nat} (hk : k ≠ 0 ∧ k ≠ 3) : S'.1 516 k = S.1 516 k := h.1 516 k (by simp [hk.1, hk.2])
theorem cO.g (h : cO S S') {a : Nat} (ha : 516 ≤ a) : S'.2.1 a = S.2.1 a := h.2 a (by omega)
theorem cO.T (h : cO S S') (hT : rw_T S n) : rw_T S' n := by
  unfold rw_T; rw [h.f (by decide)]; exact hT
theorem cO.Sc (h : cO S S') (hS : rw_S S n sn hm an) : rw_S S' n sn hm an := by
  unfold rw_S rAn; rw [h.f (by decide), h.g (a := 519) (by decide), h.g (a := 518) (by decide)]; exact hS
theorem cO.U (h : cO S S') (hU : rw_U S n sn un us ut) : rw_U S' n sn un us ut := by
  unfold rw_U; rw [h.f (by decide), h.g (a := 522) (by decide), h.g (a := 523) (by decide)]; exact hU
theorem cO.N1 (h : cO S S') {nr sr t : Nat} {l : List Int32} (h1 : 516 ≤ nr ∧ 516 ≤ sr) (hN : rN1 S nr sr t l) : rN1 S' nr sr t l := by
  unfold rN1; rw [h.g h1.1, h.g h1.2]; exact hN
theorem cO.Nm (h : cO S S') (hN : rNm S 524 521 n N) : rNm S' 524 521 n N := fun t ht => h.N1 (by decide) (hN t ht)
theorem cO.Nw (h : cO S S') (hN : rwN S n RN NN) : rwN S' n RN NN := by
  intro t ht
  have := hN t ht
  rw [h.g (a := 535) (by decide)]
  exact ⟨h.N1 (by decide) this.1, this.2.1, fun q => ⟨h.N1 (by decide) (this.2.2 q).1, (this.2.2 q).2⟩⟩
theorem cO.X (h : cO S S') (hX : RX S C n w wl wm) : RX S' C n w wl wm := by
  unfold RX
  rw [h.f (k := 5) (by decide), h.f (k := 17) (by decide), h.g (a := 520) (by decide), h.g (a := 521) (by decide), h.g (a := 524) (by decide), h.g (a := 527) (by decide), h.g (a := 528) (by decide), h.g (a := 529) (by decide), h.g (a := 530) (by decide), h.g (a := 531) (by decide)]
  exact hX
end
theorem cO_bkn (S : dv_S) {n : Nat} (hn : n ≤ 80) : cO S (bkn S n) := by
  have hF := bkn_F S n hn
  exact ⟨fun a k q => hF.1 a k (fun j hj z => q (Or.inl (by simp; omega))), fun a q => hF.2.1 a (fun j hj z => q (by omega))⟩
theorem cO_trn (S : dv_S) {n : Nat} (hn : n ≤ 80) : cO S (trn S n) := by
  have hF := trn_F S n hn
  exact ⟨fun a k q => hF.1 a k (fun z => q (Or.inl (by simp; omega))) (fun j hj => ⟨fun z => q (Or.inl (by simp; omega)), fun z => q (Or.inl (by simp; omega))⟩), fun a q => hF.2.1 a (fun z => q (by omega)) (fun j hj => ⟨fun z => q (by omega), fun z => q (by omega)⟩)⟩
