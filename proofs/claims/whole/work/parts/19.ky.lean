theorem pf_lI {a : Nat} (h : a < 2 ^ 63) : (lN a).toInt = (a : Int) := lg_ofNat_toInt h
theorem pf_shr {a d : Nat} {D : Int64} (hD : (D.toBitVec.smod 64).toNat = d) (h : a < 2 ^ 62) : lN a >>> D = lN (a / 2 ^ d) := by
  have hd : a / 2 ^ d ≤ a := Nat.div_le_self _ _
  apply Int64.toInt_inj.mp
  have e : (lN a >>> D).toInt = (lN a).toInt >>> d := by
    rw [← hD]
    exact BitVec.toInt_sshiftRight ..
  rw [e, Int.shiftRight_eq_div_pow, pf_lI (by omega), pf_lI (by omega)]
  rfl
theorem fb_andL (a b : Nat) : lN a &&& lN b = lN (a &&& b) := by
  apply Int64.toBitVec_inj.1
  show BitVec.ofNat 64 a &&& BitVec.ofNat 64 b = BitVec.ofNat 64 (a &&& b)
  apply BitVec.eq_of_getLsbD_eq
  intro i hi
  simp [hi]
theorem fb_maskL (n k : Nat) : lN n &&& lN (2 ^ k - 1) = lN (n % 2 ^ k) := by rw [fb_andL, Nat.and_two_pow_sub_one_eq_mod]
/-! letters as digits to the base 32 -/
def ck (v : Nat → Nat) : Nat → Nat
  | 0 => 0
  | n + 1 => ck v n * 32 + v n
theorem ck_lt {v : Nat → Nat} : ∀ {n : Nat}, (∀ k, k < n → v k < 32) → ck v n < 32 ^ n
  | 0, _ => by simp [ck]
  | n + 1, h => by
    have h1 := ck_lt (v := v) (n := n) (fun k hk => h k (by omega))
    have h2 := h n (by omega)
    rw [ck, Nat.pow_succ]; omega
theorem ck_div {v : Nat → Nat} {n : Nat} (h : v n < 32) : ck v (n + 1) / 32 = ck v n := by rw [ck]; omega
theorem ck_mod {v : Nat → Nat} {n : Nat} (h : v n < 32) : ck v (n + 1) % 32 = v n := by rw [ck]; omega
theorem ck_pos {v : Nat → Nat} {n : Nat} (hn : 0 < n) (h : ∀ k, k < n → 1 ≤ v k) : 0 < ck v n := by
  obtain ⟨m, rfl⟩ : ∃ m, n = m + 1 := ⟨n - 1, by omega⟩
  have := h m (by omega)
  rw [ck]; omega
theorem ck_inj {v w : Nat → Nat} : ∀ {n m : Nat}, (∀ k, k < n → 1 ≤ v k ∧ v k < 32) → (∀ k, k < m → 1 ≤ w k ∧ w k < 32) → ck v n = ck w m → n = m ∧ ∀ k, k < n → v k = w k
  | 0, 0, _, _, _ => ⟨rfl, fun k hk => absurd hk (Nat.not_lt_zero k)⟩
  | 0, m + 1, _, hw, h => by
    have := ck_pos (v := w) (n := m + 1) (by omega) (fun k hk => (hw k hk).1)
    rw [← h, ck] at this; omega
  | n + 1, 0, hv, _, h => by
    have := ck_pos (v := v) (n := n + 1) (by omega) (fun k hk => (hv k hk).1)
    rw [h, ck] at this; omega
  | n + 1, m + 1, hv, hw, h => by
    have h1 : ck v n = ck w m := by rw [← ck_div (hv n (by omega)).2, ← ck_div (hw m (by omega)).2, h]
    have h2 : v n = w m := by rw [← ck_mod (hv n (by omega)).2, ← ck_mod (hw m (by omega)).2, h]
    obtain ⟨e1, e2⟩ := ck_inj (fun k hk => hv k (by omega)) (fun k hk => hw k (by omega)) h1
    subst e1
    exact ⟨rfl, lt_s e2 h2⟩
theorem ck_drop {v : Nat → Nat} {n : Nat} (h : ∀ k, k < n → v k < 32) : ∀ {b : Nat}, b ≤ n → ck v n / 32 ^ b = ck v (n - b)
  | 0, _ => by simp
  | b + 1, hb => by
    rw [Nat.pow_succ, ← Nat.div_div_eq_div_mul, ck_drop h (by omega : b ≤ n), show n - b = (n - (b + 1)) + 1 by omega, ck_div (h _ (by omega))]
theorem ch_nat {x : Int32} (h : ch_s x = true) : ∃ t : Nat, 97 ≤ t ∧ t ≤ 122 ∧ x = nI t := by
  have h := of_decide_eq_true h
  have hx : ¬ x < 0 := fun q => absurd (Int32.lt_of_le_of_lt h.1 q) (by decide)
  obtain ⟨j, hj, rfl⟩ := nI_of hx
  refine ⟨j, ?_, ?_, rfl⟩
  · have h1 := h.1
    rw [show (97 : Int32) = nI 97 by decide, nI_leI (by decide) hj] at h1; exact h1
  · have h1 := h.2
    rw [show (122 : Int32) = nI 122 by decide, nI_leI hj (by decide)] at h1; exact h1
/-- a small letter's digit -/
def cd (x : Int32) : Nat := x.toInt.toNat - 96
theorem cd_nI {t : Nat} (h : t < 2 ^ 31) : cd (nI t) = t - 96 := by unfold cd; rw [nI_toInt h]; rfl
theorem cd_ok {x : Int32} (h : ch_s x = true) : 1 ≤ cd x ∧ cd x < 32 := by
  obtain ⟨t, h1, h2, rfl⟩ := ch_nat h
  rw [cd_nI (by omega)]; omega
theorem cd_inj {x y : Int32} (hx : ch_s x = true) (hy : ch_s y = true) (h : cd x = cd y) : x = y := by
  obtain ⟨t, h1, h2, rfl⟩ := ch_nat hx
  obtain ⟨u, h3, h4, rfl⟩ := ch_nat hy
  rw [cd_nI (by omega), cd_nI (by omega)] at h
  rw [show t = u by omega]
theorem cd_back {x : Int32} (h : ch_s x = true) : 96 + nI (cd x) = x := by
  obtain ⟨t, h1, h2, rfl⟩ := ch_nat h
  rw [cd_nI (by omega), show (96 : Int32) = nI 96 by decide, nI_add, show 96 + (t - 96) = t by omega]
theorem cu_k_ck {g : Nat → Int32} : ∀ {n : Nat}, (∀ k, k < n → ch_s (g k) = true) → cu_k g n = lN (ck (fun k => cd (g k)) n)
  | 0, _ => by simp [cu_k, ck]; rfl
  | n + 1, h => by
    obtain ⟨t, h1, h2, h3⟩ := ch_nat (h n (by omega))
    have e1 : (g n - 97 + 1).toInt64 = lN (cd (g n)) := by
      rw [h3, cd_nI (by omega), show (97 : Int32) = nI 97 by decide, pk_sub h1, nI_1, nI_l (by omega), show t - 97 + 1 = t - 96 by omega]
    rw [cu_k, e1, cu_k_ck (fun k hk => h k (by omega)), show (32 : Int64) = lN 32 by decide, lN_mul, lN_add, ck]
theorem ck_62 {v : Nat → Nat} {n : Nat} (hn : n ≤ 12) (h : ∀ k, k < n → v k < 32) : ck v n < 2 ^ 62 := by
  have h1 := ck_lt h
  have h2 : 32 ^ n ≤ 32 ^ 12 := Nat.pow_le_pow_right (by decide) hn
  have h3 : 32 ^ 12 < 2 ^ 62 := by decide
  omega
theorem ck_sh {a : Nat} (h : a < 2 ^ 62) : lN a >>> ((5 : Int32).toInt64 &&& 63) = lN (a / 32) := pf_shr (d := 5) (by decide) h
theorem ck_shb {a b : Nat} (h : a < 2 ^ 62) (hb : b < 12) : lN a >>> ((nI (5 * b)).toInt64 &&& 63) = lN (a / 32 ^ b) := by
  have key : ∀ b, b < 12 → (((nI (5 * b)).toInt64 &&& 63).toBitVec.smod 64).toNat = 5 * b := by decide +kernel
  rw [pf_shr (d := 5 * b) (key b hb) h, Nat.pow_mul]
