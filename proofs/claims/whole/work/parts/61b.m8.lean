set_option maxRecDepth 100000 in
set_option maxHeartbeats 400000 in
theorem qX8_keep (d : Nat) (S : dv_S) (S1 : dv_S) (n sn un : Nat) (hm : Nat → Nat) (an : Nat → Nat → Bool) (us ut : Nat → Nat) (RN NN : Nat → List Int32) (h0 : rS S = S1) (hT : rw_T S1 n) (hS : rw_S S1 n sn hm an) (hU : rw_U S1 n sn un us ut) (hN : rwN S1 n RN NN)  : dv_M yX8_keep cX8_keep 2 (some .int) (dv_rm (d + 3)) [.ref 516] S (fun r S' => r = some (.int (nI (dv_ct (fun z => decide (¬ S'.2.1 535 z = 0)) n))) ∧ fr [] [535, 536, 538, 541] S1 S' ∧ ∀ j, j < n → S'.2.1 535 j = (fun j => dv_b (decide (¬ S1.2.1 535 j = 0) && (rkf S1 hm an us ut RN NN n un n) j)) j) := by
  have h80 := hT.2
  have h20 := hS.2.1
  have h150 := hU.2.1
  refine dv_M_of [some (.ref 516), none] (by decide) (fun _ _ => Nat.le_of_ble_eq_true rfl) (fun _ _ => rfl) ?_
  refine J_aload_n dX8_keep_0 (pc' := 1) rfl rfl ?_
  refine J_iconst dX8_keep_1 (pc' := 2) rfl (v := 0) ic_0 ?_
  refine J_puti fX8_1 kd_516 rf_516_0 dX8_keep_2 (pc' := 5) rfl ?_
  refine J_sto (S' := S1) (h0) ?_
  refine J_iconst dX8_keep_5 (pc' := 6) rfl (v := 0) ic_0 ?_
  refine J_istore_n dX8_keep_6 (pc' := 7) rfl rfl (by decide) rfl (l' := [some (.ref 516), some (.int 0)]) rfl ?_
  have hlp7 : ∀ i, i ≤ n → dv_J yX8_keep cX8_keep 2 (some .int) (dv_rm (d + 3)) 0 0 7 [some (.ref 516), some (.int (nI i))] [] (S1.1, dv_rw S1.2.1 536 (fun _ => 0) i, S1.2.2) (fun r S' => r = some (.int (nI (dv_ct (fun z => decide (¬ S'.2.1 535 z = 0)) n))) ∧ fr [] [535, 536, 538, 541] S1 S' ∧ ∀ j, j < n → S'.2.1 535 j = (fun j => dv_b (decide (¬ S1.2.1 535 j = 0) && (rkf S1 hm an us ut RN NN n un n) j)) j) := by
    refine dv_up (P := fun i => dv_J yX8_keep cX8_keep 2 (some .int) (dv_rm (d + 3)) 0 0 7 [some (.ref 516), some (.int (nI i))] [] (S1.1, dv_rw S1.2.1 536 (fun _ => 0) i, S1.2.2) (fun r S' => r = some (.int (nI (dv_ct (fun z => decide (¬ S'.2.1 535 z = 0)) n))) ∧ fr [] [535, 536, 538, 541] S1 S' ∧ ∀ j, j < n → S'.2.1 535 j = (fun j => dv_b (decide (¬ S1.2.1 535 j = 0) && (rkf S1 hm an us ut RN NN n un n) j)) j)) ?_
    intro i hi7 ih7 
    refine J_iload_n dX8_keep_7 (pc' := 8) rfl rfl ?_
    refine J_aload_n dX8_keep_8 (pc' := 9) rfl rfl ?_
    refine J_geti fX8_120 kd_516 rf_516_5 dX8_keep_9 (pc' := 12) rfl ?_
    refine J_top (w := .int (nI n)) (by show Value.int (S1.1 516 5) = _; rw [hT.1]) ?_
    refine J_icmp_ge dX8_keep_12 (pt := 28) (by decide) (pc' := 15) rfl (fun c12 => ?_) (fun c12 => ?_)
    · have hx := dv_ge hi7 (by omega) c12
      refine J_iconst dX8_keep_28 (pc' := 29) rfl (v := 0) ic_0 ?_
      refine J_istore_n dX8_keep_29 (pc' := 30) rfl rfl (by decide) rfl (l' := [some (.ref 516), some (.int 0)]) rfl ?_
      have hlp30 : ∀ t, t ≤ n → ∀ (S2 : dv_S), kkI S1 n (rkf S1 hm an us ut RN NN n un t) S2 → dv_J yX8_keep cX8_keep 2 (some .int) (dv_rm (d + 3)) 0 0 30 [some (.ref 516), some (.int (nI t))] [] S2 (fun r S' => r = some (.int (nI (dv_ct (fun z => decide (¬ S'.2.1 535 z = 0)) n))) ∧ fr [] [535, 536, 538, 541] S1 S' ∧ ∀ j, j < n → S'.2.1 535 j = (fun j => dv_b (decide (¬ S1.2.1 535 j = 0) && (rkf S1 hm an us ut RN NN n un n) j)) j) := by
        refine dv_up (P := fun t => ∀ (S2 : dv_S), kkI S1 n (rkf S1 hm an us ut RN NN n un t) S2 → dv_J yX8_keep cX8_keep 2 (some .int) (dv_rm (d + 3)) 0 0 30 [some (.ref 516), some (.int (nI t))] [] S2 (fun r S' => r = some (.int (nI (dv_ct (fun z => decide (¬ S'.2.1 535 z = 0)) n))) ∧ fr [] [535, 536, 538, 541] S1 S' ∧ ∀ j, j < n → S'.2.1 535 j = (fun j => dv_b (decide (¬ S1.2.1 535 j = 0) && (rkf S1 hm an us ut RN NN n un n) j)) j)) ?_
        intro t hi30 ih30 S2 hK
        refine J_iload_n dX8_keep_30 (pc' := 31) rfl rfl ?_
        refine J_aload_n dX8_keep_31 (pc' := 32) rfl rfl ?_
        refine J_geti fX8_120 kd_516 rf_516_5 dX8_keep_32 (pc' := 35) rfl ?_
        refine J_top (w := .int (nI n)) (by rw [hK.1.1 516 5 (by decide), hT.1]) ?_
        refine J_icmp_ge dX8_keep_35 (pt := 83) (by decide) (pc' := 38) rfl (fun c35 => ?_) (fun c35 => ?_)
        · have ht := dv_ge hi30 (by omega) c35
          rw [ht] at hK
          refine J_iconst dX8_keep_83 (pc' := 84) rfl (v := 0) ic_0 ?_
          refine J_istore_n dX8_keep_84 (pc' := 85) rfl rfl (by decide) rfl (l' := [some (.ref 516), some (.int 0)]) rfl ?_
          have hlp85 : ∀ i, i ≤ n → dv_J yX8_keep cX8_keep 2 (some .int) (dv_rm (d + 3)) 0 0 85 [some (.ref 516), some (.int (nI i))] [] (S2.1, dv_rw S2.2.1 535 (fun j => dv_b (decide (¬ S1.2.1 535 j = 0) && (rkf S1 hm an us ut RN NN n un n) j)) i, S2.2.2) (fun r S' => r = some (.int (nI (dv_ct (fun z => decide (¬ S'.2.1 535 z = 0)) n))) ∧ fr [] [535, 536, 538, 541] S1 S' ∧ ∀ j, j < n → S'.2.1 535 j = (fun j => dv_b (decide (¬ S1.2.1 535 j = 0) && (rkf S1 hm an us ut RN NN n un n) j)) j) := by
            refine dv_up (P := fun i => dv_J yX8_keep cX8_keep 2 (some .int) (dv_rm (d + 3)) 0 0 85 [some (.ref 516), some (.int (nI i))] [] (S2.1, dv_rw S2.2.1 535 (fun j => dv_b (decide (¬ S1.2.1 535 j = 0) && (rkf S1 hm an us ut RN NN n un n) j)) i, S2.2.2) (fun r S' => r = some (.int (nI (dv_ct (fun z => decide (¬ S'.2.1 535 z = 0)) n))) ∧ fr [] [535, 536, 538, 541] S1 S' ∧ ∀ j, j < n → S'.2.1 535 j = (fun j => dv_b (decide (¬ S1.2.1 535 j = 0) && (rkf S1 hm an us ut RN NN n un n) j)) j)) ?_
            intro i hi85 ih85 
            refine J_iload_n dX8_keep_85 (pc' := 86) rfl rfl ?_
            refine J_aload_n dX8_keep_86 (pc' := 87) rfl rfl ?_
            refine J_geti fX8_120 kd_516 rf_516_5 dX8_keep_87 (pc' := 90) rfl ?_
            refine J_top (w := .int (nI n)) (by show Value.int (S2.1 516 5) = _; rw [hK.1.1 516 5 (by decide), hT.1]) ?_
            refine J_icmp_ge dX8_keep_90 (pt := 128) (by decide) (pc' := 93) rfl (fun c90 => ?_) (fun c90 => ?_)
            · have hx := dv_ge hi85 (by omega) c90
              refine J_aload_n dX8_keep_128 (pc' := 129) rfl rfl ?_
              refine J_v1 (As := []) (rest := []) (qX8_renameMany _ (S2.1, dv_rw S2.2.1 535 (fun j => dv_b (decide (¬ S1.2.1 535 j = 0) && (rkf S1 hm an us ut RN NN n un n) j)) i, S2.2.2) n (rw_T_fr hK.1 (by decide) hT : rw_T S2 n)) vX8_renameMany mX8_223 kd_516 dX8_keep_129 (pc' := 132) rfl rfl (Nat.le_of_ble_eq_true rfl) (by decide) ?_
              refine J_iret dX8_keep_132 rfl (dv_r1 _) ?_
              refine ⟨rfl, ?_, ?_⟩
              · refine ⟨hK.1.1, fun a q => ?_, hK.1.2.2⟩
                simp only [List.mem_cons, List.not_mem_nil, or_false, not_or] at q
                show dv_rw S2.2.1 535 (fun j => dv_b (decide (¬ S1.2.1 535 j = 0) && (rkf S1 hm an us ut RN NN n un n) j)) i a = _
                rw [dv_rw_row q.1]
                exact hK.1.2.1 a (by simp only [List.mem_cons, List.not_mem_nil, or_false, not_or]; exact q.2)
              · intro j hj
                show dv_rw S2.2.1 535 (fun j => dv_b (decide (¬ S1.2.1 535 j = 0) && (rkf S1 hm an us ut RN NN n un n) j)) i 535 j = _
                exact if_pos ⟨rfl, by omega⟩
            · have hx := dv_nge hi85 (by omega) c90
              refine J_aload_n dX8_keep_93 (pc' := 94) rfl rfl ?_
              refine J_getr fX8_95 kd_516 rf_516_28 dX8_keep_94 (pc' := 97) rfl ?_
              refine J_iload_n dX8_keep_97 (pc' := 98) rfl rfl ?_
              have hj121 : ∀ jv : Int32, (dv_b (decide (¬ S1.2.1 535 i = 0) && (rkf S1 hm an us ut RN NN n un n) i)) = jv → dv_J yX8_keep cX8_keep 2 (some .int) (dv_rm (d + 3)) 0 0 121 [some (.ref 516), some (.int (nI i))] [.int jv, .int (nI i), .ref 535] (S2.1, dv_rw S2.2.1 535 (fun j => dv_b (decide (¬ S1.2.1 535 j = 0) && (rkf S1 hm an us ut RN NN n un n) j)) i, S2.2.2) (fun r S' => r = some (.int (nI (dv_ct (fun z => decide (¬ S'.2.1 535 z = 0)) n))) ∧ fr [] [535, 536, 538, 541] S1 S' ∧ ∀ j, j < n → S'.2.1 535 j = (fun j => dv_b (decide (¬ S1.2.1 535 j = 0) && (rkf S1 hm an us ut RN NN n un n) j)) j) := by
                intro jv hjv
                subst hjv
                refine J_zast (j := i) kd_535 (rfl) (by rw [ln_535]; omega) (dv_b_01 _) dX8_keep_121 (pc' := 122) rfl ?_
                refine J_iinc dX8_keep_122 (pc' := 125) rfl rfl (v := nI (i + 1)) (nI_1 i) (by decide) rfl (l' := [some (.ref 516), some (.int (nI (i + 1)))]) rfl ?_
                refine J_goto dX8_keep_125 (pc' := 85) (by decide) ?_
                exact J_sto (S' := (S2.1, dv_rw S2.2.1 535 (fun j => dv_b (decide (¬ S1.2.1 535 j = 0) && (rkf S1 hm an us ut RN NN n un n) j)) (i + 1), S2.2.2)) (by rw [← dv_rw_s]) (ih85 (i + 1) (by omega) (by omega))
              refine J_aload_n dX8_keep_98 (pc' := 99) rfl rfl ?_
              refine J_getr fX8_95 kd_516 rf_516_28 dX8_keep_99 (pc' := 102) rfl ?_
              refine J_iload_n dX8_keep_102 (pc' := 103) rfl rfl ?_
              refine J_zald (j := i) kd_535 (rfl) (by rw [ln_535]; omega) dX8_keep_103 (pc' := 104) rfl ?_
              refine J_top (w := .int (S1.2.1 535 i)) (by show Value.int (dv_rw S2.2.1 535 (fun j => dv_b (decide (¬ S1.2.1 535 j = 0) && (rkf S1 hm an us ut RN NN n un n) j)) i 535 i) = _; unfold dv_rw; rw [if_neg (by omega), hK.1.2.1 535 (by decide)]) ?_
              refine J_if_eq dX8_keep_104 (pt := 120) (by decide) (pc' := 107) rfl (fun c104 => ?_) (fun c104 => ?_)
              · refine J_iconst dX8_keep_120 (pc' := 121) rfl (v := 0) ic_0 ?_
                exact hj121 _ (by first | (simp [dv_b, c104]; done) | (simp [dv_b, c104, c113]; done))
              · refine J_aload_n dX8_keep_107 (pc' := 108) rfl rfl ?_
                refine J_getr fX8_99 kd_516 rf_516_29 dX8_keep_108 (pc' := 111) rfl ?_
                refine J_iload_n dX8_keep_111 (pc' := 112) rfl rfl ?_
                refine J_zald (j := i) kd_536 (rfl) (by rw [ln_536]; omega) dX8_keep_112 (pc' := 113) rfl ?_
                refine J_top (w := .int (dv_b ((rkf S1 hm an us ut RN NN n un n) i))) (by show Value.int (dv_rw S2.2.1 535 (fun j => dv_b (decide (¬ S1.2.1 535 j = 0) && (rkf S1 hm an us ut RN NN n un n) j)) i 536 i) = _; rw [dv_rw_row (by decide), hK.2 i hx]) ?_
                refine J_beq dX8_keep_113 (pt := 120) (by decide) (pc' := 116) rfl (fun c113 => ?_) (fun c113 => ?_)
                · refine J_iconst dX8_keep_120 (pc' := 121) rfl (v := 0) ic_0 ?_
                  exact hj121 _ (by first | (simp [dv_b, c104]; done) | (simp [dv_b, c104, c113]; done))
                · refine J_iconst dX8_keep_116 (pc' := 117) rfl (v := 1) ic_1 ?_
                  refine J_goto dX8_keep_117 (pc' := 121) (by decide) ?_
                  exact hj121 _ (by first | (simp [dv_b, c104]; done) | (simp [dv_b, c104, c113]; done))
          refine J_loc (l' := [some (.ref 516), some (.int (nI 0))]) (by simp only [nI_0, dv_b_f, dv_b_t]) ?_
          refine J_sto (S' := (S2.1, dv_rw S2.2.1 535 (fun j => dv_b (decide (¬ S1.2.1 535 j = 0) && (rkf S1 hm an us ut RN NN n un n) j)) 0, S2.2.2)) (by rw [dv_rw_0]) ?_
          exact hlp85 0 (Nat.zero_le _) 
        · have ht := dv_nge hi30 (by omega) c35
          refine J_aload_n dX8_keep_38 (pc' := 39) rfl rfl ?_
          refine J_getr fX8_95 kd_516 rf_516_28 dX8_keep_39 (pc' := 42) rfl ?_
          refine J_iload_n dX8_keep_42 (pc' := 43) rfl rfl ?_
          refine J_zald (j := t) kd_535 (rfl) (by rw [ln_535]; omega) dX8_keep_43 (pc' := 44) rfl ?_
          refine J_top (w := .int (S1.2.1 535 t)) (by rw [hK.1.2.1 535 (by decide)]) ?_
          refine J_if_ne dX8_keep_44 (pt := 50) (by decide) (pc' := 47) rfl (fun c44 => ?_) (fun c44 => ?_)
          · have hk1 := kk_set1 (t := t) hK
            refine J_aload_n dX8_keep_50 (pc' := 51) rfl rfl ?_
            refine J_getr fX8_99 kd_516 rf_516_29 dX8_keep_51 (pc' := 54) rfl ?_
            refine J_iload_n dX8_keep_54 (pc' := 55) rfl rfl ?_
            refine J_iconst dX8_keep_55 (pc' := 56) rfl (v := 1) ic_1 ?_
            refine J_zast (j := t) kd_536 (rfl) (by rw [ln_536]; omega) (by decide) dX8_keep_56 (pc' := 57) rfl ?_
            refine J_aload_n dX8_keep_57 (pc' := 58) rfl rfl ?_
            refine J_getr fX8_99 kd_516 rf_516_29 dX8_keep_58 (pc' := 61) rfl ?_
            refine J_iload_n dX8_keep_61 (pc' := 62) rfl rfl ?_
            refine J_aload_n dX8_keep_62 (pc' := 63) rfl rfl ?_
            refine J_vq (As := []) (rest := [.int (nI t), .ref 536]) (qX8_hindersTaken _ (S2.1, dv_u S2.2.1 536 t 1, S2.2.2) n sn un hm an us ut RN NN (rw_T_fr hk1.1 (by decide) hT) (rw_S_fr hk1.1 (by decide) (by decide) hS) (rw_U_fr hk1.1 (by decide) (by decide) hU) (rwN_fr hk1.1 (by decide) hN)) vX8_hindersTaken mX8_227 kd_516 dX8_keep_63 (pc' := 66) rfl rfl (Nat.le_of_ble_eq_true rfl) (by decide) ?_
            rintro r S4 ⟨rfl, hI⟩
            show dv_J yX8_keep cX8_keep 2 (some .int) (dv_rm (d + 3)) 0 0 66 [some (.ref 516), some (.int (nI t))] [.int (ghi hm an us ut (thn (S2.1, dv_u S2.2.1 536 t 1, S2.2.2) RN NN) n un), .int (nI t), .ref 536] S4 (fun r S' => r = some (.int (nI (dv_ct (fun z => decide (¬ S'.2.1 535 z = 0)) n))) ∧ fr [] [535, 536, 538, 541] S1 S' ∧ ∀ j, j < n → S'.2.1 535 j = (fun j => dv_b (decide (¬ S1.2.1 535 j = 0) && (rkf S1 hm an us ut RN NN n un n) j)) j)
            have hj76 : ∀ jv : Int32, (dv_b (decide (ghi hm an us ut (rkn S1 RN NN (kpa (rkf S1 hm an us ut RN NN n un t) t)) n un = -2))) = jv → dv_J yX8_keep cX8_keep 2 (some .int) (dv_rm (d + 3)) 0 0 76 [some (.ref 516), some (.int (nI t))] [.int jv, .int (nI t), .ref 536] S4 (fun r S' => r = some (.int (nI (dv_ct (fun z => decide (¬ S'.2.1 535 z = 0)) n))) ∧ fr [] [535, 536, 538, 541] S1 S' ∧ ∀ j, j < n → S'.2.1 535 j = (fun j => dv_b (decide (¬ S1.2.1 535 j = 0) && (rkf S1 hm an us ut RN NN n un n) j)) j) := by
              intro jv hjv
              subst hjv
              refine J_zast (j := t) kd_536 (rfl) (by rw [ln_536]; omega) (dv_b_01 _) dX8_keep_76 (pc' := 77) rfl ?_
              refine J_iinc dX8_keep_77 (pc' := 80) rfl rfl (v := nI (t + 1)) (nI_1 t) (by decide) rfl (l' := [some (.ref 516), some (.int (nI (t + 1)))]) rfl ?_
              refine J_goto dX8_keep_80 (pc' := 30) (by decide) ?_
              exact ih30 (t + 1) (by omega) (by omega) _ (kk_step hK c44 hI.1)
            refine J_top (w := .int (ghi hm an us ut (rkn S1 RN NN (kpa (rkf S1 hm an us ut RN NN n un t) t)) n un)) (by rw [ghi_cong (kk_thn hk1 RN NN) (fun u hu => (hU.2.2 u hu).2.2.2)]) ?_
            refine J_bipush dX8_keep_66 (pc' := 68) rfl (v := (-2)) bp_m2 ?_
            refine J_icmp_ne dX8_keep_68 (pt := 75) (by decide) (pc' := 71) rfl (fun c68 => ?_) (fun c68 => ?_)
            · refine J_iconst dX8_keep_75 (pc' := 76) rfl (v := 0) ic_0 ?_
              exact hj76 _ (by simp [dv_b, c68])
            · refine J_iconst dX8_keep_71 (pc' := 72) rfl (v := 1) ic_1 ?_
              refine J_goto dX8_keep_72 (pc' := 76) (by decide) ?_
              exact hj76 _ (by simp [dv_b, c68])
          · refine J_goto dX8_keep_47 (pc' := 77) (by decide) ?_
            refine J_iinc dX8_keep_77 (pc' := 80) rfl rfl (v := nI (t + 1)) (nI_1 t) (by decide) rfl (l' := [some (.ref 516), some (.int (nI (t + 1)))]) rfl ?_
            refine J_goto dX8_keep_80 (pc' := 30) (by decide) ?_
            refine ih30 (t + 1) (by omega) (by omega) _ ?_
            rw [rkf_n (Or.inl c44)]
            exact hK
      refine J_loc (l' := [some (.ref 516), some (.int (nI 0))]) (by simp only [nI_0, dv_b_f, dv_b_t]) ?_
      refine J_sto (S' := (S1.1, dv_rw S1.2.1 536 (fun _ => 0) n, S1.2.2)) (by rw [hx]) ?_
      exact hlp30 0 (Nat.zero_le _) _ (kk0 S1 n)
    · have hx := dv_nge hi7 (by omega) c12
      refine J_aload_n dX8_keep_15 (pc' := 16) rfl rfl ?_
      refine J_getr fX8_99 kd_516 rf_516_29 dX8_keep_16 (pc' := 19) rfl ?_
      refine J_iload_n dX8_keep_19 (pc' := 20) rfl rfl ?_
      refine J_iconst dX8_keep_20 (pc' := 21) rfl (v := 0) ic_0 ?_
      refine J_zast (j := i) kd_536 (rfl) (by rw [ln_536]; omega) (by decide) dX8_keep_21 (pc' := 22) rfl ?_
      refine J_iinc dX8_keep_22 (pc' := 25) rfl rfl (v := nI (i + 1)) (nI_1 i) (by decide) rfl (l' := [some (.ref 516), some (.int (nI (i + 1)))]) rfl ?_
      refine J_goto dX8_keep_25 (pc' := 7) (by decide) ?_
      exact J_sto (S' := (S1.1, dv_rw S1.2.1 536 (fun _ => 0) (i + 1), S1.2.2)) (by rw [← dv_rw_s]) (ih7 (i + 1) (by omega) (by omega))
  refine J_loc (l' := [some (.ref 516), some (.int (nI 0))]) (by simp only [nI_0, dv_b_f, dv_b_t]) ?_
  refine J_sto (S' := (S1.1, dv_rw S1.2.1 536 (fun _ => 0) 0, S1.2.2)) (by rw [dv_rw_0]) ?_
  exact hlp7 0 (Nat.zero_le _) 
set_option maxRecDepth 100000 in
set_option maxHeartbeats 400000 in
theorem qX8_count0 (d : Nat) (S : dv_S) (S1 : dv_S) (h0 : rS S = S1)  : dv_M yX8_count cX8_count 2 (some .int) (dv_rm (d + 1)) [.ref 516, .int (nI 0)] S (fun r S' => r = some (.int (S1.1 516 4)) ∧ S' = S1) := by
  refine dv_M_of [some (.ref 516), some (.int (nI 0))] (by decide) (fun _ _ => Nat.le_of_ble_eq_true rfl) (fun _ _ => rfl) ?_
  refine J_aload_n dX8_count_0 (pc' := 1) rfl rfl ?_
  refine J_iconst dX8_count_1 (pc' := 2) rfl (v := 0) ic_0 ?_
  refine J_puti fX8_1 kd_516 rf_516_0 dX8_count_2 (pc' := 5) rfl ?_
  refine J_sto (S' := S1) (h0) ?_
  refine J_iload_n dX8_count_5 (pc' := 6) rfl rfl ?_
  refine J_tswi (off := 42) (pt := 48) dX8_count_6 (by decide) (by decide) (by decide) (by decide) ?_
  refine J_aload_n dX8_count_48 (pc' := 49) rfl rfl ?_
  refine J_geti fX8_40 kd_516 rf_516_4 dX8_count_49 (pc' := 52) rfl ?_
  refine J_iret dX8_count_52 rfl (dv_r1 _) ?_
  exact ⟨rfl, rfl⟩
set_option maxRecDepth 100000 in
set_option maxHeartbeats 400000 in
theorem qX8_count1 (d : Nat) (S : dv_S) (S1 : dv_S) (h0 : rS S = S1)  : dv_M yX8_count cX8_count 2 (some .int) (dv_rm (d + 1)) [.ref 516, .int (nI 1)] S (fun r S' => r = some (.int (S1.1 516 5)) ∧ S' = S1) := by
  refine dv_M_of [some (.ref 516), some (.int (nI 1))] (by decide) (fun _ _ => Nat.le_of_ble_eq_true rfl) (fun _ _ => rfl) ?_
  refine J_aload_n dX8_count_0 (pc' := 1) rfl rfl ?_
  refine J_iconst dX8_count_1 (pc' := 2) rfl (v := 0) ic_0 ?_
  refine J_puti fX8_1 kd_516 rf_516_0 dX8_count_2 (pc' := 5) rfl ?_
  refine J_sto (S' := S1) (h0) ?_
  refine J_iload_n dX8_count_5 (pc' := 6) rfl rfl ?_
  refine J_tswi (off := 47) (pt := 53) dX8_count_6 (by decide) (by decide) (by decide) (by decide) ?_
  refine J_aload_n dX8_count_53 (pc' := 54) rfl rfl ?_
  refine J_geti fX8_120 kd_516 rf_516_5 dX8_count_54 (pc' := 57) rfl ?_
  refine J_iret dX8_count_57 rfl (dv_r1 _) ?_
  exact ⟨rfl, rfl⟩
set_option maxRecDepth 100000 in
set_option maxHeartbeats 400000 in
theorem qX8_count2 (d : Nat) (S : dv_S) (S1 : dv_S) (h0 : rS S = S1)  : dv_M yX8_count cX8_count 2 (some .int) (dv_rm (d + 1)) [.ref 516, .int (nI 2)] S (fun r S' => r = some (.int (S1.1 516 6)) ∧ S' = S1) := by
  refine dv_M_of [some (.ref 516), some (.int (nI 2))] (by decide) (fun _ _ => Nat.le_of_ble_eq_true rfl) (fun _ _ => rfl) ?_
  refine J_aload_n dX8_count_0 (pc' := 1) rfl rfl ?_
  refine J_iconst dX8_count_1 (pc' := 2) rfl (v := 0) ic_0 ?_
  refine J_puti fX8_1 kd_516 rf_516_0 dX8_count_2 (pc' := 5) rfl ?_
  refine J_sto (S' := S1) (h0) ?_
  refine J_iload_n dX8_count_5 (pc' := 6) rfl rfl ?_
  refine J_tswi (off := 52) (pt := 58) dX8_count_6 (by decide) (by decide) (by decide) (by decide) ?_
  refine J_aload_n dX8_count_58 (pc' := 59) rfl rfl ?_
  refine J_geti fX8_137 kd_516 rf_516_6 dX8_count_59 (pc' := 62) rfl ?_
  refine J_iret dX8_count_62 rfl (dv_r1 _) ?_
  exact ⟨rfl, rfl⟩
set_option maxRecDepth 100000 in
set_option maxHeartbeats 400000 in
theorem qX8_count3 (d : Nat) (S : dv_S) (S1 : dv_S) (h0 : rS S = S1)  : dv_M yX8_count cX8_count 2 (some .int) (dv_rm (d + 1)) [.ref 516, .int (nI 3)] S (fun r S' => r = some (.int (S1.1 516 17)) ∧ S' = S1) := by
  refine dv_M_of [some (.ref 516), some (.int (nI 3))] (by decide) (fun _ _ => Nat.le_of_ble_eq_true rfl) (fun _ _ => rfl) ?_
  refine J_aload_n dX8_count_0 (pc' := 1) rfl rfl ?_
  refine J_iconst dX8_count_1 (pc' := 2) rfl (v := 0) ic_0 ?_
  refine J_puti fX8_1 kd_516 rf_516_0 dX8_count_2 (pc' := 5) rfl ?_
  refine J_sto (S' := S1) (h0) ?_
  refine J_iload_n dX8_count_5 (pc' := 6) rfl rfl ?_
  refine J_tswi (off := 57) (pt := 63) dX8_count_6 (by decide) (by decide) (by decide) (by decide) ?_
  refine J_aload_n dX8_count_63 (pc' := 64) rfl rfl ?_
  refine J_geti fX8_165 kd_516 rf_516_17 dX8_count_64 (pc' := 67) rfl ?_
  refine J_iret dX8_count_67 rfl (dv_r1 _) ?_
  exact ⟨rfl, rfl⟩
set_option maxRecDepth 100000 in
set_option maxHeartbeats 400000 in
theorem qX8_count4 (d : Nat) (S : dv_S) (S1 : dv_S) (n : Nat) (h0 : rS S = S1) (hT : rw_T S1 n)  : dv_M yX8_count cX8_count 2 (some .int) (dv_rm (d + 1)) [.ref 516, .int (nI 4)] S (fun r S' => r = some (.int (nI (dv_ct (fun z => decide (¬ S1.2.1 535 z = 0)) n))) ∧ S' = S1) := by
  refine dv_M_of [some (.ref 516), some (.int (nI 4))] (by decide) (fun _ _ => Nat.le_of_ble_eq_true rfl) (fun _ _ => rfl) ?_
  refine J_aload_n dX8_count_0 (pc' := 1) rfl rfl ?_
  refine J_iconst dX8_count_1 (pc' := 2) rfl (v := 0) ic_0 ?_
  refine J_puti fX8_1 kd_516 rf_516_0 dX8_count_2 (pc' := 5) rfl ?_
  refine J_sto (S' := S1) (h0) ?_
  refine J_iload_n dX8_count_5 (pc' := 6) rfl rfl ?_
  refine J_tswi (off := 62) (pt := 68) dX8_count_6 (by decide) (by decide) (by decide) (by decide) ?_
  refine J_aload_n dX8_count_68 (pc' := 69) rfl rfl ?_
  refine J_v1 (As := []) (rest := []) (qX8_renameMany _ S1 n hT) vX8_renameMany mX8_223 kd_516 dX8_count_69 (pc' := 72) rfl rfl (Nat.le_of_ble_eq_true rfl) (by decide) ?_
  refine J_iret dX8_count_72 rfl (dv_r1 _) ?_
  exact ⟨rfl, rfl⟩
set_option maxRecDepth 100000 in
set_option maxHeartbeats 400000 in
theorem qX8_count5 (d : Nat) (S : dv_S) (S1 : dv_S) (h0 : rS S = S1)  : dv_M yX8_count cX8_count 2 (some .int) (dv_rm (d + 1)) [.ref 516, .int (nI 5)] S (fun r S' => r = some (.int (S1.1 516 26)) ∧ S' = S1) := by
  refine dv_M_of [some (.ref 516), some (.int (nI 5))] (by decide) (fun _ _ => Nat.le_of_ble_eq_true rfl) (fun _ _ => rfl) ?_
  refine J_aload_n dX8_count_0 (pc' := 1) rfl rfl ?_
  refine J_iconst dX8_count_1 (pc' := 2) rfl (v := 0) ic_0 ?_
  refine J_puti fX8_1 kd_516 rf_516_0 dX8_count_2 (pc' := 5) rfl ?_
  refine J_sto (S' := S1) (h0) ?_
  refine J_iload_n dX8_count_5 (pc' := 6) rfl rfl ?_
  refine J_tswi (off := 67) (pt := 73) dX8_count_6 (by decide) (by decide) (by decide) (by decide) ?_
  refine J_aload_n dX8_count_73 (pc' := 74) rfl rfl ?_
  refine J_geti fX8_220 kd_516 rf_516_26 dX8_count_74 (pc' := 77) rfl ?_
  refine J_iret dX8_count_77 rfl (dv_r1 _) ?_
  exact ⟨rfl, rfl⟩
set_option maxRecDepth 100000 in
set_option maxHeartbeats 400000 in
theorem qX8_count6 (d : Nat) (S : dv_S) (S1 : dv_S) (h0 : rS S = S1)  : dv_M yX8_count cX8_count 2 (some .int) (dv_rm (d + 1)) [.ref 516, .int (nI 6)] S (fun r S' => r = some (.int (S1.1 516 3)) ∧ S' = S1) := by
  refine dv_M_of [some (.ref 516), some (.int (nI 6))] (by decide) (fun _ _ => Nat.le_of_ble_eq_true rfl) (fun _ _ => rfl) ?_
  refine J_aload_n dX8_count_0 (pc' := 1) rfl rfl ?_
  refine J_iconst dX8_count_1 (pc' := 2) rfl (v := 0) ic_0 ?_
  refine J_puti fX8_1 kd_516 rf_516_0 dX8_count_2 (pc' := 5) rfl ?_
  refine J_sto (S' := S1) (h0) ?_
  refine J_iload_n dX8_count_5 (pc' := 6) rfl rfl ?_
  refine J_tswi (off := 72) (pt := 78) dX8_count_6 (by decide) (by decide) (by decide) (by decide) ?_
  refine J_aload_n dX8_count_78 (pc' := 79) rfl rfl ?_
  refine J_geti fX8_10 kd_516 rf_516_3 dX8_count_79 (pc' := 82) rfl ?_
  refine J_iret dX8_count_82 rfl (dv_r1 _) ?_
  exact ⟨rfl, rfl⟩
set_option maxRecDepth 100000 in
set_option maxHeartbeats 400000 in
theorem qX8_countO (d : Nat) (S : dv_S) (S1 : dv_S) (y : Int32) (h0 : rS S = S1) (ho : y.toInt < 0 ∨ 7 ≤ y.toInt)  : dv_M yX8_count cX8_count 2 (some .int) (dv_rm (d + 1)) [.ref 516, .int y] S (fun r S' => r = some (.int (-1)) ∧ S' = S1) := by
  refine dv_M_of [some (.ref 516), some (.int y)] (by decide) (fun _ _ => Nat.le_of_ble_eq_true rfl) (fun _ _ => rfl) ?_
  refine J_aload_n dX8_count_0 (pc' := 1) rfl rfl ?_
  refine J_iconst dX8_count_1 (pc' := 2) rfl (v := 0) ic_0 ?_
  refine J_puti fX8_1 kd_516 rf_516_0 dX8_count_2 (pc' := 5) rfl ?_
  refine J_sto (S' := S1) (h0) ?_
  refine J_iload_n dX8_count_5 (pc' := 6) rfl rfl ?_
  refine J_tswo (pt := 83) dX8_count_6 (ho.imp id (fun q => by omega)) (by decide) ?_
  refine J_iconst dX8_count_83 (pc' := 84) rfl (v := (-1)) ic_m1 ?_
  refine J_iret dX8_count_84 rfl (dv_r1 _) ?_
  exact ⟨rfl, rfl⟩
set_option maxRecDepth 100000 in
set_option maxHeartbeats 400000 in
theorem qX8_trouble (d : Nat) (S : dv_S) (S1 : dv_S) (h0 : rS S = S1)  : dv_M yX8_trouble cX8_trouble 1 (some .int) (dv_rm (d + 0)) [.ref 516] S (fun r S' => r = some (.int (S1.1 516 1)) ∧ S' = S1) := by
  refine dv_M_of [some (.ref 516)] (by decide) (fun _ _ => Nat.le_of_ble_eq_true rfl) (fun _ _ => rfl) ?_
  refine J_aload_n dX8_trouble_0 (pc' := 1) rfl rfl ?_
  refine J_iconst dX8_trouble_1 (pc' := 2) rfl (v := 0) ic_0 ?_
  refine J_puti fX8_1 kd_516 rf_516_0 dX8_trouble_2 (pc' := 5) rfl ?_
  refine J_sto (S' := S1) (h0) ?_
  refine J_aload_n dX8_trouble_5 (pc' := 6) rfl rfl ?_
  refine J_geti fX8_7 kd_516 rf_516_1 dX8_trouble_6 (pc' := 9) rfl ?_
  refine J_iret dX8_trouble_9 rfl (dv_r1 _) ?_
  exact ⟨rfl, rfl⟩
