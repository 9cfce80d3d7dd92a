set_option maxRecDepth 100000 in
set_option maxHeartbeats 400000 in
theorem qX8_wayOf (d : Nat) (S : dv_S) (C : dv_S) (n w : Nat) (wl : Nat → Nat → Int32) (wm : Nat → Nat) (x : Int32) (hX : RX S C n w wl wm)  : dv_M yX8_wayOf cX8_wayOf 8 (some .int) (dv_rm (d + 4)) [.ref 516, .int x] S (fun r S' => r = some (.int (wy (ptS C w) (C.2.1 23) n x n).1) ∧ fr [(516, 16)] [525, 526] S S') := by
  have h80 := hX.1.2
  have h60 := hX.2.1.2
  refine dv_M_of [some (.ref 516), some (.int x), none, none, none, none, none, none] (by decide) (fun _ _ => Nat.le_of_ble_eq_true rfl) (fun _ _ => rfl) ?_
  refine J_bipush dX8_wayOf_0 (pc' := 2) rfl (v := (-2)) bp_m2 ?_
  refine J_istore_n dX8_wayOf_2 (pc' := 3) rfl rfl (by decide) rfl (l' := [some (.ref 516), some (.int x), some (.int ((-2))), none, none, none, none, none]) rfl ?_
  refine J_iconst dX8_wayOf_3 (pc' := 4) rfl (v := 0) ic_0 ?_
  refine J_istore_n dX8_wayOf_4 (pc' := 5) rfl rfl (by decide) rfl (l' := [some (.ref 516), some (.int x), some (.int ((-2))), some (.int 0), none, none, none, none]) rfl ?_
  refine J_iconst dX8_wayOf_5 (pc' := 6) rfl (v := 0) ic_0 ?_
  refine J_istore dX8_wayOf_6 (pc' := 8) rfl (by decide) rfl (l' := [some (.ref 516), some (.int x), some (.int ((-2))), some (.int 0), some (.int 0), none, none, none]) rfl ?_
  have hlp8 : ∀ t, t ≤ n → ∀ (S1 : dv_S), fr [(516, 16)] [525, 526] S S1 → dv_J yX8_wayOf cX8_wayOf 8 (some .int) (dv_rm (d + 4)) 0 0 8 [some (.ref 516), some (.int x), some (.int ((wy (ptS C w) (C.2.1 23) n x t).1)), some (.int (nI ((wy (ptS C w) (C.2.1 23) n x t).2))), some (.int (nI t)), none, none, none] [] S1 (fun r S' => r = some (.int (wy (ptS C w) (C.2.1 23) n x n).1) ∧ fr [(516, 16)] [525, 526] S S') := by
    refine dv_up (P := fun t => ∀ (S1 : dv_S), fr [(516, 16)] [525, 526] S S1 → dv_J yX8_wayOf cX8_wayOf 8 (some .int) (dv_rm (d + 4)) 0 0 8 [some (.ref 516), some (.int x), some (.int ((wy (ptS C w) (C.2.1 23) n x t).1)), some (.int (nI ((wy (ptS C w) (C.2.1 23) n x t).2))), some (.int (nI t)), none, none, none] [] S1 (fun r S' => r = some (.int (wy (ptS C w) (C.2.1 23) n x n).1) ∧ fr [(516, 16)] [525, 526] S S')) ?_
    intro t hi8 ih8 S1 hf
    refine J_iload dX8_wayOf_8 (pc' := 10) rfl rfl ?_
    refine J_aload_n dX8_wayOf_10 (pc' := 11) rfl rfl ?_
    refine J_geti fX8_120 kd_516 rf_516_5 dX8_wayOf_11 (pc' := 14) rfl ?_
    refine J_top (w := .int (nI n)) (by rw [(RX_fr hf hX (by decide) (by decide)).1.1]) ?_
    refine J_icmp_ge dX8_wayOf_14 (pt := 125) (by decide) (pc' := 17) rfl (fun c14 => ?_) (fun c14 => ?_)
    · have ht := dv_ge hi8 (by omega) c14
      refine J_iload_n dX8_wayOf_125 (pc' := 126) rfl rfl ?_
      refine J_iret dX8_wayOf_126 rfl (dv_r1 _) ?_
      exact ⟨by rw [ht], hf⟩
    · have ht := dv_nge hi8 (by omega) c14
      refine J_aload_n dX8_wayOf_17 (pc' := 18) rfl rfl ?_
      refine J_getr fX8_50 kd_516 rf_516_9 dX8_wayOf_18 (pc' := 21) rfl ?_
      refine J_iload dX8_wayOf_21 (pc' := 23) rfl rfl ?_
      refine J_iald (j := t) kd_520 (rfl) (by rw [ln_520]; omega) dX8_wayOf_23 (pc' := 24) rfl ?_
      refine J_top (w := .int (C.2.1 23 t)) (by rw [((RX_fr hf hX (by decide) (by decide)).2.2.1 t ht).2.2.2]) ?_
      refine J_iload_n dX8_wayOf_24 (pc' := 25) rfl rfl ?_
      refine J_icmp_eq dX8_wayOf_25 (pt := 31) (by decide) (pc' := 28) rfl (fun c25 => ?_) (fun c25 => ?_)
      · refine J_aload_n dX8_wayOf_31 (pc' := 32) rfl rfl ?_
        refine J_iload dX8_wayOf_32 (pc' := 34) rfl rfl ?_
        refine J_vq (As := [.int (nI t)]) (rest := []) (qX8_patternOf _ S1 C n w wl wm t (RX_fr hf hX (by decide) (by decide)) ht) vX8_patternOf mX8_204 kd_516 dX8_wayOf_34 (pc' := 37) rfl rfl (Nat.le_of_ble_eq_true rfl) (by decide) ?_
        rintro r S2 ⟨rfl, hp⟩
        have hf2 := hf.tr hp
        show dv_J yX8_wayOf cX8_wayOf 8 (some .int) (dv_rm (d + 4)) 0 0 37 [some (.ref 516), some (.int x), some (.int ((wy (ptS C w) (C.2.1 23) n x t).1)), some (.int (nI ((wy (ptS C w) (C.2.1 23) n x t).2))), some (.int (nI t)), none, none, none] [.int (ptS C w t)] S2 (fun r S' => r = some (.int (wy (ptS C w) (C.2.1 23) n x n).1) ∧ fr [(516, 16)] [525, 526] S S')
        refine J_istore dX8_wayOf_37 (pc' := 39) rfl (by decide) rfl (l' := [some (.ref 516), some (.int x), some (.int ((wy (ptS C w) (C.2.1 23) n x t).1)), some (.int (nI ((wy (ptS C w) (C.2.1 23) n x t).2))), some (.int (nI t)), some (.int (ptS C w t)), none, none]) rfl ?_
        refine J_iconst dX8_wayOf_39 (pc' := 40) rfl (v := 0) ic_0 ?_
        refine J_istore dX8_wayOf_40 (pc' := 42) rfl (by decide) rfl (l' := [some (.ref 516), some (.int x), some (.int ((wy (ptS C w) (C.2.1 23) n x t).1)), some (.int (nI ((wy (ptS C w) (C.2.1 23) n x t).2))), some (.int (nI t)), some (.int (ptS C w t)), some (.int 0), none]) rfl ?_
        refine J_iconst dX8_wayOf_42 (pc' := 43) rfl (v := 0) ic_0 ?_
        refine J_istore dX8_wayOf_43 (pc' := 45) rfl (by decide) rfl (l' := [some (.ref 516), some (.int x), some (.int ((wy (ptS C w) (C.2.1 23) n x t).1)), some (.int (nI ((wy (ptS C w) (C.2.1 23) n x t).2))), some (.int (nI t)), some (.int (ptS C w t)), some (.int 0), some (.int 0)]) rfl ?_
        have hlp45 : ∀ k, k ≤ n → ∀ (S3 : dv_S), fr [(516, 16)] [525, 526] S S3 → dv_J yX8_wayOf cX8_wayOf 8 (some .int) (dv_rm (d + 4)) 0 0 45 [some (.ref 516), some (.int x), some (.int ((wy (ptS C w) (C.2.1 23) n x t).1)), some (.int (nI ((wy (ptS C w) (C.2.1 23) n x t).2))), some (.int (nI t)), some (.int (ptS C w t)), some (.int (nI (dv_ct (fun u => decide (C.2.1 23 u = x) && decide (ptS C w u = ptS C w t)) k))), some (.int (nI k))] [] S3 (fun r S' => r = some (.int (wy (ptS C w) (C.2.1 23) n x n).1) ∧ fr [(516, 16)] [525, 526] S S') := by
          refine dv_up (P := fun k => ∀ (S3 : dv_S), fr [(516, 16)] [525, 526] S S3 → dv_J yX8_wayOf cX8_wayOf 8 (some .int) (dv_rm (d + 4)) 0 0 45 [some (.ref 516), some (.int x), some (.int ((wy (ptS C w) (C.2.1 23) n x t).1)), some (.int (nI ((wy (ptS C w) (C.2.1 23) n x t).2))), some (.int (nI t)), some (.int (ptS C w t)), some (.int (nI (dv_ct (fun u => decide (C.2.1 23 u = x) && decide (ptS C w u = ptS C w t)) k))), some (.int (nI k))] [] S3 (fun r S' => r = some (.int (wy (ptS C w) (C.2.1 23) n x n).1) ∧ fr [(516, 16)] [525, 526] S S')) ?_
          intro k hi45 ih45 S3 hf3
          refine J_iload dX8_wayOf_45 (pc' := 47) rfl rfl ?_
          refine J_aload_n dX8_wayOf_47 (pc' := 48) rfl rfl ?_
          refine J_geti fX8_120 kd_516 rf_516_5 dX8_wayOf_48 (pc' := 51) rfl ?_
          refine J_top (w := .int (nI n)) (by rw [(RX_fr hf3 hX (by decide) (by decide)).1.1]) ?_
          refine J_icmp_ge dX8_wayOf_51 (pt := 92) (by decide) (pc' := 54) rfl (fun c51 => ?_) (fun c51 => ?_)
          · have hk := dv_ge hi45 (by omega) c51
            have hb0 : dv_ct (fun u => decide (C.2.1 23 u = x) && decide (ptS C w u = ptS C w t)) k = wo (ptS C w) (C.2.1 23) n x t := by rw [hk]; rfl
            have hb1 : wo (ptS C w) (C.2.1 23) n x t ≤ n := dv_ct_le _ _
            have hb2 := wy_le (ptS C w) (C.2.1 23) n x t
            refine J_iload dX8_wayOf_92 (pc' := 94) rfl rfl ?_
            refine J_iload_n dX8_wayOf_94 (pc' := 95) rfl rfl ?_
            refine J_icmp_lt dX8_wayOf_95 (pt := 119) (by decide) (pc' := 98) rfl (fun c95 => ?_) (fun c95 => ?_)
            · rw [nI_ltI (by omega) (by omega)] at c95
              refine J_iinc dX8_wayOf_119 (pc' := 122) rfl rfl (v := nI (t + 1)) (nI_1 t) (by decide) rfl (l' := [some (.ref 516), some (.int x), some (.int ((wy (ptS C w) (C.2.1 23) n x t).1)), some (.int (nI ((wy (ptS C w) (C.2.1 23) n x t).2))), some (.int (nI (t + 1))), some (.int (ptS C w t)), some (.int (nI (dv_ct (fun u => decide (C.2.1 23 u = x) && decide (ptS C w u = ptS C w t)) k))), some (.int (nI k))]) rfl ?_
              refine J_goto dX8_wayOf_122 (pc' := 8) (by decide) ?_
              refine J_drop 5 (l' := [some (.ref 516), some (.int x), some (.int ((wy (ptS C w) (C.2.1 23) n x t).1)), some (.int (nI ((wy (ptS C w) (C.2.1 23) n x t).2))), some (.int (nI (t + 1))), none, some (.int (nI (dv_ct (fun u => decide (C.2.1 23 u = x) && decide (ptS C w u = ptS C w t)) k))), some (.int (nI k))]) rfl ?_
              refine J_drop 6 (l' := [some (.ref 516), some (.int x), some (.int ((wy (ptS C w) (C.2.1 23) n x t).1)), some (.int (nI ((wy (ptS C w) (C.2.1 23) n x t).2))), some (.int (nI (t + 1))), none, none, some (.int (nI k))]) rfl ?_
              refine J_drop 7 (l' := [some (.ref 516), some (.int x), some (.int ((wy (ptS C w) (C.2.1 23) n x t).1)), some (.int (nI ((wy (ptS C w) (C.2.1 23) n x t).2))), some (.int (nI (t + 1))), none, none, none]) rfl ?_
              refine J_loc ?_ (ih8 (t + 1) (by omega) (by omega) _ hf3)
              clear ih8
              first | simp only [wy_n (pt := ptS C w) (kd := C.2.1 23) (n := n) (x := x) (t := t) (fun q => c25 q.1)] | simp only [wy_n (pt := ptS C w) (kd := C.2.1 23) (n := n) (x := x) (t := t) (fun q => q.2.elim (fun z => by omega) (fun z => by omega))] | simp only [wy_n (pt := ptS C w) (kd := C.2.1 23) (n := n) (x := x) (t := t) (fun q => q.2.elim (fun z => by omega) (fun z => c107 z.2))]
            · rw [nI_ltI (by omega) (by omega)] at c95
              refine J_iload dX8_wayOf_98 (pc' := 100) rfl rfl ?_
              refine J_iload_n dX8_wayOf_100 (pc' := 101) rfl rfl ?_
              refine J_icmp_ne dX8_wayOf_101 (pt := 113) (by decide) (pc' := 104) rfl (fun c101 => ?_) (fun c101 => ?_)
              · rw [nI_eq (by omega) (by omega)] at c101
                refine J_iload dX8_wayOf_113 (pc' := 115) rfl rfl ?_
                refine J_istore_n dX8_wayOf_115 (pc' := 116) rfl rfl (by decide) rfl (l' := [some (.ref 516), some (.int x), some (.int ((wy (ptS C w) (C.2.1 23) n x t).1)), some (.int (nI (dv_ct (fun u => decide (C.2.1 23 u = x) && decide (ptS C w u = ptS C w t)) k))), some (.int (nI t)), some (.int (ptS C w t)), some (.int (nI (dv_ct (fun u => decide (C.2.1 23 u = x) && decide (ptS C w u = ptS C w t)) k))), some (.int (nI k))]) rfl ?_
                refine J_iload dX8_wayOf_116 (pc' := 118) rfl rfl ?_
                refine J_istore_n dX8_wayOf_118 (pc' := 119) rfl rfl (by decide) rfl (l' := [some (.ref 516), some (.int x), some (.int (ptS C w t)), some (.int (nI (dv_ct (fun u => decide (C.2.1 23 u = x) && decide (ptS C w u = ptS C w t)) k))), some (.int (nI t)), some (.int (ptS C w t)), some (.int (nI (dv_ct (fun u => decide (C.2.1 23 u = x) && decide (ptS C w u = ptS C w t)) k))), some (.int (nI k))]) rfl ?_
                refine J_iinc dX8_wayOf_119 (pc' := 122) rfl rfl (v := nI (t + 1)) (nI_1 t) (by decide) rfl (l' := [some (.ref 516), some (.int x), some (.int (ptS C w t)), some (.int (nI (dv_ct (fun u => decide (C.2.1 23 u = x) && decide (ptS C w u = ptS C w t)) k))), some (.int (nI (t + 1))), some (.int (ptS C w t)), some (.int (nI (dv_ct (fun u => decide (C.2.1 23 u = x) && decide (ptS C w u = ptS C w t)) k))), some (.int (nI k))]) rfl ?_
                refine J_goto dX8_wayOf_122 (pc' := 8) (by decide) ?_
                refine J_drop 5 (l' := [some (.ref 516), some (.int x), some (.int (ptS C w t)), some (.int (nI (dv_ct (fun u => decide (C.2.1 23 u = x) && decide (ptS C w u = ptS C w t)) k))), some (.int (nI (t + 1))), none, some (.int (nI (dv_ct (fun u => decide (C.2.1 23 u = x) && decide (ptS C w u = ptS C w t)) k))), some (.int (nI k))]) rfl ?_
                refine J_drop 6 (l' := [some (.ref 516), some (.int x), some (.int (ptS C w t)), some (.int (nI (dv_ct (fun u => decide (C.2.1 23 u = x) && decide (ptS C w u = ptS C w t)) k))), some (.int (nI (t + 1))), none, none, some (.int (nI k))]) rfl ?_
                refine J_drop 7 (l' := [some (.ref 516), some (.int x), some (.int (ptS C w t)), some (.int (nI (dv_ct (fun u => decide (C.2.1 23 u = x) && decide (ptS C w u = ptS C w t)) k))), some (.int (nI (t + 1))), none, none, none]) rfl ?_
                refine J_loc ?_ (ih8 (t + 1) (by omega) (by omega) _ hf3)
                clear ih8
                first | simp only [wy_y (pt := ptS C w) (kd := C.2.1 23) (n := n) (x := x) (t := t) c25 (Or.inl (by omega)), hb0] | simp only [wy_y (pt := ptS C w) (kd := C.2.1 23) (n := n) (x := x) (t := t) c25 (Or.inr ⟨by omega, c107⟩), hb0]
              · rw [nI_eq (by omega) (by omega)] at c101
                refine J_iload dX8_wayOf_104 (pc' := 106) rfl rfl ?_
                refine J_iload_n dX8_wayOf_106 (pc' := 107) rfl rfl ?_
                refine J_icmp_lt dX8_wayOf_107 (pt := 113) (by decide) (pc' := 110) rfl (fun c107 => ?_) (fun c107 => ?_)
                · refine J_iload dX8_wayOf_113 (pc' := 115) rfl rfl ?_
                  refine J_istore_n dX8_wayOf_115 (pc' := 116) rfl rfl (by decide) rfl (l' := [some (.ref 516), some (.int x), some (.int ((wy (ptS C w) (C.2.1 23) n x t).1)), some (.int (nI (dv_ct (fun u => decide (C.2.1 23 u = x) && decide (ptS C w u = ptS C w t)) k))), some (.int (nI t)), some (.int (ptS C w t)), some (.int (nI (dv_ct (fun u => decide (C.2.1 23 u = x) && decide (ptS C w u = ptS C w t)) k))), some (.int (nI k))]) rfl ?_
                  refine J_iload dX8_wayOf_116 (pc' := 118) rfl rfl ?_
                  refine J_istore_n dX8_wayOf_118 (pc' := 119) rfl rfl (by decide) rfl (l' := [some (.ref 516), some (.int x), some (.int (ptS C w t)), some (.int (nI (dv_ct (fun u => decide (C.2.1 23 u = x) && decide (ptS C w u = ptS C w t)) k))), some (.int (nI t)), some (.int (ptS C w t)), some (.int (nI (dv_ct (fun u => decide (C.2.1 23 u = x) && decide (ptS C w u = ptS C w t)) k))), some (.int (nI k))]) rfl ?_
                  refine J_iinc dX8_wayOf_119 (pc' := 122) rfl rfl (v := nI (t + 1)) (nI_1 t) (by decide) rfl (l' := [some (.ref 516), some (.int x), some (.int (ptS C w t)), some (.int (nI (dv_ct (fun u => decide (C.2.1 23 u = x) && decide (ptS C w u = ptS C w t)) k))), some (.int (nI (t + 1))), some (.int (ptS C w t)), some (.int (nI (dv_ct (fun u => decide (C.2.1 23 u = x) && decide (ptS C w u = ptS C w t)) k))), some (.int (nI k))]) rfl ?_
                  refine J_goto dX8_wayOf_122 (pc' := 8) (by decide) ?_
                  refine J_drop 5 (l' := [some (.ref 516), some (.int x), some (.int (ptS C w t)), some (.int (nI (dv_ct (fun u => decide (C.2.1 23 u = x) && decide (ptS C w u = ptS C w t)) k))), some (.int (nI (t + 1))), none, some (.int (nI (dv_ct (fun u => decide (C.2.1 23 u = x) && decide (ptS C w u = ptS C w t)) k))), some (.int (nI k))]) rfl ?_
                  refine J_drop 6 (l' := [some (.ref 516), some (.int x), some (.int (ptS C w t)), some (.int (nI (dv_ct (fun u => decide (C.2.1 23 u = x) && decide (ptS C w u = ptS C w t)) k))), some (.int (nI (t + 1))), none, none, some (.int (nI k))]) rfl ?_
                  refine J_drop 7 (l' := [some (.ref 516), some (.int x), some (.int (ptS C w t)), some (.int (nI (dv_ct (fun u => decide (C.2.1 23 u = x) && decide (ptS C w u = ptS C w t)) k))), some (.int (nI (t + 1))), none, none, none]) rfl ?_
                  refine J_loc ?_ (ih8 (t + 1) (by omega) (by omega) _ hf3)
                  clear ih8
                  first | simp only [wy_y (pt := ptS C w) (kd := C.2.1 23) (n := n) (x := x) (t := t) c25 (Or.inl (by omega)), hb0] | simp only [wy_y (pt := ptS C w) (kd := C.2.1 23) (n := n) (x := x) (t := t) c25 (Or.inr ⟨by omega, c107⟩), hb0]
                · refine J_goto dX8_wayOf_110 (pc' := 119) (by decide) ?_
                  refine J_iinc dX8_wayOf_119 (pc' := 122) rfl rfl (v := nI (t + 1)) (nI_1 t) (by decide) rfl (l' := [some (.ref 516), some (.int x), some (.int ((wy (ptS C w) (C.2.1 23) n x t).1)), some (.int (nI ((wy (ptS C w) (C.2.1 23) n x t).2))), some (.int (nI (t + 1))), some (.int (ptS C w t)), some (.int (nI (dv_ct (fun u => decide (C.2.1 23 u = x) && decide (ptS C w u = ptS C w t)) k))), some (.int (nI k))]) rfl ?_
                  refine J_goto dX8_wayOf_122 (pc' := 8) (by decide) ?_
                  refine J_drop 5 (l' := [some (.ref 516), some (.int x), some (.int ((wy (ptS C w) (C.2.1 23) n x t).1)), some (.int (nI ((wy (ptS C w) (C.2.1 23) n x t).2))), some (.int (nI (t + 1))), none, some (.int (nI (dv_ct (fun u => decide (C.2.1 23 u = x) && decide (ptS C w u = ptS C w t)) k))), some (.int (nI k))]) rfl ?_
                  refine J_drop 6 (l' := [some (.ref 516), some (.int x), some (.int ((wy (ptS C w) (C.2.1 23) n x t).1)), some (.int (nI ((wy (ptS C w) (C.2.1 23) n x t).2))), some (.int (nI (t + 1))), none, none, some (.int (nI k))]) rfl ?_
                  refine J_drop 7 (l' := [some (.ref 516), some (.int x), some (.int ((wy (ptS C w) (C.2.1 23) n x t).1)), some (.int (nI ((wy (ptS C w) (C.2.1 23) n x t).2))), some (.int (nI (t + 1))), none, none, none]) rfl ?_
                  refine J_loc ?_ (ih8 (t + 1) (by omega) (by omega) _ hf3)
                  clear ih8
                  first | simp only [wy_n (pt := ptS C w) (kd := C.2.1 23) (n := n) (x := x) (t := t) (fun q => c25 q.1)] | simp only [wy_n (pt := ptS C w) (kd := C.2.1 23) (n := n) (x := x) (t := t) (fun q => q.2.elim (fun z => by omega) (fun z => by omega))] | simp only [wy_n (pt := ptS C w) (kd := C.2.1 23) (n := n) (x := x) (t := t) (fun q => q.2.elim (fun z => by omega) (fun z => c107 z.2))]
          · have hk := dv_nge hi45 (by omega) c51
            refine J_iload dX8_wayOf_54 (pc' := 56) rfl rfl ?_
            have hg83 : ∀ (S5 : dv_S) (jv : Int32), (fr [(516, 16)] [525, 526] S S5 ∧ jv = dv_b ((fun u => decide (C.2.1 23 u = x) && decide (ptS C w u = ptS C w t)) k)) → dv_J yX8_wayOf cX8_wayOf 8 (some .int) (dv_rm (d + 4)) 0 0 83 [some (.ref 516), some (.int x), some (.int ((wy (ptS C w) (C.2.1 23) n x t).1)), some (.int (nI ((wy (ptS C w) (C.2.1 23) n x t).2))), some (.int (nI t)), some (.int (ptS C w t)), some (.int (nI (dv_ct (fun u => decide (C.2.1 23 u = x) && decide (ptS C w u = ptS C w t)) k))), some (.int (nI k))] [.int jv, .int (nI (dv_ct (fun u => decide (C.2.1 23 u = x) && decide (ptS C w u = ptS C w t)) k))] S5 (fun r S' => r = some (.int (wy (ptS C w) (C.2.1 23) n x n).1) ∧ fr [(516, 16)] [525, 526] S S') := by
              intro S5 jv hJ
              refine J_iadd dX8_wayOf_83 (pc' := 84) rfl ?_
              refine J_top (w := .int (nI (dv_ct (fun u => decide (C.2.1 23 u = x) && decide (ptS C w u = ptS C w t)) (k + 1)))) (by rw [hJ.2, ← ct_b]) ?_
              refine J_istore dX8_wayOf_84 (pc' := 86) rfl (by decide) rfl (l' := [some (.ref 516), some (.int x), some (.int ((wy (ptS C w) (C.2.1 23) n x t).1)), some (.int (nI ((wy (ptS C w) (C.2.1 23) n x t).2))), some (.int (nI t)), some (.int (ptS C w t)), some (.int (nI (dv_ct (fun u => decide (C.2.1 23 u = x) && decide (ptS C w u = ptS C w t)) (k + 1)))), some (.int (nI k))]) rfl ?_
              refine J_iinc dX8_wayOf_86 (pc' := 89) rfl rfl (v := nI (k + 1)) (nI_1 k) (by decide) rfl (l' := [some (.ref 516), some (.int x), some (.int ((wy (ptS C w) (C.2.1 23) n x t).1)), some (.int (nI ((wy (ptS C w) (C.2.1 23) n x t).2))), some (.int (nI t)), some (.int (ptS C w t)), some (.int (nI (dv_ct (fun u => decide (C.2.1 23 u = x) && decide (ptS C w u = ptS C w t)) (k + 1)))), some (.int (nI (k + 1)))]) rfl ?_
              refine J_goto dX8_wayOf_89 (pc' := 45) (by decide) ?_
              exact ih45 (k + 1) (by omega) (by omega) _ hJ.1
            refine J_aload_n dX8_wayOf_56 (pc' := 57) rfl rfl ?_
            refine J_getr fX8_50 kd_516 rf_516_9 dX8_wayOf_57 (pc' := 60) rfl ?_
            refine J_iload dX8_wayOf_60 (pc' := 62) rfl rfl ?_
            refine J_iald (j := k) kd_520 (rfl) (by rw [ln_520]; omega) dX8_wayOf_62 (pc' := 63) rfl ?_
            refine J_top (w := .int (C.2.1 23 k)) (by rw [((RX_fr hf3 hX (by decide) (by decide)).2.2.1 k hk).2.2.2]) ?_
            refine J_iload_n dX8_wayOf_63 (pc' := 64) rfl rfl ?_
            refine J_icmp_ne dX8_wayOf_64 (pt := 82) (by decide) (pc' := 67) rfl (fun c64 => ?_) (fun c64 => ?_)
            · refine J_iconst dX8_wayOf_82 (pc' := 83) rfl (v := 0) ic_0 ?_
              refine hg83 _ _ ⟨hf3, ?_⟩
              first | (simp only [dv_b, decide_eq_false c64]; rfl) | (simp only [dv_b, decide_eq_true c64, decide_eq_false c75]; rfl) | (simp only [dv_b, decide_eq_true c64, decide_eq_true c75]; rfl)
            · refine J_aload_n dX8_wayOf_67 (pc' := 68) rfl rfl ?_
              refine J_iload dX8_wayOf_68 (pc' := 70) rfl rfl ?_
              refine J_vq (As := [.int (nI k)]) (rest := [.int (nI (dv_ct (fun u => decide (C.2.1 23 u = x) && decide (ptS C w u = ptS C w t)) k))]) (qX8_patternOf _ S3 C n w wl wm k (RX_fr hf3 hX (by decide) (by decide)) hk) vX8_patternOf mX8_204 kd_516 dX8_wayOf_70 (pc' := 73) rfl rfl (Nat.le_of_ble_eq_true rfl) (by decide) ?_
              rintro r S4 ⟨rfl, hp4⟩
              have hf4 := hf3.tr hp4
              show dv_J yX8_wayOf cX8_wayOf 8 (some .int) (dv_rm (d + 4)) 0 0 73 [some (.ref 516), some (.int x), some (.int ((wy (ptS C w) (C.2.1 23) n x t).1)), some (.int (nI ((wy (ptS C w) (C.2.1 23) n x t).2))), some (.int (nI t)), some (.int (ptS C w t)), some (.int (nI (dv_ct (fun u => decide (C.2.1 23 u = x) && decide (ptS C w u = ptS C w t)) k))), some (.int (nI k))] [.int (ptS C w k), .int (nI (dv_ct (fun u => decide (C.2.1 23 u = x) && decide (ptS C w u = ptS C w t)) k))] S4 (fun r S' => r = some (.int (wy (ptS C w) (C.2.1 23) n x n).1) ∧ fr [(516, 16)] [525, 526] S S')
              refine J_iload dX8_wayOf_73 (pc' := 75) rfl rfl ?_
              refine J_icmp_ne dX8_wayOf_75 (pt := 82) (by decide) (pc' := 78) rfl (fun c75 => ?_) (fun c75 => ?_)
              · refine J_iconst dX8_wayOf_82 (pc' := 83) rfl (v := 0) ic_0 ?_
                refine hg83 _ _ ⟨hf4, ?_⟩
                first | (simp only [dv_b, decide_eq_false c64]; rfl) | (simp only [dv_b, decide_eq_true c64, decide_eq_false c75]; rfl) | (simp only [dv_b, decide_eq_true c64, decide_eq_true c75]; rfl)
              · refine J_iconst dX8_wayOf_78 (pc' := 79) rfl (v := 1) ic_1 ?_
                refine J_goto dX8_wayOf_79 (pc' := 83) (by decide) ?_
                refine hg83 _ _ ⟨hf4, ?_⟩
                first | (simp only [dv_b, decide_eq_false c64]; rfl) | (simp only [dv_b, decide_eq_true c64, decide_eq_false c75]; rfl) | (simp only [dv_b, decide_eq_true c64, decide_eq_true c75]; rfl)
        refine J_loc (l' := [some (.ref 516), some (.int x), some (.int ((wy (ptS C w) (C.2.1 23) n x t).1)), some (.int (nI ((wy (ptS C w) (C.2.1 23) n x t).2))), some (.int (nI t)), some (.int (ptS C w t)), some (.int (nI (dv_ct (fun u => decide (C.2.1 23 u = x) && decide (ptS C w u = ptS C w t)) 0))), some (.int (nI 0))]) (by simp only [nI_0, dv_ct]) ?_
        refine J_sto (S' := S2) (rfl) ?_
        exact hlp45 0 (Nat.zero_le _) _ hf2
      · refine J_goto dX8_wayOf_28 (pc' := 119) (by decide) ?_
        refine J_iinc dX8_wayOf_119 (pc' := 122) rfl rfl (v := nI (t + 1)) (nI_1 t) (by decide) rfl (l' := [some (.ref 516), some (.int x), some (.int ((wy (ptS C w) (C.2.1 23) n x t).1)), some (.int (nI ((wy (ptS C w) (C.2.1 23) n x t).2))), some (.int (nI (t + 1))), none, none, none]) rfl ?_
        refine J_goto dX8_wayOf_122 (pc' := 8) (by decide) ?_
        refine J_loc ?_ (ih8 (t + 1) (by omega) (by omega) _ hf)
        clear ih8
        first | simp only [wy_n (pt := ptS C w) (kd := C.2.1 23) (n := n) (x := x) (t := t) (fun q => c25 q.1)] | simp only [wy_n (pt := ptS C w) (kd := C.2.1 23) (n := n) (x := x) (t := t) (fun q => q.2.elim (fun z => by omega) (fun z => by omega))] | simp only [wy_n (pt := ptS C w) (kd := C.2.1 23) (n := n) (x := x) (t := t) (fun q => q.2.elim (fun z => by omega) (fun z => c107 z.2))]
  refine J_loc (l' := [some (.ref 516), some (.int x), some (.int ((wy (ptS C w) (C.2.1 23) n x 0).1)), some (.int (nI ((wy (ptS C w) (C.2.1 23) n x 0).2))), some (.int (nI 0)), none, none, none]) (by simp only [nI_0, wy]) ?_
  refine J_sto (S' := S) (rfl) ?_
  exact hlp8 0 (Nat.zero_le _) _ (fr.rf _ _ _)
set_option maxRecDepth 100000 in
set_option maxHeartbeats 400000 in
theorem qX8_wayN (d : Nat) (S : dv_S) (S1 : dv_S) (x : Int32) (h0 : rS S = S1) (hy : decide (0 ≤ x ∧ x ≤ 2) = false)  : dv_M yX8_way cX8_way 2 (some .int) (dv_rm (d + 5)) [.ref 516, .int x] S (fun r S' => r = some (.int (-1)) ∧ S' = S1) := by
  refine dv_M_of [some (.ref 516), some (.int x)] (by decide) (fun _ _ => Nat.le_of_ble_eq_true rfl) (fun _ _ => rfl) ?_
  refine J_aload_n dX8_way_0 (pc' := 1) rfl rfl ?_
  refine J_iconst dX8_way_1 (pc' := 2) rfl (v := 0) ic_0 ?_
  refine J_puti fX8_1 kd_516 rf_516_0 dX8_way_2 (pc' := 5) rfl ?_
  refine J_sto (S' := S1) (h0) ?_
  refine J_iload_n dX8_way_5 (pc' := 6) rfl rfl ?_
  refine J_iconst dX8_way_6 (pc' := 7) rfl (v := 0) ic_0 ?_
  refine J_iconst dX8_way_7 (pc' := 8) rfl (v := 2) ic_2 ?_
  refine J_s1 (As := [.int x, .int 0, .int 2]) (rest := []) (qX8_in _ _ _ _ _) vX8_in mX8_24 dX8_way_8 (pc' := 11) rfl rfl (Nat.le_of_ble_eq_true rfl) (by decide) ?_
  refine J_beq dX8_way_11 (pt := 22) (by decide) (pc' := 14) rfl (fun c11 => ?_) (fun c11 => ?_)
  · refine J_iconst dX8_way_22 (pc' := 23) rfl (v := (-1)) ic_m1 ?_
    refine J_iret dX8_way_23 rfl (dv_r1 _) ?_
    exact ⟨rfl, rfl⟩
  · exact absurd c11 (by rw [hy]; decide)
set_option maxRecDepth 100000 in
set_option maxHeartbeats 400000 in
theorem qX8_oddN (d : Nat) (S : dv_S) (S1 : dv_S) (x : Int32) (h0 : rS S = S1) (hy : decide (0 ≤ x ∧ x ≤ 2) = false)  : dv_M yX8_odd cX8_odd 5 (some .int) (dv_rm (d + 5)) [.ref 516, .int x] S (fun r S' => r = some (.int (-1)) ∧ S' = S1) := by
  refine dv_M_of [some (.ref 516), some (.int x), none, none, none] (by decide) (fun _ _ => Nat.le_of_ble_eq_true rfl) (fun _ _ => rfl) ?_
  refine J_aload_n dX8_odd_0 (pc' := 1) rfl rfl ?_
  refine J_iconst dX8_odd_1 (pc' := 2) rfl (v := 0) ic_0 ?_
  refine J_puti fX8_1 kd_516 rf_516_0 dX8_odd_2 (pc' := 5) rfl ?_
  refine J_sto (S' := S1) (h0) ?_
  refine J_iload_n dX8_odd_5 (pc' := 6) rfl rfl ?_
  refine J_iconst dX8_odd_6 (pc' := 7) rfl (v := 0) ic_0 ?_
  refine J_iconst dX8_odd_7 (pc' := 8) rfl (v := 2) ic_2 ?_
  refine J_s1 (As := [.int x, .int 0, .int 2]) (rest := []) (qX8_in _ _ _ _ _) vX8_in mX8_24 dX8_odd_8 (pc' := 11) rfl rfl (Nat.le_of_ble_eq_true rfl) (by decide) ?_
  refine J_bne dX8_odd_11 (pt := 16) (by decide) (pc' := 14) rfl (fun c11 => ?_) (fun c11 => ?_)
  · exact absurd c11 (by rw [hy]; decide)
  · refine J_iconst dX8_odd_14 (pc' := 15) rfl (v := (-1)) ic_m1 ?_
    refine J_iret dX8_odd_15 rfl (dv_r1 _) ?_
    exact ⟨rfl, rfl⟩
set_option maxRecDepth 100000 in
set_option maxHeartbeats 400000 in
theorem qX8_wayY (d : Nat) (S : dv_S) (S1 : dv_S) (C : dv_S) (n w : Nat) (wl : Nat → Nat → Int32) (wm : Nat → Nat) (x : Int32) (h0 : rS S = S1) (hX : RX S1 C n w wl wm) (hy : decide (0 ≤ x ∧ x ≤ 2) = true)  : dv_M yX8_way cX8_way 2 (some .int) (dv_rm (d + 5)) [.ref 516, .int x] S (fun r S' => r = some (.int (wy (ptS C w) (C.2.1 23) n x n).1) ∧ rcF S1 S') := by
  refine dv_M_of [some (.ref 516), some (.int x)] (by decide) (fun _ _ => Nat.le_of_ble_eq_true rfl) (fun _ _ => rfl) ?_
  refine J_aload_n dX8_way_0 (pc' := 1) rfl rfl ?_
  refine J_iconst dX8_way_1 (pc' := 2) rfl (v := 0) ic_0 ?_
  refine J_puti fX8_1 kd_516 rf_516_0 dX8_way_2 (pc' := 5) rfl ?_
  refine J_sto (S' := S1) (h0) ?_
  refine J_iload_n dX8_way_5 (pc' := 6) rfl rfl ?_
  refine J_iconst dX8_way_6 (pc' := 7) rfl (v := 0) ic_0 ?_
  refine J_iconst dX8_way_7 (pc' := 8) rfl (v := 2) ic_2 ?_
  refine J_s1 (As := [.int x, .int 0, .int 2]) (rest := []) (qX8_in _ _ _ _ _) vX8_in mX8_24 dX8_way_8 (pc' := 11) rfl rfl (Nat.le_of_ble_eq_true rfl) (by decide) ?_
  refine J_beq dX8_way_11 (pt := 22) (by decide) (pc' := 14) rfl (fun c11 => ?_) (fun c11 => ?_)
  · exact absurd c11 (by rw [hy]; decide)
  · refine J_aload_n dX8_way_14 (pc' := 15) rfl rfl ?_
    refine J_iload_n dX8_way_15 (pc' := 16) rfl rfl ?_
    refine J_vq (As := [.int x]) (rest := []) (qX8_wayOf _ S1 C n w wl wm x hX) vX8_wayOf mX8_207 kd_516 dX8_way_16 (pc' := 19) rfl rfl (Nat.le_of_ble_eq_true rfl) (by decide) ?_
    rintro r S3 ⟨rfl, hf⟩
    show dv_J yX8_way cX8_way 2 (some .int) (dv_rm (d + 5)) 0 0 19 [some (.ref 516), some (.int x)] [.int ((wy (ptS C w) (C.2.1 23) n x n).1)] S3 (fun r S' => r = some (.int (wy (ptS C w) (C.2.1 23) n x n).1) ∧ rcF S1 S')
    refine J_goto dX8_way_19 (pc' := 23) (by decide) ?_
    refine J_iret dX8_way_23 rfl (dv_r1 _) ?_
    exact ⟨rfl, hf.mono (by decide) (by decide)⟩
set_option maxRecDepth 100000 in
set_option maxHeartbeats 400000 in
theorem qX8_oddY (d : Nat) (S : dv_S) (S1 : dv_S) (C : dv_S) (n w : Nat) (wl : Nat → Nat → Int32) (wm : Nat → Nat) (x : Int32) (h0 : rS S = S1) (hX : RX S1 C n w wl wm) (hy : decide (0 ≤ x ∧ x ≤ 2) = true)  : dv_M yX8_odd cX8_odd 5 (some .int) (dv_rm (d + 5)) [.ref 516, .int x] S (fun r S' => r = some (.int (nI (dv_ct (fun u => decide (C.2.1 23 u = x) && !decide (ptS C w u = (wy (ptS C w) (C.2.1 23) n x n).1)) n))) ∧ rcF S1 S') := by
  have h80 := hX.1.2
  refine dv_M_of [some (.ref 516), some (.int x), none, none, none] (by decide) (fun _ _ => Nat.le_of_ble_eq_true rfl) (fun _ _ => rfl) ?_
  refine J_aload_n dX8_odd_0 (pc' := 1) rfl rfl ?_
  refine J_iconst dX8_odd_1 (pc' := 2) rfl (v := 0) ic_0 ?_
  refine J_puti fX8_1 kd_516 rf_516_0 dX8_odd_2 (pc' := 5) rfl ?_
  refine J_sto (S' := S1) (h0) ?_
  refine J_iload_n dX8_odd_5 (pc' := 6) rfl rfl ?_
  refine J_iconst dX8_odd_6 (pc' := 7) rfl (v := 0) ic_0 ?_
  refine J_iconst dX8_odd_7 (pc' := 8) rfl (v := 2) ic_2 ?_
  refine J_s1 (As := [.int x, .int 0, .int 2]) (rest := []) (qX8_in _ _ _ _ _) vX8_in mX8_24 dX8_odd_8 (pc' := 11) rfl rfl (Nat.le_of_ble_eq_true rfl) (by decide) ?_
  refine J_bne dX8_odd_11 (pt := 16) (by decide) (pc' := 14) rfl (fun c11 => ?_) (fun c11 => ?_)
  · refine J_aload_n dX8_odd_16 (pc' := 17) rfl rfl ?_
    refine J_iload_n dX8_odd_17 (pc' := 18) rfl rfl ?_
    refine J_vq (As := [.int x]) (rest := []) (qX8_wayOf _ S1 C n w wl wm x hX) vX8_wayOf mX8_207 kd_516 dX8_odd_18 (pc' := 21) rfl rfl (Nat.le_of_ble_eq_true rfl) (by decide) ?_
    rintro r S3 ⟨rfl, hf⟩
    show dv_J yX8_odd cX8_odd 5 (some .int) (dv_rm (d + 5)) 0 0 21 [some (.ref 516), some (.int x), none, none, none] [.int ((wy (ptS C w) (C.2.1 23) n x n).1)] S3 (fun r S' => r = some (.int (nI (dv_ct (fun u => decide (C.2.1 23 u = x) && !decide (ptS C w u = (wy (ptS C w) (C.2.1 23) n x n).1)) n))) ∧ rcF S1 S')
    refine J_istore_n dX8_odd_21 (pc' := 22) rfl rfl (by decide) rfl (l' := [some (.ref 516), some (.int x), some (.int ((wy (ptS C w) (C.2.1 23) n x n).1)), none, none]) rfl ?_
    refine J_iconst dX8_odd_22 (pc' := 23) rfl (v := 0) ic_0 ?_
    refine J_istore_n dX8_odd_23 (pc' := 24) rfl rfl (by decide) rfl (l' := [some (.ref 516), some (.int x), some (.int ((wy (ptS C w) (C.2.1 23) n x n).1)), some (.int 0), none]) rfl ?_
    refine J_iconst dX8_odd_24 (pc' := 25) rfl (v := 0) ic_0 ?_
    refine J_istore dX8_odd_25 (pc' := 27) rfl (by decide) rfl (l' := [some (.ref 516), some (.int x), some (.int ((wy (ptS C w) (C.2.1 23) n x n).1)), some (.int 0), some (.int 0)]) rfl ?_
    have hlp27 : ∀ i, i ≤ n → ∀ (S4 : dv_S), fr [(516, 16)] [525, 526] S1 S4 → dv_J yX8_odd cX8_odd 5 (some .int) (dv_rm (d + 5)) 0 0 27 [some (.ref 516), some (.int x), some (.int ((wy (ptS C w) (C.2.1 23) n x n).1)), some (.int (nI (dv_ct (fun u => decide (C.2.1 23 u = x) && !decide (ptS C w u = (wy (ptS C w) (C.2.1 23) n x n).1)) i))), some (.int (nI i))] [] S4 (fun r S' => r = some (.int (nI (dv_ct (fun u => decide (C.2.1 23 u = x) && !decide (ptS C w u = (wy (ptS C w) (C.2.1 23) n x n).1)) n))) ∧ rcF S1 S') := by
      refine dv_up (P := fun i => ∀ (S4 : dv_S), fr [(516, 16)] [525, 526] S1 S4 → dv_J yX8_odd cX8_odd 5 (some .int) (dv_rm (d + 5)) 0 0 27 [some (.ref 516), some (.int x), some (.int ((wy (ptS C w) (C.2.1 23) n x n).1)), some (.int (nI (dv_ct (fun u => decide (C.2.1 23 u = x) && !decide (ptS C w u = (wy (ptS C w) (C.2.1 23) n x n).1)) i))), some (.int (nI i))] [] S4 (fun r S' => r = some (.int (nI (dv_ct (fun u => decide (C.2.1 23 u = x) && !decide (ptS C w u = (wy (ptS C w) (C.2.1 23) n x n).1)) n))) ∧ rcF S1 S')) ?_
      intro i hi27 ih27 S4 hf4
      refine J_iload dX8_odd_27 (pc' := 29) rfl rfl ?_
      refine J_aload_n dX8_odd_29 (pc' := 30) rfl rfl ?_
      refine J_geti fX8_120 kd_516 rf_516_5 dX8_odd_30 (pc' := 33) rfl ?_
      refine J_top (w := .int (nI n)) (by rw [(RX_fr hf4 hX (by decide) (by decide)).1.1]) ?_
      refine J_icmp_ge dX8_odd_33 (pt := 71) (by decide) (pc' := 36) rfl (fun c33 => ?_) (fun c33 => ?_)
      · have hx := dv_ge hi27 (by omega) c33
        refine J_iload_n dX8_odd_71 (pc' := 72) rfl rfl ?_
        refine J_iret dX8_odd_72 rfl (dv_r1 _) ?_
        exact ⟨by rw [hx], hf4.mono (by decide) (by decide)⟩
      · have hx := dv_nge hi27 (by omega) c33
        refine J_iload_n dX8_odd_36 (pc' := 37) rfl rfl ?_
        have hg63 : ∀ (S6 : dv_S) (jv : Int32), (fr [(516, 16)] [525, 526] S1 S6 ∧ jv = dv_b ((fun u => decide (C.2.1 23 u = x) && !decide (ptS C w u = (wy (ptS C w) (C.2.1 23) n x n).1)) i)) → dv_J yX8_odd cX8_odd 5 (some .int) (dv_rm (d + 5)) 0 0 63 [some (.ref 516), some (.int x), some (.int ((wy (ptS C w) (C.2.1 23) n x n).1)), some (.int (nI (dv_ct (fun u => decide (C.2.1 23 u = x) && !decide (ptS C w u = (wy (ptS C w) (C.2.1 23) n x n).1)) i))), some (.int (nI i))] [.int jv, .int (nI (dv_ct (fun u => decide (C.2.1 23 u = x) && !decide (ptS C w u = (wy (ptS C w) (C.2.1 23) n x n).1)) i))] S6 (fun r S' => r = some (.int (nI (dv_ct (fun u => decide (C.2.1 23 u = x) && !decide (ptS C w u = (wy (ptS C w) (C.2.1 23) n x n).1)) n))) ∧ rcF S1 S') := by
          intro S6 jv hJ
          refine J_iadd dX8_odd_63 (pc' := 64) rfl ?_
          refine J_top (w := .int (nI (dv_ct (fun u => decide (C.2.1 23 u = x) && !decide (ptS C w u = (wy (ptS C w) (C.2.1 23) n x n).1)) (i + 1)))) (by rw [hJ.2, ← ct_b]) ?_
          refine J_istore_n dX8_odd_64 (pc' := 65) rfl rfl (by decide) rfl (l' := [some (.ref 516), some (.int x), some (.int ((wy (ptS C w) (C.2.1 23) n x n).1)), some (.int (nI (dv_ct (fun u => decide (C.2.1 23 u = x) && !decide (ptS C w u = (wy (ptS C w) (C.2.1 23) n x n).1)) (i + 1)))), some (.int (nI i))]) rfl ?_
          refine J_iinc dX8_odd_65 (pc' := 68) rfl rfl (v := nI (i + 1)) (nI_1 i) (by decide) rfl (l' := [some (.ref 516), some (.int x), some (.int ((wy (ptS C w) (C.2.1 23) n x n).1)), some (.int (nI (dv_ct (fun u => decide (C.2.1 23 u = x) && !decide (ptS C w u = (wy (ptS C w) (C.2.1 23) n x n).1)) (i + 1)))), some (.int (nI (i + 1)))]) rfl ?_
          refine J_goto dX8_odd_68 (pc' := 27) (by decide) ?_
          exact ih27 (i + 1) (by omega) (by omega) _ hJ.1
        refine J_aload_n dX8_odd_37 (pc' := 38) rfl rfl ?_
        refine J_getr fX8_50 kd_516 rf_516_9 dX8_odd_38 (pc' := 41) rfl ?_
        refine J_iload dX8_odd_41 (pc' := 43) rfl rfl ?_
        refine J_iald (j := i) kd_520 (rfl) (by rw [ln_520]; omega) dX8_odd_43 (pc' := 44) rfl ?_
        refine J_top (w := .int (C.2.1 23 i)) (by rw [((RX_fr hf4 hX (by decide) (by decide)).2.2.1 i hx).2.2.2]) ?_
        refine J_iload_n dX8_odd_44 (pc' := 45) rfl rfl ?_
        refine J_icmp_ne dX8_odd_45 (pt := 62) (by decide) (pc' := 48) rfl (fun c45 => ?_) (fun c45 => ?_)
        · refine J_iconst dX8_odd_62 (pc' := 63) rfl (v := 0) ic_0 ?_
          refine hg63 _ _ ⟨hf4, ?_⟩
          first | (simp only [dv_b, decide_eq_false c45]; rfl) | (simp only [dv_b, decide_eq_true c45, decide_eq_true c55]; rfl) | (simp only [dv_b, decide_eq_true c45, decide_eq_false c55]; rfl)
        · refine J_aload_n dX8_odd_48 (pc' := 49) rfl rfl ?_
          refine J_iload dX8_odd_49 (pc' := 51) rfl rfl ?_
          refine J_vq (As := [.int (nI i)]) (rest := [.int (nI (dv_ct (fun u => decide (C.2.1 23 u = x) && !decide (ptS C w u = (wy (ptS C w) (C.2.1 23) n x n).1)) i))]) (qX8_patternOf _ S4 C n w wl wm i (RX_fr hf4 hX (by decide) (by decide)) hx) vX8_patternOf mX8_204 kd_516 dX8_odd_51 (pc' := 54) rfl rfl (Nat.le_of_ble_eq_true rfl) (by decide) ?_
          rintro r S5 ⟨rfl, hp⟩
          have hf5 := hf4.tr hp
          show dv_J yX8_odd cX8_odd 5 (some .int) (dv_rm (d + 5)) 0 0 54 [some (.ref 516), some (.int x), some (.int ((wy (ptS C w) (C.2.1 23) n x n).1)), some (.int (nI (dv_ct (fun u => decide (C.2.1 23 u = x) && !decide (ptS C w u = (wy (ptS C w) (C.2.1 23) n x n).1)) i))), some (.int (nI i))] [.int (ptS C w i), .int (nI (dv_ct (fun u => decide (C.2.1 23 u = x) && !decide (ptS C w u = (wy (ptS C w) (C.2.1 23) n x n).1)) i))] S5 (fun r S' => r = some (.int (nI (dv_ct (fun u => decide (C.2.1 23 u = x) && !decide (ptS C w u = (wy (ptS C w) (C.2.1 23) n x n).1)) n))) ∧ rcF S1 S')
          refine J_iload_n dX8_odd_54 (pc' := 55) rfl rfl ?_
          refine J_icmp_eq dX8_odd_55 (pt := 62) (by decide) (pc' := 58) rfl (fun c55 => ?_) (fun c55 => ?_)
          · refine J_iconst dX8_odd_62 (pc' := 63) rfl (v := 0) ic_0 ?_
            refine hg63 _ _ ⟨hf5, ?_⟩
            first | (simp only [dv_b, decide_eq_false c45]; rfl) | (simp only [dv_b, decide_eq_true c45, decide_eq_true c55]; rfl) | (simp only [dv_b, decide_eq_true c45, decide_eq_false c55]; rfl)
          · refine J_iconst dX8_odd_58 (pc' := 59) rfl (v := 1) ic_1 ?_
            refine J_goto dX8_odd_59 (pc' := 63) (by decide) ?_
            refine hg63 _ _ ⟨hf5, ?_⟩
            first | (simp only [dv_b, decide_eq_false c45]; rfl) | (simp only [dv_b, decide_eq_true c45, decide_eq_true c55]; rfl) | (simp only [dv_b, decide_eq_true c45, decide_eq_false c55]; rfl)
    refine J_loc (l' := [some (.ref 516), some (.int x), some (.int ((wy (ptS C w) (C.2.1 23) n x n).1)), some (.int (nI (dv_ct (fun u => decide (C.2.1 23 u = x) && !decide (ptS C w u = (wy (ptS C w) (C.2.1 23) n x n).1)) 0))), some (.int (nI 0))]) (by simp only [nI_0, dv_ct]) ?_
    refine J_sto (S' := S3) (rfl) ?_
    exact hlp27 0 (Nat.zero_le _) _ hf
  · exact absurd c11 (by rw [hy]; decide)
set_option maxRecDepth 100000 in
set_option maxHeartbeats 400000 in
theorem qX8_isOddN (d : Nat) (S : dv_S) (S1 : dv_S) (x : Int32) (h0 : rS S = S1) (hx : decide (0 ≤ x ∧ x < S1.1 516 5) = false)  : dv_M yX8_isOdd cX8_isOdd 2 (some .int) (dv_rm (d + 5)) [.ref 516, .int x] S (fun r S' => r = some (.int (-1)) ∧ S' = S1) := by
  refine dv_M_of [some (.ref 516), some (.int x)] (by decide) (fun _ _ => Nat.le_of_ble_eq_true rfl) (fun _ _ => rfl) ?_
  refine J_aload_n dX8_isOdd_0 (pc' := 1) rfl rfl ?_
  refine J_iconst dX8_isOdd_1 (pc' := 2) rfl (v := 0) ic_0 ?_
  refine J_puti fX8_1 kd_516 rf_516_0 dX8_isOdd_2 (pc' := 5) rfl ?_
  refine J_sto (S' := S1) (h0) ?_
  refine J_aload_n dX8_isOdd_5 (pc' := 6) rfl rfl ?_
  refine J_iload_n dX8_isOdd_6 (pc' := 7) rfl rfl ?_
  refine J_v1 (As := [.int x]) (rest := []) (qX8_isThing _ _ _) vX8_isThing mX8_159 kd_516 dX8_isOdd_7 (pc' := 10) rfl rfl (Nat.le_of_ble_eq_true rfl) (by decide) ?_
  refine J_beq dX8_isOdd_10 (pt := 39) (by decide) (pc' := 13) rfl (fun c10 => ?_) (fun c10 => ?_)
  · refine J_iconst dX8_isOdd_39 (pc' := 40) rfl (v := (-1)) ic_m1 ?_
    refine J_iret dX8_isOdd_40 rfl (dv_r1 _) ?_
    exact ⟨rfl, rfl⟩
  · exact absurd c10 (by rw [hx]; decide)
set_option maxRecDepth 100000 in
set_option maxHeartbeats 400000 in
theorem qX8_isOddY (d : Nat) (S : dv_S) (S1 : dv_S) (C : dv_S) (n w : Nat) (wl : Nat → Nat → Int32) (wm : Nat → Nat) (t : Nat) (h0 : rS S = S1) (hX : RX S1 C n w wl wm) (ht : t < n)  : dv_M yX8_isOdd cX8_isOdd 2 (some .int) (dv_rm (d + 5)) [.ref 516, .int (nI t)] S (fun r S' => r = some (.int (if ptS C w t = (wy (ptS C w) (C.2.1 23) n (C.2.1 23 t) n).1 then 0 else 1)) ∧ rcF S1 S') := by
  have h80 := hX.1.2
  refine dv_M_of [some (.ref 516), some (.int (nI t))] (by decide) (fun _ _ => Nat.le_of_ble_eq_true rfl) (fun _ _ => rfl) ?_
  refine J_aload_n dX8_isOdd_0 (pc' := 1) rfl rfl ?_
  refine J_iconst dX8_isOdd_1 (pc' := 2) rfl (v := 0) ic_0 ?_
  refine J_puti fX8_1 kd_516 rf_516_0 dX8_isOdd_2 (pc' := 5) rfl ?_
  refine J_sto (S' := S1) (h0) ?_
  refine J_aload_n dX8_isOdd_5 (pc' := 6) rfl rfl ?_
  refine J_iload_n dX8_isOdd_6 (pc' := 7) rfl rfl ?_
  refine J_v1 (As := [.int (nI t)]) (rest := []) (qX8_isThing _ _ _) vX8_isThing mX8_159 kd_516 dX8_isOdd_7 (pc' := 10) rfl rfl (Nat.le_of_ble_eq_true rfl) (by decide) ?_
  refine J_beq dX8_isOdd_10 (pt := 39) (by decide) (pc' := 13) rfl (fun c10 => ?_) (fun c10 => ?_)
  · exact absurd (dv_has ht hX.1.1 (by omega)) (by rw [c10]; decide)
  · refine J_aload_n dX8_isOdd_13 (pc' := 14) rfl rfl ?_
    refine J_iload_n dX8_isOdd_14 (pc' := 15) rfl rfl ?_
    refine J_vq (As := [.int (nI t)]) (rest := []) (qX8_patternOf _ S1 C n w wl wm t hX ht) vX8_patternOf mX8_204 kd_516 dX8_isOdd_15 (pc' := 18) rfl rfl (Nat.le_of_ble_eq_true rfl) (by decide) ?_
    rintro r S2 ⟨rfl, hp⟩
    have hX2 := RX_fr hp hX (by decide) (by decide)
    show dv_J yX8_isOdd cX8_isOdd 2 (some .int) (dv_rm (d + 5)) 0 0 18 [some (.ref 516), some (.int (nI t))] [.int (ptS C w t)] S2 (fun r S' => r = some (.int (if ptS C w t = (wy (ptS C w) (C.2.1 23) n (C.2.1 23 t) n).1 then 0 else 1)) ∧ rcF S1 S')
    refine J_aload_n dX8_isOdd_18 (pc' := 19) rfl rfl ?_
    refine J_aload_n dX8_isOdd_19 (pc' := 20) rfl rfl ?_
    refine J_getr fX8_50 kd_516 rf_516_9 dX8_isOdd_20 (pc' := 23) rfl ?_
    refine J_iload_n dX8_isOdd_23 (pc' := 24) rfl rfl ?_
    refine J_iald (j := t) kd_520 (rfl) (by rw [ln_520]; omega) dX8_isOdd_24 (pc' := 25) rfl ?_
    refine J_top (w := .int (C.2.1 23 t)) (by rw [(hX2.2.2.1 t ht).2.2.2]) ?_
    refine J_vq (As := [.int (C.2.1 23 t)]) (rest := [.int (ptS C w t)]) (qX8_wayOf _ S2 C n w wl wm (C.2.1 23 t) hX2) vX8_wayOf mX8_207 kd_516 dX8_isOdd_25 (pc' := 28) rfl rfl (Nat.le_of_ble_eq_true rfl) (by decide) ?_
    rintro r S3 ⟨rfl, hf⟩
    show dv_J yX8_isOdd cX8_isOdd 2 (some .int) (dv_rm (d + 5)) 0 0 28 [some (.ref 516), some (.int (nI t))] [.int ((wy (ptS C w) (C.2.1 23) n (C.2.1 23 t) n).1), .int (ptS C w t)] S3 (fun r S' => r = some (.int (if ptS C w t = (wy (ptS C w) (C.2.1 23) n (C.2.1 23 t) n).1 then 0 else 1)) ∧ rcF S1 S')
    refine J_icmp_eq dX8_isOdd_28 (pt := 35) (by decide) (pc' := 31) rfl (fun c28 => ?_) (fun c28 => ?_)
    · refine J_iconst dX8_isOdd_35 (pc' := 36) rfl (v := 0) ic_0 ?_
      refine J_goto dX8_isOdd_36 (pc' := 40) (by decide) ?_
      refine J_iret dX8_isOdd_40 rfl (dv_r1 _) ?_
      exact ⟨by rw [if_pos c28], (hp.tr hf).mono (by decide) (by decide)⟩
    · refine J_iconst dX8_isOdd_31 (pc' := 32) rfl (v := 1) ic_1 ?_
      refine J_goto dX8_isOdd_32 (pc' := 40) (by decide) ?_
      refine J_iret dX8_isOdd_40 rfl (dv_r1 _) ?_
      exact ⟨by rw [if_neg c28], (hp.tr hf).mono (by decide) (by decide)⟩
set_option maxRecDepth 100000 in
set_option maxHeartbeats 400000 in
theorem qX8_mixed (d : Nat) (S : dv_S) (S1 : dv_S) (C : dv_S) (n w : Nat) (wl : Nat → Nat → Int32) (wm : Nat → Nat) (h0 : rS S = S1) (hX : RX S1 C n w wl wm)  : dv_M yX8_mixed cX8_mixed 6 (some .int) (dv_rm (d + 4)) [.ref 516] S (fun r S' => r = some (.int (nI (dv_ct (rmx (C.2.1 17) (ut C w n) w) w))) ∧ rcF S1 S') := by
  have h60 := hX.2.1.2
  refine dv_M_of [some (.ref 516), none, none, none, none, none] (by decide) (fun _ _ => Nat.le_of_ble_eq_true rfl) (fun _ _ => rfl) ?_
  refine J_aload_n dX8_mixed_0 (pc' := 1) rfl rfl ?_
  refine J_iconst dX8_mixed_1 (pc' := 2) rfl (v := 0) ic_0 ?_
  refine J_puti fX8_1 kd_516 rf_516_0 dX8_mixed_2 (pc' := 5) rfl ?_
  refine J_sto (S' := S1) (h0) ?_
  refine J_aload_n dX8_mixed_5 (pc' := 6) rfl rfl ?_
  refine J_vq (As := []) (rest := []) (qX8_counts _ S1 C n w wl wm hX) vX8_counts mX8_192 kd_516 dX8_mixed_6 (pc' := 9) rfl rfl (Nat.le_of_ble_eq_true rfl) (by decide) ?_
  rintro r S2 ⟨rfl, hI⟩
  have hX2 := RX_fr hI.1 hX (by decide) (by decide)
  show dv_J yX8_mixed cX8_mixed 6 (some .int) (dv_rm (d + 4)) 0 0 9 [some (.ref 516), none, none, none, none, none] [] S2 (fun r S' => r = some (.int (nI (dv_ct (rmx (C.2.1 17) (ut C w n) w) w))) ∧ rcF S1 S')
  refine J_iconst dX8_mixed_9 (pc' := 10) rfl (v := 0) ic_0 ?_
  refine J_istore_n dX8_mixed_10 (pc' := 11) rfl rfl (by decide) rfl (l' := [some (.ref 516), some (.int 0), none, none, none, none]) rfl ?_
  refine J_iconst dX8_mixed_11 (pc' := 12) rfl (v := 0) ic_0 ?_
  refine J_istore_n dX8_mixed_12 (pc' := 13) rfl rfl (by decide) rfl (l' := [some (.ref 516), some (.int 0), some (.int 0), none, none, none]) rfl ?_
  have hlp13 : ∀ v, v ≤ w → dv_J yX8_mixed cX8_mixed 6 (some .int) (dv_rm (d + 4)) 0 0 13 [some (.ref 516), some (.int (nI (dv_ct (rmx (C.2.1 17) (ut C w n) w) v))), some (.int (nI v)), none, none, none] [] S2 (fun r S' => r = some (.int (nI (dv_ct (rmx (C.2.1 17) (ut C w n) w) w))) ∧ rcF S1 S') := by
    refine dv_up (P := fun v => dv_J yX8_mixed cX8_mixed 6 (some .int) (dv_rm (d + 4)) 0 0 13 [some (.ref 516), some (.int (nI (dv_ct (rmx (C.2.1 17) (ut C w n) w) v))), some (.int (nI v)), none, none, none] [] S2 (fun r S' => r = some (.int (nI (dv_ct (rmx (C.2.1 17) (ut C w n) w) w))) ∧ rcF S1 S')) ?_
    intro v hi13 ih13 
    refine J_iload_n dX8_mixed_13 (pc' := 14) rfl rfl ?_
    refine J_aload_n dX8_mixed_14 (pc' := 15) rfl rfl ?_
    refine J_geti fX8_165 kd_516 rf_516_17 dX8_mixed_15 (pc' := 18) rfl ?_
    refine J_top (w := .int (nI w)) (by rw [hX2.2.1.1]) ?_
    refine J_icmp_ge dX8_mixed_18 (pt := 123) (by decide) (pc' := 21) rfl (fun c18 => ?_) (fun c18 => ?_)
    · have hv := dv_ge hi13 (by omega) c18
      refine J_iload_n dX8_mixed_123 (pc' := 124) rfl rfl ?_
      refine J_iret dX8_mixed_124 rfl (dv_r1 _) ?_
      exact ⟨by rw [hv], hI.1⟩
    · have hv := dv_nge hi13 (by omega) c18
      refine J_iconst dX8_mixed_21 (pc' := 22) rfl (v := 0) ic_0 ?_
      refine J_istore_n dX8_mixed_22 (pc' := 23) rfl rfl (by decide) rfl (l' := [some (.ref 516), some (.int (nI (dv_ct (rmx (C.2.1 17) (ut C w n) w) v))), some (.int (nI v)), some (.int 0), none, none]) rfl ?_
      refine J_iconst dX8_mixed_23 (pc' := 24) rfl (v := 1) ic_1 ?_
      refine J_istore dX8_mixed_24 (pc' := 26) rfl (by decide) rfl (l' := [some (.ref 516), some (.int (nI (dv_ct (rmx (C.2.1 17) (ut C w n) w) v))), some (.int (nI v)), some (.int 0), some (.int 1), none]) rfl ?_
      refine J_iconst dX8_mixed_26 (pc' := 27) rfl (v := 0) ic_0 ?_
      refine J_istore dX8_mixed_27 (pc' := 29) rfl (by decide) rfl (l' := [some (.ref 516), some (.int (nI (dv_ct (rmx (C.2.1 17) (ut C w n) w) v))), some (.int (nI v)), some (.int 0), some (.int 1), some (.int 0)]) rfl ?_
      have hlp29 : ∀ k, k ≤ w → dv_J yX8_mixed cX8_mixed 6 (some .int) (dv_rm (d + 4)) 0 0 29 [some (.ref 516), some (.int (nI (dv_ct (rmx (C.2.1 17) (ut C w n) w) v))), some (.int (nI v)), some (.int (nI (rmn (C.2.1 17) (ut C w n) v k))), some (.int (dv_b (rfs (C.2.1 17) v k))), some (.int (nI k))] [] S2 (fun r S' => r = some (.int (nI (dv_ct (rmx (C.2.1 17) (ut C w n) w) w))) ∧ rcF S1 S') := by
        refine dv_up (P := fun k => dv_J yX8_mixed cX8_mixed 6 (some .int) (dv_rm (d + 4)) 0 0 29 [some (.ref 516), some (.int (nI (dv_ct (rmx (C.2.1 17) (ut C w n) w) v))), some (.int (nI v)), some (.int (nI (rmn (C.2.1 17) (ut C w n) v k))), some (.int (dv_b (rfs (C.2.1 17) v k))), some (.int (nI k))] [] S2 (fun r S' => r = some (.int (nI (dv_ct (rmx (C.2.1 17) (ut C w n) w) w))) ∧ rcF S1 S')) ?_
        intro k hi29 ih29 
        refine J_iload dX8_mixed_29 (pc' := 31) rfl rfl ?_
        refine J_aload_n dX8_mixed_31 (pc' := 32) rfl rfl ?_
        refine J_geti fX8_165 kd_516 rf_516_17 dX8_mixed_32 (pc' := 35) rfl ?_
        refine J_top (w := .int (nI w)) (by rw [hX2.2.1.1]) ?_
        refine J_icmp_ge dX8_mixed_35 (pt := 99) (by decide) (pc' := 38) rfl (fun c35 => ?_) (fun c35 => ?_)
        · have hk := dv_ge hi29 (by omega) c35
          have hml := rmn_le (C.2.1 17) (ut C w n) v k
          refine J_iload_n dX8_mixed_99 (pc' := 100) rfl rfl ?_
          have hj115 : ∀ jv : Int32, (dv_b (rfs (C.2.1 17) v w && decide (1 < rmn (C.2.1 17) (ut C w n) v w))) = jv → dv_J yX8_mixed cX8_mixed 6 (some .int) (dv_rm (d + 4)) 0 0 115 [some (.ref 516), some (.int (nI (dv_ct (rmx (C.2.1 17) (ut C w n) w) v))), some (.int (nI v)), some (.int (nI (rmn (C.2.1 17) (ut C w n) v k))), some (.int (dv_b (rfs (C.2.1 17) v k))), some (.int (nI k))] [.int jv, .int (nI (dv_ct (rmx (C.2.1 17) (ut C w n) w) v))] S2 (fun r S' => r = some (.int (nI (dv_ct (rmx (C.2.1 17) (ut C w n) w) w))) ∧ rcF S1 S') := by
            intro jv hjv
            subst hjv
            refine J_iadd dX8_mixed_115 (pc' := 116) rfl ?_
            refine J_top (w := .int (nI (dv_ct (rmx (C.2.1 17) (ut C w n) w) (v + 1)))) (by rw [← ct_b]; rfl) ?_
            refine J_istore_n dX8_mixed_116 (pc' := 117) rfl rfl (by decide) rfl (l' := [some (.ref 516), some (.int (nI (dv_ct (rmx (C.2.1 17) (ut C w n) w) (v + 1)))), some (.int (nI v)), some (.int (nI (rmn (C.2.1 17) (ut C w n) v k))), some (.int (dv_b (rfs (C.2.1 17) v k))), some (.int (nI k))]) rfl ?_
            refine J_iinc dX8_mixed_117 (pc' := 120) rfl rfl (v := nI (v + 1)) (nI_1 v) (by decide) rfl (l' := [some (.ref 516), some (.int (nI (dv_ct (rmx (C.2.1 17) (ut C w n) w) (v + 1)))), some (.int (nI (v + 1))), some (.int (nI (rmn (C.2.1 17) (ut C w n) v k))), some (.int (dv_b (rfs (C.2.1 17) v k))), some (.int (nI k))]) rfl ?_
            refine J_goto dX8_mixed_120 (pc' := 13) (by decide) ?_
            refine J_drop 3 (l' := [some (.ref 516), some (.int (nI (dv_ct (rmx (C.2.1 17) (ut C w n) w) (v + 1)))), some (.int (nI (v + 1))), none, some (.int (dv_b (rfs (C.2.1 17) v k))), some (.int (nI k))]) rfl ?_
            refine J_drop 4 (l' := [some (.ref 516), some (.int (nI (dv_ct (rmx (C.2.1 17) (ut C w n) w) (v + 1)))), some (.int (nI (v + 1))), none, none, some (.int (nI k))]) rfl ?_
            refine J_drop 5 (l' := [some (.ref 516), some (.int (nI (dv_ct (rmx (C.2.1 17) (ut C w n) w) (v + 1)))), some (.int (nI (v + 1))), none, none, none]) rfl ?_
            exact ih13 (v + 1) (by omega) (by omega)
          refine J_iload dX8_mixed_100 (pc' := 102) rfl rfl ?_
          refine J_beq dX8_mixed_102 (pt := 114) (by decide) (pc' := 105) rfl (fun c102 => ?_) (fun c102 => ?_)
          · refine J_iconst dX8_mixed_114 (pc' := 115) rfl (v := 0) ic_0 ?_
            exact hj115 _ (by rw [hk] at *; first | (simp only [dv_b, c102]; rfl) | (simp only [dv_b, c102, decide_eq_false (show ¬ 1 < rmn (C.2.1 17) (ut C w n) v w by omega)]; rfl) | (simp only [dv_b, c102, decide_eq_true (show 1 < rmn (C.2.1 17) (ut C w n) v w by omega)]; rfl))
          · refine J_iload_n dX8_mixed_105 (pc' := 106) rfl rfl ?_
            refine J_iconst dX8_mixed_106 (pc' := 107) rfl (v := 1) ic_1 ?_
            refine J_icmp_le dX8_mixed_107 (pt := 114) (by decide) (pc' := 110) rfl (fun c107 => ?_) (fun c107 => ?_)
            · rw [show (1 : Int32) = nI 1 by decide, nI_leI (by omega) (by omega)] at c107
              refine J_iconst dX8_mixed_114 (pc' := 115) rfl (v := 0) ic_0 ?_
              exact hj115 _ (by rw [hk] at *; first | (simp only [dv_b, c102]; rfl) | (simp only [dv_b, c102, decide_eq_false (show ¬ 1 < rmn (C.2.1 17) (ut C w n) v w by omega)]; rfl) | (simp only [dv_b, c102, decide_eq_true (show 1 < rmn (C.2.1 17) (ut C w n) v w by omega)]; rfl))
            · rw [show (1 : Int32) = nI 1 by decide, nI_leI (by omega) (by omega)] at c107
              refine J_iconst dX8_mixed_110 (pc' := 111) rfl (v := 1) ic_1 ?_
              refine J_goto dX8_mixed_111 (pc' := 115) (by decide) ?_
              exact hj115 _ (by rw [hk] at *; first | (simp only [dv_b, c102]; rfl) | (simp only [dv_b, c102, decide_eq_false (show ¬ 1 < rmn (C.2.1 17) (ut C w n) v w by omega)]; rfl) | (simp only [dv_b, c102, decide_eq_true (show 1 < rmn (C.2.1 17) (ut C w n) v w by omega)]; rfl))
        · have hk := dv_nge hi29 (by omega) c35
          refine J_aload_n dX8_mixed_38 (pc' := 39) rfl rfl ?_
          refine J_getr fX8_83 kd_516 rf_516_22 dX8_mixed_39 (pc' := 42) rfl ?_
          refine J_iload dX8_mixed_42 (pc' := 44) rfl rfl ?_
          refine J_iald (j := k) kd_531 (rfl) (by rw [ln_531]; omega) dX8_mixed_44 (pc' := 45) rfl ?_
          refine J_top (w := .int (C.2.1 17 k)) (by rw [(hX2.2.2.2 k (by omega)).2.2.2.2.2.2.2.1]) ?_
          refine J_aload_n dX8_mixed_45 (pc' := 46) rfl rfl ?_
          refine J_getr fX8_83 kd_516 rf_516_22 dX8_mixed_46 (pc' := 49) rfl ?_
          refine J_iload_n dX8_mixed_49 (pc' := 50) rfl rfl ?_
          refine J_iald (j := v) kd_531 (rfl) (by rw [ln_531]; omega) dX8_mixed_50 (pc' := 51) rfl ?_
          refine J_top (w := .int (C.2.1 17 v)) (by rw [(hX2.2.2.2 v (by omega)).2.2.2.2.2.2.2.1]) ?_
          refine J_icmp_eq dX8_mixed_51 (pt := 57) (by decide) (pc' := 54) rfl (fun c51 => ?_) (fun c51 => ?_)
          · have hj73 : ∀ jv : Int32, (dv_b (rfs (C.2.1 17) v k && !decide (k < v))) = jv → dv_J yX8_mixed cX8_mixed 6 (some .int) (dv_rm (d + 4)) 0 0 73 [some (.ref 516), some (.int (nI (dv_ct (rmx (C.2.1 17) (ut C w n) w) v))), some (.int (nI v)), some (.int (nI (rmn (C.2.1 17) (ut C w n) v k))), some (.int (dv_b (rfs (C.2.1 17) v k))), some (.int (nI k))] [.int jv] S2 (fun r S' => r = some (.int (nI (dv_ct (rmx (C.2.1 17) (ut C w n) w) w))) ∧ rcF S1 S') := by
              intro jv hjv
              subst hjv
              refine J_istore dX8_mixed_73 (pc' := 75) rfl (by decide) rfl (l' := [some (.ref 516), some (.int (nI (dv_ct (rmx (C.2.1 17) (ut C w n) w) v))), some (.int (nI v)), some (.int (nI (rmn (C.2.1 17) (ut C w n) v k))), some (.int (dv_b (rfs (C.2.1 17) v k && !decide (k < v)))), some (.int (nI k))]) rfl ?_
              refine J_iload_n dX8_mixed_75 (pc' := 76) rfl rfl ?_
              have hj91 : ∀ jv : Int32, (dv_b (decide (0 < ut C w n k))) = jv → dv_J yX8_mixed cX8_mixed 6 (some .int) (dv_rm (d + 4)) 0 0 91 [some (.ref 516), some (.int (nI (dv_ct (rmx (C.2.1 17) (ut C w n) w) v))), some (.int (nI v)), some (.int (nI (rmn (C.2.1 17) (ut C w n) v k))), some (.int (dv_b (rfs (C.2.1 17) v k && !decide (k < v)))), some (.int (nI k))] [.int jv, .int (nI (rmn (C.2.1 17) (ut C w n) v k))] S2 (fun r S' => r = some (.int (nI (dv_ct (rmx (C.2.1 17) (ut C w n) w) w))) ∧ rcF S1 S') := by
                intro jv hjv
                subst hjv
                refine J_iadd dX8_mixed_91 (pc' := 92) rfl ?_
                refine J_top (w := .int (nI (rmn (C.2.1 17) (ut C w n) v (k + 1)))) (by rw [rmn_y c51]) ?_
                refine J_istore_n dX8_mixed_92 (pc' := 93) rfl rfl (by decide) rfl (l' := [some (.ref 516), some (.int (nI (dv_ct (rmx (C.2.1 17) (ut C w n) w) v))), some (.int (nI v)), some (.int (nI (rmn (C.2.1 17) (ut C w n) v (k + 1)))), some (.int (dv_b (rfs (C.2.1 17) v k && !decide (k < v)))), some (.int (nI k))]) rfl ?_
                refine J_iinc dX8_mixed_93 (pc' := 96) rfl rfl (v := nI (k + 1)) (nI_1 k) (by decide) rfl (l' := [some (.ref 516), some (.int (nI (dv_ct (rmx (C.2.1 17) (ut C w n) w) v))), some (.int (nI v)), some (.int (nI (rmn (C.2.1 17) (ut C w n) v (k + 1)))), some (.int (dv_b (rfs (C.2.1 17) v k && !decide (k < v)))), some (.int (nI (k + 1)))]) rfl ?_
                refine J_goto dX8_mixed_96 (pc' := 29) (by decide) ?_
                refine J_loc ?_ (ih29 (k + 1) (by omega) (by omega))
                clear ih29 ih13
                first | simp only [rfs_n c51, rmn_n c51] | simp only [rfs_y c51]
              refine J_aload_n dX8_mixed_76 (pc' := 77) rfl rfl ?_
              refine J_getr fX8_86 kd_516 rf_516_23 dX8_mixed_77 (pc' := 80) rfl ?_
              refine J_iload dX8_mixed_80 (pc' := 82) rfl rfl ?_
              refine J_iald (j := k) kd_532 (rfl) (by rw [ln_532]; omega) dX8_mixed_82 (pc' := 83) rfl ?_
              refine J_top (w := .int (ut C w n k)) (by rw [hI.2 k hk]) ?_
              refine J_if_le dX8_mixed_83 (pt := 90) (by decide) (pc' := 86) rfl (fun c83 => ?_) (fun c83 => ?_)
              · refine J_iconst dX8_mixed_90 (pc' := 91) rfl (v := 0) ic_0 ?_
                exact hj91 _ (by first | (simp only [dv_b, decide_eq_false (Int32.not_lt.mpr c83)]; rfl) | (simp only [dv_b, decide_eq_true (Int32.not_le.mp c83)]; rfl))
              · refine J_iconst dX8_mixed_86 (pc' := 87) rfl (v := 1) ic_1 ?_
                refine J_goto dX8_mixed_87 (pc' := 91) (by decide) ?_
                exact hj91 _ (by first | (simp only [dv_b, decide_eq_false (Int32.not_lt.mpr c83)]; rfl) | (simp only [dv_b, decide_eq_true (Int32.not_le.mp c83)]; rfl))
            refine J_iload dX8_mixed_57 (pc' := 59) rfl rfl ?_
            refine J_beq dX8_mixed_59 (pt := 72) (by decide) (pc' := 62) rfl (fun c59 => ?_) (fun c59 => ?_)
            · refine J_iconst dX8_mixed_72 (pc' := 73) rfl (v := 0) ic_0 ?_
              exact hj73 _ (by first | (simp only [dv_b, c59]; rfl) | (simp only [dv_b, c59, decide_eq_true c65]; rfl) | (simp only [dv_b, c59, decide_eq_false c65]; rfl))
            · refine J_iload dX8_mixed_62 (pc' := 64) rfl rfl ?_
              refine J_iload_n dX8_mixed_64 (pc' := 65) rfl rfl ?_
              refine J_icmp_lt dX8_mixed_65 (pt := 72) (by decide) (pc' := 68) rfl (fun c65 => ?_) (fun c65 => ?_)
              · rw [nI_ltI (by omega) (by omega)] at c65
                refine J_iconst dX8_mixed_72 (pc' := 73) rfl (v := 0) ic_0 ?_
                exact hj73 _ (by first | (simp only [dv_b, c59]; rfl) | (simp only [dv_b, c59, decide_eq_true c65]; rfl) | (simp only [dv_b, c59, decide_eq_false c65]; rfl))
              · rw [nI_ltI (by omega) (by omega)] at c65
                refine J_iconst dX8_mixed_68 (pc' := 69) rfl (v := 1) ic_1 ?_
                refine J_goto dX8_mixed_69 (pc' := 73) (by decide) ?_
                exact hj73 _ (by first | (simp only [dv_b, c59]; rfl) | (simp only [dv_b, c59, decide_eq_true c65]; rfl) | (simp only [dv_b, c59, decide_eq_false c65]; rfl))
          · refine J_goto dX8_mixed_54 (pc' := 93) (by decide) ?_
            refine J_iinc dX8_mixed_93 (pc' := 96) rfl rfl (v := nI (k + 1)) (nI_1 k) (by decide) rfl (l' := [some (.ref 516), some (.int (nI (dv_ct (rmx (C.2.1 17) (ut C w n) w) v))), some (.int (nI v)), some (.int (nI (rmn (C.2.1 17) (ut C w n) v k))), some (.int (dv_b (rfs (C.2.1 17) v k))), some (.int (nI (k + 1)))]) rfl ?_
            refine J_goto dX8_mixed_96 (pc' := 29) (by decide) ?_
            refine J_loc ?_ (ih29 (k + 1) (by omega) (by omega))
            clear ih29 ih13
            first | simp only [rfs_n c51, rmn_n c51] | simp only [rfs_y c51]
      refine J_loc (l' := [some (.ref 516), some (.int (nI (dv_ct (rmx (C.2.1 17) (ut C w n) w) v))), some (.int (nI v)), some (.int (nI (rmn (C.2.1 17) (ut C w n) v 0))), some (.int (dv_b (rfs (C.2.1 17) v 0))), some (.int (nI 0))]) (by simp only [nI_0, rmn, rfs, dv_ct, dv_ex, Bool.not_false, dv_b_t]) ?_
      exact hlp29 0 (Nat.zero_le _) 
  refine J_loc (l' := [some (.ref 516), some (.int (nI (dv_ct (rmx (C.2.1 17) (ut C w n) w) 0))), some (.int (nI 0)), none, none, none]) (by simp only [nI_0, dv_ct]) ?_
  exact hlp13 0 (Nat.zero_le _) 
set_option maxRecDepth 100000 in
set_option maxHeartbeats 400000 in
theorem qX8_strange (d : Nat) (S : dv_S) (S1 : dv_S) (C : dv_S) (n w : Nat) (wl : Nat → Nat → Int32) (wm : Nat → Nat) (h0 : rS S = S1) (hX : RX S1 C n w wl wm)  : dv_M yX8_strange cX8_strange 4 (some .int) (dv_rm (d + 4)) [.ref 516] S (fun r S' => r = some (.int (nI (sgS C w n))) ∧ rcF S1 S') := by
  have h80 := hX.1.2
  have h60 := hX.2.1.2
  refine dv_M_of [some (.ref 516), none, none, none] (by decide) (fun _ _ => Nat.le_of_ble_eq_true rfl) (fun _ _ => rfl) ?_
  refine J_aload_n dX8_strange_0 (pc' := 1) rfl rfl ?_
  refine J_iconst dX8_strange_1 (pc' := 2) rfl (v := 0) ic_0 ?_
  refine J_puti fX8_1 kd_516 rf_516_0 dX8_strange_2 (pc' := 5) rfl ?_
  refine J_sto (S' := S1) (h0) ?_
  refine J_iconst dX8_strange_5 (pc' := 6) rfl (v := 0) ic_0 ?_
  refine J_istore_n dX8_strange_6 (pc' := 7) rfl rfl (by decide) rfl (l' := [some (.ref 516), some (.int 0), none, none]) rfl ?_
  refine J_iconst dX8_strange_7 (pc' := 8) rfl (v := 0) ic_0 ?_
  refine J_istore_n dX8_strange_8 (pc' := 9) rfl rfl (by decide) rfl (l' := [some (.ref 516), some (.int 0), some (.int 0), none]) rfl ?_
  have hlp9 : ∀ i, i ≤ n → ∀ (S3 : dv_S), fr [(516, 16)] [525, 526] S1 S3 → dv_J yX8_strange cX8_strange 4 (some .int) (dv_rm (d + 4)) 0 0 9 [some (.ref 516), some (.int (nI (sgS C w i))), some (.int (nI i)), none] [] S3 (fun r S' => r = some (.int (nI (sgS C w n))) ∧ rcF S1 S') := by
    refine dv_up (P := fun i => ∀ (S3 : dv_S), fr [(516, 16)] [525, 526] S1 S3 → dv_J yX8_strange cX8_strange 4 (some .int) (dv_rm (d + 4)) 0 0 9 [some (.ref 516), some (.int (nI (sgS C w i))), some (.int (nI i)), none] [] S3 (fun r S' => r = some (.int (nI (sgS C w n))) ∧ rcF S1 S')) ?_
    intro i hi9 ih9 S3 hf
    refine J_iload_n dX8_strange_9 (pc' := 10) rfl rfl ?_
    refine J_aload_n dX8_strange_10 (pc' := 11) rfl rfl ?_
    refine J_geti fX8_120 kd_516 rf_516_5 dX8_strange_11 (pc' := 14) rfl ?_
    refine J_top (w := .int (nI n)) (by rw [(RX_fr hf hX (by decide) (by decide)).1.1]) ?_
    refine J_icmp_ge dX8_strange_14 (pt := 83) (by decide) (pc' := 17) rfl (fun c14 => ?_) (fun c14 => ?_)
    · have hx := dv_ge hi9 (by omega) c14
      refine J_iload_n dX8_strange_83 (pc' := 84) rfl rfl ?_
      refine J_iret dX8_strange_84 rfl (dv_r1 _) ?_
      exact ⟨by rw [hx], hf.mono (by decide) (by decide)⟩
    · have hx := dv_nge hi9 (by omega) c14
      refine J_aload_n dX8_strange_17 (pc' := 18) rfl rfl ?_
      refine J_iload_n dX8_strange_18 (pc' := 19) rfl rfl ?_
      refine J_vq (As := [.int (nI i)]) (rest := []) (qX8_cuts _ S3 C n w wl wm i (RX_fr hf hX (by decide) (by decide)) hx) vX8_cuts mX8_181 kd_516 dX8_strange_19 (pc' := 22) rfl rfl (Nat.le_of_ble_eq_true rfl) (by decide) ?_
      rintro r S2 ⟨rfl, hcu⟩
      have hf2 := hf.tr hcu.1
      have hX2 := RX_fr hf2 hX (by decide) (by decide)
      have hm24 := (hX.2.2.1 i hx).2.1
      have hc24 : pnS C i ≤ (nlS C i) := cu_le _ _ _
      show dv_J yX8_strange cX8_strange 4 (some .int) (dv_rm (d + 4)) 0 0 22 [some (.ref 516), some (.int (nI (sgS C w i))), some (.int (nI i)), none] [] S2 (fun r S' => r = some (.int (nI (sgS C w n))) ∧ rcF S1 S')
      refine J_iconst dX8_strange_22 (pc' := 23) rfl (v := 0) ic_0 ?_
      refine J_istore_n dX8_strange_23 (pc' := 24) rfl rfl (by decide) rfl (l' := [some (.ref 516), some (.int (nI (sgS C w i))), some (.int (nI i)), some (.int 0)]) rfl ?_
      have hlp24 : ∀ k, k ≤ (pnS C i) → dv_J yX8_strange cX8_strange 4 (some .int) (dv_rm (d + 4)) 0 0 24 [some (.ref 516), some (.int (nI (sgS C w i + sgp C w (nfS C i) (nlS C i) k))), some (.int (nI i)), some (.int (nI k))] [] S2 (fun r S' => r = some (.int (nI (sgS C w n))) ∧ rcF S1 S') := by
        refine dv_up (P := fun k => dv_J yX8_strange cX8_strange 4 (some .int) (dv_rm (d + 4)) 0 0 24 [some (.ref 516), some (.int (nI (sgS C w i + sgp C w (nfS C i) (nlS C i) k))), some (.int (nI i)), some (.int (nI k))] [] S2 (fun r S' => r = some (.int (nI (sgS C w n))) ∧ rcF S1 S')) ?_
        intro k hi24 ih24 
        refine J_iload_n dX8_strange_24 (pc' := 25) rfl rfl ?_
        refine J_aload_n dX8_strange_25 (pc' := 26) rfl rfl ?_
        refine J_geti fX8_162 kd_516 rf_516_16 dX8_strange_26 (pc' := 29) rfl ?_
        refine J_top (w := .int (nI (pnS C i))) (by rw [hcu.2.1]) ?_
        refine J_icmp_ge dX8_strange_29 (pt := 77) (by decide) (pc' := 32) rfl (fun c29 => ?_) (fun c29 => ?_)
        · have hk := dv_ge hi24 (by omega) c29
          refine J_iinc dX8_strange_77 (pc' := 80) rfl rfl (v := nI (i + 1)) (nI_1 i) (by decide) rfl (l' := [some (.ref 516), some (.int (nI (sgS C w i + sgp C w (nfS C i) (nlS C i) k))), some (.int (nI (i + 1))), some (.int (nI k))]) rfl ?_
          refine J_goto dX8_strange_80 (pc' := 9) (by decide) ?_
          refine J_drop 3 (l' := [some (.ref 516), some (.int (nI (sgS C w i + sgp C w (nfS C i) (nlS C i) k))), some (.int (nI (i + 1))), none]) rfl ?_
          refine J_loc ?_ (ih9 (i + 1) (by omega) (by omega) _ hf2)
          clear ih9
          rw [hk]
          rfl
        · have hk := dv_nge hi24 (by omega) c29
          have hft := cu_ft (nfS C i) (nlS C i) (nlS C i) k hk
          refine J_iload_n dX8_strange_32 (pc' := 33) rfl rfl ?_
          have hj69 : ∀ jv : Int32, (dv_b (!ch_d (ch_lo ((nfS C i) ((cu (nfS C i) (nlS C i) (nlS C i)).2.1 k))) && decide (pk_w C w (nfS C i) (nlS C i) k = none))) = jv → dv_J yX8_strange cX8_strange 4 (some .int) (dv_rm (d + 4)) 0 0 69 [some (.ref 516), some (.int (nI (sgS C w i + sgp C w (nfS C i) (nlS C i) k))), some (.int (nI i)), some (.int (nI k))] [.int jv, .int (nI (sgS C w i + sgp C w (nfS C i) (nlS C i) k))] S2 (fun r S' => r = some (.int (nI (sgS C w n))) ∧ rcF S1 S') := by
            intro jv hjv
            subst hjv
            refine J_iadd dX8_strange_69 (pc' := 70) rfl ?_
            refine J_top (w := .int (nI (sgS C w i + sgp C w (nfS C i) (nlS C i) (k + 1)))) (by rw [← sg_b]) ?_
            refine J_istore_n dX8_strange_70 (pc' := 71) rfl rfl (by decide) rfl (l' := [some (.ref 516), some (.int (nI (sgS C w i + sgp C w (nfS C i) (nlS C i) (k + 1)))), some (.int (nI i)), some (.int (nI k))]) rfl ?_
            refine J_iinc dX8_strange_71 (pc' := 74) rfl rfl (v := nI (k + 1)) (nI_1 k) (by decide) rfl (l' := [some (.ref 516), some (.int (nI (sgS C w i + sgp C w (nfS C i) (nlS C i) (k + 1)))), some (.int (nI i)), some (.int (nI (k + 1)))]) rfl ?_
            refine J_goto dX8_strange_74 (pc' := 24) (by decide) ?_
            exact ih24 (k + 1) (by omega) (by omega)
          refine J_aload_n dX8_strange_33 (pc' := 34) rfl rfl ?_
          refine J_iload_n dX8_strange_34 (pc' := 35) rfl rfl ?_
          refine J_iload_n dX8_strange_35 (pc' := 36) rfl rfl ?_
          refine J_v1 (As := [.int (nI i), .int (nI k)]) (rest := [.int (nI (sgS C w i + sgp C w (nfS C i) (nlS C i) k))]) (qX8_wordOf _ S2 C n w wl wm i k hX2 hx hcu.2 hk) vX8_wordOf mX8_185 kd_516 dX8_strange_36 (pc' := 39) rfl rfl (Nat.le_of_ble_eq_true rfl) (by decide) ?_
          refine J_if_ge dX8_strange_39 (pt := 68) (by decide) (pc' := 42) rfl (fun c39 => ?_) (fun c39 => ?_)
          · rw [(dv_oi_ge (fun j hj => by have := pk_w_lt j hj; omega))] at c39
            refine J_iconst dX8_strange_68 (pc' := 69) rfl (v := 0) ic_0 ?_
            exact hj69 _ (by first | (rw [decide_eq_false (by intro q; rw [q] at c39; cases c39), Bool.and_false]; rfl) | (rw [ch_lo_d, c61, decide_eq_true (by cases hh : pk_w C w (nfS C i) (nlS C i) k with | none => rfl | some j => rw [hh] at c39; exact absurd rfl c39)]; rfl))
          · rw [(dv_oi_ge (fun j hj => by have := pk_w_lt j hj; omega))] at c39
            refine J_aload_n dX8_strange_42 (pc' := 43) rfl rfl ?_
            refine J_getr fX8_62 kd_516 rf_516_13 dX8_strange_43 (pc' := 46) rfl ?_
            refine J_bipush dX8_strange_46 (pc' := 48) rfl (v := 24) bp_24 ?_
            refine J_iload_n dX8_strange_48 (pc' := 49) rfl rfl ?_
            refine J_imul dX8_strange_49 (pc' := 50) rfl ?_
            refine J_top (w := .int (nI (24 * i))) (by rw [dv_n24, pk_mul]) ?_
            refine J_aload_n dX8_strange_50 (pc' := 51) rfl rfl ?_
            refine J_getr fX8_65 kd_516 rf_516_14 dX8_strange_51 (pc' := 54) rfl ?_
            refine J_iload_n dX8_strange_54 (pc' := 55) rfl rfl ?_
            refine J_iald (j := k) kd_525 (rfl) (by rw [ln_525]; omega) dX8_strange_55 (pc' := 56) rfl ?_
            refine J_top (w := .int (nI ((cu (nfS C i) (nlS C i) (nlS C i)).2.1 k))) (by rw [(hcu.2.2 k hk).1]) ?_
            refine J_iadd dX8_strange_56 (pc' := 57) rfl ?_
            refine J_bald (j := 24 * i + (cu (nfS C i) (nlS C i) (nlS C i)).2.1 k) kd_524 (nI_add _ _) (by rw [ln_524]; omega) dX8_strange_57 (pc' := 58) rfl ?_
            refine J_top (w := .int ((nfS C i) ((cu (nfS C i) (nlS C i) (nlS C i)).2.1 k))) (by rw [((hX2.2.2.1 i hx).2.2.1 _ (by omega)).1]) ?_
            refine J_s1 (As := [.int ((nfS C i) ((cu (nfS C i) (nlS C i) (nlS C i)).2.1 k))]) (rest := [.int (nI (sgS C w i + sgp C w (nfS C i) (nlS C i) k))]) (qX8_isDigit _ _ _) vX8_isDigit mX8_28 dX8_strange_58 (pc' := 61) rfl rfl (Nat.le_of_ble_eq_true rfl) (by decide) ?_
            refine J_bne dX8_strange_61 (pt := 68) (by decide) (pc' := 64) rfl (fun c61 => ?_) (fun c61 => ?_)
            · refine J_iconst dX8_strange_68 (pc' := 69) rfl (v := 0) ic_0 ?_
              exact hj69 _ (by first | (rw [decide_eq_false (by intro q; rw [q] at c39; cases c39), Bool.and_false]; rfl) | (rw [ch_lo_d, c61, decide_eq_true (by cases hh : pk_w C w (nfS C i) (nlS C i) k with | none => rfl | some j => rw [hh] at c39; exact absurd rfl c39)]; rfl))
            · refine J_iconst dX8_strange_64 (pc' := 65) rfl (v := 1) ic_1 ?_
              refine J_goto dX8_strange_65 (pc' := 69) (by decide) ?_
              exact hj69 _ (by first | (rw [decide_eq_false (by intro q; rw [q] at c39; cases c39), Bool.and_false]; rfl) | (rw [ch_lo_d, c61, decide_eq_true (by cases hh : pk_w C w (nfS C i) (nlS C i) k with | none => rfl | some j => rw [hh] at c39; exact absurd rfl c39)]; rfl))
      refine J_loc (l' := [some (.ref 516), some (.int (nI (sgS C w i + sgp C w (nfS C i) (nlS C i) 0))), some (.int (nI i)), some (.int (nI 0))]) (by simp only [nI_0, sgp, Nat.add_zero]) ?_
      exact hlp24 0 (Nat.zero_le _) 
  refine J_loc (l' := [some (.ref 516), some (.int (nI (sgS C w 0))), some (.int (nI 0)), none]) (by simp only [nI_0, sgS]) ?_
  refine J_sto (S' := S1) (rfl) ?_
  exact hlp9 0 (Nat.zero_le _) _ (fr.rf _ _ _)
