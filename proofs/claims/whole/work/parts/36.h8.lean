set_option maxRecDepth 100000 in
set_option maxHeartbeats 400000 in
theorem qX7_wayOf (d : Nat) (S : dv_S) (n w : Nat) (x : Int32) (hT : cw_T S n) (hw : S.1 13 5 = nI w) (hw60 : w ≤ 60) : dv_M yX7_wayOf cX7_wayOf 6 (some .int) (dv_rm (d + 6)) [.ref 0, .int x] S (fun r S' => r = some (.int (wy (ptS S w) (S.2.1 23) n x n).1) ∧ wyI S w x n S') := by
  have h80 := hT.2.1
  refine dv_M_of [some (.ref 0), some (.int x), none, none, none, none] (by decide) (fun _ _ => Nat.le_of_ble_eq_true rfl) (fun _ _ => rfl) ?_
  refine J_iconst dX7_wayOf_0 (pc' := 1) rfl (v := 0) ic_0 ?_
  refine J_istore_n dX7_wayOf_1 (pc' := 2) rfl rfl (by decide) rfl (l' := [some (.ref 0), some (.int x), some (.int 0), none, none, none]) rfl ?_
  have hlp2 : ∀ i, i ≤ n → ∀ (S1 : dv_S), wyI S w x i S1 → dv_J yX7_wayOf cX7_wayOf 6 (some .int) (dv_rm (d + 6)) 0 0 2 [some (.ref 0), some (.int x), some (.int (nI i)), none, none, none] [] S1 (fun r S' => r = some (.int (wy (ptS S w) (S.2.1 23) n x n).1) ∧ wyI S w x n S') := by
    refine dv_up (P := fun i => ∀ (S1 : dv_S), wyI S w x i S1 → dv_J yX7_wayOf cX7_wayOf 6 (some .int) (dv_rm (d + 6)) 0 0 2 [some (.ref 0), some (.int x), some (.int (nI i)), none, none, none] [] S1 (fun r S' => r = some (.int (wy (ptS S w) (S.2.1 23) n x n).1) ∧ wyI S w x n S')) ?_
    intro i hi2 ih2 S1 hI
    refine J_iload_n dX7_wayOf_2 (pc' := 3) rfl rfl ?_
    refine J_aload_n dX7_wayOf_3 (pc' := 4) rfl rfl ?_
    refine J_getr fX7_51 kd_0 rf_0_7 dX7_wayOf_4 (pc' := 7) rfl ?_
    refine J_v1 (As := []) (rest := [.int (nI i)]) (qX5_size _ _) vX5_size mX7_198 kd_21 dX7_wayOf_7 (pc' := 10) rfl rfl (Nat.le_of_ble_eq_true rfl) (by decide) ?_
    refine J_top (w := .int (nI n)) (by rw [(hI.1.T hT).1]) ?_
    refine J_icmp_ge dX7_wayOf_10 (pt := 42) (by decide) (pc' := 13) rfl (fun c10 => ?_) (fun c10 => ?_)
    · have hx := dv_ge hi2 (by omega) c10
      rw [hx] at hI
      refine J_bipush dX7_wayOf_42 (pc' := 44) rfl (v := (-2)) bp_m2 ?_
      refine J_istore_n dX7_wayOf_44 (pc' := 45) rfl rfl (by decide) rfl (l' := [some (.ref 0), some (.int x), some (.int ((-2))), none, none, none]) rfl ?_
      refine J_iconst dX7_wayOf_45 (pc' := 46) rfl (v := 0) ic_0 ?_
      refine J_istore_n dX7_wayOf_46 (pc' := 47) rfl rfl (by decide) rfl (l' := [some (.ref 0), some (.int x), some (.int ((-2))), some (.int 0), none, none]) rfl ?_
      refine J_iconst dX7_wayOf_47 (pc' := 48) rfl (v := 0) ic_0 ?_
      refine J_istore dX7_wayOf_48 (pc' := 50) rfl (by decide) rfl (l' := [some (.ref 0), some (.int x), some (.int ((-2))), some (.int 0), some (.int 0), none]) rfl ?_
      have hlp50 : ∀ k, k ≤ n → dv_J yX7_wayOf cX7_wayOf 6 (some .int) (dv_rm (d + 6)) 0 0 50 [some (.ref 0), some (.int x), some (.int ((wy (ptS S w) (S.2.1 23) n x k).1)), some (.int (nI ((wy (ptS S w) (S.2.1 23) n x k).2))), some (.int (nI k)), none] [] S1 (fun r S' => r = some (.int (wy (ptS S w) (S.2.1 23) n x n).1) ∧ wyI S w x n S') := by
        refine dv_up (P := fun k => dv_J yX7_wayOf cX7_wayOf 6 (some .int) (dv_rm (d + 6)) 0 0 50 [some (.ref 0), some (.int x), some (.int ((wy (ptS S w) (S.2.1 23) n x k).1)), some (.int (nI ((wy (ptS S w) (S.2.1 23) n x k).2))), some (.int (nI k)), none] [] S1 (fun r S' => r = some (.int (wy (ptS S w) (S.2.1 23) n x n).1) ∧ wyI S w x n S')) ?_
        intro k hi50 ih50 
        refine J_iload dX7_wayOf_50 (pc' := 52) rfl rfl ?_
        refine J_aload_n dX7_wayOf_52 (pc' := 53) rfl rfl ?_
        refine J_getr fX7_51 kd_0 rf_0_7 dX7_wayOf_53 (pc' := 56) rfl ?_
        refine J_v1 (As := []) (rest := [.int (nI k)]) (qX5_size _ _) vX5_size mX7_198 kd_21 dX7_wayOf_56 (pc' := 59) rfl rfl (Nat.le_of_ble_eq_true rfl) (by decide) ?_
        refine J_top (w := .int (nI n)) (by rw [(hI.1.T hT).1]) ?_
        refine J_icmp_ge dX7_wayOf_59 (pt := 129) (by decide) (pc' := 62) rfl (fun c59 => ?_) (fun c59 => ?_)
        · have hk := dv_ge hi50 (by omega) c59
          refine J_iload_n dX7_wayOf_129 (pc' := 130) rfl rfl ?_
          refine J_iret dX7_wayOf_130 rfl (dv_r1 _) ?_
          exact ⟨by rw [hk], hI⟩
        · have hk := dv_nge hi50 (by omega) c59
          refine J_aload_n dX7_wayOf_62 (pc' := 63) rfl rfl ?_
          refine J_getr fX7_51 kd_0 rf_0_7 dX7_wayOf_63 (pc' := 66) rfl ?_
          refine J_iload dX7_wayOf_66 (pc' := 68) rfl rfl ?_
          refine J_v1 (As := [.int (nI k)]) (rest := []) (qX5_kindOf _ _ k n (hI.1.T hT).1 (by omega) h80) vX5_kindOf mX7_164 kd_21 dX7_wayOf_68 (pc' := 71) rfl rfl (Nat.le_of_ble_eq_true rfl) (by decide) ?_
          refine J_top (w := .int (S.2.1 23 k)) (by rw [hI.1.g (by decide)]) ?_
          refine J_iload_n dX7_wayOf_71 (pc' := 72) rfl rfl ?_
          refine J_icmp_ne dX7_wayOf_72 (pt := 123) (by decide) (pc' := 75) rfl (fun c72 => ?_) (fun c72 => ?_)
          · refine J_iinc dX7_wayOf_123 (pc' := 126) rfl rfl (v := nI (k + 1)) (nI_1 k) (by decide) rfl (l' := [some (.ref 0), some (.int x), some (.int ((wy (ptS S w) (S.2.1 23) n x k).1)), some (.int (nI ((wy (ptS S w) (S.2.1 23) n x k).2))), some (.int (nI (k + 1))), none]) rfl ?_
            refine J_goto dX7_wayOf_126 (pc' := 50) (by decide) ?_
            refine J_loc ?_ (ih50 (k + 1) (by omega) (by omega))
            clear ih50 ih2
            first | simp only [wy_n (pt := ptS S w) (kd := S.2.1 23) (n := n) (x := x) (t := k) (fun q => c72 q.1)] | simp only [wy_n (pt := ptS S w) (kd := S.2.1 23) (n := n) (x := x) (t := k) (fun q => q.2.elim c92 (fun r => c98 r.1))] | simp only [wy_n (pt := ptS S w) (kd := S.2.1 23) (n := n) (x := x) (t := k) (fun q => q.2.elim c92 (fun r => absurd r.2 (Int32.not_lt.mpr c109)))]
          · have hb1 : wo (ptS S w) (S.2.1 23) n x k ≤ n := dv_ct_le _ _
            have hb2 := wy_le (ptS S w) (S.2.1 23) n x k
            refine J_aload_n dX7_wayOf_75 (pc' := 76) rfl rfl ?_
            refine J_iload_n dX7_wayOf_76 (pc' := 77) rfl rfl ?_
            refine J_aload_n dX7_wayOf_77 (pc' := 78) rfl rfl ?_
            refine J_getr fX7_76 kd_0 rf_0_12 dX7_wayOf_78 (pc' := 81) rfl ?_
            refine J_iload dX7_wayOf_81 (pc' := 83) rfl rfl ?_
            refine J_iald (j := k) kd_515 (rfl) (by rw [ln_515]; omega) dX7_wayOf_83 (pc' := 84) rfl ?_
            refine J_top (w := .int (ptS S w k)) (by rw [hI.2 k hk c72]) ?_
            refine J_v1 (As := [.int x, .int (ptS S w k)]) (rest := []) (qX7_howOften _ _ n _ _ (hI.1.T hT)) vX7_howOften mX7_268 kd_0 dX7_wayOf_84 (pc' := 87) rfl rfl (Nat.le_of_ble_eq_true rfl) (by decide) ?_
            refine J_top (w := .int (nI (wo (ptS S w) (S.2.1 23) n x k))) (congrArg (fun z => Value.int (nI z)) (wyI_ct hI _)) ?_
            refine J_istore dX7_wayOf_87 (pc' := 89) rfl (by decide) rfl (l' := [some (.ref 0), some (.int x), some (.int ((wy (ptS S w) (S.2.1 23) n x k).1)), some (.int (nI ((wy (ptS S w) (S.2.1 23) n x k).2))), some (.int (nI k)), some (.int (nI (wo (ptS S w) (S.2.1 23) n x k)))]) rfl ?_
            refine J_iload dX7_wayOf_89 (pc' := 91) rfl rfl ?_
            refine J_iload_n dX7_wayOf_91 (pc' := 92) rfl rfl ?_
            refine J_icmp_gt dX7_wayOf_92 (pt := 112) (by decide) (pc' := 95) rfl (fun c92 => ?_) (fun c92 => ?_)
            · rw [nI_ltI (by omega) (by omega)] at c92
              refine J_aload_n dX7_wayOf_112 (pc' := 113) rfl rfl ?_
              refine J_getr fX7_76 kd_0 rf_0_12 dX7_wayOf_113 (pc' := 116) rfl ?_
              refine J_iload dX7_wayOf_116 (pc' := 118) rfl rfl ?_
              refine J_iald (j := k) kd_515 (rfl) (by rw [ln_515]; omega) dX7_wayOf_118 (pc' := 119) rfl ?_
              refine J_top (w := .int (ptS S w k)) (by rw [hI.2 k hk c72]) ?_
              refine J_istore_n dX7_wayOf_119 (pc' := 120) rfl rfl (by decide) rfl (l' := [some (.ref 0), some (.int x), some (.int (ptS S w k)), some (.int (nI ((wy (ptS S w) (S.2.1 23) n x k).2))), some (.int (nI k)), some (.int (nI (wo (ptS S w) (S.2.1 23) n x k)))]) rfl ?_
              refine J_iload dX7_wayOf_120 (pc' := 122) rfl rfl ?_
              refine J_istore_n dX7_wayOf_122 (pc' := 123) rfl rfl (by decide) rfl (l' := [some (.ref 0), some (.int x), some (.int (ptS S w k)), some (.int (nI (wo (ptS S w) (S.2.1 23) n x k))), some (.int (nI k)), some (.int (nI (wo (ptS S w) (S.2.1 23) n x k)))]) rfl ?_
              refine J_iinc dX7_wayOf_123 (pc' := 126) rfl rfl (v := nI (k + 1)) (nI_1 k) (by decide) rfl (l' := [some (.ref 0), some (.int x), some (.int (ptS S w k)), some (.int (nI (wo (ptS S w) (S.2.1 23) n x k))), some (.int (nI (k + 1))), some (.int (nI (wo (ptS S w) (S.2.1 23) n x k)))]) rfl ?_
              refine J_goto dX7_wayOf_126 (pc' := 50) (by decide) ?_
              refine J_drop 5 (l' := [some (.ref 0), some (.int x), some (.int (ptS S w k)), some (.int (nI (wo (ptS S w) (S.2.1 23) n x k))), some (.int (nI (k + 1))), none]) rfl ?_
              refine J_loc ?_ (ih50 (k + 1) (by omega) (by omega))
              clear ih50 ih2
              first | simp only [wy_y (pt := ptS S w) (kd := S.2.1 23) (n := n) (x := x) (t := k) c72 (Or.inl c92)] | simp only [wy_y (pt := ptS S w) (kd := S.2.1 23) (n := n) (x := x) (t := k) c72 (Or.inr ⟨c98, Int32.not_le.mp c109⟩)]
            · rw [nI_ltI (by omega) (by omega)] at c92
              refine J_iload dX7_wayOf_95 (pc' := 97) rfl rfl ?_
              refine J_iload_n dX7_wayOf_97 (pc' := 98) rfl rfl ?_
              refine J_icmp_ne dX7_wayOf_98 (pt := 123) (by decide) (pc' := 101) rfl (fun c98 => ?_) (fun c98 => ?_)
              · rw [nI_eq (by omega) (by omega)] at c98
                refine J_iinc dX7_wayOf_123 (pc' := 126) rfl rfl (v := nI (k + 1)) (nI_1 k) (by decide) rfl (l' := [some (.ref 0), some (.int x), some (.int ((wy (ptS S w) (S.2.1 23) n x k).1)), some (.int (nI ((wy (ptS S w) (S.2.1 23) n x k).2))), some (.int (nI (k + 1))), some (.int (nI (wo (ptS S w) (S.2.1 23) n x k)))]) rfl ?_
                refine J_goto dX7_wayOf_126 (pc' := 50) (by decide) ?_
                refine J_drop 5 (l' := [some (.ref 0), some (.int x), some (.int ((wy (ptS S w) (S.2.1 23) n x k).1)), some (.int (nI ((wy (ptS S w) (S.2.1 23) n x k).2))), some (.int (nI (k + 1))), none]) rfl ?_
                refine J_loc ?_ (ih50 (k + 1) (by omega) (by omega))
                clear ih50 ih2
                first | simp only [wy_n (pt := ptS S w) (kd := S.2.1 23) (n := n) (x := x) (t := k) (fun q => c72 q.1)] | simp only [wy_n (pt := ptS S w) (kd := S.2.1 23) (n := n) (x := x) (t := k) (fun q => q.2.elim c92 (fun r => c98 r.1))] | simp only [wy_n (pt := ptS S w) (kd := S.2.1 23) (n := n) (x := x) (t := k) (fun q => q.2.elim c92 (fun r => absurd r.2 (Int32.not_lt.mpr c109)))]
              · rw [nI_eq (by omega) (by omega)] at c98
                refine J_aload_n dX7_wayOf_101 (pc' := 102) rfl rfl ?_
                refine J_getr fX7_76 kd_0 rf_0_12 dX7_wayOf_102 (pc' := 105) rfl ?_
                refine J_iload dX7_wayOf_105 (pc' := 107) rfl rfl ?_
                refine J_iald (j := k) kd_515 (rfl) (by rw [ln_515]; omega) dX7_wayOf_107 (pc' := 108) rfl ?_
                refine J_top (w := .int (ptS S w k)) (by rw [hI.2 k hk c72]) ?_
                refine J_iload_n dX7_wayOf_108 (pc' := 109) rfl rfl ?_
                refine J_icmp_ge dX7_wayOf_109 (pt := 123) (by decide) (pc' := 112) rfl (fun c109 => ?_) (fun c109 => ?_)
                · refine J_iinc dX7_wayOf_123 (pc' := 126) rfl rfl (v := nI (k + 1)) (nI_1 k) (by decide) rfl (l' := [some (.ref 0), some (.int x), some (.int ((wy (ptS S w) (S.2.1 23) n x k).1)), some (.int (nI ((wy (ptS S w) (S.2.1 23) n x k).2))), some (.int (nI (k + 1))), some (.int (nI (wo (ptS S w) (S.2.1 23) n x k)))]) rfl ?_
                  refine J_goto dX7_wayOf_126 (pc' := 50) (by decide) ?_
                  refine J_drop 5 (l' := [some (.ref 0), some (.int x), some (.int ((wy (ptS S w) (S.2.1 23) n x k).1)), some (.int (nI ((wy (ptS S w) (S.2.1 23) n x k).2))), some (.int (nI (k + 1))), none]) rfl ?_
                  refine J_loc ?_ (ih50 (k + 1) (by omega) (by omega))
                  clear ih50 ih2
                  first | simp only [wy_n (pt := ptS S w) (kd := S.2.1 23) (n := n) (x := x) (t := k) (fun q => c72 q.1)] | simp only [wy_n (pt := ptS S w) (kd := S.2.1 23) (n := n) (x := x) (t := k) (fun q => q.2.elim c92 (fun r => c98 r.1))] | simp only [wy_n (pt := ptS S w) (kd := S.2.1 23) (n := n) (x := x) (t := k) (fun q => q.2.elim c92 (fun r => absurd r.2 (Int32.not_lt.mpr c109)))]
                · refine J_aload_n dX7_wayOf_112 (pc' := 113) rfl rfl ?_
                  refine J_getr fX7_76 kd_0 rf_0_12 dX7_wayOf_113 (pc' := 116) rfl ?_
                  refine J_iload dX7_wayOf_116 (pc' := 118) rfl rfl ?_
                  refine J_iald (j := k) kd_515 (rfl) (by rw [ln_515]; omega) dX7_wayOf_118 (pc' := 119) rfl ?_
                  refine J_top (w := .int (ptS S w k)) (by rw [hI.2 k hk c72]) ?_
                  refine J_istore_n dX7_wayOf_119 (pc' := 120) rfl rfl (by decide) rfl (l' := [some (.ref 0), some (.int x), some (.int (ptS S w k)), some (.int (nI ((wy (ptS S w) (S.2.1 23) n x k).2))), some (.int (nI k)), some (.int (nI (wo (ptS S w) (S.2.1 23) n x k)))]) rfl ?_
                  refine J_iload dX7_wayOf_120 (pc' := 122) rfl rfl ?_
                  refine J_istore_n dX7_wayOf_122 (pc' := 123) rfl rfl (by decide) rfl (l' := [some (.ref 0), some (.int x), some (.int (ptS S w k)), some (.int (nI (wo (ptS S w) (S.2.1 23) n x k))), some (.int (nI k)), some (.int (nI (wo (ptS S w) (S.2.1 23) n x k)))]) rfl ?_
                  refine J_iinc dX7_wayOf_123 (pc' := 126) rfl rfl (v := nI (k + 1)) (nI_1 k) (by decide) rfl (l' := [some (.ref 0), some (.int x), some (.int (ptS S w k)), some (.int (nI (wo (ptS S w) (S.2.1 23) n x k))), some (.int (nI (k + 1))), some (.int (nI (wo (ptS S w) (S.2.1 23) n x k)))]) rfl ?_
                  refine J_goto dX7_wayOf_126 (pc' := 50) (by decide) ?_
                  refine J_drop 5 (l' := [some (.ref 0), some (.int x), some (.int (ptS S w k)), some (.int (nI (wo (ptS S w) (S.2.1 23) n x k))), some (.int (nI (k + 1))), none]) rfl ?_
                  refine J_loc ?_ (ih50 (k + 1) (by omega) (by omega))
                  clear ih50 ih2
                  first | simp only [wy_y (pt := ptS S w) (kd := S.2.1 23) (n := n) (x := x) (t := k) c72 (Or.inl c92)] | simp only [wy_y (pt := ptS S w) (kd := S.2.1 23) (n := n) (x := x) (t := k) c72 (Or.inr ⟨c98, Int32.not_le.mp c109⟩)]
      refine J_loc (l' := [some (.ref 0), some (.int x), some (.int ((wy (ptS S w) (S.2.1 23) n x 0).1)), some (.int (nI ((wy (ptS S w) (S.2.1 23) n x 0).2))), some (.int (nI 0)), none]) (by simp only [nI_0, wy]) ?_
      exact hlp50 0 (Nat.zero_le _) 
    · have hx := dv_nge hi2 (by omega) c10
      refine J_aload_n dX7_wayOf_13 (pc' := 14) rfl rfl ?_
      refine J_getr fX7_51 kd_0 rf_0_7 dX7_wayOf_14 (pc' := 17) rfl ?_
      refine J_iload_n dX7_wayOf_17 (pc' := 18) rfl rfl ?_
      refine J_v1 (As := [.int (nI i)]) (rest := []) (qX5_kindOf _ _ i n (hI.1.T hT).1 (by omega) h80) vX5_kindOf mX7_164 kd_21 dX7_wayOf_18 (pc' := 21) rfl rfl (Nat.le_of_ble_eq_true rfl) (by decide) ?_
      refine J_top (w := .int (S.2.1 23 i)) (by rw [hI.1.g (by decide)]) ?_
      refine J_iload_n dX7_wayOf_21 (pc' := 22) rfl rfl ?_
      refine J_icmp_ne dX7_wayOf_22 (pt := 36) (by decide) (pc' := 25) rfl (fun c22 => ?_) (fun c22 => ?_)
      · refine J_iinc dX7_wayOf_36 (pc' := 39) rfl rfl (v := nI (i + 1)) (nI_1 i) (by decide) rfl (l' := [some (.ref 0), some (.int x), some (.int (nI (i + 1))), none, none, none]) rfl ?_
        refine J_goto dX7_wayOf_39 (pc' := 2) (by decide) ?_
        exact ih2 (i + 1) (by omega) (by omega) _ (wyI1 hI c22)
      · refine J_aload_n dX7_wayOf_25 (pc' := 26) rfl rfl ?_
        refine J_getr fX7_76 kd_0 rf_0_12 dX7_wayOf_26 (pc' := 29) rfl ?_
        refine J_iload_n dX7_wayOf_29 (pc' := 30) rfl rfl ?_
        refine J_aload_n dX7_wayOf_30 (pc' := 31) rfl rfl ?_
        refine J_iload_n dX7_wayOf_31 (pc' := 32) rfl rfl ?_
        refine J_vq (As := [.int (nI i)]) (rest := [.int (nI i), .ref 515]) (qX7_patternOf _ _ n w i (hI.1.T hT) hx (by rw [hI.1.1 13 5 (by decide)]; exact hw) hw60) vX7_patternOf mX7_179 kd_0 dX7_wayOf_32 (pc' := 35) rfl rfl (Nat.le_of_ble_eq_true rfl) (by decide) ?_
        rintro r S2 ⟨rfl, hsp⟩
        show dv_J yX7_wayOf cX7_wayOf 6 (some .int) (dv_rm (d + 6)) 0 0 35 [some (.ref 0), some (.int x), some (.int (nI i)), none, none, none] [.int (ptS S1 w i), .int (nI i), .ref 515] S2 (fun r S' => r = some (.int (wy (ptS S w) (S.2.1 23) n x n).1) ∧ wyI S w x n S')
        refine J_iast (j := i) kd_515 (rfl) (by rw [ln_515]; omega) dX7_wayOf_35 (pc' := 36) rfl ?_
        refine J_iinc dX7_wayOf_36 (pc' := 39) rfl rfl (v := nI (i + 1)) (nI_1 i) (by decide) rfl (l' := [some (.ref 0), some (.int x), some (.int (nI (i + 1))), none, none, none]) rfl ?_
        refine J_goto dX7_wayOf_39 (pc' := 2) (by decide) ?_
        exact ih2 (i + 1) (by omega) (by omega) _ (wyI2 hI (by omega) hsp)
  refine J_loc (l' := [some (.ref 0), some (.int x), some (.int (nI 0)), none, none, none]) (by simp only [nI_0, dv_b_f, dv_b_t]) ?_
  refine J_sto (S' := S) (rfl) ?_
  exact hlp2 0 (Nat.zero_le _) _ (wyI0 _ _ _)
set_option maxRecDepth 100000 in
set_option maxHeartbeats 400000 in
theorem qX7_countUsed (d : Nat) (S : dv_S) (n w : Nat) (hT : cw_T S n) (hw : S.1 13 5 = nI w) (hw60 : w ≤ 60) : dv_M yX7_countUsed cX7_countUsed 3 none (dv_rm (d + 5)) [.ref 0] S (fun r S' => r = none ∧ cuI S w n S') := by
  have h80 := hT.2.1
  refine dv_M_of [some (.ref 0), none, none] (by decide) (fun _ _ => Nat.le_of_ble_eq_true rfl) (fun _ _ => rfl) ?_
  refine J_aload_n dX7_countUsed_0 (pc' := 1) rfl rfl ?_
  refine J_getr fX7_37 kd_0 rf_0_5 dX7_countUsed_1 (pc' := 4) rfl ?_
  refine J_v0 (As := []) (rest := []) (qX0_clearUsed _ _ w hw hw60) vX0_clearUsed mX7_271 kd_13 dX7_countUsed_4 (pc' := 7) rfl rfl (Nat.le_of_ble_eq_true rfl) (by decide) ?_
  refine J_iconst dX7_countUsed_7 (pc' := 8) rfl (v := 0) ic_0 ?_
  refine J_istore_n dX7_countUsed_8 (pc' := 9) rfl rfl (by decide) rfl (l' := [some (.ref 0), some (.int 0), none]) rfl ?_
  have hlp9 : ∀ i, i ≤ n → ∀ (S1 : dv_S), cuI S w i S1 → dv_J yX7_countUsed cX7_countUsed 3 none (dv_rm (d + 5)) 0 0 9 [some (.ref 0), some (.int (nI i)), none] [] S1 (fun r S' => r = none ∧ cuI S w n S') := by
    refine dv_up (P := fun i => ∀ (S1 : dv_S), cuI S w i S1 → dv_J yX7_countUsed cX7_countUsed 3 none (dv_rm (d + 5)) 0 0 9 [some (.ref 0), some (.int (nI i)), none] [] S1 (fun r S' => r = none ∧ cuI S w n S')) ?_
    intro i hi9 ih9 S1 hI
    refine J_iload_n dX7_countUsed_9 (pc' := 10) rfl rfl ?_
    refine J_aload_n dX7_countUsed_10 (pc' := 11) rfl rfl ?_
    refine J_getr fX7_51 kd_0 rf_0_7 dX7_countUsed_11 (pc' := 14) rfl ?_
    refine J_v1 (As := []) (rest := [.int (nI i)]) (qX5_size _ _) vX5_size mX7_198 kd_21 dX7_countUsed_14 (pc' := 17) rfl rfl (Nat.le_of_ble_eq_true rfl) (by decide) ?_
    refine J_top (w := .int (nI n)) (by rw [(hI.1.T hT).1]) ?_
    refine J_icmp_ge dX7_countUsed_17 (pt := 89) (by decide) (pc' := 20) rfl (fun c17 => ?_) (fun c17 => ?_)
    · have hx := dv_ge hi9 (by omega) c17
      refine J_vret dX7_countUsed_89 rfl (dv_r1 _) ?_
      exact ⟨rfl, by rw [hx] at hI; exact hI⟩
    · have hx := dv_nge hi9 (by omega) c17
      refine J_aload_n dX7_countUsed_20 (pc' := 21) rfl rfl ?_
      refine J_getr fX7_30 kd_0 rf_0_4 dX7_countUsed_21 (pc' := 24) rfl ?_
      refine J_aload_n dX7_countUsed_24 (pc' := 25) rfl rfl ?_
      refine J_getr fX7_51 kd_0 rf_0_7 dX7_countUsed_25 (pc' := 28) rfl ?_
      refine J_iload_n dX7_countUsed_28 (pc' := 29) rfl rfl ?_
      refine J_v1 (As := [.int (nI i)]) (rest := [.ref 9]) (qX5_nameOf _ _ i n (hI.1.T hT).1 hx h80) vX5_nameOf mX7_167 kd_21 dX7_countUsed_29 (pc' := 32) rfl rfl (Nat.le_of_ble_eq_true rfl) (by decide) ?_
      refine J_vq (As := [.ref (25 + 2 * i)]) (rest := []) (qX1_split _ _ (25 + 2 * i) (dn (S1.1 (25 + 2 * i) 1)) (kd_T (by omega)).1 (kd_T (by omega)).2.1 ((hI.1.T hT).2.2 i hx).1.1 (by rw [(kd_T (by omega)).2.2]; exact ((hI.1.T hT).2.2 i hx).1.2) ((hI.1.T hT).2.2 i hx).1.2) vX1_split mX7_171 kd_9 dX7_countUsed_32 (pc' := 35) rfl rfl (Nat.le_of_ble_eq_true rfl) (by decide) ?_
      rintro r S2 ⟨rfl, hsp⟩
      have hm24 : (dn (S.1 (25 + 2 * i) 1)) ≤ 24 := (hT.2.2 i hx).1.2
      have hc24 := cu_le (S.2.1 (25 + 2 * i + 1)) (dn (S.1 (25 + 2 * i) 1)) (dn (S.1 (25 + 2 * i) 1))
      show dv_J yX7_countUsed cX7_countUsed 3 none (dv_rm (d + 5)) 0 0 35 [some (.ref 0), some (.int (nI i)), none] [] S2 (fun r S' => r = none ∧ cuI S w n S')
      refine J_iconst dX7_countUsed_35 (pc' := 36) rfl (v := 0) ic_0 ?_
      refine J_istore_n dX7_countUsed_36 (pc' := 37) rfl rfl (by decide) rfl (l' := [some (.ref 0), some (.int (nI i)), some (.int 0)]) rfl ?_
      have hlp37 : ∀ k, k ≤ (cu (S.2.1 (25 + 2 * i + 1)) (dn (S.1 (25 + 2 * i) 1)) (dn (S.1 (25 + 2 * i) 1))).1 → ∀ (S3 : dv_S), cuK S w i k S3 → dv_J yX7_countUsed cX7_countUsed 3 none (dv_rm (d + 5)) 0 0 37 [some (.ref 0), some (.int (nI i)), some (.int (nI k))] [] S3 (fun r S' => r = none ∧ cuI S w n S') := by
        refine dv_up (P := fun k => ∀ (S3 : dv_S), cuK S w i k S3 → dv_J yX7_countUsed cX7_countUsed 3 none (dv_rm (d + 5)) 0 0 37 [some (.ref 0), some (.int (nI i)), some (.int (nI k))] [] S3 (fun r S' => r = none ∧ cuI S w n S')) ?_
        intro k hi37 ih37 S3 hK
        refine J_iload_n dX7_countUsed_37 (pc' := 38) rfl rfl ?_
        refine J_aload_n dX7_countUsed_38 (pc' := 39) rfl rfl ?_
        refine J_getr fX7_30 kd_0 rf_0_4 dX7_countUsed_39 (pc' := 42) rfl ?_
        refine J_v1 (As := []) (rest := [.int (nI k)]) (qX1_size _ _) vX1_size mX7_175 kd_9 dX7_countUsed_42 (pc' := 45) rfl rfl (Nat.le_of_ble_eq_true rfl) (by decide) ?_
        refine J_top (w := .int (nI ((cu (S.2.1 (25 + 2 * i + 1)) (dn (S.1 (25 + 2 * i) 1)) (dn (S.1 (25 + 2 * i) 1))).1))) (by rw [hK.2.1.1]) ?_
        refine J_icmp_ge dX7_countUsed_45 (pt := 83) (by decide) (pc' := 48) rfl (fun c45 => ?_) (fun c45 => ?_)
        · have hk := dv_ge hi37 (by omega) c45
          refine J_iinc dX7_countUsed_83 (pc' := 86) rfl rfl (v := nI (i + 1)) (nI_1 i) (by decide) rfl (l' := [some (.ref 0), some (.int (nI (i + 1))), some (.int (nI k))]) rfl ?_
          refine J_goto dX7_countUsed_86 (pc' := 9) (by decide) ?_
          refine J_drop 2 (l' := [some (.ref 0), some (.int (nI (i + 1))), none]) rfl ?_
          exact ih9 (i + 1) (by omega) (by omega) _ (cuK2 hK hk)
        · have hk := dv_nge hi37 (by omega) c45
          refine J_aload_n dX7_countUsed_48 (pc' := 49) rfl rfl ?_
          refine J_getr fX7_37 kd_0 rf_0_5 dX7_countUsed_49 (pc' := 52) rfl ?_
          refine J_aload_n dX7_countUsed_52 (pc' := 53) rfl rfl ?_
          refine J_getr fX7_37 kd_0 rf_0_5 dX7_countUsed_53 (pc' := 56) rfl ?_
          refine J_aload_n dX7_countUsed_56 (pc' := 57) rfl rfl ?_
          refine J_getr fX7_37 kd_0 rf_0_5 dX7_countUsed_57 (pc' := 60) rfl ?_
          refine J_aload_n dX7_countUsed_60 (pc' := 61) rfl rfl ?_
          refine J_getr fX7_30 kd_0 rf_0_4 dX7_countUsed_61 (pc' := 64) rfl ?_
          refine J_iload_n dX7_countUsed_64 (pc' := 65) rfl rfl ?_
          refine J_v1 (As := [.int (nI k)]) (rest := [.ref 13, .ref 13, .ref 13]) (qX1_key _ S3 S3 (S.2.1 (25 + 2 * i + 1)) (dn (S.1 (25 + 2 * i) 1)) k hK.2.1.spl hm24 hk) vX1_keyOf mX7_217 kd_9 dX7_countUsed_65 (pc' := 68) rfl rfl (Nat.le_of_ble_eq_true rfl) (by decide) ?_
          refine J_v1 (As := [.long (pk_k (S.2.1 (25 + 2 * i + 1)) (dn (S.1 (25 + 2 * i) 1)) k)]) (rest := [.ref 13, .ref 13]) (qX0_numberOf _ _ _ w (by rw [hK.1.1 13 5 (by decide)]; exact hw) hw60) vX0_numberOf mX7_221 kd_13 dX7_countUsed_68 (pc' := 71) rfl rfl (Nat.le_of_ble_eq_true rfl) (by decide) ?_
          refine J_top (w := .int (dv_oi (pk_w S w (S.2.1 (25 + 2 * i + 1)) (dn (S.1 (25 + 2 * i) 1)) k))) (by rw [hK.1.2.2]; rfl) ?_
          refine J_v1 (As := [.int (dv_oi (pk_w S w (S.2.1 (25 + 2 * i + 1)) (dn (S.1 (25 + 2 * i) 1)) k))]) (rest := [.ref 13]) (qX0_opened _ _ _ w (by rw [hK.1.1 13 5 (by decide)]; exact hw) hw60) vX0_opened mX7_274 kd_13 dX7_countUsed_71 (pc' := 74) rfl rfl (Nat.le_of_ble_eq_true rfl) (by decide) ?_
          refine J_top (w := .int (opS S w (pk_w S w (S.2.1 (25 + 2 * i + 1)) (dn (S.1 (25 + 2 * i) 1)) k))) (by rw [hK.1.g (by decide)]; rfl) ?_
          refine J_v0 (As := [.int (opS S w (pk_w S w (S.2.1 (25 + 2 * i + 1)) (dn (S.1 (25 + 2 * i) 1)) k))]) (rest := []) (qX0_addUsedG _ _ w _ (by rw [hK.1.1 13 5 (by decide)]; exact hw) hw60) vX0_addUsed mX7_277 kd_13 dX7_countUsed_74 (pc' := 77) rfl rfl (Nat.le_of_ble_eq_true rfl) (by decide) ?_
          refine J_iinc dX7_countUsed_77 (pc' := 80) rfl rfl (v := nI (k + 1)) (nI_1 k) (by decide) rfl (l' := [some (.ref 0), some (.int (nI i)), some (.int (nI (k + 1)))]) rfl ?_
          refine J_goto dX7_countUsed_80 (pc' := 37) (by decide) ?_
          exact ih37 (k + 1) (by omega) (by omega) _ (cuK1 hw60 hK)
      refine J_loc (l' := [some (.ref 0), some (.int (nI i)), some (.int (nI 0))]) (by simp only [nI_0, dv_b_f, dv_b_t]) ?_
      refine J_sto (S' := S2) (rfl) ?_
      exact hlp37 0 (Nat.zero_le _) _ (cuK0 hI (by omega) hsp)
  refine J_loc (l' := [some (.ref 0), some (.int (nI 0)), none]) (by simp only [nI_0, dv_b_f, dv_b_t]) ?_
  refine J_sto (S' := (S.1, dv_rw S.2.1 18 (fun _ => 0) w, S.2.2)) (rfl) ?_
  exact hlp9 0 (Nat.zero_le _) _ (cuI0 _ _)
