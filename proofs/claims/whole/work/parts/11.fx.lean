theorem kX0 : dv_cl 0 RX0 TX0 6 := ⟨rfl, by decide, rfl, fun w hw => by
  have h : (u_ws RX0 TX0 6).all (fun w => decide (w ∈ lw_tbl) && goodWord w) = true := by decide +kernel
  have h1 := List.all_eq_true.mp h w hw
  simp only [Bool.and_eq_true, decide_eq_true_eq] at h1
  exact List.mem_filter.mpr h1, tyX0, tyX0_ok, nmX0⟩
theorem kX1 : dv_cl 1 RX1 TX1 5 := ⟨rfl, by decide, rfl, fun w hw => by
  have h : (u_ws RX1 TX1 5).all (fun w => decide (w ∈ lw_tbl) && goodWord w) = true := by decide +kernel
  have h1 := List.all_eq_true.mp h w hw
  simp only [Bool.and_eq_true, decide_eq_true_eq] at h1
  exact List.mem_filter.mpr h1, tyX1, tyX1_ok, nmX1⟩
theorem kX2 : dv_cl 2 RX2 TX2 3 := ⟨rfl, by decide, rfl, fun w hw => by
  have h : (u_ws RX2 TX2 3).all (fun w => decide (w ∈ lw_tbl) && goodWord w) = true := by decide +kernel
  have h1 := List.all_eq_true.mp h w hw
  simp only [Bool.and_eq_true, decide_eq_true_eq] at h1
  exact List.mem_filter.mpr h1, tyX2, tyX2_ok, nmX2⟩
theorem kX3 : dv_cl 3 RX3 TX3 2 := ⟨rfl, by decide, rfl, fun w hw => by
  have h : (u_ws RX3 TX3 2).all (fun w => decide (w ∈ lw_tbl) && goodWord w) = true := by decide +kernel
  have h1 := List.all_eq_true.mp h w hw
  simp only [Bool.and_eq_true, decide_eq_true_eq] at h1
  exact List.mem_filter.mpr h1, tyX3, tyX3_ok, nmX3⟩
theorem kX4 : dv_cl 4 RX4 TX4 3 := ⟨rfl, by decide, rfl, fun w hw => by
  have h : (u_ws RX4 TX4 3).all (fun w => decide (w ∈ lw_tbl) && goodWord w) = true := by decide +kernel
  have h1 := List.all_eq_true.mp h w hw
  simp only [Bool.and_eq_true, decide_eq_true_eq] at h1
  exact List.mem_filter.mpr h1, tyX4, tyX4_ok, nmX4⟩
theorem kX5 : dv_cl 5 RX5 TX5 4 := ⟨rfl, by decide, rfl, fun w hw => by
  have h : (u_ws RX5 TX5 4).all (fun w => decide (w ∈ lw_tbl) && goodWord w) = true := by decide +kernel
  have h1 := List.all_eq_true.mp h w hw
  simp only [Bool.and_eq_true, decide_eq_true_eq] at h1
  exact List.mem_filter.mpr h1, tyX5, tyX5_ok, nmX5⟩
theorem kX6 : dv_cl 6 RX6 TX6 3 := ⟨rfl, by decide, rfl, fun w hw => by
  have h : (u_ws RX6 TX6 3).all (fun w => decide (w ∈ lw_tbl) && goodWord w) = true := by decide +kernel
  have h1 := List.all_eq_true.mp h w hw
  simp only [Bool.and_eq_true, decide_eq_true_eq] at h1
  exact List.mem_filter.mpr h1, tyX6, tyX6_ok, nmX6⟩
theorem kX7 : dv_cl 7 RX7 TX7 15 := ⟨rfl, by decide, rfl, fun w hw => by
  have h : (u_ws RX7 TX7 15).all (fun w => decide (w ∈ lw_tbl) && goodWord w) = true := by decide +kernel
  have h1 := List.all_eq_true.mp h w hw
  simp only [Bool.and_eq_true, decide_eq_true_eq] at h1
  exact List.mem_filter.mpr h1, tyX7, tyX7_ok, nmX7⟩
theorem kX8 : dv_cl 8 RX8 TX8 38 := ⟨rfl, by decide, rfl, fun w hw => by
  have h : (u_ws RX8 TX8 38).all (fun w => decide (w ∈ lw_tbl) && goodWord w) = true := by decide +kernel
  have h1 := List.all_eq_true.mp h w hw
  simp only [Bool.and_eq_true, decide_eq_true_eq] at h1
  exact List.mem_filter.mpr h1, tyX8, tyX8_ok, nmX8⟩
theorem fX4_19 : dv_F RX4 19 4 0 true (.array .int) := ⟨_, _, _, kX4, by decide, dv_T_in (i := 76) (by decide +kernel) rfl, rfl, by decide +kernel⟩
theorem fX4_9 : dv_F RX4 9 4 1 false .int := ⟨_, _, _, kX4, by decide, dv_T_in (i := 77) (by decide +kernel) rfl, rfl, by decide +kernel⟩
theorem fX4_15 : dv_F RX4 15 4 2 false .boolean := ⟨_, _, _, kX4, by decide, dv_T_in (i := 78) (by decide +kernel) rfl, rfl, by decide +kernel⟩
theorem fX1_9 : dv_F RX1 9 1 0 true (.array .int) := ⟨_, _, _, kX1, by decide, dv_T_in (i := 93) (by decide +kernel) rfl, rfl, by decide +kernel⟩
theorem fX1_15 : dv_F RX1 15 1 1 true (.array .int) := ⟨_, _, _, kX1, by decide, dv_T_in (i := 94) (by decide +kernel) rfl, rfl, by decide +kernel⟩
theorem fX1_18 : dv_F RX1 18 1 2 true (.array .int) := ⟨_, _, _, kX1, by decide, dv_T_in (i := 95) (by decide +kernel) rfl, rfl, by decide +kernel⟩
theorem fX1_21 : dv_F RX1 21 1 3 true (.array .long) := ⟨_, _, _, kX1, by decide, dv_T_in (i := 96) (by decide +kernel) rfl, rfl, by decide +kernel⟩
theorem fX1_25 : dv_F RX1 25 1 4 false .int := ⟨_, _, _, kX1, by decide, dv_T_in (i := 97) (by decide +kernel) rfl, rfl, by decide +kernel⟩
theorem fX0_9 : dv_F RX0 9 0 0 true (.array .long) := ⟨_, _, _, kX0, by decide, dv_T_in (i := 116) (by decide +kernel) rfl, rfl, by decide +kernel⟩
theorem fX0_15 : dv_F RX0 15 0 1 true (.array .int) := ⟨_, _, _, kX0, by decide, dv_T_in (i := 117) (by decide +kernel) rfl, rfl, by decide +kernel⟩
theorem fX0_19 : dv_F RX0 19 0 2 true (.array .int) := ⟨_, _, _, kX0, by decide, dv_T_in (i := 118) (by decide +kernel) rfl, rfl, by decide +kernel⟩
theorem fX0_22 : dv_F RX0 22 0 3 true (.array .int) := ⟨_, _, _, kX0, by decide, dv_T_in (i := 119) (by decide +kernel) rfl, rfl, by decide +kernel⟩
theorem fX0_25 : dv_F RX0 25 0 4 true (.array .int) := ⟨_, _, _, kX0, by decide, dv_T_in (i := 120) (by decide +kernel) rfl, rfl, by decide +kernel⟩
theorem fX0_28 : dv_F RX0 28 0 5 false .int := ⟨_, _, _, kX0, by decide, dv_T_in (i := 121) (by decide +kernel) rfl, rfl, by decide +kernel⟩
theorem fX3_9 : dv_F RX3 9 3 0 true (.array .int) := ⟨_, _, _, kX3, by decide, dv_T_in (i := 141) (by decide +kernel) rfl, rfl, by decide +kernel⟩
theorem fX3_15 : dv_F RX3 15 3 1 false .int := ⟨_, _, _, kX3, by decide, dv_T_in (i := 142) (by decide +kernel) rfl, rfl, by decide +kernel⟩
theorem fX5_9 : dv_F RX5 9 5 0 true (.array .int) := ⟨_, _, _, kX5, by decide, dv_T_in (i := 157) (by decide +kernel) rfl, rfl, by decide +kernel⟩
theorem fX5_15 : dv_F RX5 15 5 1 true (.array .int) := ⟨_, _, _, kX5, by decide, dv_T_in (i := 158) (by decide +kernel) rfl, rfl, by decide +kernel⟩
theorem fX5_20 : dv_F RX5 20 5 2 true (.array (.object "NameHouse$Text")) := ⟨_, _, _, kX5, by decide, dv_T_in (i := 159) (by decide +kernel) rfl, rfl, by decide +kernel⟩
theorem fX5_24 : dv_F RX5 24 5 3 false .int := ⟨_, _, _, kX5, by decide, dv_T_in (i := 160) (by decide +kernel) rfl, rfl, by decide +kernel⟩
theorem fX6_9 : dv_F RX6 9 6 0 true (.array .int) := ⟨_, _, _, kX6, by decide, dv_T_in (i := 176) (by decide +kernel) rfl, rfl, by decide +kernel⟩
theorem fX6_15 : dv_F RX6 15 6 1 true (.array .int) := ⟨_, _, _, kX6, by decide, dv_T_in (i := 177) (by decide +kernel) rfl, rfl, by decide +kernel⟩
theorem fX6_18 : dv_F RX6 18 6 2 false .int := ⟨_, _, _, kX6, by decide, dv_T_in (i := 178) (by decide +kernel) rfl, rfl, by decide +kernel⟩
theorem fX2_9 : dv_F RX2 9 2 0 true (.array .boolean) := ⟨_, _, _, kX2, by decide, dv_T_in (i := 194) (by decide +kernel) rfl, rfl, by decide +kernel⟩
theorem fX2_17 : dv_F RX2 17 2 1 true (.array (.object "NameHouse$Text")) := ⟨_, _, _, kX2, by decide, dv_T_in (i := 195) (by decide +kernel) rfl, rfl, by decide +kernel⟩
theorem fX2_21 : dv_F RX2 21 2 2 false .int := ⟨_, _, _, kX2, by decide, dv_T_in (i := 196) (by decide +kernel) rfl, rfl, by decide +kernel⟩
theorem fX7_14 : dv_F RX7 14 7 0 true (.object "NameHouse$Text") := ⟨_, _, _, kX7, by decide, dv_T_in (i := 205) (by decide +kernel) rfl, rfl, by decide +kernel⟩
theorem fX7_18 : dv_F RX7 18 7 1 true (.object "NameHouse$Text") := ⟨_, _, _, kX7, by decide, dv_T_in (i := 206) (by decide +kernel) rfl, rfl, by decide +kernel⟩
theorem fX7_21 : dv_F RX7 21 7 2 true (.object "NameHouse$Text") := ⟨_, _, _, kX7, by decide, dv_T_in (i := 207) (by decide +kernel) rfl, rfl, by decide +kernel⟩
theorem fX7_24 : dv_F RX7 24 7 3 true (.object "NameHouse$Text") := ⟨_, _, _, kX7, by decide, dv_T_in (i := 208) (by decide +kernel) rfl, rfl, by decide +kernel⟩
theorem fX7_30 : dv_F RX7 30 7 4 true (.object "NameHouse$Cut") := ⟨_, _, _, kX7, by decide, dv_T_in (i := 209) (by decide +kernel) rfl, rfl, by decide +kernel⟩
theorem fX7_37 : dv_F RX7 37 7 5 true (.object "NameHouse$Book") := ⟨_, _, _, kX7, by decide, dv_T_in (i := 210) (by decide +kernel) rfl, rfl, by decide +kernel⟩
theorem fX7_44 : dv_F RX7 44 7 6 true (.object "NameHouse$Scopes") := ⟨_, _, _, kX7, by decide, dv_T_in (i := 211) (by decide +kernel) rfl, rfl, by decide +kernel⟩
theorem fX7_51 : dv_F RX7 51 7 7 true (.object "NameHouse$Things") := ⟨_, _, _, kX7, by decide, dv_T_in (i := 212) (by decide +kernel) rfl, rfl, by decide +kernel⟩
theorem fX7_58 : dv_F RX7 58 7 8 true (.object "NameHouse$Uses") := ⟨_, _, _, kX7, by decide, dv_T_in (i := 213) (by decide +kernel) rfl, rfl, by decide +kernel⟩
theorem fX7_65 : dv_F RX7 65 7 9 true (.object "NameHouse$Renames") := ⟨_, _, _, kX7, by decide, dv_T_in (i := 214) (by decide +kernel) rfl, rfl, by decide +kernel⟩
theorem fX7_69 : dv_F RX7 69 7 10 true (.object "NameHouse$Renames") := ⟨_, _, _, kX7, by decide, dv_T_in (i := 215) (by decide +kernel) rfl, rfl, by decide +kernel⟩
theorem fX7_72 : dv_F RX7 72 7 11 true (.array .boolean) := ⟨_, _, _, kX7, by decide, dv_T_in (i := 216) (by decide +kernel) rfl, rfl, by decide +kernel⟩
theorem fX7_76 : dv_F RX7 76 7 12 true (.array .int) := ⟨_, _, _, kX7, by decide, dv_T_in (i := 217) (by decide +kernel) rfl, rfl, by decide +kernel⟩
theorem fX7_80 : dv_F RX7 80 7 13 false .boolean := ⟨_, _, _, kX7, by decide, dv_T_in (i := 218) (by decide +kernel) rfl, rfl, by decide +kernel⟩
theorem fX7_84 : dv_F RX7 84 7 14 false .int := ⟨_, _, _, kX7, by decide, dv_T_in (i := 219) (by decide +kernel) rfl, rfl, by decide +kernel⟩
theorem fX8_1 : dv_F RX8 1 8 0 false .int := ⟨_, _, _, kX8, by decide, dv_T_in (i := 853) (by decide +kernel) rfl, rfl, by decide +kernel⟩
theorem fX8_7 : dv_F RX8 7 8 1 false .int := ⟨_, _, _, kX8, by decide, dv_T_in (i := 854) (by decide +kernel) rfl, rfl, by decide +kernel⟩
theorem fX8_13 : dv_F RX8 13 8 2 true (.array .byte) := ⟨_, _, _, kX8, by decide, dv_T_in (i := 855) (by decide +kernel) rfl, rfl, by decide +kernel⟩
theorem fX8_10 : dv_F RX8 10 8 3 false .int := ⟨_, _, _, kX8, by decide, dv_T_in (i := 856) (by decide +kernel) rfl, rfl, by decide +kernel⟩
theorem fX8_40 : dv_F RX8 40 8 4 false .int := ⟨_, _, _, kX8, by decide, dv_T_in (i := 857) (by decide +kernel) rfl, rfl, by decide +kernel⟩
theorem fX8_120 : dv_F RX8 120 8 5 false .int := ⟨_, _, _, kX8, by decide, dv_T_in (i := 858) (by decide +kernel) rfl, rfl, by decide +kernel⟩
theorem fX8_137 : dv_F RX8 137 8 6 false .int := ⟨_, _, _, kX8, by decide, dv_T_in (i := 859) (by decide +kernel) rfl, rfl, by decide +kernel⟩
theorem fX8_43 : dv_F RX8 43 8 7 true (.array .int) := ⟨_, _, _, kX8, by decide, dv_T_in (i := 860) (by decide +kernel) rfl, rfl, by decide +kernel⟩
theorem fX8_47 : dv_F RX8 47 8 8 true (.array .int) := ⟨_, _, _, kX8, by decide, dv_T_in (i := 861) (by decide +kernel) rfl, rfl, by decide +kernel⟩
theorem fX8_50 : dv_F RX8 50 8 9 true (.array .int) := ⟨_, _, _, kX8, by decide, dv_T_in (i := 862) (by decide +kernel) rfl, rfl, by decide +kernel⟩
theorem fX8_53 : dv_F RX8 53 8 10 true (.array .int) := ⟨_, _, _, kX8, by decide, dv_T_in (i := 863) (by decide +kernel) rfl, rfl, by decide +kernel⟩
theorem fX8_56 : dv_F RX8 56 8 11 true (.array .int) := ⟨_, _, _, kX8, by decide, dv_T_in (i := 864) (by decide +kernel) rfl, rfl, by decide +kernel⟩
theorem fX8_59 : dv_F RX8 59 8 12 true (.array .int) := ⟨_, _, _, kX8, by decide, dv_T_in (i := 865) (by decide +kernel) rfl, rfl, by decide +kernel⟩
theorem fX8_62 : dv_F RX8 62 8 13 true (.array .byte) := ⟨_, _, _, kX8, by decide, dv_T_in (i := 866) (by decide +kernel) rfl, rfl, by decide +kernel⟩
theorem fX8_65 : dv_F RX8 65 8 14 true (.array .int) := ⟨_, _, _, kX8, by decide, dv_T_in (i := 867) (by decide +kernel) rfl, rfl, by decide +kernel⟩
theorem fX8_68 : dv_F RX8 68 8 15 true (.array .int) := ⟨_, _, _, kX8, by decide, dv_T_in (i := 868) (by decide +kernel) rfl, rfl, by decide +kernel⟩
theorem fX8_162 : dv_F RX8 162 8 16 false .int := ⟨_, _, _, kX8, by decide, dv_T_in (i := 869) (by decide +kernel) rfl, rfl, by decide +kernel⟩
theorem fX8_165 : dv_F RX8 165 8 17 false .int := ⟨_, _, _, kX8, by decide, dv_T_in (i := 870) (by decide +kernel) rfl, rfl, by decide +kernel⟩
theorem fX8_71 : dv_F RX8 71 8 18 true (.array .byte) := ⟨_, _, _, kX8, by decide, dv_T_in (i := 871) (by decide +kernel) rfl, rfl, by decide +kernel⟩
theorem fX8_74 : dv_F RX8 74 8 19 true (.array .int) := ⟨_, _, _, kX8, by decide, dv_T_in (i := 872) (by decide +kernel) rfl, rfl, by decide +kernel⟩
theorem fX8_77 : dv_F RX8 77 8 20 true (.array .int) := ⟨_, _, _, kX8, by decide, dv_T_in (i := 873) (by decide +kernel) rfl, rfl, by decide +kernel⟩
theorem fX8_80 : dv_F RX8 80 8 21 true (.array .int) := ⟨_, _, _, kX8, by decide, dv_T_in (i := 874) (by decide +kernel) rfl, rfl, by decide +kernel⟩
theorem fX8_83 : dv_F RX8 83 8 22 true (.array .int) := ⟨_, _, _, kX8, by decide, dv_T_in (i := 875) (by decide +kernel) rfl, rfl, by decide +kernel⟩
theorem fX8_86 : dv_F RX8 86 8 23 true (.array .int) := ⟨_, _, _, kX8, by decide, dv_T_in (i := 876) (by decide +kernel) rfl, rfl, by decide +kernel⟩
theorem fX8_89 : dv_F RX8 89 8 24 true (.array .byte) := ⟨_, _, _, kX8, by decide, dv_T_in (i := 877) (by decide +kernel) rfl, rfl, by decide +kernel⟩
theorem fX8_92 : dv_F RX8 92 8 25 true (.array .byte) := ⟨_, _, _, kX8, by decide, dv_T_in (i := 878) (by decide +kernel) rfl, rfl, by decide +kernel⟩
theorem fX8_220 : dv_F RX8 220 8 26 false .int := ⟨_, _, _, kX8, by decide, dv_T_in (i := 879) (by decide +kernel) rfl, rfl, by decide +kernel⟩
theorem fX8_210 : dv_F RX8 210 8 27 false .int := ⟨_, _, _, kX8, by decide, dv_T_in (i := 880) (by decide +kernel) rfl, rfl, by decide +kernel⟩
theorem fX8_95 : dv_F RX8 95 8 28 true (.array .boolean) := ⟨_, _, _, kX8, by decide, dv_T_in (i := 881) (by decide +kernel) rfl, rfl, by decide +kernel⟩
theorem fX8_99 : dv_F RX8 99 8 29 true (.array .boolean) := ⟨_, _, _, kX8, by decide, dv_T_in (i := 882) (by decide +kernel) rfl, rfl, by decide +kernel⟩
theorem fX8_102 : dv_F RX8 102 8 30 true (.array .byte) := ⟨_, _, _, kX8, by decide, dv_T_in (i := 883) (by decide +kernel) rfl, rfl, by decide +kernel⟩
theorem fX8_105 : dv_F RX8 105 8 31 true (.array .byte) := ⟨_, _, _, kX8, by decide, dv_T_in (i := 884) (by decide +kernel) rfl, rfl, by decide +kernel⟩
theorem fX8_108 : dv_F RX8 108 8 32 true (.array .byte) := ⟨_, _, _, kX8, by decide, dv_T_in (i := 885) (by decide +kernel) rfl, rfl, by decide +kernel⟩
theorem fX8_111 : dv_F RX8 111 8 33 true (.array .int) := ⟨_, _, _, kX8, by decide, dv_T_in (i := 886) (by decide +kernel) rfl, rfl, by decide +kernel⟩
theorem fX8_114 : dv_F RX8 114 8 34 true (.array .int) := ⟨_, _, _, kX8, by decide, dv_T_in (i := 887) (by decide +kernel) rfl, rfl, by decide +kernel⟩
theorem fX8_117 : dv_F RX8 117 8 35 true (.array .int) := ⟨_, _, _, kX8, by decide, dv_T_in (i := 888) (by decide +kernel) rfl, rfl, by decide +kernel⟩
theorem fX8_151 : dv_F RX8 151 8 36 false .boolean := ⟨_, _, _, kX8, by decide, dv_T_in (i := 889) (by decide +kernel) rfl, rfl, by decide +kernel⟩
theorem fX8_233 : dv_F RX8 233 8 37 false .int := ⟨_, _, _, kX8, by decide, dv_T_in (i := 890) (by decide +kernel) rfl, rfl, by decide +kernel⟩
theorem vX0_size : dv_mv yX0_size cX0_size 1 (some .int) 0 0 := ⟨⟨dv_T_in (i := 751) (by decide +kernel) rfl, dv_T_in (i := 51) (by decide +kernel) rfl, ⟨by decide +kernel, by decide +kernel⟩, by decide +kernel⟩, dv_T_in (i := 749) (by decide +kernel) rfl, dv_T_in (i := 750) (by decide +kernel) rfl, _, _, kX0⟩
theorem vX0_isFull : dv_mv yX0_isFull cX0_isFull 1 (some .boolean) 0 0 := ⟨⟨dv_T_in (i := 534) (by decide +kernel) rfl, dv_T_in (i := 51) (by decide +kernel) rfl, ⟨by decide +kernel, by decide +kernel⟩, by decide +kernel⟩, dv_T_in (i := 532) (by decide +kernel) rfl, dv_T_in (i := 533) (by decide +kernel) rfl, _, _, kX0⟩
theorem vX0_has : dv_mv yX0_has cX0_has 2 (some .boolean) 1 0 := ⟨⟨dv_T_in (i := 505) (by decide +kernel) rfl, dv_T_in (i := 51) (by decide +kernel) rfl, ⟨by decide +kernel, by decide +kernel⟩, by decide +kernel⟩, dv_T_in (i := 503) (by decide +kernel) rfl, dv_T_in (i := 504) (by decide +kernel) rfl, _, _, kX0⟩
theorem vX0_add : dv_mv yX0_add cX0_add 5 (some .int) 2 0 := ⟨⟨dv_T_in (i := 538) (by decide +kernel) rfl, dv_T_in (i := 51) (by decide +kernel) rfl, ⟨by decide +kernel, by decide +kernel⟩, by decide +kernel⟩, dv_T_in (i := 536) (by decide +kernel) rfl, dv_T_in (i := 537) (by decide +kernel) rfl, _, _, kX0⟩
theorem vX0_numberOf : dv_mv yX0_numberOf cX0_numberOf 4 (some .int) 1 0 := ⟨⟨dv_T_in (i := 493) (by decide +kernel) rfl, dv_T_in (i := 51) (by decide +kernel) rfl, ⟨by decide +kernel, by decide +kernel⟩, by decide +kernel⟩, dv_T_in (i := 491) (by decide +kernel) rfl, dv_T_in (i := 492) (by decide +kernel) rfl, _, _, kX0⟩
theorem vX0_lengthOf : dv_mv yX0_lengthOf cX0_lengthOf 6 (some .int) 1 0 := ⟨⟨dv_T_in (i := 661) (by decide +kernel) rfl, dv_T_in (i := 51) (by decide +kernel) rfl, ⟨by decide +kernel, by decide +kernel⟩, by decide +kernel⟩, dv_T_in (i := 659) (by decide +kernel) rfl, dv_T_in (i := 660) (by decide +kernel) rfl, _, _, kX0⟩
theorem vX0_letterOf : dv_mv yX0_letterOf cX0_letterOf 4 (some .int) 2 0 := ⟨⟨dv_T_in (i := 666) (by decide +kernel) rfl, dv_T_in (i := 51) (by decide +kernel) rfl, ⟨by decide +kernel, by decide +kernel⟩, by decide +kernel⟩, dv_T_in (i := 664) (by decide +kernel) rfl, dv_T_in (i := 665) (by decide +kernel) rfl, _, _, kX0⟩
theorem vX0_rolesOf : dv_mv yX0_rolesOf cX0_rolesOf 2 (some .int) 1 0 := ⟨⟨dv_T_in (i := 501) (by decide +kernel) rfl, dv_T_in (i := 51) (by decide +kernel) rfl, ⟨by decide +kernel, by decide +kernel⟩, by decide +kernel⟩, dv_T_in (i := 499) (by decide +kernel) rfl, dv_T_in (i := 500) (by decide +kernel) rfl, _, _, kX0⟩
theorem vX0_roleOf : dv_mv yX0_roleOf cX0_roleOf 3 (some .int) 1 0 := ⟨⟨dv_T_in (i := 497) (by decide +kernel) rfl, dv_T_in (i := 51) (by decide +kernel) rfl, ⟨by decide +kernel, by decide +kernel⟩, by decide +kernel⟩, dv_T_in (i := 495) (by decide +kernel) rfl, dv_T_in (i := 496) (by decide +kernel) rfl, _, _, kX0⟩
theorem vX0_shortFor : dv_mv yX0_shortFor cX0_shortFor 2 (some .int) 1 0 := ⟨⟨dv_T_in (i := 565) (by decide +kernel) rfl, dv_T_in (i := 51) (by decide +kernel) rfl, ⟨by decide +kernel, by decide +kernel⟩, by decide +kernel⟩, dv_T_in (i := 563) (by decide +kernel) rfl, dv_T_in (i := 564) (by decide +kernel) rfl, _, _, kX0⟩
theorem vX0_setShort : dv_mv yX0_setShort cX0_setShort 3 none 2 0 := ⟨⟨dv_T_in (i := 548) (by decide +kernel) rfl, dv_T_in (i := 51) (by decide +kernel) rfl, ⟨by decide +kernel, by decide +kernel⟩, by decide +kernel⟩, dv_T_in (i := 546) (by decide +kernel) rfl, dv_T_in (i := 547) (by decide +kernel) rfl, _, _, kX0⟩
theorem vX0_opened : dv_mv yX0_opened cX0_opened 4 (some .int) 1 0 := ⟨⟨dv_T_in (i := 577) (by decide +kernel) rfl, dv_T_in (i := 51) (by decide +kernel) rfl, ⟨by decide +kernel, by decide +kernel⟩, by decide +kernel⟩, dv_T_in (i := 575) (by decide +kernel) rfl, dv_T_in (i := 576) (by decide +kernel) rfl, _, _, kX0⟩
theorem vX0_join : dv_mv yX0_join cX0_join 6 none 2 0 := ⟨⟨dv_T_in (i := 556) (by decide +kernel) rfl, dv_T_in (i := 51) (by decide +kernel) rfl, ⟨by decide +kernel, by decide +kernel⟩, by decide +kernel⟩, dv_T_in (i := 554) (by decide +kernel) rfl, dv_T_in (i := 555) (by decide +kernel) rfl, _, _, kX0⟩
theorem vX0_groupSize : dv_mv yX0_groupSize cX0_groupSize 4 (some .int) 1 0 := ⟨⟨dv_T_in (i := 595) (by decide +kernel) rfl, dv_T_in (i := 51) (by decide +kernel) rfl, ⟨by decide +kernel, by decide +kernel⟩, by decide +kernel⟩, dv_T_in (i := 593) (by decide +kernel) rfl, dv_T_in (i := 594) (by decide +kernel) rfl, _, _, kX0⟩
theorem vX0_clearUsed : dv_mv yX0_clearUsed cX0_clearUsed 2 none 0 0 := ⟨⟨dv_T_in (i := 573) (by decide +kernel) rfl, dv_T_in (i := 51) (by decide +kernel) rfl, ⟨by decide +kernel, by decide +kernel⟩, by decide +kernel⟩, dv_T_in (i := 571) (by decide +kernel) rfl, dv_T_in (i := 572) (by decide +kernel) rfl, _, _, kX0⟩
theorem vX0_addUsed : dv_mv yX0_addUsed cX0_addUsed 2 none 1 0 := ⟨⟨dv_T_in (i := 582) (by decide +kernel) rfl, dv_T_in (i := 51) (by decide +kernel) rfl, ⟨by decide +kernel, by decide +kernel⟩, by decide +kernel⟩, dv_T_in (i := 580) (by decide +kernel) rfl, dv_T_in (i := 581) (by decide +kernel) rfl, _, _, kX0⟩
theorem vX0_usedOf : dv_mv yX0_usedOf cX0_usedOf 2 (some .int) 1 0 := ⟨⟨dv_T_in (i := 586) (by decide +kernel) rfl, dv_T_in (i := 51) (by decide +kernel) rfl, ⟨by decide +kernel, by decide +kernel⟩, by decide +kernel⟩, dv_T_in (i := 584) (by decide +kernel) rfl, dv_T_in (i := 585) (by decide +kernel) rfl, _, _, kX0⟩
theorem vX0_headOf : dv_mv yX0_headOf cX0_headOf 4 (some .int) 1 0 := ⟨⟨dv_T_in (i := 590) (by decide +kernel) rfl, dv_T_in (i := 51) (by decide +kernel) rfl, ⟨by decide +kernel, by decide +kernel⟩, by decide +kernel⟩, dv_T_in (i := 588) (by decide +kernel) rfl, dv_T_in (i := 589) (by decide +kernel) rfl, _, _, kX0⟩
theorem vX0_mixedGroups : dv_mv yX0_mixedGroups cX0_mixedGroups 5 (some .int) 0 0 := ⟨⟨dv_T_in (i := 628) (by decide +kernel) rfl, dv_T_in (i := 51) (by decide +kernel) rfl, ⟨by decide +kernel, by decide +kernel⟩, by decide +kernel⟩, dv_T_in (i := 626) (by decide +kernel) rfl, dv_T_in (i := 627) (by decide +kernel) rfl, _, _, kX0⟩
theorem vX1_size : dv_mv yX1_size cX1_size 1 (some .int) 0 1 := ⟨⟨dv_T_in (i := 471) (by decide +kernel) rfl, dv_T_in (i := 50) (by decide +kernel) rfl, ⟨by decide +kernel, by decide +kernel⟩, by decide +kernel⟩, dv_T_in (i := 469) (by decide +kernel) rfl, dv_T_in (i := 470) (by decide +kernel) rfl, _, _, kX1⟩
theorem vX1_has : dv_mv yX1_has cX1_has 2 (some .boolean) 1 1 := ⟨⟨dv_T_in (i := 489) (by decide +kernel) rfl, dv_T_in (i := 50) (by decide +kernel) rfl, ⟨by decide +kernel, by decide +kernel⟩, by decide +kernel⟩, dv_T_in (i := 487) (by decide +kernel) rfl, dv_T_in (i := 488) (by decide +kernel) rfl, _, _, kX1⟩
theorem vX1_lengthOf : dv_mv yX1_lengthOf cX1_lengthOf 2 (some .int) 1 1 := ⟨⟨dv_T_in (i := 644) (by decide +kernel) rfl, dv_T_in (i := 50) (by decide +kernel) rfl, ⟨by decide +kernel, by decide +kernel⟩, by decide +kernel⟩, dv_T_in (i := 642) (by decide +kernel) rfl, dv_T_in (i := 643) (by decide +kernel) rfl, _, _, kX1⟩
theorem vX1_at : dv_mv yX1_at cX1_at 3 (some .int) 2 1 := ⟨⟨dv_T_in (i := 640) (by decide +kernel) rfl, dv_T_in (i := 50) (by decide +kernel) rfl, ⟨by decide +kernel, by decide +kernel⟩, by decide +kernel⟩, dv_T_in (i := 638) (by decide +kernel) rfl, dv_T_in (i := 639) (by decide +kernel) rfl, _, _, kX1⟩
theorem vX7_isDigit : dv_ms yX7_isDigit cX7_isDigit 1 (some .boolean) 1 := ⟨⟨dv_T_in (i := 331) (by decide +kernel) rfl, dv_T_in (i := 48) (by decide +kernel) rfl, ⟨by decide +kernel, by decide +kernel⟩, by decide +kernel⟩, dv_T_in (i := 330) (by decide +kernel) rfl⟩
theorem vX1_isNumber : dv_mv yX1_isNumber cX1_isNumber 2 (some .boolean) 1 1 := ⟨⟨dv_T_in (i := 636) (by decide +kernel) rfl, dv_T_in (i := 50) (by decide +kernel) rfl, ⟨by decide +kernel, by decide +kernel⟩, by decide +kernel⟩, dv_T_in (i := 634) (by decide +kernel) rfl, dv_T_in (i := 635) (by decide +kernel) rfl, _, _, kX1⟩
theorem vX1_keyOf : dv_mv yX1_keyOf cX1_keyOf 2 (some .long) 1 1 := ⟨⟨dv_T_in (i := 485) (by decide +kernel) rfl, dv_T_in (i := 50) (by decide +kernel) rfl, ⟨by decide +kernel, by decide +kernel⟩, by decide +kernel⟩, dv_T_in (i := 483) (by decide +kernel) rfl, dv_T_in (i := 484) (by decide +kernel) rfl, _, _, kX1⟩
theorem vX4_size : dv_mv yX4_size cX4_size 1 (some .int) 0 4 := ⟨⟨dv_T_in (i := 258) (by decide +kernel) rfl, dv_T_in (i := 49) (by decide +kernel) rfl, ⟨by decide +kernel, by decide +kernel⟩, by decide +kernel⟩, dv_T_in (i := 256) (by decide +kernel) rfl, dv_T_in (i := 257) (by decide +kernel) rfl, _, _, kX4⟩
theorem vX4_has : dv_mv yX4_has cX4_has 2 (some .boolean) 1 4 := ⟨⟨dv_T_in (i := 323) (by decide +kernel) rfl, dv_T_in (i := 49) (by decide +kernel) rfl, ⟨by decide +kernel, by decide +kernel⟩, by decide +kernel⟩, dv_T_in (i := 321) (by decide +kernel) rfl, dv_T_in (i := 322) (by decide +kernel) rfl, _, _, kX4⟩
theorem vX4_at : dv_mv yX4_at cX4_at 2 (some .int) 1 4 := ⟨⟨dv_T_in (i := 319) (by decide +kernel) rfl, dv_T_in (i := 49) (by decide +kernel) rfl, ⟨by decide +kernel, by decide +kernel⟩, by decide +kernel⟩, dv_T_in (i := 317) (by decide +kernel) rfl, dv_T_in (i := 318) (by decide +kernel) rfl, _, _, kX4⟩
theorem vX7_isGreat : dv_ms yX7_isGreat cX7_isGreat 1 (some .boolean) 1 := ⟨⟨dv_T_in (i := 340) (by decide +kernel) rfl, dv_T_in (i := 48) (by decide +kernel) rfl, ⟨by decide +kernel, by decide +kernel⟩, by decide +kernel⟩, dv_T_in (i := 339) (by decide +kernel) rfl⟩
theorem vX7_smallOf : dv_ms yX7_smallOf cX7_smallOf 1 (some .int) 1 := ⟨⟨dv_T_in (i := 452) (by decide +kernel) rfl, dv_T_in (i := 48) (by decide +kernel) rfl, ⟨by decide +kernel, by decide +kernel⟩, by decide +kernel⟩, dv_T_in (i := 451) (by decide +kernel) rfl⟩
theorem vX7_isSmall : dv_ms yX7_isSmall cX7_isSmall 1 (some .boolean) 1 := ⟨⟨dv_T_in (i := 337) (by decide +kernel) rfl, dv_T_in (i := 48) (by decide +kernel) rfl, ⟨by decide +kernel, by decide +kernel⟩, by decide +kernel⟩, dv_T_in (i := 336) (by decide +kernel) rfl⟩
theorem vX1_keyBetween : dv_mv yX1_keyBetween cX1_keyBetween 6 (some .long) 2 1 := ⟨⟨dv_T_in (i := 460) (by decide +kernel) rfl, dv_T_in (i := 50) (by decide +kernel) rfl, ⟨by decide +kernel, by decide +kernel⟩, by decide +kernel⟩, dv_T_in (i := 459) (by decide +kernel) rfl, dv_T_in (i := 10) (by decide +kernel) rfl, _, _, kX1⟩
theorem vX1_add : dv_mv yX1_add cX1_add 3 none 2 1 := ⟨⟨dv_T_in (i := 456) (by decide +kernel) rfl, dv_T_in (i := 50) (by decide +kernel) rfl, ⟨by decide +kernel, by decide +kernel⟩, by decide +kernel⟩, dv_T_in (i := 455) (by decide +kernel) rfl, dv_T_in (i := 9) (by decide +kernel) rfl, _, _, kX1⟩
theorem vX1_isCutAhead : dv_ms yX1_isCutAhead cX1_isCutAhead 4 (some .boolean) 2 := ⟨⟨dv_T_in (i := 465) (by decide +kernel) rfl, dv_T_in (i := 50) (by decide +kernel) rfl, ⟨by decide +kernel, by decide +kernel⟩, by decide +kernel⟩, dv_T_in (i := 464) (by decide +kernel) rfl⟩
theorem vX1_split : dv_mv yX1_split cX1_split 5 none 1 1 := ⟨⟨dv_T_in (i := 444) (by decide +kernel) rfl, dv_T_in (i := 50) (by decide +kernel) rfl, ⟨by decide +kernel, by decide +kernel⟩, by decide +kernel⟩, dv_T_in (i := 442) (by decide +kernel) rfl, dv_T_in (i := 443) (by decide +kernel) rfl, _, _, kX1⟩
theorem vX2_size : dv_mv yX2_size cX2_size 1 (some .int) 0 2 := ⟨⟨dv_T_in (i := 689) (by decide +kernel) rfl, dv_T_in (i := 55) (by decide +kernel) rfl, ⟨by decide +kernel, by decide +kernel⟩, by decide +kernel⟩, dv_T_in (i := 687) (by decide +kernel) rfl, dv_T_in (i := 688) (by decide +kernel) rfl, _, _, kX2⟩
theorem vX2_has : dv_mv yX2_has cX2_has 2 (some .boolean) 1 2 := ⟨⟨dv_T_in (i := 364) (by decide +kernel) rfl, dv_T_in (i := 55) (by decide +kernel) rfl, ⟨by decide +kernel, by decide +kernel⟩, by decide +kernel⟩, dv_T_in (i := 362) (by decide +kernel) rfl, dv_T_in (i := 363) (by decide +kernel) rfl, _, _, kX2⟩
theorem vX2_nameOf : dv_mv yX2_nameOf cX2_nameOf 2 (some (.object "NameHouse$Text")) 1 2 := ⟨⟨dv_T_in (i := 368) (by decide +kernel) rfl, dv_T_in (i := 55) (by decide +kernel) rfl, ⟨by decide +kernel, by decide +kernel⟩, by decide +kernel⟩, dv_T_in (i := 366) (by decide +kernel) rfl, dv_T_in (i := 367) (by decide +kernel) rfl, _, _, kX2⟩
theorem vX4_clear : dv_mv yX4_clear cX4_clear 1 none 0 4 := ⟨⟨dv_T_in (i := 315) (by decide +kernel) rfl, dv_T_in (i := 49) (by decide +kernel) rfl, ⟨by decide +kernel, by decide +kernel⟩, by decide +kernel⟩, dv_T_in (i := 313) (by decide +kernel) rfl, dv_T_in (i := 314) (by decide +kernel) rfl, _, _, kX4⟩
theorem vX4_add : dv_mv yX4_add cX4_add 2 none 1 4 := ⟨⟨dv_T_in (i := 266) (by decide +kernel) rfl, dv_T_in (i := 49) (by decide +kernel) rfl, ⟨by decide +kernel, by decide +kernel⟩, by decide +kernel⟩, dv_T_in (i := 264) (by decide +kernel) rfl, dv_T_in (i := 265) (by decide +kernel) rfl, _, _, kX4⟩
theorem vX4_set : dv_mv yX4_set cX4_set 3 none 1 4 := ⟨⟨dv_T_in (i := 413) (by decide +kernel) rfl, dv_T_in (i := 49) (by decide +kernel) rfl, ⟨by decide +kernel, by decide +kernel⟩, by decide +kernel⟩, dv_T_in (i := 411) (by decide +kernel) rfl, dv_T_in (i := 412) (by decide +kernel) rfl, _, _, kX4⟩
theorem vX2_putAgain : dv_mv yX2_putAgain cX2_putAgain 2 none 1 2 := ⟨⟨dv_T_in (i := 685) (by decide +kernel) rfl, dv_T_in (i := 55) (by decide +kernel) rfl, ⟨by decide +kernel, by decide +kernel⟩, by decide +kernel⟩, dv_T_in (i := 683) (by decide +kernel) rfl, dv_T_in (i := 684) (by decide +kernel) rfl, _, _, kX2⟩
theorem vX2_put : dv_mv yX2_put cX2_put 3 none 2 2 := ⟨⟨dv_T_in (i := 680) (by decide +kernel) rfl, dv_T_in (i := 55) (by decide +kernel) rfl, ⟨by decide +kernel, by decide +kernel⟩, by decide +kernel⟩, dv_T_in (i := 678) (by decide +kernel) rfl, dv_T_in (i := 679) (by decide +kernel) rfl, _, _, kX2⟩
theorem vX2_drop : dv_mv yX2_drop cX2_drop 2 none 1 2 := ⟨⟨dv_T_in (i := 738) (by decide +kernel) rfl, dv_T_in (i := 55) (by decide +kernel) rfl, ⟨by decide +kernel, by decide +kernel⟩, by decide +kernel⟩, dv_T_in (i := 736) (by decide +kernel) rfl, dv_T_in (i := 737) (by decide +kernel) rfl, _, _, kX2⟩
theorem vX2_clear : dv_mv yX2_clear cX2_clear 2 none 0 2 := ⟨⟨dv_T_in (i := 697) (by decide +kernel) rfl, dv_T_in (i := 55) (by decide +kernel) rfl, ⟨by decide +kernel, by decide +kernel⟩, by decide +kernel⟩, dv_T_in (i := 695) (by decide +kernel) rfl, dv_T_in (i := 696) (by decide +kernel) rfl, _, _, kX2⟩
theorem vX3_size : dv_mv yX3_size cX3_size 1 (some .int) 0 3 := ⟨⟨dv_T_in (i := 747) (by decide +kernel) rfl, dv_T_in (i := 52) (by decide +kernel) rfl, ⟨by decide +kernel, by decide +kernel⟩, by decide +kernel⟩, dv_T_in (i := 745) (by decide +kernel) rfl, dv_T_in (i := 746) (by decide +kernel) rfl, _, _, kX3⟩
theorem vX3_isFull : dv_mv yX3_isFull cX3_isFull 1 (some .boolean) 0 3 := ⟨⟨dv_T_in (i := 282) (by decide +kernel) rfl, dv_T_in (i := 52) (by decide +kernel) rfl, ⟨by decide +kernel, by decide +kernel⟩, by decide +kernel⟩, dv_T_in (i := 280) (by decide +kernel) rfl, dv_T_in (i := 281) (by decide +kernel) rfl, _, _, kX3⟩
theorem vX3_has : dv_mv yX3_has cX3_has 2 (some .boolean) 1 3 := ⟨⟨dv_T_in (i := 274) (by decide +kernel) rfl, dv_T_in (i := 52) (by decide +kernel) rfl, ⟨by decide +kernel, by decide +kernel⟩, by decide +kernel⟩, dv_T_in (i := 272) (by decide +kernel) rfl, dv_T_in (i := 273) (by decide +kernel) rfl, _, _, kX3⟩
theorem vX3_addWithin : dv_mv yX3_addWithin cX3_addWithin 3 (some .int) 1 3 := ⟨⟨dv_T_in (i := 286) (by decide +kernel) rfl, dv_T_in (i := 52) (by decide +kernel) rfl, ⟨by decide +kernel, by decide +kernel⟩, by decide +kernel⟩, dv_T_in (i := 284) (by decide +kernel) rfl, dv_T_in (i := 285) (by decide +kernel) rfl, _, _, kX3⟩
theorem vX3_isWithin : dv_mv yX3_isWithin cX3_isWithin 3 (some .boolean) 2 3 := ⟨⟨dv_T_in (i := 400) (by decide +kernel) rfl, dv_T_in (i := 52) (by decide +kernel) rfl, ⟨by decide +kernel, by decide +kernel⟩, by decide +kernel⟩, dv_T_in (i := 398) (by decide +kernel) rfl, dv_T_in (i := 399) (by decide +kernel) rfl, _, _, kX3⟩
theorem vX4_addNumber : dv_mv yX4_addNumber cX4_addNumber 3 none 1 4 := ⟨⟨dv_T_in (i := 262) (by decide +kernel) rfl, dv_T_in (i := 49) (by decide +kernel) rfl, ⟨by decide +kernel, by decide +kernel⟩, by decide +kernel⟩, dv_T_in (i := 260) (by decide +kernel) rfl, dv_T_in (i := 261) (by decide +kernel) rfl, _, _, kX4⟩
theorem vX4_same : dv_mv yX4_same cX4_same 3 (some .boolean) 1 4 := ⟨⟨dv_T_in (i := 376) (by decide +kernel) rfl, dv_T_in (i := 49) (by decide +kernel) rfl, ⟨by decide +kernel, by decide +kernel⟩, by decide +kernel⟩, dv_T_in (i := 374) (by decide +kernel) rfl, dv_T_in (i := 375) (by decide +kernel) rfl, _, _, kX4⟩
theorem vX7_isLetter : dv_ms yX7_isLetter cX7_isLetter 1 (some .boolean) 1 := ⟨⟨dv_T_in (i := 334) (by decide +kernel) rfl, dv_T_in (i := 48) (by decide +kernel) rfl, ⟨by decide +kernel, by decide +kernel⟩, by decide +kernel⟩, dv_T_in (i := 333) (by decide +kernel) rfl⟩
theorem vX4_isName : dv_mv yX4_isName cX4_isName 3 (some .boolean) 0 4 := ⟨⟨dv_T_in (i := 328) (by decide +kernel) rfl, dv_T_in (i := 49) (by decide +kernel) rfl, ⟨by decide +kernel, by decide +kernel⟩, by decide +kernel⟩, dv_T_in (i := 326) (by decide +kernel) rfl, dv_T_in (i := 327) (by decide +kernel) rfl, _, _, kX4⟩
theorem vX4_isWord : dv_mv yX4_isWord cX4_isWord 2 (some .boolean) 0 4 := ⟨⟨dv_T_in (i := 530) (by decide +kernel) rfl, dv_T_in (i := 49) (by decide +kernel) rfl, ⟨by decide +kernel, by decide +kernel⟩, by decide +kernel⟩, dv_T_in (i := 528) (by decide +kernel) rfl, dv_T_in (i := 529) (by decide +kernel) rfl, _, _, kX4⟩
theorem vX4_style : dv_mv yX4_style cX4_style 7 (some .int) 0 4 := ⟨⟨dv_T_in (i := 475) (by decide +kernel) rfl, dv_T_in (i := 49) (by decide +kernel) rfl, ⟨by decide +kernel, by decide +kernel⟩, by decide +kernel⟩, dv_T_in (i := 473) (by decide +kernel) rfl, dv_T_in (i := 474) (by decide +kernel) rfl, _, _, kX4⟩
theorem vX5_size : dv_mv yX5_size cX5_size 1 (some .int) 0 5 := ⟨⟨dv_T_in (i := 348) (by decide +kernel) rfl, dv_T_in (i := 53) (by decide +kernel) rfl, ⟨by decide +kernel, by decide +kernel⟩, by decide +kernel⟩, dv_T_in (i := 346) (by decide +kernel) rfl, dv_T_in (i := 347) (by decide +kernel) rfl, _, _, kX5⟩
theorem vX5_isFull : dv_mv yX5_isFull cX5_isFull 1 (some .boolean) 0 5 := ⟨⟨dv_T_in (i := 404) (by decide +kernel) rfl, dv_T_in (i := 53) (by decide +kernel) rfl, ⟨by decide +kernel, by decide +kernel⟩, by decide +kernel⟩, dv_T_in (i := 402) (by decide +kernel) rfl, dv_T_in (i := 403) (by decide +kernel) rfl, _, _, kX5⟩
theorem vX5_has : dv_mv yX5_has cX5_has 2 (some .boolean) 1 5 := ⟨⟨dv_T_in (i := 356) (by decide +kernel) rfl, dv_T_in (i := 53) (by decide +kernel) rfl, ⟨by decide +kernel, by decide +kernel⟩, by decide +kernel⟩, dv_T_in (i := 354) (by decide +kernel) rfl, dv_T_in (i := 355) (by decide +kernel) rfl, _, _, kX5⟩
theorem vX5_add : dv_mv yX5_add cX5_add 5 (some .int) 3 5 := ⟨⟨dv_T_in (i := 408) (by decide +kernel) rfl, dv_T_in (i := 53) (by decide +kernel) rfl, ⟨by decide +kernel, by decide +kernel⟩, by decide +kernel⟩, dv_T_in (i := 406) (by decide +kernel) rfl, dv_T_in (i := 407) (by decide +kernel) rfl, _, _, kX5⟩
theorem vX5_scopeOf : dv_mv yX5_scopeOf cX5_scopeOf 2 (some .int) 1 5 := ⟨⟨dv_T_in (i := 352) (by decide +kernel) rfl, dv_T_in (i := 53) (by decide +kernel) rfl, ⟨by decide +kernel, by decide +kernel⟩, by decide +kernel⟩, dv_T_in (i := 350) (by decide +kernel) rfl, dv_T_in (i := 351) (by decide +kernel) rfl, _, _, kX5⟩
theorem vX5_kindOf : dv_mv yX5_kindOf cX5_kindOf 2 (some .int) 1 5 := ⟨⟨dv_T_in (i := 440) (by decide +kernel) rfl, dv_T_in (i := 53) (by decide +kernel) rfl, ⟨by decide +kernel, by decide +kernel⟩, by decide +kernel⟩, dv_T_in (i := 438) (by decide +kernel) rfl, dv_T_in (i := 439) (by decide +kernel) rfl, _, _, kX5⟩
theorem vX5_nameOf : dv_mv yX5_nameOf cX5_nameOf 2 (some (.object "NameHouse$Text")) 1 5 := ⟨⟨dv_T_in (i := 372) (by decide +kernel) rfl, dv_T_in (i := 53) (by decide +kernel) rfl, ⟨by decide +kernel, by decide +kernel⟩, by decide +kernel⟩, dv_T_in (i := 370) (by decide +kernel) rfl, dv_T_in (i := 371) (by decide +kernel) rfl, _, _, kX5⟩
theorem vX6_size : dv_mv yX6_size cX6_size 1 (some .int) 0 6 := ⟨⟨dv_T_in (i := 384) (by decide +kernel) rfl, dv_T_in (i := 54) (by decide +kernel) rfl, ⟨by decide +kernel, by decide +kernel⟩, by decide +kernel⟩, dv_T_in (i := 382) (by decide +kernel) rfl, dv_T_in (i := 383) (by decide +kernel) rfl, _, _, kX6⟩
theorem vX6_isFull : dv_mv yX6_isFull cX6_isFull 1 (some .boolean) 0 6 := ⟨⟨dv_T_in (i := 426) (by decide +kernel) rfl, dv_T_in (i := 54) (by decide +kernel) rfl, ⟨by decide +kernel, by decide +kernel⟩, by decide +kernel⟩, dv_T_in (i := 424) (by decide +kernel) rfl, dv_T_in (i := 425) (by decide +kernel) rfl, _, _, kX6⟩
theorem vX6_has : dv_mv yX6_has cX6_has 2 (some .boolean) 1 6 := ⟨⟨dv_T_in (i := 392) (by decide +kernel) rfl, dv_T_in (i := 54) (by decide +kernel) rfl, ⟨by decide +kernel, by decide +kernel⟩, by decide +kernel⟩, dv_T_in (i := 390) (by decide +kernel) rfl, dv_T_in (i := 391) (by decide +kernel) rfl, _, _, kX6⟩
theorem vX6_add : dv_mv yX6_add cX6_add 4 (some .int) 2 6 := ⟨⟨dv_T_in (i := 430) (by decide +kernel) rfl, dv_T_in (i := 54) (by decide +kernel) rfl, ⟨by decide +kernel, by decide +kernel⟩, by decide +kernel⟩, dv_T_in (i := 428) (by decide +kernel) rfl, dv_T_in (i := 429) (by decide +kernel) rfl, _, _, kX6⟩
theorem vX6_scopeOf : dv_mv yX6_scopeOf cX6_scopeOf 2 (some .int) 1 6 := ⟨⟨dv_T_in (i := 396) (by decide +kernel) rfl, dv_T_in (i := 54) (by decide +kernel) rfl, ⟨by decide +kernel, by decide +kernel⟩, by decide +kernel⟩, dv_T_in (i := 394) (by decide +kernel) rfl, dv_T_in (i := 395) (by decide +kernel) rfl, _, _, kX6⟩
theorem vX6_thingOf : dv_mv yX6_thingOf cX6_thingOf 2 (some .int) 1 6 := ⟨⟨dv_T_in (i := 388) (by decide +kernel) rfl, dv_T_in (i := 54) (by decide +kernel) rfl, ⟨by decide +kernel, by decide +kernel⟩, by decide +kernel⟩, dv_T_in (i := 386) (by decide +kernel) rfl, dv_T_in (i := 387) (by decide +kernel) rfl, _, _, kX6⟩
theorem vX6_howManyMean : dv_mv yX6_howManyMean cX6_howManyMean 4 (some .int) 1 6 := ⟨⟨dv_T_in (i := 509) (by decide +kernel) rfl, dv_T_in (i := 54) (by decide +kernel) rfl, ⟨by decide +kernel, by decide +kernel⟩, by decide +kernel⟩, dv_T_in (i := 507) (by decide +kernel) rfl, dv_T_in (i := 508) (by decide +kernel) rfl, _, _, kX6⟩
theorem vX7_feed : dv_mv yX7_feed cX7_feed 6 (some .int) 5 7 := ⟨⟨dv_T_in (i := 254) (by decide +kernel) rfl, dv_T_in (i := 48) (by decide +kernel) rfl, ⟨by decide +kernel, by decide +kernel⟩, by decide +kernel⟩, dv_T_in (i := 252) (by decide +kernel) rfl, dv_T_in (i := 253) (by decide +kernel) rfl, _, _, kX7⟩
theorem vX7_isOnTape : dv_mv yX7_isOnTape cX7_isOnTape 2 (some .boolean) 1 7 := ⟨⟨dv_T_in (i := 307) (by decide +kernel) rfl, dv_T_in (i := 48) (by decide +kernel) rfl, ⟨by decide +kernel, by decide +kernel⟩, by decide +kernel⟩, dv_T_in (i := 306) (by decide +kernel) rfl, dv_T_in (i := 3) (by decide +kernel) rfl, _, _, kX7⟩
theorem vX7_take : dv_mv yX7_take cX7_take 3 none 1 7 := ⟨⟨dv_T_in (i := 311) (by decide +kernel) rfl, dv_T_in (i := 48) (by decide +kernel) rfl, ⟨by decide +kernel, by decide +kernel⟩, by decide +kernel⟩, dv_T_in (i := 310) (by decide +kernel) rfl, dv_T_in (i := 4) (by decide +kernel) rfl, _, _, kX7⟩
theorem vX7_takesName : dv_mv yX7_takesName cX7_takesName 2 (some .boolean) 1 7 := ⟨⟨dv_T_in (i := 303) (by decide +kernel) rfl, dv_T_in (i := 48) (by decide +kernel) rfl, ⟨by decide +kernel, by decide +kernel⟩, by decide +kernel⟩, dv_T_in (i := 302) (by decide +kernel) rfl, dv_T_in (i := 2) (by decide +kernel) rfl, _, _, kX7⟩
theorem vX7_takesWord : dv_mv yX7_takesWord cX7_takesWord 2 (some .boolean) 1 7 := ⟨⟨dv_T_in (i := 526) (by decide +kernel) rfl, dv_T_in (i := 48) (by decide +kernel) rfl, ⟨by decide +kernel, by decide +kernel⟩, by decide +kernel⟩, dv_T_in (i := 525) (by decide +kernel) rfl, dv_T_in (i := 12) (by decide +kernel) rfl, _, _, kX7⟩
theorem vX7_refused : dv_mv yX7_refused cX7_refused 2 (some .int) 1 7 := ⟨⟨dv_T_in (i := 278) (by decide +kernel) rfl, dv_T_in (i := 48) (by decide +kernel) rfl, ⟨by decide +kernel, by decide +kernel⟩, by decide +kernel⟩, dv_T_in (i := 277) (by decide +kernel) rfl, dv_T_in (i := 0) (by decide +kernel) rfl, _, _, kX7⟩
theorem vX7_accepted : dv_mv yX7_accepted cX7_accepted 2 (some .int) 1 7 := ⟨⟨dv_T_in (i := 292) (by decide +kernel) rfl, dv_T_in (i := 48) (by decide +kernel) rfl, ⟨by decide +kernel, by decide +kernel⟩, by decide +kernel⟩, dv_T_in (i := 291) (by decide +kernel) rfl, dv_T_in (i := 1) (by decide +kernel) rfl, _, _, kX7⟩
theorem vX7_scope : dv_mv yX7_scope cX7_scope 2 (some .int) 1 7 := ⟨⟨dv_T_in (i := 270) (by decide +kernel) rfl, dv_T_in (i := 48) (by decide +kernel) rfl, ⟨by decide +kernel, by decide +kernel⟩, by decide +kernel⟩, dv_T_in (i := 268) (by decide +kernel) rfl, dv_T_in (i := 269) (by decide +kernel) rfl, _, _, kX7⟩
theorem vX7_isKind : dv_ms yX7_isKind cX7_isKind 1 (some .boolean) 1 := ⟨⟨dv_T_in (i := 299) (by decide +kernel) rfl, dv_T_in (i := 48) (by decide +kernel) rfl, ⟨by decide +kernel, by decide +kernel⟩, by decide +kernel⟩, dv_T_in (i := 298) (by decide +kernel) rfl⟩
theorem vX7_nameNowOrThen : dv_mv yX7_nameNowOrThen cX7_nameNowOrThen 3 (some (.object "NameHouse$Text")) 2 7 := ⟨⟨dv_T_in (i := 360) (by decide +kernel) rfl, dv_T_in (i := 48) (by decide +kernel) rfl, ⟨by decide +kernel, by decide +kernel⟩, by decide +kernel⟩, dv_T_in (i := 359) (by decide +kernel) rfl, dv_T_in (i := 6) (by decide +kernel) rfl, _, _, kX7⟩
theorem vX7_isNameOfOther : dv_mv yX7_isNameOfOther cX7_isNameOfOther 6 (some .boolean) 4 7 := ⟨⟨dv_T_in (i := 344) (by decide +kernel) rfl, dv_T_in (i := 48) (by decide +kernel) rfl, ⟨by decide +kernel, by decide +kernel⟩, by decide +kernel⟩, dv_T_in (i := 343) (by decide +kernel) rfl, dv_T_in (i := 5) (by decide +kernel) rfl, _, _, kX7⟩
theorem vX7_wouldCatchUse : dv_mv yX7_wouldCatchUse cX7_wouldCatchUse 6 (some .boolean) 3 7 := ⟨⟨dv_T_in (i := 380) (by decide +kernel) rfl, dv_T_in (i := 48) (by decide +kernel) rfl, ⟨by decide +kernel, by decide +kernel⟩, by decide +kernel⟩, dv_T_in (i := 379) (by decide +kernel) rfl, dv_T_in (i := 7) (by decide +kernel) rfl, _, _, kX7⟩
theorem vX7_thing : dv_mv yX7_thing cX7_thing 4 (some .int) 3 7 := ⟨⟨dv_T_in (i := 296) (by decide +kernel) rfl, dv_T_in (i := 48) (by decide +kernel) rfl, ⟨by decide +kernel, by decide +kernel⟩, by decide +kernel⟩, dv_T_in (i := 294) (by decide +kernel) rfl, dv_T_in (i := 295) (by decide +kernel) rfl, _, _, kX7⟩
theorem vX7_thingMeant : dv_mv yX7_thingMeant cX7_thingMeant 8 (some .int) 3 7 := ⟨⟨dv_T_in (i := 422) (by decide +kernel) rfl, dv_T_in (i := 48) (by decide +kernel) rfl, ⟨by decide +kernel, by decide +kernel⟩, by decide +kernel⟩, dv_T_in (i := 421) (by decide +kernel) rfl, dv_T_in (i := 8) (by decide +kernel) rfl, _, _, kX7⟩
theorem vX7_use : dv_mv yX7_use cX7_use 4 (some .int) 2 7 := ⟨⟨dv_T_in (i := 418) (by decide +kernel) rfl, dv_T_in (i := 48) (by decide +kernel) rfl, ⟨by decide +kernel, by decide +kernel⟩, by decide +kernel⟩, dv_T_in (i := 416) (by decide +kernel) rfl, dv_T_in (i := 417) (by decide +kernel) rfl, _, _, kX7⟩
theorem vX7_patternOf : dv_mv yX7_patternOf cX7_patternOf 4 (some .int) 1 7 := ⟨⟨dv_T_in (i := 481) (by decide +kernel) rfl, dv_T_in (i := 48) (by decide +kernel) rfl, ⟨by decide +kernel, by decide +kernel⟩, by decide +kernel⟩, dv_T_in (i := 480) (by decide +kernel) rfl, dv_T_in (i := 11) (by decide +kernel) rfl, _, _, kX7⟩
theorem vX7_about : dv_mv yX7_about cX7_about 3 (some .int) 2 7 := ⟨⟨dv_T_in (i := 435) (by decide +kernel) rfl, dv_T_in (i := 48) (by decide +kernel) rfl, ⟨by decide +kernel, by decide +kernel⟩, by decide +kernel⟩, dv_T_in (i := 433) (by decide +kernel) rfl, dv_T_in (i := 434) (by decide +kernel) rfl, _, _, kX7⟩
theorem vX7_name : dv_mv yX7_name cX7_name 3 (some .int) 2 7 := ⟨⟨dv_T_in (i := 763) (by decide +kernel) rfl, dv_T_in (i := 48) (by decide +kernel) rfl, ⟨by decide +kernel, by decide +kernel⟩, by decide +kernel⟩, dv_T_in (i := 761) (by decide +kernel) rfl, dv_T_in (i := 762) (by decide +kernel) rfl, _, _, kX7⟩
theorem vX7_means : dv_mv yX7_means cX7_means 3 (some .int) 2 7 := ⟨⟨dv_T_in (i := 513) (by decide +kernel) rfl, dv_T_in (i := 48) (by decide +kernel) rfl, ⟨by decide +kernel, by decide +kernel⟩, by decide +kernel⟩, dv_T_in (i := 511) (by decide +kernel) rfl, dv_T_in (i := 512) (by decide +kernel) rfl, _, _, kX7⟩
theorem vX7_find : dv_mv yX7_find cX7_find 3 (some .int) 2 7 := ⟨⟨dv_T_in (i := 518) (by decide +kernel) rfl, dv_T_in (i := 48) (by decide +kernel) rfl, ⟨by decide +kernel, by decide +kernel⟩, by decide +kernel⟩, dv_T_in (i := 516) (by decide +kernel) rfl, dv_T_in (i := 517) (by decide +kernel) rfl, _, _, kX7⟩
theorem vX7_word : dv_mv yX7_word cX7_word 5 (some .int) 2 7 := ⟨⟨dv_T_in (i := 522) (by decide +kernel) rfl, dv_T_in (i := 48) (by decide +kernel) rfl, ⟨by decide +kernel, by decide +kernel⟩, by decide +kernel⟩, dv_T_in (i := 520) (by decide +kernel) rfl, dv_T_in (i := 521) (by decide +kernel) rfl, _, _, kX7⟩
theorem vX7_shorts : dv_mv yX7_shorts cX7_shorts 4 (some .boolean) 2 7 := ⟨⟨dv_T_in (i := 543) (by decide +kernel) rfl, dv_T_in (i := 48) (by decide +kernel) rfl, ⟨by decide +kernel, by decide +kernel⟩, by decide +kernel⟩, dv_T_in (i := 541) (by decide +kernel) rfl, dv_T_in (i := 542) (by decide +kernel) rfl, _, _, kX7⟩
theorem vX7_alike : dv_mv yX7_alike cX7_alike 4 (some .boolean) 2 7 := ⟨⟨dv_T_in (i := 552) (by decide +kernel) rfl, dv_T_in (i := 48) (by decide +kernel) rfl, ⟨by decide +kernel, by decide +kernel⟩, by decide +kernel⟩, dv_T_in (i := 550) (by decide +kernel) rfl, dv_T_in (i := 551) (by decide +kernel) rfl, _, _, kX7⟩
theorem vX7_countUsed : dv_mv yX7_countUsed cX7_countUsed 3 none 0 7 := ⟨⟨dv_T_in (i := 569) (by decide +kernel) rfl, dv_T_in (i := 48) (by decide +kernel) rfl, ⟨by decide +kernel, by decide +kernel⟩, by decide +kernel⟩, dv_T_in (i := 568) (by decide +kernel) rfl, dv_T_in (i := 13) (by decide +kernel) rfl, _, _, kX7⟩
theorem vX7_told : dv_mv yX7_told cX7_told 3 (some .int) 2 7 := ⟨⟨dv_T_in (i := 560) (by decide +kernel) rfl, dv_T_in (i := 48) (by decide +kernel) rfl, ⟨by decide +kernel, by decide +kernel⟩, by decide +kernel⟩, dv_T_in (i := 558) (by decide +kernel) rfl, dv_T_in (i := 559) (by decide +kernel) rfl, _, _, kX7⟩
theorem vX7_part : dv_mv yX7_part cX7_part 3 (some .int) 2 7 := ⟨⟨dv_T_in (i := 599) (by decide +kernel) rfl, dv_T_in (i := 48) (by decide +kernel) rfl, ⟨by decide +kernel, by decide +kernel⟩, by decide +kernel⟩, dv_T_in (i := 597) (by decide +kernel) rfl, dv_T_in (i := 598) (by decide +kernel) rfl, _, _, kX7⟩
theorem vX7_howOften : dv_mv yX7_howOften cX7_howOften 5 (some .int) 2 7 := ⟨⟨dv_T_in (i := 612) (by decide +kernel) rfl, dv_T_in (i := 48) (by decide +kernel) rfl, ⟨by decide +kernel, by decide +kernel⟩, by decide +kernel⟩, dv_T_in (i := 611) (by decide +kernel) rfl, dv_T_in (i := 15) (by decide +kernel) rfl, _, _, kX7⟩
theorem vX7_wayOf : dv_mv yX7_wayOf cX7_wayOf 6 (some .int) 1 7 := ⟨⟨dv_T_in (i := 608) (by decide +kernel) rfl, dv_T_in (i := 48) (by decide +kernel) rfl, ⟨by decide +kernel, by decide +kernel⟩, by decide +kernel⟩, dv_T_in (i := 607) (by decide +kernel) rfl, dv_T_in (i := 14) (by decide +kernel) rfl, _, _, kX7⟩
theorem vX7_way : dv_mv yX7_way cX7_way 2 (some .int) 1 7 := ⟨⟨dv_T_in (i := 604) (by decide +kernel) rfl, dv_T_in (i := 48) (by decide +kernel) rfl, ⟨by decide +kernel, by decide +kernel⟩, by decide +kernel⟩, dv_T_in (i := 602) (by decide +kernel) rfl, dv_T_in (i := 603) (by decide +kernel) rfl, _, _, kX7⟩
theorem vX7_odd : dv_mv yX7_odd cX7_odd 5 (some .int) 1 7 := ⟨⟨dv_T_in (i := 616) (by decide +kernel) rfl, dv_T_in (i := 48) (by decide +kernel) rfl, ⟨by decide +kernel, by decide +kernel⟩, by decide +kernel⟩, dv_T_in (i := 614) (by decide +kernel) rfl, dv_T_in (i := 615) (by decide +kernel) rfl, _, _, kX7⟩
theorem vX7_isOdd : dv_mv yX7_isOdd cX7_isOdd 3 (some .int) 1 7 := ⟨⟨dv_T_in (i := 620) (by decide +kernel) rfl, dv_T_in (i := 48) (by decide +kernel) rfl, ⟨by decide +kernel, by decide +kernel⟩, by decide +kernel⟩, dv_T_in (i := 618) (by decide +kernel) rfl, dv_T_in (i := 619) (by decide +kernel) rfl, _, _, kX7⟩
theorem vX7_mixed : dv_mv yX7_mixed cX7_mixed 1 (some .int) 0 7 := ⟨⟨dv_T_in (i := 624) (by decide +kernel) rfl, dv_T_in (i := 48) (by decide +kernel) rfl, ⟨by decide +kernel, by decide +kernel⟩, by decide +kernel⟩, dv_T_in (i := 622) (by decide +kernel) rfl, dv_T_in (i := 623) (by decide +kernel) rfl, _, _, kX7⟩
theorem vX7_strange : dv_mv yX7_strange cX7_strange 4 (some .int) 0 7 := ⟨⟨dv_T_in (i := 632) (by decide +kernel) rfl, dv_T_in (i := 48) (by decide +kernel) rfl, ⟨by decide +kernel, by decide +kernel⟩, by decide +kernel⟩, dv_T_in (i := 630) (by decide +kernel) rfl, dv_T_in (i := 631) (by decide +kernel) rfl, _, _, kX7⟩
theorem vX7_greatOf : dv_ms yX7_greatOf cX7_greatOf 1 (some .int) 1 := ⟨⟨dv_T_in (i := 671) (by decide +kernel) rfl, dv_T_in (i := 48) (by decide +kernel) rfl, ⟨by decide +kernel, by decide +kernel⟩, by decide +kernel⟩, dv_T_in (i := 670) (by decide +kernel) rfl⟩
theorem vX7_writePart : dv_mv yX7_writePart cX7_writePart 8 none 3 7 := ⟨⟨dv_T_in (i := 656) (by decide +kernel) rfl, dv_T_in (i := 48) (by decide +kernel) rfl, ⟨by decide +kernel, by decide +kernel⟩, by decide +kernel⟩, dv_T_in (i := 655) (by decide +kernel) rfl, dv_T_in (i := 17) (by decide +kernel) rfl, _, _, kX7⟩
theorem vX7_draftsOffer : dv_mv yX7_draftsOffer cX7_draftsOffer 6 (some .boolean) 1 7 := ⟨⟨dv_T_in (i := 652) (by decide +kernel) rfl, dv_T_in (i := 48) (by decide +kernel) rfl, ⟨by decide +kernel, by decide +kernel⟩, by decide +kernel⟩, dv_T_in (i := 651) (by decide +kernel) rfl, dv_T_in (i := 16) (by decide +kernel) rfl, _, _, kX7⟩
theorem vX7_offer : dv_mv yX7_offer cX7_offer 2 (some .int) 1 7 := ⟨⟨dv_T_in (i := 648) (by decide +kernel) rfl, dv_T_in (i := 48) (by decide +kernel) rfl, ⟨by decide +kernel, by decide +kernel⟩, by decide +kernel⟩, dv_T_in (i := 646) (by decide +kernel) rfl, dv_T_in (i := 647) (by decide +kernel) rfl, _, _, kX7⟩
theorem vX7_out : dv_mv yX7_out cX7_out 2 (some .int) 1 7 := ⟨⟨dv_T_in (i := 837) (by decide +kernel) rfl, dv_T_in (i := 48) (by decide +kernel) rfl, ⟨by decide +kernel, by decide +kernel⟩, by decide +kernel⟩, dv_T_in (i := 835) (by decide +kernel) rfl, dv_T_in (i := 836) (by decide +kernel) rfl, _, _, kX7⟩
theorem vX7_rename : dv_mv yX7_rename cX7_rename 3 (some .int) 2 7 := ⟨⟨dv_T_in (i := 676) (by decide +kernel) rfl, dv_T_in (i := 48) (by decide +kernel) rfl, ⟨by decide +kernel, by decide +kernel⟩, by decide +kernel⟩, dv_T_in (i := 674) (by decide +kernel) rfl, dv_T_in (i := 675) (by decide +kernel) rfl, _, _, kX7⟩
theorem vX7_renames : dv_mv yX7_renames cX7_renames 2 (some .int) 0 7 := ⟨⟨dv_T_in (i := 693) (by decide +kernel) rfl, dv_T_in (i := 48) (by decide +kernel) rfl, ⟨by decide +kernel, by decide +kernel⟩, by decide +kernel⟩, dv_T_in (i := 691) (by decide +kernel) rfl, dv_T_in (i := 692) (by decide +kernel) rfl, _, _, kX7⟩
theorem vX7_none : dv_mv yX7_none cX7_none 2 (some .int) 0 7 := ⟨⟨dv_T_in (i := 701) (by decide +kernel) rfl, dv_T_in (i := 48) (by decide +kernel) rfl, ⟨by decide +kernel, by decide +kernel⟩, by decide +kernel⟩, dv_T_in (i := 699) (by decide +kernel) rfl, dv_T_in (i := 700) (by decide +kernel) rfl, _, _, kX7⟩
theorem vX7_firstDoubled : dv_mv yX7_firstDoubled cX7_firstDoubled 4 (some .int) 0 7 := ⟨⟨dv_T_in (i := 709) (by decide +kernel) rfl, dv_T_in (i := 48) (by decide +kernel) rfl, ⟨by decide +kernel, by decide +kernel⟩, by decide +kernel⟩, dv_T_in (i := 708) (by decide +kernel) rfl, dv_T_in (i := 18) (by decide +kernel) rfl, _, _, kX7⟩
theorem vX7_isStrayed : dv_mv yX7_isStrayed cX7_isStrayed 3 (some .boolean) 1 7 := ⟨⟨dv_T_in (i := 717) (by decide +kernel) rfl, dv_T_in (i := 48) (by decide +kernel) rfl, ⟨by decide +kernel, by decide +kernel⟩, by decide +kernel⟩, dv_T_in (i := 716) (by decide +kernel) rfl, dv_T_in (i := 20) (by decide +kernel) rfl, _, _, kX7⟩
theorem vX7_firstStrayed : dv_mv yX7_firstStrayed cX7_firstStrayed 2 (some .int) 0 7 := ⟨⟨dv_T_in (i := 713) (by decide +kernel) rfl, dv_T_in (i := 48) (by decide +kernel) rfl, ⟨by decide +kernel, by decide +kernel⟩, by decide +kernel⟩, dv_T_in (i := 712) (by decide +kernel) rfl, dv_T_in (i := 19) (by decide +kernel) rfl, _, _, kX7⟩
theorem vX7_hinders : dv_mv yX7_hinders cX7_hinders 3 (some .int) 0 7 := ⟨⟨dv_T_in (i := 705) (by decide +kernel) rfl, dv_T_in (i := 48) (by decide +kernel) rfl, ⟨by decide +kernel, by decide +kernel⟩, by decide +kernel⟩, dv_T_in (i := 703) (by decide +kernel) rfl, dv_T_in (i := 704) (by decide +kernel) rfl, _, _, kX7⟩
theorem vX7_turn : dv_mv yX7_turn cX7_turn 2 (some .int) 0 7 := ⟨⟨dv_T_in (i := 721) (by decide +kernel) rfl, dv_T_in (i := 48) (by decide +kernel) rfl, ⟨by decide +kernel, by decide +kernel⟩, by decide +kernel⟩, dv_T_in (i := 719) (by decide +kernel) rfl, dv_T_in (i := 720) (by decide +kernel) rfl, _, _, kX7⟩
theorem vX7_back : dv_mv yX7_back cX7_back 2 (some .int) 0 7 := ⟨⟨dv_T_in (i := 725) (by decide +kernel) rfl, dv_T_in (i := 48) (by decide +kernel) rfl, ⟨by decide +kernel, by decide +kernel⟩, by decide +kernel⟩, dv_T_in (i := 723) (by decide +kernel) rfl, dv_T_in (i := 724) (by decide +kernel) rfl, _, _, kX7⟩
theorem vX7_staysSafe : dv_mv yX7_staysSafe cX7_staysSafe 5 (some .boolean) 1 7 := ⟨⟨dv_T_in (i := 734) (by decide +kernel) rfl, dv_T_in (i := 48) (by decide +kernel) rfl, ⟨by decide +kernel, by decide +kernel⟩, by decide +kernel⟩, dv_T_in (i := 733) (by decide +kernel) rfl, dv_T_in (i := 21) (by decide +kernel) rfl, _, _, kX7⟩
theorem vX7_keep : dv_mv yX7_keep cX7_keep 2 (some .int) 0 7 := ⟨⟨dv_T_in (i := 729) (by decide +kernel) rfl, dv_T_in (i := 48) (by decide +kernel) rfl, ⟨by decide +kernel, by decide +kernel⟩, by decide +kernel⟩, dv_T_in (i := 727) (by decide +kernel) rfl, dv_T_in (i := 728) (by decide +kernel) rfl, _, _, kX7⟩
theorem vX7_count : dv_mv yX7_count cX7_count 2 (some .int) 1 7 := ⟨⟨dv_T_in (i := 743) (by decide +kernel) rfl, dv_T_in (i := 48) (by decide +kernel) rfl, ⟨by decide +kernel, by decide +kernel⟩, by decide +kernel⟩, dv_T_in (i := 741) (by decide +kernel) rfl, dv_T_in (i := 742) (by decide +kernel) rfl, _, _, kX7⟩
theorem vX7_trouble : dv_mv yX7_trouble cX7_trouble 1 (some .int) 0 7 := ⟨⟨dv_T_in (i := 755) (by decide +kernel) rfl, dv_T_in (i := 48) (by decide +kernel) rfl, ⟨by decide +kernel, by decide +kernel⟩, by decide +kernel⟩, dv_T_in (i := 753) (by decide +kernel) rfl, dv_T_in (i := 754) (by decide +kernel) rfl, _, _, kX7⟩
theorem vX8_thrown : dv_mv yX8_thrown cX8_thrown 1 (some .int) 0 8 := ⟨⟨dv_T_in (i := 842) (by decide +kernel) rfl, dv_T_in (i := 56) (by decide +kernel) rfl, ⟨by decide +kernel, by decide +kernel⟩, by decide +kernel⟩, dv_T_in (i := 840) (by decide +kernel) rfl, dv_T_in (i := 841) (by decide +kernel) rfl, _, _, kX8⟩
theorem vX8_refused : dv_mv yX8_refused cX8_refused 2 (some .int) 1 8 := ⟨⟨dv_T_in (i := 979) (by decide +kernel) rfl, dv_T_in (i := 56) (by decide +kernel) rfl, ⟨by decide +kernel, by decide +kernel⟩, by decide +kernel⟩, dv_T_in (i := 978) (by decide +kernel) rfl, dv_T_in (i := 24) (by decide +kernel) rfl, _, _, kX8⟩
theorem vX8_denied : dv_mv yX8_denied cX8_denied 2 (some .boolean) 1 8 := ⟨⟨dv_T_in (i := 1056) (by decide +kernel) rfl, dv_T_in (i := 56) (by decide +kernel) rfl, ⟨by decide +kernel, by decide +kernel⟩, by decide +kernel⟩, dv_T_in (i := 1055) (by decide +kernel) rfl, dv_T_in (i := 31) (by decide +kernel) rfl, _, _, kX8⟩
theorem vX8_done : dv_mv yX8_done cX8_done 2 (some .int) 1 8 := ⟨⟨dv_T_in (i := 983) (by decide +kernel) rfl, dv_T_in (i := 56) (by decide +kernel) rfl, ⟨by decide +kernel, by decide +kernel⟩, by decide +kernel⟩, dv_T_in (i := 982) (by decide +kernel) rfl, dv_T_in (i := 25) (by decide +kernel) rfl, _, _, kX8⟩
theorem vX8_granted : dv_mv yX8_granted cX8_granted 1 (some .boolean) 0 8 := ⟨⟨dv_T_in (i := 1060) (by decide +kernel) rfl, dv_T_in (i := 56) (by decide +kernel) rfl, ⟨by decide +kernel, by decide +kernel⟩, by decide +kernel⟩, dv_T_in (i := 1059) (by decide +kernel) rfl, dv_T_in (i := 32) (by decide +kernel) rfl, _, _, kX8⟩
theorem vX8_in : dv_ms yX8_in cX8_in 3 (some .boolean) 3 := ⟨⟨dv_T_in (i := 990) (by decide +kernel) rfl, dv_T_in (i := 56) (by decide +kernel) rfl, ⟨by decide +kernel, by decide +kernel⟩, by decide +kernel⟩, dv_T_in (i := 989) (by decide +kernel) rfl⟩
theorem vX8_feed : dv_mv yX8_feed cX8_feed 8 (some .int) 5 8 := ⟨⟨dv_T_in (i := 846) (by decide +kernel) rfl, dv_T_in (i := 56) (by decide +kernel) rfl, ⟨by decide +kernel, by decide +kernel⟩, by decide +kernel⟩, dv_T_in (i := 844) (by decide +kernel) rfl, dv_T_in (i := 845) (by decide +kernel) rfl, _, _, kX8⟩
theorem vX8_isTaped : dv_mv yX8_isTaped cX8_isTaped 2 (some .boolean) 1 8 := ⟨⟨dv_T_in (i := 994) (by decide +kernel) rfl, dv_T_in (i := 56) (by decide +kernel) rfl, ⟨by decide +kernel, by decide +kernel⟩, by decide +kernel⟩, dv_T_in (i := 993) (by decide +kernel) rfl, dv_T_in (i := 26) (by decide +kernel) rfl, _, _, kX8⟩
theorem vX8_isSmall : dv_ms yX8_isSmall cX8_isSmall 1 (some .boolean) 1 := ⟨⟨dv_T_in (i := 1006) (by decide +kernel) rfl, dv_T_in (i := 56) (by decide +kernel) rfl, ⟨by decide +kernel, by decide +kernel⟩, by decide +kernel⟩, dv_T_in (i := 1005) (by decide +kernel) rfl⟩
theorem vX8_isGreat : dv_ms yX8_isGreat cX8_isGreat 1 (some .boolean) 1 := ⟨⟨dv_T_in (i := 1009) (by decide +kernel) rfl, dv_T_in (i := 56) (by decide +kernel) rfl, ⟨by decide +kernel, by decide +kernel⟩, by decide +kernel⟩, dv_T_in (i := 1008) (by decide +kernel) rfl⟩
theorem vX8_isDigit : dv_ms yX8_isDigit cX8_isDigit 1 (some .boolean) 1 := ⟨⟨dv_T_in (i := 1000) (by decide +kernel) rfl, dv_T_in (i := 56) (by decide +kernel) rfl, ⟨by decide +kernel, by decide +kernel⟩, by decide +kernel⟩, dv_T_in (i := 999) (by decide +kernel) rfl⟩
theorem vX8_isLetter : dv_ms yX8_isLetter cX8_isLetter 1 (some .boolean) 1 := ⟨⟨dv_T_in (i := 1003) (by decide +kernel) rfl, dv_T_in (i := 56) (by decide +kernel) rfl, ⟨by decide +kernel, by decide +kernel⟩, by decide +kernel⟩, dv_T_in (i := 1002) (by decide +kernel) rfl⟩
theorem vX8_isName : dv_ms yX8_isName cX8_isName 6 (some .boolean) 3 := ⟨⟨dv_T_in (i := 997) (by decide +kernel) rfl, dv_T_in (i := 56) (by decide +kernel) rfl, ⟨by decide +kernel, by decide +kernel⟩, by decide +kernel⟩, dv_T_in (i := 996) (by decide +kernel) rfl⟩
theorem vX8_isSame : dv_ms yX8_isSame cX8_isSame 8 (some .boolean) 6 := ⟨⟨dv_T_in (i := 1012) (by decide +kernel) rfl, dv_T_in (i := 56) (by decide +kernel) rfl, ⟨by decide +kernel, by decide +kernel⟩, by decide +kernel⟩, dv_T_in (i := 1011) (by decide +kernel) rfl⟩
theorem vX8_isScope : dv_mv yX8_isScope cX8_isScope 2 (some .boolean) 1 8 := ⟨⟨dv_T_in (i := 975) (by decide +kernel) rfl, dv_T_in (i := 56) (by decide +kernel) rfl, ⟨by decide +kernel, by decide +kernel⟩, by decide +kernel⟩, dv_T_in (i := 974) (by decide +kernel) rfl, dv_T_in (i := 23) (by decide +kernel) rfl, _, _, kX8⟩
theorem vX8_isThing : dv_mv yX8_isThing cX8_isThing 2 (some .boolean) 1 8 := ⟨⟨dv_T_in (i := 1040) (by decide +kernel) rfl, dv_T_in (i := 56) (by decide +kernel) rfl, ⟨by decide +kernel, by decide +kernel⟩, by decide +kernel⟩, dv_T_in (i := 1039) (by decide +kernel) rfl, dv_T_in (i := 29) (by decide +kernel) rfl, _, _, kX8⟩
theorem vX8_scope : dv_mv yX8_scope cX8_scope 2 (some .int) 1 8 := ⟨⟨dv_T_in (i := 971) (by decide +kernel) rfl, dv_T_in (i := 56) (by decide +kernel) rfl, ⟨by decide +kernel, by decide +kernel⟩, by decide +kernel⟩, dv_T_in (i := 969) (by decide +kernel) rfl, dv_T_in (i := 970) (by decide +kernel) rfl, _, _, kX8⟩
theorem vX8_meaningOf : dv_mv yX8_meaningOf cX8_meaningOf 9 (some .int) 6 8 := ⟨⟨dv_T_in (i := 1024) (by decide +kernel) rfl, dv_T_in (i := 56) (by decide +kernel) rfl, ⟨by decide +kernel, by decide +kernel⟩, by decide +kernel⟩, dv_T_in (i := 1023) (by decide +kernel) rfl, dv_T_in (i := 28) (by decide +kernel) rfl, _, _, kX8⟩
theorem vX8_takesUse : dv_mv yX8_takesUse cX8_takesUse 7 (some .boolean) 2 8 := ⟨⟨dv_T_in (i := 1016) (by decide +kernel) rfl, dv_T_in (i := 56) (by decide +kernel) rfl, ⟨by decide +kernel, by decide +kernel⟩, by decide +kernel⟩, dv_T_in (i := 1015) (by decide +kernel) rfl, dv_T_in (i := 27) (by decide +kernel) rfl, _, _, kX8⟩
theorem vX8_thing : dv_mv yX8_thing cX8_thing 6 (some .int) 3 8 := ⟨⟨dv_T_in (i := 987) (by decide +kernel) rfl, dv_T_in (i := 56) (by decide +kernel) rfl, ⟨by decide +kernel, by decide +kernel⟩, by decide +kernel⟩, dv_T_in (i := 985) (by decide +kernel) rfl, dv_T_in (i := 986) (by decide +kernel) rfl, _, _, kX8⟩
theorem vX8_use : dv_mv yX8_use cX8_use 4 (some .int) 2 8 := ⟨⟨dv_T_in (i := 1020) (by decide +kernel) rfl, dv_T_in (i := 56) (by decide +kernel) rfl, ⟨by decide +kernel, by decide +kernel⟩, by decide +kernel⟩, dv_T_in (i := 1018) (by decide +kernel) rfl, dv_T_in (i := 1019) (by decide +kernel) rfl, _, _, kX8⟩
theorem vX8_find : dv_mv yX8_find cX8_find 3 (some .int) 2 8 := ⟨⟨dv_T_in (i := 1028) (by decide +kernel) rfl, dv_T_in (i := 56) (by decide +kernel) rfl, ⟨by decide +kernel, by decide +kernel⟩, by decide +kernel⟩, dv_T_in (i := 1026) (by decide +kernel) rfl, dv_T_in (i := 1027) (by decide +kernel) rfl, _, _, kX8⟩
theorem vX8_means : dv_mv yX8_means cX8_means 3 (some .int) 2 8 := ⟨⟨dv_T_in (i := 1032) (by decide +kernel) rfl, dv_T_in (i := 56) (by decide +kernel) rfl, ⟨by decide +kernel, by decide +kernel⟩, by decide +kernel⟩, dv_T_in (i := 1030) (by decide +kernel) rfl, dv_T_in (i := 1031) (by decide +kernel) rfl, _, _, kX8⟩
theorem vX8_name : dv_mv yX8_name cX8_name 3 (some .int) 2 8 := ⟨⟨dv_T_in (i := 1036) (by decide +kernel) rfl, dv_T_in (i := 56) (by decide +kernel) rfl, ⟨by decide +kernel, by decide +kernel⟩, by decide +kernel⟩, dv_T_in (i := 1034) (by decide +kernel) rfl, dv_T_in (i := 1035) (by decide +kernel) rfl, _, _, kX8⟩
theorem vX8_cuts : dv_mv yX8_cuts cX8_cuts 7 none 1 8 := ⟨⟨dv_T_in (i := 1076) (by decide +kernel) rfl, dv_T_in (i := 56) (by decide +kernel) rfl, ⟨by decide +kernel, by decide +kernel⟩, by decide +kernel⟩, dv_T_in (i := 1075) (by decide +kernel) rfl, dv_T_in (i := 34) (by decide +kernel) rfl, _, _, kX8⟩
theorem vX8_styleOf : dv_mv yX8_styleOf cX8_styleOf 7 (some .int) 1 8 := ⟨⟨dv_T_in (i := 1107) (by decide +kernel) rfl, dv_T_in (i := 56) (by decide +kernel) rfl, ⟨by decide +kernel, by decide +kernel⟩, by decide +kernel⟩, dv_T_in (i := 1106) (by decide +kernel) rfl, dv_T_in (i := 39) (by decide +kernel) rfl, _, _, kX8⟩
theorem vX8_low : dv_ms yX8_low cX8_low 1 (some .int) 1 := ⟨⟨dv_T_in (i := 1083) (by decide +kernel) rfl, dv_T_in (i := 56) (by decide +kernel) rfl, ⟨by decide +kernel, by decide +kernel⟩, by decide +kernel⟩, dv_T_in (i := 1082) (by decide +kernel) rfl⟩
theorem vX8_isWord : dv_mv yX8_isWord cX8_isWord 2 (some .boolean) 1 8 := ⟨⟨dv_T_in (i := 1052) (by decide +kernel) rfl, dv_T_in (i := 56) (by decide +kernel) rfl, ⟨by decide +kernel, by decide +kernel⟩, by decide +kernel⟩, dv_T_in (i := 1051) (by decide +kernel) rfl, dv_T_in (i := 30) (by decide +kernel) rfl, _, _, kX8⟩
theorem vX8_word : dv_mv yX8_word cX8_word 6 (some .int) 2 8 := ⟨⟨dv_T_in (i := 1044) (by decide +kernel) rfl, dv_T_in (i := 56) (by decide +kernel) rfl, ⟨by decide +kernel, by decide +kernel⟩, by decide +kernel⟩, dv_T_in (i := 1042) (by decide +kernel) rfl, dv_T_in (i := 1043) (by decide +kernel) rfl, _, _, kX8⟩
theorem vX8_shorts : dv_mv yX8_shorts cX8_shorts 3 (some .boolean) 2 8 := ⟨⟨dv_T_in (i := 1048) (by decide +kernel) rfl, dv_T_in (i := 56) (by decide +kernel) rfl, ⟨by decide +kernel, by decide +kernel⟩, by decide +kernel⟩, dv_T_in (i := 1046) (by decide +kernel) rfl, dv_T_in (i := 1047) (by decide +kernel) rfl, _, _, kX8⟩
theorem vX8_alike : dv_mv yX8_alike cX8_alike 5 (some .boolean) 2 8 := ⟨⟨dv_T_in (i := 1064) (by decide +kernel) rfl, dv_T_in (i := 56) (by decide +kernel) rfl, ⟨by decide +kernel, by decide +kernel⟩, by decide +kernel⟩, dv_T_in (i := 1062) (by decide +kernel) rfl, dv_T_in (i := 1063) (by decide +kernel) rfl, _, _, kX8⟩
theorem vX8_wordOf : dv_mv yX8_wordOf cX8_wordOf 6 (some .int) 2 8 := ⟨⟨dv_T_in (i := 1080) (by decide +kernel) rfl, dv_T_in (i := 56) (by decide +kernel) rfl, ⟨by decide +kernel, by decide +kernel⟩, by decide +kernel⟩, dv_T_in (i := 1079) (by decide +kernel) rfl, dv_T_in (i := 35) (by decide +kernel) rfl, _, _, kX8⟩
theorem vX8_opened : dv_mv yX8_opened cX8_opened 4 (some .int) 1 8 := ⟨⟨dv_T_in (i := 1087) (by decide +kernel) rfl, dv_T_in (i := 56) (by decide +kernel) rfl, ⟨by decide +kernel, by decide +kernel⟩, by decide +kernel⟩, dv_T_in (i := 1086) (by decide +kernel) rfl, dv_T_in (i := 36) (by decide +kernel) rfl, _, _, kX8⟩
theorem vX8_counts : dv_mv yX8_counts cX8_counts 4 none 0 8 := ⟨⟨dv_T_in (i := 1072) (by decide +kernel) rfl, dv_T_in (i := 56) (by decide +kernel) rfl, ⟨by decide +kernel, by decide +kernel⟩, by decide +kernel⟩, dv_T_in (i := 1071) (by decide +kernel) rfl, dv_T_in (i := 33) (by decide +kernel) rfl, _, _, kX8⟩
theorem vX8_headOf : dv_mv yX8_headOf cX8_headOf 4 (some .int) 1 8 := ⟨⟨dv_T_in (i := 1091) (by decide +kernel) rfl, dv_T_in (i := 56) (by decide +kernel) rfl, ⟨by decide +kernel, by decide +kernel⟩, by decide +kernel⟩, dv_T_in (i := 1090) (by decide +kernel) rfl, dv_T_in (i := 37) (by decide +kernel) rfl, _, _, kX8⟩
theorem vX8_groupSize : dv_mv yX8_groupSize cX8_groupSize 4 (some .int) 1 8 := ⟨⟨dv_T_in (i := 1095) (by decide +kernel) rfl, dv_T_in (i := 56) (by decide +kernel) rfl, ⟨by decide +kernel, by decide +kernel⟩, by decide +kernel⟩, dv_T_in (i := 1094) (by decide +kernel) rfl, dv_T_in (i := 38) (by decide +kernel) rfl, _, _, kX8⟩
theorem vX8_told : dv_mv yX8_told cX8_told 3 (some .int) 2 8 := ⟨⟨dv_T_in (i := 1068) (by decide +kernel) rfl, dv_T_in (i := 56) (by decide +kernel) rfl, ⟨by decide +kernel, by decide +kernel⟩, by decide +kernel⟩, dv_T_in (i := 1066) (by decide +kernel) rfl, dv_T_in (i := 1067) (by decide +kernel) rfl, _, _, kX8⟩
theorem vX8_part : dv_mv yX8_part cX8_part 3 (some .int) 2 8 := ⟨⟨dv_T_in (i := 1099) (by decide +kernel) rfl, dv_T_in (i := 56) (by decide +kernel) rfl, ⟨by decide +kernel, by decide +kernel⟩, by decide +kernel⟩, dv_T_in (i := 1097) (by decide +kernel) rfl, dv_T_in (i := 1098) (by decide +kernel) rfl, _, _, kX8⟩
theorem vX8_patternOf : dv_mv yX8_patternOf cX8_patternOf 5 (some .int) 1 8 := ⟨⟨dv_T_in (i := 1111) (by decide +kernel) rfl, dv_T_in (i := 56) (by decide +kernel) rfl, ⟨by decide +kernel, by decide +kernel⟩, by decide +kernel⟩, dv_T_in (i := 1110) (by decide +kernel) rfl, dv_T_in (i := 40) (by decide +kernel) rfl, _, _, kX8⟩
theorem vX8_about : dv_mv yX8_about cX8_about 5 (some .int) 2 8 := ⟨⟨dv_T_in (i := 1103) (by decide +kernel) rfl, dv_T_in (i := 56) (by decide +kernel) rfl, ⟨by decide +kernel, by decide +kernel⟩, by decide +kernel⟩, dv_T_in (i := 1101) (by decide +kernel) rfl, dv_T_in (i := 1102) (by decide +kernel) rfl, _, _, kX8⟩
theorem vX8_wayOf : dv_mv yX8_wayOf cX8_wayOf 8 (some .int) 1 8 := ⟨⟨dv_T_in (i := 1119) (by decide +kernel) rfl, dv_T_in (i := 56) (by decide +kernel) rfl, ⟨by decide +kernel, by decide +kernel⟩, by decide +kernel⟩, dv_T_in (i := 1118) (by decide +kernel) rfl, dv_T_in (i := 41) (by decide +kernel) rfl, _, _, kX8⟩
theorem vX8_way : dv_mv yX8_way cX8_way 2 (some .int) 1 8 := ⟨⟨dv_T_in (i := 1115) (by decide +kernel) rfl, dv_T_in (i := 56) (by decide +kernel) rfl, ⟨by decide +kernel, by decide +kernel⟩, by decide +kernel⟩, dv_T_in (i := 1113) (by decide +kernel) rfl, dv_T_in (i := 1114) (by decide +kernel) rfl, _, _, kX8⟩
theorem vX8_odd : dv_mv yX8_odd cX8_odd 5 (some .int) 1 8 := ⟨⟨dv_T_in (i := 1123) (by decide +kernel) rfl, dv_T_in (i := 56) (by decide +kernel) rfl, ⟨by decide +kernel, by decide +kernel⟩, by decide +kernel⟩, dv_T_in (i := 1121) (by decide +kernel) rfl, dv_T_in (i := 1122) (by decide +kernel) rfl, _, _, kX8⟩
theorem vX8_isOdd : dv_mv yX8_isOdd cX8_isOdd 2 (some .int) 1 8 := ⟨⟨dv_T_in (i := 1127) (by decide +kernel) rfl, dv_T_in (i := 56) (by decide +kernel) rfl, ⟨by decide +kernel, by decide +kernel⟩, by decide +kernel⟩, dv_T_in (i := 1125) (by decide +kernel) rfl, dv_T_in (i := 1126) (by decide +kernel) rfl, _, _, kX8⟩
theorem vX8_mixed : dv_mv yX8_mixed cX8_mixed 6 (some .int) 0 8 := ⟨⟨dv_T_in (i := 1131) (by decide +kernel) rfl, dv_T_in (i := 56) (by decide +kernel) rfl, ⟨by decide +kernel, by decide +kernel⟩, by decide +kernel⟩, dv_T_in (i := 1129) (by decide +kernel) rfl, dv_T_in (i := 1130) (by decide +kernel) rfl, _, _, kX8⟩
theorem vX8_strange : dv_mv yX8_strange cX8_strange 4 (some .int) 0 8 := ⟨⟨dv_T_in (i := 1135) (by decide +kernel) rfl, dv_T_in (i := 56) (by decide +kernel) rfl, ⟨by decide +kernel, by decide +kernel⟩, by decide +kernel⟩, dv_T_in (i := 1133) (by decide +kernel) rfl, dv_T_in (i := 1134) (by decide +kernel) rfl, _, _, kX8⟩
theorem vX8_makes : dv_mv yX8_makes cX8_makes 3 none 2 8 := ⟨⟨dv_T_in (i := 1147) (by decide +kernel) rfl, dv_T_in (i := 56) (by decide +kernel) rfl, ⟨by decide +kernel, by decide +kernel⟩, by decide +kernel⟩, dv_T_in (i := 1146) (by decide +kernel) rfl, dv_T_in (i := 43) (by decide +kernel) rfl, _, _, kX8⟩
theorem vX8_offers : dv_mv yX8_offers cX8_offers 8 (some .boolean) 1 8 := ⟨⟨dv_T_in (i := 1143) (by decide +kernel) rfl, dv_T_in (i := 56) (by decide +kernel) rfl, ⟨by decide +kernel, by decide +kernel⟩, by decide +kernel⟩, dv_T_in (i := 1142) (by decide +kernel) rfl, dv_T_in (i := 42) (by decide +kernel) rfl, _, _, kX8⟩
theorem vX8_offer : dv_mv yX8_offer cX8_offer 3 (some .int) 1 8 := ⟨⟨dv_T_in (i := 1139) (by decide +kernel) rfl, dv_T_in (i := 56) (by decide +kernel) rfl, ⟨by decide +kernel, by decide +kernel⟩, by decide +kernel⟩, dv_T_in (i := 1137) (by decide +kernel) rfl, dv_T_in (i := 1138) (by decide +kernel) rfl, _, _, kX8⟩
theorem vX8_out : dv_mv yX8_out cX8_out 2 (some .int) 1 8 := ⟨⟨dv_T_in (i := 1151) (by decide +kernel) rfl, dv_T_in (i := 56) (by decide +kernel) rfl, ⟨by decide +kernel, by decide +kernel⟩, by decide +kernel⟩, dv_T_in (i := 1149) (by decide +kernel) rfl, dv_T_in (i := 1150) (by decide +kernel) rfl, _, _, kX8⟩
theorem vX8_renameMany : dv_mv yX8_renameMany cX8_renameMany 3 (some .int) 0 8 := ⟨⟨dv_T_in (i := 1159) (by decide +kernel) rfl, dv_T_in (i := 56) (by decide +kernel) rfl, ⟨by decide +kernel, by decide +kernel⟩, by decide +kernel⟩, dv_T_in (i := 1158) (by decide +kernel) rfl, dv_T_in (i := 44) (by decide +kernel) rfl, _, _, kX8⟩
theorem vX8_rename : dv_mv yX8_rename cX8_rename 4 (some .int) 2 8 := ⟨⟨dv_T_in (i := 1155) (by decide +kernel) rfl, dv_T_in (i := 56) (by decide +kernel) rfl, ⟨by decide +kernel, by decide +kernel⟩, by decide +kernel⟩, dv_T_in (i := 1153) (by decide +kernel) rfl, dv_T_in (i := 1154) (by decide +kernel) rfl, _, _, kX8⟩
theorem vX8_renames : dv_mv yX8_renames cX8_renames 3 (some .int) 0 8 := ⟨⟨dv_T_in (i := 1163) (by decide +kernel) rfl, dv_T_in (i := 56) (by decide +kernel) rfl, ⟨by decide +kernel, by decide +kernel⟩, by decide +kernel⟩, dv_T_in (i := 1161) (by decide +kernel) rfl, dv_T_in (i := 1162) (by decide +kernel) rfl, _, _, kX8⟩
theorem vX8_none : dv_mv yX8_none cX8_none 3 (some .int) 0 8 := ⟨⟨dv_T_in (i := 1167) (by decide +kernel) rfl, dv_T_in (i := 56) (by decide +kernel) rfl, ⟨by decide +kernel, by decide +kernel⟩, by decide +kernel⟩, dv_T_in (i := 1165) (by decide +kernel) rfl, dv_T_in (i := 1166) (by decide +kernel) rfl, _, _, kX8⟩
theorem vX8_hindersTaken : dv_mv yX8_hindersTaken cX8_hindersTaken 4 (some .int) 0 8 := ⟨⟨dv_T_in (i := 1179) (by decide +kernel) rfl, dv_T_in (i := 56) (by decide +kernel) rfl, ⟨by decide +kernel, by decide +kernel⟩, by decide +kernel⟩, dv_T_in (i := 1178) (by decide +kernel) rfl, dv_T_in (i := 46) (by decide +kernel) rfl, _, _, kX8⟩
theorem vX8_hindersAll : dv_mv yX8_hindersAll cX8_hindersAll 2 (some .int) 0 8 := ⟨⟨dv_T_in (i := 1175) (by decide +kernel) rfl, dv_T_in (i := 56) (by decide +kernel) rfl, ⟨by decide +kernel, by decide +kernel⟩, by decide +kernel⟩, dv_T_in (i := 1174) (by decide +kernel) rfl, dv_T_in (i := 45) (by decide +kernel) rfl, _, _, kX8⟩
theorem vX8_hinders : dv_mv yX8_hinders cX8_hinders 1 (some .int) 0 8 := ⟨⟨dv_T_in (i := 1171) (by decide +kernel) rfl, dv_T_in (i := 56) (by decide +kernel) rfl, ⟨by decide +kernel, by decide +kernel⟩, by decide +kernel⟩, dv_T_in (i := 1169) (by decide +kernel) rfl, dv_T_in (i := 1170) (by decide +kernel) rfl, _, _, kX8⟩
theorem vX8_turn : dv_mv yX8_turn cX8_turn 3 (some .int) 0 8 := ⟨⟨dv_T_in (i := 1183) (by decide +kernel) rfl, dv_T_in (i := 56) (by decide +kernel) rfl, ⟨by decide +kernel, by decide +kernel⟩, by decide +kernel⟩, dv_T_in (i := 1181) (by decide +kernel) rfl, dv_T_in (i := 1182) (by decide +kernel) rfl, _, _, kX8⟩
theorem vX8_back : dv_mv yX8_back cX8_back 3 (some .int) 0 8 := ⟨⟨dv_T_in (i := 1187) (by decide +kernel) rfl, dv_T_in (i := 56) (by decide +kernel) rfl, ⟨by decide +kernel, by decide +kernel⟩, by decide +kernel⟩, dv_T_in (i := 1185) (by decide +kernel) rfl, dv_T_in (i := 1186) (by decide +kernel) rfl, _, _, kX8⟩
theorem vX8_keep : dv_mv yX8_keep cX8_keep 2 (some .int) 0 8 := ⟨⟨dv_T_in (i := 1191) (by decide +kernel) rfl, dv_T_in (i := 56) (by decide +kernel) rfl, ⟨by decide +kernel, by decide +kernel⟩, by decide +kernel⟩, dv_T_in (i := 1189) (by decide +kernel) rfl, dv_T_in (i := 1190) (by decide +kernel) rfl, _, _, kX8⟩
theorem vX8_count : dv_mv yX8_count cX8_count 2 (some .int) 1 8 := ⟨⟨dv_T_in (i := 1195) (by decide +kernel) rfl, dv_T_in (i := 56) (by decide +kernel) rfl, ⟨by decide +kernel, by decide +kernel⟩, by decide +kernel⟩, dv_T_in (i := 1193) (by decide +kernel) rfl, dv_T_in (i := 1194) (by decide +kernel) rfl, _, _, kX8⟩
theorem vX8_trouble : dv_mv yX8_trouble cX8_trouble 1 (some .int) 0 8 := ⟨⟨dv_T_in (i := 1199) (by decide +kernel) rfl, dv_T_in (i := 56) (by decide +kernel) rfl, ⟨by decide +kernel, by decide +kernel⟩, by decide +kernel⟩, dv_T_in (i := 1197) (by decide +kernel) rfl, dv_T_in (i := 1198) (by decide +kernel) rfl, _, _, kX8⟩
theorem vJ9_min_7cf53 : dv_ms yJ9_min_7cf53 cJ9_min_7cf53 2 (some .int) 2 := ⟨⟨dv_T_in (i := 448) (by decide +kernel) rfl, dv_T_in (i := 57) (by decide +kernel) rfl, ⟨by decide +kernel, by decide +kernel⟩, by decide +kernel⟩, dv_T_in (i := 447) (by decide +kernel) rfl⟩
theorem mL_23 : Cond.methodLink RL 23 yX7_feed ∈ dv_T := dv_T_in (i := 251) (by decide +kernel) rfl
theorem mX7_88 : Cond.methodLink RX7 88 yX4_size ∈ dv_T := dv_T_in (i := 255) (by decide +kernel) rfl
theorem mX7_92 : Cond.methodLink RX7 92 yX4_addNumber ∈ dv_T := dv_T_in (i := 259) (by decide +kernel) rfl
theorem mX4_27 : Cond.methodLink RX4 27 yX4_add ∈ dv_T := dv_T_in (i := 263) (by decide +kernel) rfl
theorem mL_28 : Cond.methodLink RL 28 yX7_scope ∈ dv_T := dv_T_in (i := 267) (by decide +kernel) rfl
theorem mX7_119 : Cond.methodLink RX7 119 yX3_has ∈ dv_T := dv_T_in (i := 271) (by decide +kernel) rfl
theorem mX7_122 : Cond.methodLink RX7 122 yX7_refused ∈ dv_T := dv_T_in (i := 275) (by decide +kernel) rfl
theorem mX7_125 : Cond.methodLink RX7 125 yX3_isFull ∈ dv_T := dv_T_in (i := 279) (by decide +kernel) rfl
theorem mX7_128 : Cond.methodLink RX7 128 yX3_addWithin ∈ dv_T := dv_T_in (i := 283) (by decide +kernel) rfl
theorem mX3_19 : Cond.methodLink RX3 19 yX3_isFull ∈ dv_T := dv_T_in (i := 287) (by decide +kernel) rfl
theorem mX3_23 : Cond.methodLink RX3 23 yX3_has ∈ dv_T := dv_T_in (i := 288) (by decide +kernel) rfl
theorem mX7_131 : Cond.methodLink RX7 131 yX7_accepted ∈ dv_T := dv_T_in (i := 289) (by decide +kernel) rfl
theorem mL_32 : Cond.methodLink RL 32 yX7_thing ∈ dv_T := dv_T_in (i := 293) (by decide +kernel) rfl
theorem mX7_134 : Cond.methodLink RX7 134 yX7_isKind ∈ dv_T := dv_T_in (i := 297) (by decide +kernel) rfl
theorem mX7_137 : Cond.methodLink RX7 137 yX7_takesName ∈ dv_T := dv_T_in (i := 300) (by decide +kernel) rfl
theorem mX7_105 : Cond.methodLink RX7 105 yX7_isOnTape ∈ dv_T := dv_T_in (i := 304) (by decide +kernel) rfl
theorem mX7_109 : Cond.methodLink RX7 109 yX7_take ∈ dv_T := dv_T_in (i := 308) (by decide +kernel) rfl
theorem mX7_95 : Cond.methodLink RX7 95 yX4_clear ∈ dv_T := dv_T_in (i := 312) (by decide +kernel) rfl
theorem mX7_98 : Cond.methodLink RX7 98 yX4_at ∈ dv_T := dv_T_in (i := 316) (by decide +kernel) rfl
theorem mX4_23 : Cond.methodLink RX4 23 yX4_has ∈ dv_T := dv_T_in (i := 320) (by decide +kernel) rfl
theorem mX7_102 : Cond.methodLink RX7 102 yX4_add ∈ dv_T := dv_T_in (i := 324) (by decide +kernel) rfl
theorem mX7_112 : Cond.methodLink RX7 112 yX4_isName ∈ dv_T := dv_T_in (i := 325) (by decide +kernel) rfl
theorem mX7_330 : Cond.methodLink RX7 330 yX7_isSmall ∈ dv_T := dv_T_in (i := 335) (by decide +kernel) rfl
theorem mX7_333 : Cond.methodLink RX7 333 yX7_isGreat ∈ dv_T := dv_T_in (i := 338) (by decide +kernel) rfl
theorem mX7_140 : Cond.methodLink RX7 140 yX7_isNameOfOther ∈ dv_T := dv_T_in (i := 341) (by decide +kernel) rfl
theorem mX7_198 : Cond.methodLink RX7 198 yX5_size ∈ dv_T := dv_T_in (i := 345) (by decide +kernel) rfl
theorem mX7_161 : Cond.methodLink RX7 161 yX5_scopeOf ∈ dv_T := dv_T_in (i := 349) (by decide +kernel) rfl
theorem mX5_39 : Cond.methodLink RX5 39 yX5_has ∈ dv_T := dv_T_in (i := 353) (by decide +kernel) rfl
theorem mX7_199 : Cond.methodLink RX7 199 yX7_nameNowOrThen ∈ dv_T := dv_T_in (i := 357) (by decide +kernel) rfl
theorem mX7_212 : Cond.methodLink RX7 212 yX2_has ∈ dv_T := dv_T_in (i := 361) (by decide +kernel) rfl
theorem mX7_213 : Cond.methodLink RX7 213 yX2_nameOf ∈ dv_T := dv_T_in (i := 365) (by decide +kernel) rfl
theorem mX7_167 : Cond.methodLink RX7 167 yX5_nameOf ∈ dv_T := dv_T_in (i := 369) (by decide +kernel) rfl
theorem mX7_203 : Cond.methodLink RX7 203 yX4_same ∈ dv_T := dv_T_in (i := 373) (by decide +kernel) rfl
theorem mX7_144 : Cond.methodLink RX7 144 yX7_wouldCatchUse ∈ dv_T := dv_T_in (i := 377) (by decide +kernel) rfl
theorem mX7_207 : Cond.methodLink RX7 207 yX6_size ∈ dv_T := dv_T_in (i := 381) (by decide +kernel) rfl
theorem mX7_195 : Cond.methodLink RX7 195 yX6_thingOf ∈ dv_T := dv_T_in (i := 385) (by decide +kernel) rfl
theorem mX6_26 : Cond.methodLink RX6 26 yX6_has ∈ dv_T := dv_T_in (i := 389) (by decide +kernel) rfl
theorem mX7_194 : Cond.methodLink RX7 194 yX6_scopeOf ∈ dv_T := dv_T_in (i := 393) (by decide +kernel) rfl
theorem mX7_208 : Cond.methodLink RX7 208 yX3_isWithin ∈ dv_T := dv_T_in (i := 397) (by decide +kernel) rfl
theorem mX7_148 : Cond.methodLink RX7 148 yX5_isFull ∈ dv_T := dv_T_in (i := 401) (by decide +kernel) rfl
theorem mX7_149 : Cond.methodLink RX7 149 yX5_add ∈ dv_T := dv_T_in (i := 405) (by decide +kernel) rfl
theorem mX5_31 : Cond.methodLink RX5 31 yX5_isFull ∈ dv_T := dv_T_in (i := 409) (by decide +kernel) rfl
theorem mX5_35 : Cond.methodLink RX5 35 yX4_set ∈ dv_T := dv_T_in (i := 410) (by decide +kernel) rfl
theorem mX4_31 : Cond.methodLink RX4 31 yX4_clear ∈ dv_T := dv_T_in (i := 414) (by decide +kernel) rfl
theorem mL_37 : Cond.methodLink RL 37 yX7_use ∈ dv_T := dv_T_in (i := 415) (by decide +kernel) rfl
theorem mX7_152 : Cond.methodLink RX7 152 yX7_thingMeant ∈ dv_T := dv_T_in (i := 419) (by decide +kernel) rfl
theorem mX7_156 : Cond.methodLink RX7 156 yX6_isFull ∈ dv_T := dv_T_in (i := 423) (by decide +kernel) rfl
theorem mX7_157 : Cond.methodLink RX7 157 yX6_add ∈ dv_T := dv_T_in (i := 427) (by decide +kernel) rfl
theorem mX6_22 : Cond.methodLink RX6 22 yX6_isFull ∈ dv_T := dv_T_in (i := 431) (by decide +kernel) rfl
theorem mL_41 : Cond.methodLink RL 41 yX7_about ∈ dv_T := dv_T_in (i := 432) (by decide +kernel) rfl
theorem mX7_160 : Cond.methodLink RX7 160 yX5_has ∈ dv_T := dv_T_in (i := 436) (by decide +kernel) rfl
theorem mX7_164 : Cond.methodLink RX7 164 yX5_kindOf ∈ dv_T := dv_T_in (i := 437) (by decide +kernel) rfl
theorem mX7_171 : Cond.methodLink RX7 171 yX1_split ∈ dv_T := dv_T_in (i := 441) (by decide +kernel) rfl
theorem mX1_44 : Cond.methodLink RX1 44 yX4_size ∈ dv_T := dv_T_in (i := 445) (by decide +kernel) rfl
theorem mX1_49 : Cond.methodLink RX1 49 yJ9_min_7cf53 ∈ dv_T := dv_T_in (i := 446) (by decide +kernel) rfl
theorem mX1_54 : Cond.methodLink RX1 54 yX4_at ∈ dv_T := dv_T_in (i := 449) (by decide +kernel) rfl
theorem mX1_59 : Cond.methodLink RX1 59 yX1_add ∈ dv_T := dv_T_in (i := 453) (by decide +kernel) rfl
theorem mX1_67 : Cond.methodLink RX1 67 yX1_keyBetween ∈ dv_T := dv_T_in (i := 457) (by decide +kernel) rfl
theorem mX1_63 : Cond.methodLink RX1 63 yX1_isCutAhead ∈ dv_T := dv_T_in (i := 463) (by decide +kernel) rfl
theorem mX7_175 : Cond.methodLink RX7 175 yX1_size ∈ dv_T := dv_T_in (i := 468) (by decide +kernel) rfl
theorem mX7_176 : Cond.methodLink RX7 176 yX4_style ∈ dv_T := dv_T_in (i := 472) (by decide +kernel) rfl
theorem mX7_179 : Cond.methodLink RX7 179 yX7_patternOf ∈ dv_T := dv_T_in (i := 478) (by decide +kernel) rfl
theorem mX7_217 : Cond.methodLink RX7 217 yX1_keyOf ∈ dv_T := dv_T_in (i := 482) (by decide +kernel) rfl
theorem mX1_29 : Cond.methodLink RX1 29 yX1_has ∈ dv_T := dv_T_in (i := 486) (by decide +kernel) rfl
theorem mX7_221 : Cond.methodLink RX7 221 yX0_numberOf ∈ dv_T := dv_T_in (i := 490) (by decide +kernel) rfl
theorem mX7_265 : Cond.methodLink RX7 265 yX0_roleOf ∈ dv_T := dv_T_in (i := 494) (by decide +kernel) rfl
theorem mX0_46 : Cond.methodLink RX0 46 yX0_rolesOf ∈ dv_T := dv_T_in (i := 498) (by decide +kernel) rfl
theorem mX0_36 : Cond.methodLink RX0 36 yX0_has ∈ dv_T := dv_T_in (i := 502) (by decide +kernel) rfl
theorem mX7_182 : Cond.methodLink RX7 182 yX6_howManyMean ∈ dv_T := dv_T_in (i := 506) (by decide +kernel) rfl
theorem mL_55 : Cond.methodLink RL 55 yX7_means ∈ dv_T := dv_T_in (i := 510) (by decide +kernel) rfl
theorem mX7_193 : Cond.methodLink RX7 193 yX6_has ∈ dv_T := dv_T_in (i := 514) (by decide +kernel) rfl
theorem mL_59 : Cond.methodLink RL 59 yX7_find ∈ dv_T := dv_T_in (i := 515) (by decide +kernel) rfl
theorem mL_63 : Cond.methodLink RL 63 yX7_word ∈ dv_T := dv_T_in (i := 519) (by decide +kernel) rfl
theorem mX7_214 : Cond.methodLink RX7 214 yX7_takesWord ∈ dv_T := dv_T_in (i := 523) (by decide +kernel) rfl
theorem mX7_116 : Cond.methodLink RX7 116 yX4_isWord ∈ dv_T := dv_T_in (i := 527) (by decide +kernel) rfl
theorem mX7_225 : Cond.methodLink RX7 225 yX0_isFull ∈ dv_T := dv_T_in (i := 531) (by decide +kernel) rfl
theorem mX7_226 : Cond.methodLink RX7 226 yX0_add ∈ dv_T := dv_T_in (i := 535) (by decide +kernel) rfl
theorem mX0_32 : Cond.methodLink RX0 32 yX0_isFull ∈ dv_T := dv_T_in (i := 539) (by decide +kernel) rfl
theorem mL_67 : Cond.methodLink RL 67 yX7_shorts ∈ dv_T := dv_T_in (i := 540) (by decide +kernel) rfl
theorem mX7_229 : Cond.methodLink RX7 229 yX0_has ∈ dv_T := dv_T_in (i := 544) (by decide +kernel) rfl
theorem mX7_230 : Cond.methodLink RX7 230 yX0_setShort ∈ dv_T := dv_T_in (i := 545) (by decide +kernel) rfl
theorem mL_72 : Cond.methodLink RL 72 yX7_alike ∈ dv_T := dv_T_in (i := 549) (by decide +kernel) rfl
theorem mX7_234 : Cond.methodLink RX7 234 yX0_join ∈ dv_T := dv_T_in (i := 553) (by decide +kernel) rfl
theorem mL_76 : Cond.methodLink RL 76 yX7_told ∈ dv_T := dv_T_in (i := 557) (by decide +kernel) rfl
theorem mX7_237 : Cond.methodLink RX7 237 yX0_rolesOf ∈ dv_T := dv_T_in (i := 561) (by decide +kernel) rfl
theorem mX7_240 : Cond.methodLink RX7 240 yX0_shortFor ∈ dv_T := dv_T_in (i := 562) (by decide +kernel) rfl
theorem mX7_243 : Cond.methodLink RX7 243 yX7_countUsed ∈ dv_T := dv_T_in (i := 566) (by decide +kernel) rfl
theorem mX7_271 : Cond.methodLink RX7 271 yX0_clearUsed ∈ dv_T := dv_T_in (i := 570) (by decide +kernel) rfl
theorem mX7_274 : Cond.methodLink RX7 274 yX0_opened ∈ dv_T := dv_T_in (i := 574) (by decide +kernel) rfl
theorem mX0_49 : Cond.methodLink RX0 49 yX0_shortFor ∈ dv_T := dv_T_in (i := 578) (by decide +kernel) rfl
theorem mX7_277 : Cond.methodLink RX7 277 yX0_addUsed ∈ dv_T := dv_T_in (i := 579) (by decide +kernel) rfl
theorem mX7_246 : Cond.methodLink RX7 246 yX0_usedOf ∈ dv_T := dv_T_in (i := 583) (by decide +kernel) rfl
theorem mX7_249 : Cond.methodLink RX7 249 yX0_headOf ∈ dv_T := dv_T_in (i := 587) (by decide +kernel) rfl
theorem mX0_52 : Cond.methodLink RX0 52 yX0_usedOf ∈ dv_T := dv_T_in (i := 591) (by decide +kernel) rfl
theorem mX7_252 : Cond.methodLink RX7 252 yX0_groupSize ∈ dv_T := dv_T_in (i := 592) (by decide +kernel) rfl
theorem mL_80 : Cond.methodLink RL 80 yX7_part ∈ dv_T := dv_T_in (i := 596) (by decide +kernel) rfl
theorem mX7_255 : Cond.methodLink RX7 255 yX1_has ∈ dv_T := dv_T_in (i := 600) (by decide +kernel) rfl
theorem mL_84 : Cond.methodLink RL 84 yX7_way ∈ dv_T := dv_T_in (i := 601) (by decide +kernel) rfl
theorem mX7_256 : Cond.methodLink RX7 256 yX7_wayOf ∈ dv_T := dv_T_in (i := 605) (by decide +kernel) rfl
theorem mX7_268 : Cond.methodLink RX7 268 yX7_howOften ∈ dv_T := dv_T_in (i := 609) (by decide +kernel) rfl
theorem mL_88 : Cond.methodLink RL 88 yX7_odd ∈ dv_T := dv_T_in (i := 613) (by decide +kernel) rfl
theorem mL_92 : Cond.methodLink RL 92 yX7_isOdd ∈ dv_T := dv_T_in (i := 617) (by decide +kernel) rfl
theorem mL_96 : Cond.methodLink RL 96 yX7_mixed ∈ dv_T := dv_T_in (i := 621) (by decide +kernel) rfl
theorem mX7_259 : Cond.methodLink RX7 259 yX0_mixedGroups ∈ dv_T := dv_T_in (i := 625) (by decide +kernel) rfl
theorem mL_100 : Cond.methodLink RL 100 yX7_strange ∈ dv_T := dv_T_in (i := 629) (by decide +kernel) rfl
theorem mX7_262 : Cond.methodLink RX7 262 yX1_isNumber ∈ dv_T := dv_T_in (i := 633) (by decide +kernel) rfl
theorem mX1_37 : Cond.methodLink RX1 37 yX1_at ∈ dv_T := dv_T_in (i := 637) (by decide +kernel) rfl
theorem mX1_33 : Cond.methodLink RX1 33 yX1_lengthOf ∈ dv_T := dv_T_in (i := 641) (by decide +kernel) rfl
theorem mL_104 : Cond.methodLink RL 104 yX7_offer ∈ dv_T := dv_T_in (i := 645) (by decide +kernel) rfl
theorem mX7_280 : Cond.methodLink RX7 280 yX7_draftsOffer ∈ dv_T := dv_T_in (i := 649) (by decide +kernel) rfl
theorem mX7_311 : Cond.methodLink RX7 311 yX7_writePart ∈ dv_T := dv_T_in (i := 653) (by decide +kernel) rfl
theorem mX7_315 : Cond.methodLink RX7 315 yX1_lengthOf ∈ dv_T := dv_T_in (i := 657) (by decide +kernel) rfl
theorem mX7_318 : Cond.methodLink RX7 318 yX0_lengthOf ∈ dv_T := dv_T_in (i := 658) (by decide +kernel) rfl
theorem mX7_319 : Cond.methodLink RX7 319 yX1_at ∈ dv_T := dv_T_in (i := 662) (by decide +kernel) rfl
theorem mX7_321 : Cond.methodLink RX7 321 yX0_letterOf ∈ dv_T := dv_T_in (i := 663) (by decide +kernel) rfl
theorem mX0_40 : Cond.methodLink RX0 40 yX0_lengthOf ∈ dv_T := dv_T_in (i := 667) (by decide +kernel) rfl
theorem mX7_324 : Cond.methodLink RX7 324 yX7_greatOf ∈ dv_T := dv_T_in (i := 669) (by decide +kernel) rfl
theorem mX7_283 : Cond.methodLink RX7 283 yX4_set ∈ dv_T := dv_T_in (i := 672) (by decide +kernel) rfl
theorem mL_112 : Cond.methodLink RL 112 yX7_rename ∈ dv_T := dv_T_in (i := 673) (by decide +kernel) rfl
theorem mX7_288 : Cond.methodLink RX7 288 yX2_put ∈ dv_T := dv_T_in (i := 677) (by decide +kernel) rfl
theorem mX2_28 : Cond.methodLink RX2 28 yX4_set ∈ dv_T := dv_T_in (i := 681) (by decide +kernel) rfl
theorem mX2_32 : Cond.methodLink RX2 32 yX2_putAgain ∈ dv_T := dv_T_in (i := 682) (by decide +kernel) rfl
theorem mX7_292 : Cond.methodLink RX7 292 yX2_size ∈ dv_T := dv_T_in (i := 686) (by decide +kernel) rfl
theorem mL_116 : Cond.methodLink RL 116 yX7_renames ∈ dv_T := dv_T_in (i := 690) (by decide +kernel) rfl
theorem mX7_293 : Cond.methodLink RX7 293 yX2_clear ∈ dv_T := dv_T_in (i := 694) (by decide +kernel) rfl
theorem mL_120 : Cond.methodLink RL 120 yX7_none ∈ dv_T := dv_T_in (i := 698) (by decide +kernel) rfl
theorem mL_124 : Cond.methodLink RL 124 yX7_hinders ∈ dv_T := dv_T_in (i := 702) (by decide +kernel) rfl
theorem mX7_294 : Cond.methodLink RX7 294 yX7_firstDoubled ∈ dv_T := dv_T_in (i := 706) (by decide +kernel) rfl
theorem mX7_297 : Cond.methodLink RX7 297 yX7_firstStrayed ∈ dv_T := dv_T_in (i := 710) (by decide +kernel) rfl
theorem mX7_327 : Cond.methodLink RX7 327 yX7_isStrayed ∈ dv_T := dv_T_in (i := 714) (by decide +kernel) rfl
theorem mL_128 : Cond.methodLink RL 128 yX7_turn ∈ dv_T := dv_T_in (i := 718) (by decide +kernel) rfl
theorem mL_132 : Cond.methodLink RL 132 yX7_back ∈ dv_T := dv_T_in (i := 722) (by decide +kernel) rfl
theorem mL_136 : Cond.methodLink RL 136 yX7_keep ∈ dv_T := dv_T_in (i := 726) (by decide +kernel) rfl
theorem mX7_300 : Cond.methodLink RX7 300 yX2_putAgain ∈ dv_T := dv_T_in (i := 730) (by decide +kernel) rfl
theorem mX7_303 : Cond.methodLink RX7 303 yX7_staysSafe ∈ dv_T := dv_T_in (i := 731) (by decide +kernel) rfl
theorem mX7_306 : Cond.methodLink RX7 306 yX2_drop ∈ dv_T := dv_T_in (i := 735) (by decide +kernel) rfl
theorem mX2_35 : Cond.methodLink RX2 35 yX2_has ∈ dv_T := dv_T_in (i := 739) (by decide +kernel) rfl
theorem mL_140 : Cond.methodLink RL 140 yX7_count ∈ dv_T := dv_T_in (i := 740) (by decide +kernel) rfl
theorem mX7_309 : Cond.methodLink RX7 309 yX3_size ∈ dv_T := dv_T_in (i := 744) (by decide +kernel) rfl
theorem mX7_310 : Cond.methodLink RX7 310 yX0_size ∈ dv_T := dv_T_in (i := 748) (by decide +kernel) rfl
theorem mL_144 : Cond.methodLink RL 144 yX7_trouble ∈ dv_T := dv_T_in (i := 752) (by decide +kernel) rfl
theorem mL_45 : Cond.methodLink RL 45 yL_name ∈ dv_T := dv_T_in (i := 756) (by decide +kernel) rfl
theorem mL_7 : Cond.methodLink RL 7 yX7_name ∈ dv_T := dv_T_in (i := 760) (by decide +kernel) rfl
theorem mX7_185 : Cond.methodLink RX7 185 yX4_has ∈ dv_T := dv_T_in (i := 764) (by decide +kernel) rfl
theorem mL_108 : Cond.methodLink RL 108 yL_out ∈ dv_T := dv_T_in (i := 831) (by decide +kernel) rfl
theorem mL_15 : Cond.methodLink RL 15 yX7_out ∈ dv_T := dv_T_in (i := 834) (by decide +kernel) rfl
theorem mL_51 : Cond.methodLink RL 51 yX8_thrown ∈ dv_T := dv_T_in (i := 839) (by decide +kernel) rfl
theorem mL_27 : Cond.methodLink RL 27 yX8_feed ∈ dv_T := dv_T_in (i := 843) (by decide +kernel) rfl
theorem mL_31 : Cond.methodLink RL 31 yX8_scope ∈ dv_T := dv_T_in (i := 968) (by decide +kernel) rfl
theorem mX8_123 : Cond.methodLink RX8 123 yX8_isScope ∈ dv_T := dv_T_in (i := 972) (by decide +kernel) rfl
theorem mX8_126 : Cond.methodLink RX8 126 yX8_refused ∈ dv_T := dv_T_in (i := 976) (by decide +kernel) rfl
theorem mX8_130 : Cond.methodLink RX8 130 yX8_done ∈ dv_T := dv_T_in (i := 980) (by decide +kernel) rfl
theorem mL_36 : Cond.methodLink RL 36 yX8_thing ∈ dv_T := dv_T_in (i := 984) (by decide +kernel) rfl
theorem mX8_24 : Cond.methodLink RX8 24 yX8_in ∈ dv_T := dv_T_in (i := 988) (by decide +kernel) rfl
theorem mX8_140 : Cond.methodLink RX8 140 yX8_isTaped ∈ dv_T := dv_T_in (i := 991) (by decide +kernel) rfl
theorem mX8_143 : Cond.methodLink RX8 143 yX8_isName ∈ dv_T := dv_T_in (i := 995) (by decide +kernel) rfl
theorem mX8_28 : Cond.methodLink RX8 28 yX8_isDigit ∈ dv_T := dv_T_in (i := 998) (by decide +kernel) rfl
theorem mX8_31 : Cond.methodLink RX8 31 yX8_isLetter ∈ dv_T := dv_T_in (i := 1001) (by decide +kernel) rfl
theorem mX8_17 : Cond.methodLink RX8 17 yX8_isSmall ∈ dv_T := dv_T_in (i := 1004) (by decide +kernel) rfl
theorem mX8_21 : Cond.methodLink RX8 21 yX8_isGreat ∈ dv_T := dv_T_in (i := 1007) (by decide +kernel) rfl
theorem mX8_133 : Cond.methodLink RX8 133 yX8_isSame ∈ dv_T := dv_T_in (i := 1010) (by decide +kernel) rfl
theorem mX8_147 : Cond.methodLink RX8 147 yX8_takesUse ∈ dv_T := dv_T_in (i := 1013) (by decide +kernel) rfl
theorem mL_40 : Cond.methodLink RL 40 yX8_use ∈ dv_T := dv_T_in (i := 1017) (by decide +kernel) rfl
theorem mX8_155 : Cond.methodLink RX8 155 yX8_meaningOf ∈ dv_T := dv_T_in (i := 1021) (by decide +kernel) rfl
theorem mL_62 : Cond.methodLink RL 62 yX8_find ∈ dv_T := dv_T_in (i := 1025) (by decide +kernel) rfl
theorem mL_58 : Cond.methodLink RL 58 yX8_means ∈ dv_T := dv_T_in (i := 1029) (by decide +kernel) rfl
theorem mL_50 : Cond.methodLink RL 50 yX8_name ∈ dv_T := dv_T_in (i := 1033) (by decide +kernel) rfl
theorem mX8_159 : Cond.methodLink RX8 159 yX8_isThing ∈ dv_T := dv_T_in (i := 1037) (by decide +kernel) rfl
theorem mL_66 : Cond.methodLink RL 66 yX8_word ∈ dv_T := dv_T_in (i := 1041) (by decide +kernel) rfl
theorem mL_71 : Cond.methodLink RL 71 yX8_shorts ∈ dv_T := dv_T_in (i := 1045) (by decide +kernel) rfl
theorem mX8_168 : Cond.methodLink RX8 168 yX8_isWord ∈ dv_T := dv_T_in (i := 1049) (by decide +kernel) rfl
theorem mX8_171 : Cond.methodLink RX8 171 yX8_denied ∈ dv_T := dv_T_in (i := 1053) (by decide +kernel) rfl
theorem mX8_174 : Cond.methodLink RX8 174 yX8_granted ∈ dv_T := dv_T_in (i := 1057) (by decide +kernel) rfl
theorem mL_75 : Cond.methodLink RL 75 yX8_alike ∈ dv_T := dv_T_in (i := 1061) (by decide +kernel) rfl
theorem mL_79 : Cond.methodLink RL 79 yX8_told ∈ dv_T := dv_T_in (i := 1065) (by decide +kernel) rfl
theorem mX8_192 : Cond.methodLink RX8 192 yX8_counts ∈ dv_T := dv_T_in (i := 1069) (by decide +kernel) rfl
theorem mX8_181 : Cond.methodLink RX8 181 yX8_cuts ∈ dv_T := dv_T_in (i := 1073) (by decide +kernel) rfl
theorem mX8_185 : Cond.methodLink RX8 185 yX8_wordOf ∈ dv_T := dv_T_in (i := 1077) (by decide +kernel) rfl
theorem mX8_178 : Cond.methodLink RX8 178 yX8_low ∈ dv_T := dv_T_in (i := 1081) (by decide +kernel) rfl
theorem mX8_189 : Cond.methodLink RX8 189 yX8_opened ∈ dv_T := dv_T_in (i := 1084) (by decide +kernel) rfl
theorem mX8_195 : Cond.methodLink RX8 195 yX8_headOf ∈ dv_T := dv_T_in (i := 1088) (by decide +kernel) rfl
theorem mX8_198 : Cond.methodLink RX8 198 yX8_groupSize ∈ dv_T := dv_T_in (i := 1092) (by decide +kernel) rfl
theorem mL_83 : Cond.methodLink RL 83 yX8_part ∈ dv_T := dv_T_in (i := 1096) (by decide +kernel) rfl
theorem mL_44 : Cond.methodLink RL 44 yX8_about ∈ dv_T := dv_T_in (i := 1100) (by decide +kernel) rfl
theorem mX8_201 : Cond.methodLink RX8 201 yX8_styleOf ∈ dv_T := dv_T_in (i := 1104) (by decide +kernel) rfl
theorem mX8_204 : Cond.methodLink RX8 204 yX8_patternOf ∈ dv_T := dv_T_in (i := 1108) (by decide +kernel) rfl
theorem mL_87 : Cond.methodLink RL 87 yX8_way ∈ dv_T := dv_T_in (i := 1112) (by decide +kernel) rfl
theorem mX8_207 : Cond.methodLink RX8 207 yX8_wayOf ∈ dv_T := dv_T_in (i := 1116) (by decide +kernel) rfl
theorem mL_91 : Cond.methodLink RL 91 yX8_odd ∈ dv_T := dv_T_in (i := 1120) (by decide +kernel) rfl
theorem mL_95 : Cond.methodLink RL 95 yX8_isOdd ∈ dv_T := dv_T_in (i := 1124) (by decide +kernel) rfl
theorem mL_99 : Cond.methodLink RL 99 yX8_mixed ∈ dv_T := dv_T_in (i := 1128) (by decide +kernel) rfl
theorem mL_103 : Cond.methodLink RL 103 yX8_strange ∈ dv_T := dv_T_in (i := 1132) (by decide +kernel) rfl
theorem mL_107 : Cond.methodLink RL 107 yX8_offer ∈ dv_T := dv_T_in (i := 1136) (by decide +kernel) rfl
theorem mX8_217 : Cond.methodLink RX8 217 yX8_offers ∈ dv_T := dv_T_in (i := 1140) (by decide +kernel) rfl
theorem mX8_213 : Cond.methodLink RX8 213 yX8_makes ∈ dv_T := dv_T_in (i := 1144) (by decide +kernel) rfl
theorem mL_111 : Cond.methodLink RL 111 yX8_out ∈ dv_T := dv_T_in (i := 1148) (by decide +kernel) rfl
theorem mL_115 : Cond.methodLink RL 115 yX8_rename ∈ dv_T := dv_T_in (i := 1152) (by decide +kernel) rfl
theorem mX8_223 : Cond.methodLink RX8 223 yX8_renameMany ∈ dv_T := dv_T_in (i := 1156) (by decide +kernel) rfl
theorem mL_119 : Cond.methodLink RL 119 yX8_renames ∈ dv_T := dv_T_in (i := 1160) (by decide +kernel) rfl
theorem mL_123 : Cond.methodLink RL 123 yX8_none ∈ dv_T := dv_T_in (i := 1164) (by decide +kernel) rfl
theorem mL_127 : Cond.methodLink RL 127 yX8_hinders ∈ dv_T := dv_T_in (i := 1168) (by decide +kernel) rfl
theorem mX8_230 : Cond.methodLink RX8 230 yX8_hindersAll ∈ dv_T := dv_T_in (i := 1172) (by decide +kernel) rfl
theorem mX8_227 : Cond.methodLink RX8 227 yX8_hindersTaken ∈ dv_T := dv_T_in (i := 1176) (by decide +kernel) rfl
theorem mL_131 : Cond.methodLink RL 131 yX8_turn ∈ dv_T := dv_T_in (i := 1180) (by decide +kernel) rfl
theorem mL_135 : Cond.methodLink RL 135 yX8_back ∈ dv_T := dv_T_in (i := 1184) (by decide +kernel) rfl
theorem mL_139 : Cond.methodLink RL 139 yX8_keep ∈ dv_T := dv_T_in (i := 1188) (by decide +kernel) rfl
theorem mL_143 : Cond.methodLink RL 143 yX8_count ∈ dv_T := dv_T_in (i := 1192) (by decide +kernel) rfl
theorem mL_147 : Cond.methodLink RL 147 yX8_trouble ∈ dv_T := dv_T_in (i := 1196) (by decide +kernel) rfl
theorem eX1_74 : Cond.constantLong RX1 74 32 ∈ dv_T := dv_T_in (i := 462) (by decide +kernel) rfl
theorem eX0_44 : Cond.constantLong RX0 44 31 ∈ dv_T := dv_T_in (i := 668) (by decide +kernel) rfl
