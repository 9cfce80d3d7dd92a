theorem kd_0 : dv_kd 0 = 7 := by decide
theorem rf_0_0 : dv_rf 0 0 = some 1 := by decide
theorem rf_0_1 : dv_rf 0 1 = some 3 := by decide
theorem rf_0_2 : dv_rf 0 2 = some 5 := by decide
theorem rf_0_3 : dv_rf 0 3 = some 7 := by decide
theorem rf_0_4 : dv_rf 0 4 = some 9 := by decide
theorem rf_0_5 : dv_rf 0 5 = some 13 := by decide
theorem rf_0_6 : dv_rf 0 6 = some 19 := by decide
theorem rf_0_7 : dv_rf 0 7 = some 21 := by decide
theorem rf_0_8 : dv_rf 0 8 = some 185 := by decide
theorem rf_0_9 : dv_rf 0 9 = some 188 := by decide
theorem rf_0_10 : dv_rf 0 10 = some 351 := by decide
theorem rf_0_11 : dv_rf 0 11 = some 514 := by decide
theorem rf_0_12 : dv_rf 0 12 = some 515 := by decide
theorem rf_0_13 : dv_rf 0 13 = none := by decide
theorem rf_0_14 : dv_rf 0 14 = none := by decide
theorem kd_1 : dv_kd 1 = 4 := by decide
theorem rf_1_0 : dv_rf 1 0 = some 2 := by decide
theorem rf_1_1 : dv_rf 1 1 = none := by decide
theorem rf_1_2 : dv_rf 1 2 = none := by decide
theorem kd_2 : dv_kd 2 = 10 := by decide
theorem ln_2 : dv_ln 2 = 200 := by decide
theorem kd_3 : dv_kd 3 = 4 := by decide
theorem rf_3_0 : dv_rf 3 0 = some 4 := by decide
theorem rf_3_1 : dv_rf 3 1 = none := by decide
theorem rf_3_2 : dv_rf 3 2 = none := by decide
theorem kd_4 : dv_kd 4 = 10 := by decide
theorem ln_4 : dv_ln 4 = 24 := by decide
theorem kd_5 : dv_kd 5 = 4 := by decide
theorem rf_5_0 : dv_rf 5 0 = some 6 := by decide
theorem rf_5_1 : dv_rf 5 1 = none := by decide
theorem rf_5_2 : dv_rf 5 2 = none := by decide
theorem kd_6 : dv_kd 6 = 10 := by decide
theorem ln_6 : dv_ln 6 = 24 := by decide
theorem kd_7 : dv_kd 7 = 4 := by decide
theorem rf_7_0 : dv_rf 7 0 = some 8 := by decide
theorem rf_7_1 : dv_rf 7 1 = none := by decide
theorem rf_7_2 : dv_rf 7 2 = none := by decide
theorem kd_8 : dv_kd 8 = 10 := by decide
theorem ln_8 : dv_ln 8 = 24 := by decide
theorem kd_9 : dv_kd 9 = 1 := by decide
theorem rf_9_0 : dv_rf 9 0 = some 10 := by decide
theorem rf_9_1 : dv_rf 9 1 = some 11 := by decide
theorem rf_9_2 : dv_rf 9 2 = some 12 := by decide
theorem rf_9_3 : dv_rf 9 3 = some 544 := by decide
theorem rf_9_4 : dv_rf 9 4 = none := by decide
theorem kd_10 : dv_kd 10 = 10 := by decide
theorem ln_10 : dv_ln 10 = 24 := by decide
theorem kd_11 : dv_kd 11 = 10 := by decide
theorem ln_11 : dv_ln 11 = 24 := by decide
theorem kd_12 : dv_kd 12 = 10 := by decide
theorem ln_12 : dv_ln 12 = 24 := by decide
theorem kd_13 : dv_kd 13 = 0 := by decide
theorem rf_13_0 : dv_rf 13 0 = some 14 := by decide
theorem rf_13_1 : dv_rf 13 1 = some 15 := by decide
theorem rf_13_2 : dv_rf 13 2 = some 16 := by decide
theorem rf_13_3 : dv_rf 13 3 = some 17 := by decide
theorem rf_13_4 : dv_rf 13 4 = some 18 := by decide
theorem rf_13_5 : dv_rf 13 5 = none := by decide
theorem kd_14 : dv_kd 14 = 11 := by decide
theorem ln_14 : dv_ln 14 = 60 := by decide
theorem kd_15 : dv_kd 15 = 10 := by decide
theorem ln_15 : dv_ln 15 = 60 := by decide
theorem kd_16 : dv_kd 16 = 10 := by decide
theorem ln_16 : dv_ln 16 = 60 := by decide
theorem kd_17 : dv_kd 17 = 10 := by decide
theorem ln_17 : dv_ln 17 = 60 := by decide
theorem kd_18 : dv_kd 18 = 10 := by decide
theorem ln_18 : dv_ln 18 = 60 := by decide
theorem kd_19 : dv_kd 19 = 3 := by decide
theorem rf_19_0 : dv_rf 19 0 = some 20 := by decide
theorem rf_19_1 : dv_rf 19 1 = none := by decide
theorem kd_20 : dv_kd 20 = 10 := by decide
theorem ln_20 : dv_ln 20 = 20 := by decide
theorem kd_21 : dv_kd 21 = 5 := by decide
theorem rf_21_0 : dv_rf 21 0 = some 22 := by decide
theorem rf_21_1 : dv_rf 21 1 = some 23 := by decide
theorem rf_21_2 : dv_rf 21 2 = some 24 := by decide
theorem rf_21_3 : dv_rf 21 3 = none := by decide
theorem kd_22 : dv_kd 22 = 10 := by decide
theorem ln_22 : dv_ln 22 = 80 := by decide
theorem kd_23 : dv_kd 23 = 10 := by decide
theorem ln_23 : dv_ln 23 = 80 := by decide
theorem kd_24 : dv_kd 24 = 13 := by decide
theorem ln_24 : dv_ln 24 = 80 := by decide
theorem kd_185 : dv_kd 185 = 6 := by decide
theorem rf_185_0 : dv_rf 185 0 = some 186 := by decide
theorem rf_185_1 : dv_rf 185 1 = some 187 := by decide
theorem rf_185_2 : dv_rf 185 2 = none := by decide
theorem kd_186 : dv_kd 186 = 10 := by decide
theorem ln_186 : dv_ln 186 = 150 := by decide
theorem kd_187 : dv_kd 187 = 10 := by decide
theorem ln_187 : dv_ln 187 = 150 := by decide
theorem kd_188 : dv_kd 188 = 2 := by decide
theorem rf_188_0 : dv_rf 188 0 = some 189 := by decide
theorem rf_188_1 : dv_rf 188 1 = some 190 := by decide
theorem rf_188_2 : dv_rf 188 2 = none := by decide
theorem kd_189 : dv_kd 189 = 12 := by decide
theorem ln_189 : dv_ln 189 = 80 := by decide
theorem kd_190 : dv_kd 190 = 13 := by decide
theorem ln_190 : dv_ln 190 = 80 := by decide
theorem kd_351 : dv_kd 351 = 2 := by decide
theorem rf_351_0 : dv_rf 351 0 = some 352 := by decide
theorem rf_351_1 : dv_rf 351 1 = some 353 := by decide
theorem rf_351_2 : dv_rf 351 2 = none := by decide
theorem kd_352 : dv_kd 352 = 12 := by decide
theorem ln_352 : dv_ln 352 = 80 := by decide
theorem kd_353 : dv_kd 353 = 13 := by decide
theorem ln_353 : dv_ln 353 = 80 := by decide
theorem kd_514 : dv_kd 514 = 12 := by decide
theorem ln_514 : dv_ln 514 = 80 := by decide
theorem kd_515 : dv_kd 515 = 10 := by decide
theorem ln_515 : dv_ln 515 = 80 := by decide
theorem kd_516 : dv_kd 516 = 8 := by decide
theorem rf_516_0 : dv_rf 516 0 = none := by decide
theorem rf_516_1 : dv_rf 516 1 = none := by decide
theorem rf_516_2 : dv_rf 516 2 = some 517 := by decide
theorem rf_516_3 : dv_rf 516 3 = none := by decide
theorem rf_516_4 : dv_rf 516 4 = none := by decide
theorem rf_516_5 : dv_rf 516 5 = none := by decide
theorem rf_516_6 : dv_rf 516 6 = none := by decide
theorem rf_516_7 : dv_rf 516 7 = some 518 := by decide
theorem rf_516_8 : dv_rf 516 8 = some 519 := by decide
theorem rf_516_9 : dv_rf 516 9 = some 520 := by decide
theorem rf_516_10 : dv_rf 516 10 = some 521 := by decide
theorem rf_516_11 : dv_rf 516 11 = some 522 := by decide
theorem rf_516_12 : dv_rf 516 12 = some 523 := by decide
theorem rf_516_13 : dv_rf 516 13 = some 524 := by decide
theorem rf_516_14 : dv_rf 516 14 = some 525 := by decide
theorem rf_516_15 : dv_rf 516 15 = some 526 := by decide
theorem rf_516_16 : dv_rf 516 16 = none := by decide
theorem rf_516_17 : dv_rf 516 17 = none := by decide
theorem rf_516_18 : dv_rf 516 18 = some 527 := by decide
theorem rf_516_19 : dv_rf 516 19 = some 528 := by decide
theorem rf_516_20 : dv_rf 516 20 = some 529 := by decide
theorem rf_516_21 : dv_rf 516 21 = some 530 := by decide
theorem rf_516_22 : dv_rf 516 22 = some 531 := by decide
theorem rf_516_23 : dv_rf 516 23 = some 532 := by decide
theorem rf_516_24 : dv_rf 516 24 = some 533 := by decide
theorem rf_516_25 : dv_rf 516 25 = some 534 := by decide
theorem rf_516_26 : dv_rf 516 26 = none := by decide
theorem rf_516_27 : dv_rf 516 27 = none := by decide
theorem rf_516_28 : dv_rf 516 28 = some 535 := by decide
theorem rf_516_29 : dv_rf 516 29 = some 536 := by decide
theorem rf_516_30 : dv_rf 516 30 = some 537 := by decide
theorem rf_516_31 : dv_rf 516 31 = some 538 := by decide
theorem rf_516_32 : dv_rf 516 32 = some 539 := by decide
theorem rf_516_33 : dv_rf 516 33 = some 540 := by decide
theorem rf_516_34 : dv_rf 516 34 = some 541 := by decide
theorem rf_516_35 : dv_rf 516 35 = some 542 := by decide
theorem rf_516_36 : dv_rf 516 36 = none := by decide
theorem rf_516_37 : dv_rf 516 37 = none := by decide
theorem kd_517 : dv_kd 517 = 9 := by decide
theorem ln_517 : dv_ln 517 = 200 := by decide
theorem kd_518 : dv_kd 518 = 10 := by decide
theorem ln_518 : dv_ln 518 = 20 := by decide
theorem kd_519 : dv_kd 519 = 10 := by decide
theorem ln_519 : dv_ln 519 = 80 := by decide
theorem kd_520 : dv_kd 520 = 10 := by decide
theorem ln_520 : dv_ln 520 = 80 := by decide
theorem kd_521 : dv_kd 521 = 10 := by decide
theorem ln_521 : dv_ln 521 = 80 := by decide
theorem kd_522 : dv_kd 522 = 10 := by decide
theorem ln_522 : dv_ln 522 = 150 := by decide
theorem kd_523 : dv_kd 523 = 10 := by decide
theorem ln_523 : dv_ln 523 = 150 := by decide
theorem kd_524 : dv_kd 524 = 9 := by decide
theorem ln_524 : dv_ln 524 = 1920 := by decide
theorem kd_525 : dv_kd 525 = 10 := by decide
theorem ln_525 : dv_ln 525 = 24 := by decide
theorem kd_526 : dv_kd 526 = 10 := by decide
theorem ln_526 : dv_ln 526 = 24 := by decide
theorem kd_527 : dv_kd 527 = 9 := by decide
theorem ln_527 : dv_ln 527 = 720 := by decide
theorem kd_528 : dv_kd 528 = 10 := by decide
theorem ln_528 : dv_ln 528 = 60 := by decide
theorem kd_529 : dv_kd 529 = 10 := by decide
theorem ln_529 : dv_ln 529 = 60 := by decide
theorem kd_530 : dv_kd 530 = 10 := by decide
theorem ln_530 : dv_ln 530 = 60 := by decide
theorem kd_531 : dv_kd 531 = 10 := by decide
theorem ln_531 : dv_ln 531 = 60 := by decide
theorem kd_532 : dv_kd 532 = 10 := by decide
theorem ln_532 : dv_ln 532 = 60 := by decide
theorem kd_533 : dv_kd 533 = 9 := by decide
theorem ln_533 : dv_ln 533 = 24 := by decide
theorem kd_534 : dv_kd 534 = 9 := by decide
theorem ln_534 : dv_ln 534 = 312 := by decide
theorem kd_535 : dv_kd 535 = 12 := by decide
theorem ln_535 : dv_ln 535 = 80 := by decide
theorem kd_536 : dv_kd 536 = 12 := by decide
theorem ln_536 : dv_ln 536 = 80 := by decide
theorem kd_537 : dv_kd 537 = 9 := by decide
theorem ln_537 : dv_ln 537 = 1920 := by decide
theorem kd_538 : dv_kd 538 = 9 := by decide
theorem ln_538 : dv_ln 538 = 1920 := by decide
theorem kd_539 : dv_kd 539 = 9 := by decide
theorem ln_539 : dv_ln 539 = 1920 := by decide
theorem kd_540 : dv_kd 540 = 10 := by decide
theorem ln_540 : dv_ln 540 = 80 := by decide
theorem kd_541 : dv_kd 541 = 10 := by decide
theorem ln_541 : dv_ln 541 = 80 := by decide
theorem kd_542 : dv_kd 542 = 10 := by decide
theorem ln_542 : dv_ln 542 = 80 := by decide
theorem kd_543 : dv_kd 543 = 11 := by decide
theorem ln_543 : dv_ln 543 = 1 := by decide
theorem kd_544 : dv_kd 544 = 14 := by decide
theorem ln_544 : dv_ln 544 = 24 := by decide
theorem ic_m1 : Int32.ofInt (-1) = (-1) := by decide
theorem ic_0 : Int32.ofInt 0 = 0 := by decide
theorem ic_1 : Int32.ofInt 1 = 1 := by decide
theorem ic_2 : Int32.ofInt 2 = 2 := by decide
theorem ic_3 : Int32.ofInt 3 = 3 := by decide
theorem ic_4 : Int32.ofInt 4 = 4 := by decide
theorem ic_5 : Int32.ofInt 5 = 5 := by decide
theorem bp_m2 : (Int8.ofInt (-2)).toInt32 = (-2) := by decide
theorem bp_6 : (Int8.ofInt 6).toInt32 = 6 := by decide
theorem bp_8 : (Int8.ofInt 8).toInt32 = 8 := by decide
theorem bp_12 : (Int8.ofInt 12).toInt32 = 12 := by decide
theorem bp_15 : (Int8.ofInt 15).toInt32 = 15 := by decide
theorem bp_16 : (Int8.ofInt 16).toInt32 = 16 := by decide
theorem bp_20 : (Int8.ofInt 20).toInt32 = 20 := by decide
theorem bp_24 : (Int8.ofInt 24).toInt32 = 24 := by decide
theorem bp_31 : (Int8.ofInt 31).toInt32 = 31 := by decide
theorem bp_32 : (Int8.ofInt 32).toInt32 = 32 := by decide
theorem bp_48 : (Int8.ofInt 48).toInt32 = 48 := by decide
theorem bp_57 : (Int8.ofInt 57).toInt32 = 57 := by decide
theorem bp_60 : (Int8.ofInt 60).toInt32 = 60 := by decide
theorem bp_65 : (Int8.ofInt 65).toInt32 = 65 := by decide
theorem bp_80 : (Int8.ofInt 80).toInt32 = 80 := by decide
theorem bp_90 : (Int8.ofInt 90).toInt32 = 90 := by decide
theorem bp_95 : (Int8.ofInt 95).toInt32 = 95 := by decide
theorem bp_96 : (Int8.ofInt 96).toInt32 = 96 := by decide
theorem bp_97 : (Int8.ofInt 97).toInt32 = 97 := by decide
theorem bp_122 : (Int8.ofInt 122).toInt32 = 122 := by decide
theorem sp_150 : (Int16.ofInt 150).toInt32 = 150 := by decide
theorem sp_200 : (Int16.ofInt 200).toInt32 = 200 := by decide
theorem sp_255 : (Int16.ofInt 255).toInt32 = 255 := by decide
theorem sp_312 : (Int16.ofInt 312).toInt32 = 312 := by decide
theorem sp_720 : (Int16.ofInt 720).toInt32 = 720 := by decide
theorem sp_1000 : (Int16.ofInt 1000).toInt32 = 1000 := by decide
theorem sp_1920 : (Int16.ofInt 1920).toInt32 = 1920 := by decide
theorem kd_T {j : Nat} (h : j < 80) : dv_kd (25 + 2 * j) = 4 ∧ dv_kd (25 + 2 * j + 1) = 10 ∧ dv_ln (25 + 2 * j + 1) = 24 := by
  have key : ∀ j, j < 80 → dv_kd (25 + 2 * j) = 4 ∧ dv_kd (25 + 2 * j + 1) = 10 ∧ dv_ln (25 + 2 * j + 1) = 24 := by decide +kernel
  exact key j h
theorem kd_P {j : Nat} (h : j < 80) : dv_kd (191 + 2 * j) = 4 ∧ dv_kd (191 + 2 * j + 1) = 10 ∧ dv_ln (191 + 2 * j + 1) = 24 := by
  have key : ∀ j, j < 80 → dv_kd (191 + 2 * j) = 4 ∧ dv_kd (191 + 2 * j + 1) = 10 ∧ dv_ln (191 + 2 * j + 1) = 24 := by decide +kernel
  exact key j h
theorem kd_Q {j : Nat} (h : j < 80) : dv_kd (354 + 2 * j) = 4 ∧ dv_kd (354 + 2 * j + 1) = 10 ∧ dv_ln (354 + 2 * j + 1) = 24 := by
  have key : ∀ j, j < 80 → dv_kd (354 + 2 * j) = 4 ∧ dv_kd (354 + 2 * j + 1) = 10 ∧ dv_ln (354 + 2 * j + 1) = 24 := by decide +kernel
  exact key j h
