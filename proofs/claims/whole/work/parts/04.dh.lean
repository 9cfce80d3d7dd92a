theorem dX7_init_0 : decode cX7_init 0 = .ok (.aload_n 0, 1) := by decide +kernel
theorem dX7_init_1 : decode cX7_init 1 = .ok (.invokespecial 1, 3) := by decide +kernel
theorem dX7_init_4 : decode cX7_init 4 = .ok (.aload_n 0, 1) := by decide +kernel
theorem dX7_init_5 : decode cX7_init 5 = .ok (.new 7, 3) := by decide +kernel
theorem dX7_init_8 : decode cX7_init 8 = .ok (.dup, 1) := by decide +kernel
theorem dX7_init_9 : decode cX7_init 9 = .ok (.sipush 200, 3) := by decide +kernel
theorem dX7_init_12 : decode cX7_init 12 = .ok (.invokespecial 11, 3) := by decide +kernel
theorem dX7_init_15 : decode cX7_init 15 = .ok (.putfield 14, 3) := by decide +kernel
theorem dX7_init_18 : decode cX7_init 18 = .ok (.aload_n 0, 1) := by decide +kernel
theorem dX7_init_19 : decode cX7_init 19 = .ok (.new 7, 3) := by decide +kernel
theorem dX7_init_22 : decode cX7_init 22 = .ok (.dup, 1) := by decide +kernel
theorem dX7_init_23 : decode cX7_init 23 = .ok (.bipush 24, 2) := by decide +kernel
theorem dX7_init_25 : decode cX7_init 25 = .ok (.invokespecial 11, 3) := by decide +kernel
theorem dX7_init_28 : decode cX7_init 28 = .ok (.putfield 18, 3) := by decide +kernel
theorem dX7_init_31 : decode cX7_init 31 = .ok (.aload_n 0, 1) := by decide +kernel
theorem dX7_init_32 : decode cX7_init 32 = .ok (.new 7, 3) := by decide +kernel
theorem dX7_init_35 : decode cX7_init 35 = .ok (.dup, 1) := by decide +kernel
theorem dX7_init_36 : decode cX7_init 36 = .ok (.bipush 24, 2) := by decide +kernel
theorem dX7_init_38 : decode cX7_init 38 = .ok (.invokespecial 11, 3) := by decide +kernel
theorem dX7_init_41 : decode cX7_init 41 = .ok (.putfield 21, 3) := by decide +kernel
theorem dX7_init_44 : decode cX7_init 44 = .ok (.aload_n 0, 1) := by decide +kernel
theorem dX7_init_45 : decode cX7_init 45 = .ok (.new 7, 3) := by decide +kernel
theorem dX7_init_48 : decode cX7_init 48 = .ok (.dup, 1) := by decide +kernel
theorem dX7_init_49 : decode cX7_init 49 = .ok (.bipush 24, 2) := by decide +kernel
theorem dX7_init_51 : decode cX7_init 51 = .ok (.invokespecial 11, 3) := by decide +kernel
theorem dX7_init_54 : decode cX7_init 54 = .ok (.putfield 24, 3) := by decide +kernel
theorem dX7_init_57 : decode cX7_init 57 = .ok (.aload_n 0, 1) := by decide +kernel
theorem dX7_init_58 : decode cX7_init 58 = .ok (.new 27, 3) := by decide +kernel
theorem dX7_init_61 : decode cX7_init 61 = .ok (.dup, 1) := by decide +kernel
theorem dX7_init_62 : decode cX7_init 62 = .ok (.invokespecial 29, 3) := by decide +kernel
theorem dX7_init_65 : decode cX7_init 65 = .ok (.putfield 30, 3) := by decide +kernel
theorem dX7_init_68 : decode cX7_init 68 = .ok (.aload_n 0, 1) := by decide +kernel
theorem dX7_init_69 : decode cX7_init 69 = .ok (.new 34, 3) := by decide +kernel
theorem dX7_init_72 : decode cX7_init 72 = .ok (.dup, 1) := by decide +kernel
theorem dX7_init_73 : decode cX7_init 73 = .ok (.invokespecial 36, 3) := by decide +kernel
theorem dX7_init_76 : decode cX7_init 76 = .ok (.putfield 37, 3) := by decide +kernel
theorem dX7_init_79 : decode cX7_init 79 = .ok (.aload_n 0, 1) := by decide +kernel
theorem dX7_init_80 : decode cX7_init 80 = .ok (.new 41, 3) := by decide +kernel
theorem dX7_init_83 : decode cX7_init 83 = .ok (.dup, 1) := by decide +kernel
theorem dX7_init_84 : decode cX7_init 84 = .ok (.invokespecial 43, 3) := by decide +kernel
theorem dX7_init_87 : decode cX7_init 87 = .ok (.putfield 44, 3) := by decide +kernel
theorem dX7_init_90 : decode cX7_init 90 = .ok (.aload_n 0, 1) := by decide +kernel
theorem dX7_init_91 : decode cX7_init 91 = .ok (.new 48, 3) := by decide +kernel
theorem dX7_init_94 : decode cX7_init 94 = .ok (.dup, 1) := by decide +kernel
theorem dX7_init_95 : decode cX7_init 95 = .ok (.invokespecial 50, 3) := by decide +kernel
theorem dX7_init_98 : decode cX7_init 98 = .ok (.putfield 51, 3) := by decide +kernel
theorem dX7_init_101 : decode cX7_init 101 = .ok (.aload_n 0, 1) := by decide +kernel
theorem dX7_init_102 : decode cX7_init 102 = .ok (.new 55, 3) := by decide +kernel
theorem dX7_init_105 : decode cX7_init 105 = .ok (.dup, 1) := by decide +kernel
theorem dX7_init_106 : decode cX7_init 106 = .ok (.invokespecial 57, 3) := by decide +kernel
theorem dX7_init_109 : decode cX7_init 109 = .ok (.putfield 58, 3) := by decide +kernel
theorem dX7_init_112 : decode cX7_init 112 = .ok (.aload_n 0, 1) := by decide +kernel
theorem dX7_init_113 : decode cX7_init 113 = .ok (.new 62, 3) := by decide +kernel
theorem dX7_init_116 : decode cX7_init 116 = .ok (.dup, 1) := by decide +kernel
theorem dX7_init_117 : decode cX7_init 117 = .ok (.invokespecial 64, 3) := by decide +kernel
theorem dX7_init_120 : decode cX7_init 120 = .ok (.putfield 65, 3) := by decide +kernel
theorem dX7_init_123 : decode cX7_init 123 = .ok (.aload_n 0, 1) := by decide +kernel
theorem dX7_init_124 : decode cX7_init 124 = .ok (.new 62, 3) := by decide +kernel
theorem dX7_init_127 : decode cX7_init 127 = .ok (.dup, 1) := by decide +kernel
theorem dX7_init_128 : decode cX7_init 128 = .ok (.invokespecial 64, 3) := by decide +kernel
theorem dX7_init_131 : decode cX7_init 131 = .ok (.putfield 69, 3) := by decide +kernel
theorem dX7_init_134 : decode cX7_init 134 = .ok (.aload_n 0, 1) := by decide +kernel
theorem dX7_init_135 : decode cX7_init 135 = .ok (.bipush 80, 2) := by decide +kernel
theorem dX7_init_137 : decode cX7_init 137 = .ok (.newarray .boolean, 2) := by decide +kernel
theorem dX7_init_139 : decode cX7_init 139 = .ok (.putfield 72, 3) := by decide +kernel
theorem dX7_init_142 : decode cX7_init 142 = .ok (.aload_n 0, 1) := by decide +kernel
theorem dX7_init_143 : decode cX7_init 143 = .ok (.bipush 80, 2) := by decide +kernel
theorem dX7_init_145 : decode cX7_init 145 = .ok (.newarray .int, 2) := by decide +kernel
theorem dX7_init_147 : decode cX7_init 147 = .ok (.putfield 76, 3) := by decide +kernel
theorem dX7_init_150 : decode cX7_init 150 = .ok (.aload_n 0, 1) := by decide +kernel
theorem dX7_init_151 : decode cX7_init 151 = .ok (.iconst 0, 1) := by decide +kernel
theorem dX7_init_152 : decode cX7_init 152 = .ok (.putfield 80, 3) := by decide +kernel
theorem dX7_init_155 : decode cX7_init 155 = .ok (.aload_n 0, 1) := by decide +kernel
theorem dX7_init_156 : decode cX7_init 156 = .ok (.iconst 0, 1) := by decide +kernel
theorem dX7_init_157 : decode cX7_init 157 = .ok (.putfield 84, 3) := by decide +kernel
theorem dX7_init_160 : decode cX7_init 160 = .ok (.return_, 1) := by decide +kernel
theorem dX7_feed_0 : decode cX7_feed 0 = .ok (.aload_n 0, 1) := by decide +kernel
theorem dX7_feed_1 : decode cX7_feed 1 = .ok (.getfield 14, 3) := by decide +kernel
theorem dX7_feed_4 : decode cX7_feed 4 = .ok (.invokevirtual 88, 3) := by decide +kernel
theorem dX7_feed_7 : decode cX7_feed 7 = .ok (.bipush 20, 2) := by decide +kernel
theorem dX7_feed_9 : decode cX7_feed 9 = .ok (.iadd, 1) := by decide +kernel
theorem dX7_feed_10 : decode cX7_feed 10 = .ok (.sipush 200, 3) := by decide +kernel
theorem dX7_feed_13 : decode cX7_feed 13 = .ok (.if_icmp .le 5, 3) := by decide +kernel
theorem dX7_feed_16 : decode cX7_feed 16 = .ok (.iconst (-1), 1) := by decide +kernel
theorem dX7_feed_17 : decode cX7_feed 17 = .ok (.ireturn, 1) := by decide +kernel
theorem dX7_feed_18 : decode cX7_feed 18 = .ok (.aload_n 0, 1) := by decide +kernel
theorem dX7_feed_19 : decode cX7_feed 19 = .ok (.getfield 14, 3) := by decide +kernel
theorem dX7_feed_22 : decode cX7_feed 22 = .ok (.iload_n 1, 1) := by decide +kernel
theorem dX7_feed_23 : decode cX7_feed 23 = .ok (.invokevirtual 92, 3) := by decide +kernel
theorem dX7_feed_26 : decode cX7_feed 26 = .ok (.aload_n 0, 1) := by decide +kernel
theorem dX7_feed_27 : decode cX7_feed 27 = .ok (.getfield 14, 3) := by decide +kernel
theorem dX7_feed_30 : decode cX7_feed 30 = .ok (.iload_n 2, 1) := by decide +kernel
theorem dX7_feed_31 : decode cX7_feed 31 = .ok (.invokevirtual 92, 3) := by decide +kernel
theorem dX7_feed_34 : decode cX7_feed 34 = .ok (.aload_n 0, 1) := by decide +kernel
theorem dX7_feed_35 : decode cX7_feed 35 = .ok (.getfield 14, 3) := by decide +kernel
theorem dX7_feed_38 : decode cX7_feed 38 = .ok (.iload_n 3, 1) := by decide +kernel
theorem dX7_feed_39 : decode cX7_feed 39 = .ok (.invokevirtual 92, 3) := by decide +kernel
theorem dX7_feed_42 : decode cX7_feed 42 = .ok (.aload_n 0, 1) := by decide +kernel
theorem dX7_feed_43 : decode cX7_feed 43 = .ok (.getfield 14, 3) := by decide +kernel
theorem dX7_feed_46 : decode cX7_feed 46 = .ok (.iload 4, 2) := by decide +kernel
theorem dX7_feed_48 : decode cX7_feed 48 = .ok (.invokevirtual 92, 3) := by decide +kernel
theorem dX7_feed_51 : decode cX7_feed 51 = .ok (.aload_n 0, 1) := by decide +kernel
theorem dX7_feed_52 : decode cX7_feed 52 = .ok (.getfield 14, 3) := by decide +kernel
theorem dX7_feed_55 : decode cX7_feed 55 = .ok (.iload 5, 2) := by decide +kernel
theorem dX7_feed_57 : decode cX7_feed 57 = .ok (.invokevirtual 92, 3) := by decide +kernel
theorem dX7_feed_60 : decode cX7_feed 60 = .ok (.aload_n 0, 1) := by decide +kernel
theorem dX7_feed_61 : decode cX7_feed 61 = .ok (.getfield 14, 3) := by decide +kernel
theorem dX7_feed_64 : decode cX7_feed 64 = .ok (.invokevirtual 88, 3) := by decide +kernel
theorem dX7_feed_67 : decode cX7_feed 67 = .ok (.ireturn, 1) := by decide +kernel
theorem dX7_isOnTape_0 : decode cX7_isOnTape 0 = .ok (.iload_n 1, 1) := by decide +kernel
theorem dX7_isOnTape_1 : decode cX7_isOnTape 1 = .ok (.ifCond .lt 18, 3) := by decide +kernel
theorem dX7_isOnTape_4 : decode cX7_isOnTape 4 = .ok (.iload_n 1, 1) := by decide +kernel
theorem dX7_isOnTape_5 : decode cX7_isOnTape 5 = .ok (.aload_n 0, 1) := by decide +kernel
theorem dX7_isOnTape_6 : decode cX7_isOnTape 6 = .ok (.getfield 14, 3) := by decide +kernel
theorem dX7_isOnTape_9 : decode cX7_isOnTape 9 = .ok (.invokevirtual 88, 3) := by decide +kernel
theorem dX7_isOnTape_12 : decode cX7_isOnTape 12 = .ok (.if_icmp .gt 7, 3) := by decide +kernel
theorem dX7_isOnTape_15 : decode cX7_isOnTape 15 = .ok (.iconst 1, 1) := by decide +kernel
theorem dX7_isOnTape_16 : decode cX7_isOnTape 16 = .ok (.goto 4, 3) := by decide +kernel
theorem dX7_isOnTape_19 : decode cX7_isOnTape 19 = .ok (.iconst 0, 1) := by decide +kernel
theorem dX7_isOnTape_20 : decode cX7_isOnTape 20 = .ok (.ireturn, 1) := by decide +kernel
theorem dX7_take_0 : decode cX7_take 0 = .ok (.aload_n 0, 1) := by decide +kernel
theorem dX7_take_1 : decode cX7_take 1 = .ok (.getfield 18, 3) := by decide +kernel
theorem dX7_take_4 : decode cX7_take 4 = .ok (.invokevirtual 95, 3) := by decide +kernel
theorem dX7_take_7 : decode cX7_take 7 = .ok (.iconst 0, 1) := by decide +kernel
theorem dX7_take_8 : decode cX7_take 8 = .ok (.istore_n 2, 1) := by decide +kernel
theorem dX7_take_9 : decode cX7_take 9 = .ok (.iload_n 2, 1) := by decide +kernel
theorem dX7_take_10 : decode cX7_take 10 = .ok (.iload_n 1, 1) := by decide +kernel
theorem dX7_take_11 : decode cX7_take 11 = .ok (.if_icmp .ge 24, 3) := by decide +kernel
theorem dX7_take_14 : decode cX7_take 14 = .ok (.aload_n 0, 1) := by decide +kernel
theorem dX7_take_15 : decode cX7_take 15 = .ok (.getfield 18, 3) := by decide +kernel
theorem dX7_take_18 : decode cX7_take 18 = .ok (.aload_n 0, 1) := by decide +kernel
theorem dX7_take_19 : decode cX7_take 19 = .ok (.getfield 14, 3) := by decide +kernel
theorem dX7_take_22 : decode cX7_take 22 = .ok (.iload_n 2, 1) := by decide +kernel
theorem dX7_take_23 : decode cX7_take 23 = .ok (.invokevirtual 98, 3) := by decide +kernel
theorem dX7_take_26 : decode cX7_take 26 = .ok (.invokevirtual 102, 3) := by decide +kernel
theorem dX7_take_29 : decode cX7_take 29 = .ok (.iinc 2 1, 3) := by decide +kernel
theorem dX7_take_32 : decode cX7_take 32 = .ok (.goto (-23), 3) := by decide +kernel
theorem dX7_take_35 : decode cX7_take 35 = .ok (.aload_n 0, 1) := by decide +kernel
theorem dX7_take_36 : decode cX7_take 36 = .ok (.getfield 14, 3) := by decide +kernel
theorem dX7_take_39 : decode cX7_take 39 = .ok (.invokevirtual 95, 3) := by decide +kernel
theorem dX7_take_42 : decode cX7_take 42 = .ok (.return_, 1) := by decide +kernel
theorem dX7_takesName_0 : decode cX7_takesName 0 = .ok (.aload_n 0, 1) := by decide +kernel
theorem dX7_takesName_1 : decode cX7_takesName 1 = .ok (.iload_n 1, 1) := by decide +kernel
theorem dX7_takesName_2 : decode cX7_takesName 2 = .ok (.invokevirtual 105, 3) := by decide +kernel
theorem dX7_takesName_5 : decode cX7_takesName 5 = .ok (.ifCond .ne 5, 3) := by decide +kernel
theorem dX7_takesName_8 : decode cX7_takesName 8 = .ok (.iconst 0, 1) := by decide +kernel
theorem dX7_takesName_9 : decode cX7_takesName 9 = .ok (.ireturn, 1) := by decide +kernel
theorem dX7_takesName_10 : decode cX7_takesName 10 = .ok (.aload_n 0, 1) := by decide +kernel
theorem dX7_takesName_11 : decode cX7_takesName 11 = .ok (.iload_n 1, 1) := by decide +kernel
theorem dX7_takesName_12 : decode cX7_takesName 12 = .ok (.invokevirtual 109, 3) := by decide +kernel
theorem dX7_takesName_15 : decode cX7_takesName 15 = .ok (.aload_n 0, 1) := by decide +kernel
theorem dX7_takesName_16 : decode cX7_takesName 16 = .ok (.getfield 18, 3) := by decide +kernel
theorem dX7_takesName_19 : decode cX7_takesName 19 = .ok (.invokevirtual 112, 3) := by decide +kernel
theorem dX7_takesName_22 : decode cX7_takesName 22 = .ok (.ireturn, 1) := by decide +kernel
theorem dX7_takesWord_0 : decode cX7_takesWord 0 = .ok (.aload_n 0, 1) := by decide +kernel
theorem dX7_takesWord_1 : decode cX7_takesWord 1 = .ok (.iload_n 1, 1) := by decide +kernel
theorem dX7_takesWord_2 : decode cX7_takesWord 2 = .ok (.invokevirtual 105, 3) := by decide +kernel
theorem dX7_takesWord_5 : decode cX7_takesWord 5 = .ok (.ifCond .ne 5, 3) := by decide +kernel
theorem dX7_takesWord_8 : decode cX7_takesWord 8 = .ok (.iconst 0, 1) := by decide +kernel
theorem dX7_takesWord_9 : decode cX7_takesWord 9 = .ok (.ireturn, 1) := by decide +kernel
theorem dX7_takesWord_10 : decode cX7_takesWord 10 = .ok (.aload_n 0, 1) := by decide +kernel
theorem dX7_takesWord_11 : decode cX7_takesWord 11 = .ok (.iload_n 1, 1) := by decide +kernel
theorem dX7_takesWord_12 : decode cX7_takesWord 12 = .ok (.invokevirtual 109, 3) := by decide +kernel
theorem dX7_takesWord_15 : decode cX7_takesWord 15 = .ok (.aload_n 0, 1) := by decide +kernel
theorem dX7_takesWord_16 : decode cX7_takesWord 16 = .ok (.getfield 18, 3) := by decide +kernel
theorem dX7_takesWord_19 : decode cX7_takesWord 19 = .ok (.invokevirtual 116, 3) := by decide +kernel
theorem dX7_takesWord_22 : decode cX7_takesWord 22 = .ok (.ireturn, 1) := by decide +kernel
theorem dX7_scope_0 : decode cX7_scope 0 = .ok (.aload_n 0, 1) := by decide +kernel
theorem dX7_scope_1 : decode cX7_scope 1 = .ok (.getfield 44, 3) := by decide +kernel
theorem dX7_scope_4 : decode cX7_scope 4 = .ok (.iload_n 1, 1) := by decide +kernel
theorem dX7_scope_5 : decode cX7_scope 5 = .ok (.invokevirtual 119, 3) := by decide +kernel
theorem dX7_scope_8 : decode cX7_scope 8 = .ok (.ifCond .ne 9, 3) := by decide +kernel
theorem dX7_scope_11 : decode cX7_scope 11 = .ok (.aload_n 0, 1) := by decide +kernel
theorem dX7_scope_12 : decode cX7_scope 12 = .ok (.iconst 1, 1) := by decide +kernel
theorem dX7_scope_13 : decode cX7_scope 13 = .ok (.invokevirtual 122, 3) := by decide +kernel
theorem dX7_scope_16 : decode cX7_scope 16 = .ok (.ireturn, 1) := by decide +kernel
theorem dX7_scope_17 : decode cX7_scope 17 = .ok (.aload_n 0, 1) := by decide +kernel
theorem dX7_scope_18 : decode cX7_scope 18 = .ok (.getfield 44, 3) := by decide +kernel
theorem dX7_scope_21 : decode cX7_scope 21 = .ok (.invokevirtual 125, 3) := by decide +kernel
theorem dX7_scope_24 : decode cX7_scope 24 = .ok (.ifCond .eq 9, 3) := by decide +kernel
theorem dX7_scope_27 : decode cX7_scope 27 = .ok (.aload_n 0, 1) := by decide +kernel
theorem dX7_scope_28 : decode cX7_scope 28 = .ok (.iconst 3, 1) := by decide +kernel
theorem dX7_scope_29 : decode cX7_scope 29 = .ok (.invokevirtual 122, 3) := by decide +kernel
theorem dX7_scope_32 : decode cX7_scope 32 = .ok (.ireturn, 1) := by decide +kernel
theorem dX7_scope_33 : decode cX7_scope 33 = .ok (.aload_n 0, 1) := by decide +kernel
theorem dX7_scope_34 : decode cX7_scope 34 = .ok (.aload_n 0, 1) := by decide +kernel
theorem dX7_scope_35 : decode cX7_scope 35 = .ok (.getfield 44, 3) := by decide +kernel
theorem dX7_scope_38 : decode cX7_scope 38 = .ok (.iload_n 1, 1) := by decide +kernel
theorem dX7_scope_39 : decode cX7_scope 39 = .ok (.invokevirtual 128, 3) := by decide +kernel
theorem dX7_scope_42 : decode cX7_scope 42 = .ok (.invokevirtual 131, 3) := by decide +kernel
theorem dX7_scope_45 : decode cX7_scope 45 = .ok (.ireturn, 1) := by decide +kernel
theorem dX7_thing_0 : decode cX7_thing 0 = .ok (.aload_n 0, 1) := by decide +kernel
theorem dX7_thing_1 : decode cX7_thing 1 = .ok (.getfield 44, 3) := by decide +kernel
theorem dX7_thing_4 : decode cX7_thing 4 = .ok (.iload_n 1, 1) := by decide +kernel
theorem dX7_thing_5 : decode cX7_thing 5 = .ok (.invokevirtual 119, 3) := by decide +kernel
theorem dX7_thing_8 : decode cX7_thing 8 = .ok (.ifCond .ne 9, 3) := by decide +kernel
theorem dX7_thing_11 : decode cX7_thing 11 = .ok (.aload_n 0, 1) := by decide +kernel
theorem dX7_thing_12 : decode cX7_thing 12 = .ok (.iconst 1, 1) := by decide +kernel
theorem dX7_thing_13 : decode cX7_thing 13 = .ok (.invokevirtual 122, 3) := by decide +kernel
theorem dX7_thing_16 : decode cX7_thing 16 = .ok (.ireturn, 1) := by decide +kernel
theorem dX7_thing_17 : decode cX7_thing 17 = .ok (.iload_n 2, 1) := by decide +kernel
theorem dX7_thing_18 : decode cX7_thing 18 = .ok (.invokestatic 134, 3) := by decide +kernel
theorem dX7_thing_21 : decode cX7_thing 21 = .ok (.ifCond .eq 11, 3) := by decide +kernel
theorem dX7_thing_24 : decode cX7_thing 24 = .ok (.aload_n 0, 1) := by decide +kernel
theorem dX7_thing_25 : decode cX7_thing 25 = .ok (.iload_n 3, 1) := by decide +kernel
theorem dX7_thing_26 : decode cX7_thing 26 = .ok (.invokevirtual 137, 3) := by decide +kernel
theorem dX7_thing_29 : decode cX7_thing 29 = .ok (.ifCond .ne 9, 3) := by decide +kernel
theorem dX7_thing_32 : decode cX7_thing 32 = .ok (.aload_n 0, 1) := by decide +kernel
theorem dX7_thing_33 : decode cX7_thing 33 = .ok (.iconst 2, 1) := by decide +kernel
theorem dX7_thing_34 : decode cX7_thing 34 = .ok (.invokevirtual 122, 3) := by decide +kernel
theorem dX7_thing_37 : decode cX7_thing 37 = .ok (.ireturn, 1) := by decide +kernel
theorem dX7_thing_38 : decode cX7_thing 38 = .ok (.aload_n 0, 1) := by decide +kernel
theorem dX7_thing_39 : decode cX7_thing 39 = .ok (.iconst (-1), 1) := by decide +kernel
theorem dX7_thing_40 : decode cX7_thing 40 = .ok (.iload_n 1, 1) := by decide +kernel
theorem dX7_thing_41 : decode cX7_thing 41 = .ok (.aload_n 0, 1) := by decide +kernel
theorem dX7_thing_42 : decode cX7_thing 42 = .ok (.getfield 18, 3) := by decide +kernel
theorem dX7_thing_45 : decode cX7_thing 45 = .ok (.iconst 0, 1) := by decide +kernel
theorem dX7_thing_46 : decode cX7_thing 46 = .ok (.invokevirtual 140, 3) := by decide +kernel
theorem dX7_thing_49 : decode cX7_thing 49 = .ok (.ifCond .ne 16, 3) := by decide +kernel
theorem dX7_thing_52 : decode cX7_thing 52 = .ok (.aload_n 0, 1) := by decide +kernel
theorem dX7_thing_53 : decode cX7_thing 53 = .ok (.iload_n 1, 1) := by decide +kernel
theorem dX7_thing_54 : decode cX7_thing 54 = .ok (.aload_n 0, 1) := by decide +kernel
theorem dX7_thing_55 : decode cX7_thing 55 = .ok (.getfield 18, 3) := by decide +kernel
theorem dX7_thing_58 : decode cX7_thing 58 = .ok (.iconst 0, 1) := by decide +kernel
theorem dX7_thing_59 : decode cX7_thing 59 = .ok (.invokevirtual 144, 3) := by decide +kernel
theorem dX7_thing_62 : decode cX7_thing 62 = .ok (.ifCond .eq 9, 3) := by decide +kernel
theorem dX7_thing_65 : decode cX7_thing 65 = .ok (.aload_n 0, 1) := by decide +kernel
theorem dX7_thing_66 : decode cX7_thing 66 = .ok (.iconst 4, 1) := by decide +kernel
theorem dX7_thing_67 : decode cX7_thing 67 = .ok (.invokevirtual 122, 3) := by decide +kernel
theorem dX7_thing_70 : decode cX7_thing 70 = .ok (.ireturn, 1) := by decide +kernel
theorem dX7_thing_71 : decode cX7_thing 71 = .ok (.aload_n 0, 1) := by decide +kernel
theorem dX7_thing_72 : decode cX7_thing 72 = .ok (.getfield 51, 3) := by decide +kernel
theorem dX7_thing_75 : decode cX7_thing 75 = .ok (.invokevirtual 148, 3) := by decide +kernel
theorem dX7_thing_78 : decode cX7_thing 78 = .ok (.ifCond .eq 9, 3) := by decide +kernel
theorem dX7_thing_81 : decode cX7_thing 81 = .ok (.aload_n 0, 1) := by decide +kernel
theorem dX7_thing_82 : decode cX7_thing 82 = .ok (.iconst 3, 1) := by decide +kernel
theorem dX7_thing_83 : decode cX7_thing 83 = .ok (.invokevirtual 122, 3) := by decide +kernel
theorem dX7_thing_86 : decode cX7_thing 86 = .ok (.ireturn, 1) := by decide +kernel
theorem dX7_thing_87 : decode cX7_thing 87 = .ok (.aload_n 0, 1) := by decide +kernel
theorem dX7_thing_88 : decode cX7_thing 88 = .ok (.iconst 0, 1) := by decide +kernel
theorem dX7_thing_89 : decode cX7_thing 89 = .ok (.putfield 80, 3) := by decide +kernel
theorem dX7_thing_92 : decode cX7_thing 92 = .ok (.aload_n 0, 1) := by decide +kernel
theorem dX7_thing_93 : decode cX7_thing 93 = .ok (.aload_n 0, 1) := by decide +kernel
theorem dX7_thing_94 : decode cX7_thing 94 = .ok (.getfield 51, 3) := by decide +kernel
theorem dX7_thing_97 : decode cX7_thing 97 = .ok (.iload_n 1, 1) := by decide +kernel
theorem dX7_thing_98 : decode cX7_thing 98 = .ok (.iload_n 2, 1) := by decide +kernel
theorem dX7_thing_99 : decode cX7_thing 99 = .ok (.aload_n 0, 1) := by decide +kernel
theorem dX7_thing_100 : decode cX7_thing 100 = .ok (.getfield 18, 3) := by decide +kernel
theorem dX7_thing_103 : decode cX7_thing 103 = .ok (.invokevirtual 149, 3) := by decide +kernel
theorem dX7_thing_106 : decode cX7_thing 106 = .ok (.invokevirtual 131, 3) := by decide +kernel
theorem dX7_thing_109 : decode cX7_thing 109 = .ok (.ireturn, 1) := by decide +kernel
theorem dX7_use_0 : decode cX7_use 0 = .ok (.aload_n 0, 1) := by decide +kernel
theorem dX7_use_1 : decode cX7_use 1 = .ok (.getfield 44, 3) := by decide +kernel
theorem dX7_use_4 : decode cX7_use 4 = .ok (.iload_n 1, 1) := by decide +kernel
theorem dX7_use_5 : decode cX7_use 5 = .ok (.invokevirtual 119, 3) := by decide +kernel
theorem dX7_use_8 : decode cX7_use 8 = .ok (.ifCond .ne 9, 3) := by decide +kernel
theorem dX7_use_11 : decode cX7_use 11 = .ok (.aload_n 0, 1) := by decide +kernel
theorem dX7_use_12 : decode cX7_use 12 = .ok (.iconst 1, 1) := by decide +kernel
theorem dX7_use_13 : decode cX7_use 13 = .ok (.invokevirtual 122, 3) := by decide +kernel
theorem dX7_use_16 : decode cX7_use 16 = .ok (.ireturn, 1) := by decide +kernel
theorem dX7_use_17 : decode cX7_use 17 = .ok (.aload_n 0, 1) := by decide +kernel
theorem dX7_use_18 : decode cX7_use 18 = .ok (.iload_n 2, 1) := by decide +kernel
theorem dX7_use_19 : decode cX7_use 19 = .ok (.invokevirtual 137, 3) := by decide +kernel
theorem dX7_use_22 : decode cX7_use 22 = .ok (.ifCond .ne 9, 3) := by decide +kernel
theorem dX7_use_25 : decode cX7_use 25 = .ok (.aload_n 0, 1) := by decide +kernel
theorem dX7_use_26 : decode cX7_use 26 = .ok (.iconst 2, 1) := by decide +kernel
theorem dX7_use_27 : decode cX7_use 27 = .ok (.invokevirtual 122, 3) := by decide +kernel
theorem dX7_use_30 : decode cX7_use 30 = .ok (.ireturn, 1) := by decide +kernel
theorem dX7_use_31 : decode cX7_use 31 = .ok (.aload_n 0, 1) := by decide +kernel
theorem dX7_use_32 : decode cX7_use 32 = .ok (.iload_n 1, 1) := by decide +kernel
theorem dX7_use_33 : decode cX7_use 33 = .ok (.aload_n 0, 1) := by decide +kernel
theorem dX7_use_34 : decode cX7_use 34 = .ok (.getfield 18, 3) := by decide +kernel
theorem dX7_use_37 : decode cX7_use 37 = .ok (.iconst 0, 1) := by decide +kernel
theorem dX7_use_38 : decode cX7_use 38 = .ok (.invokevirtual 152, 3) := by decide +kernel
theorem dX7_use_41 : decode cX7_use 41 = .ok (.istore_n 3, 1) := by decide +kernel
theorem dX7_use_42 : decode cX7_use 42 = .ok (.iload_n 3, 1) := by decide +kernel
theorem dX7_use_43 : decode cX7_use 43 = .ok (.bipush (-2), 2) := by decide +kernel
theorem dX7_use_45 : decode cX7_use 45 = .ok (.if_icmp .ne 10, 3) := by decide +kernel
theorem dX7_use_48 : decode cX7_use 48 = .ok (.aload_n 0, 1) := by decide +kernel
theorem dX7_use_49 : decode cX7_use 49 = .ok (.bipush 6, 2) := by decide +kernel
theorem dX7_use_51 : decode cX7_use 51 = .ok (.invokevirtual 122, 3) := by decide +kernel
theorem dX7_use_54 : decode cX7_use 54 = .ok (.ireturn, 1) := by decide +kernel
theorem dX7_use_55 : decode cX7_use 55 = .ok (.aload_n 0, 1) := by decide +kernel
theorem dX7_use_56 : decode cX7_use 56 = .ok (.getfield 58, 3) := by decide +kernel
theorem dX7_use_59 : decode cX7_use 59 = .ok (.invokevirtual 156, 3) := by decide +kernel
theorem dX7_use_62 : decode cX7_use 62 = .ok (.ifCond .eq 9, 3) := by decide +kernel
theorem dX7_use_65 : decode cX7_use 65 = .ok (.aload_n 0, 1) := by decide +kernel
theorem dX7_use_66 : decode cX7_use 66 = .ok (.iconst 3, 1) := by decide +kernel
theorem dX7_use_67 : decode cX7_use 67 = .ok (.invokevirtual 122, 3) := by decide +kernel
theorem dX7_use_70 : decode cX7_use 70 = .ok (.ireturn, 1) := by decide +kernel
theorem dX7_use_71 : decode cX7_use 71 = .ok (.aload_n 0, 1) := by decide +kernel
theorem dX7_use_72 : decode cX7_use 72 = .ok (.iconst 0, 1) := by decide +kernel
theorem dX7_use_73 : decode cX7_use 73 = .ok (.putfield 80, 3) := by decide +kernel
theorem dX7_use_76 : decode cX7_use 76 = .ok (.aload_n 0, 1) := by decide +kernel
theorem dX7_use_77 : decode cX7_use 77 = .ok (.aload_n 0, 1) := by decide +kernel
theorem dX7_use_78 : decode cX7_use 78 = .ok (.getfield 58, 3) := by decide +kernel
theorem dX7_use_81 : decode cX7_use 81 = .ok (.iload_n 1, 1) := by decide +kernel
theorem dX7_use_82 : decode cX7_use 82 = .ok (.iload_n 3, 1) := by decide +kernel
theorem dX7_use_83 : decode cX7_use 83 = .ok (.invokevirtual 157, 3) := by decide +kernel
theorem dX7_use_86 : decode cX7_use 86 = .ok (.invokevirtual 131, 3) := by decide +kernel
theorem dX7_use_89 : decode cX7_use 89 = .ok (.ireturn, 1) := by decide +kernel
theorem dX7_about_0 : decode cX7_about 0 = .ok (.aload_n 0, 1) := by decide +kernel
theorem dX7_about_1 : decode cX7_about 1 = .ok (.getfield 51, 3) := by decide +kernel
theorem dX7_about_4 : decode cX7_about 4 = .ok (.iload_n 1, 1) := by decide +kernel
theorem dX7_about_5 : decode cX7_about 5 = .ok (.invokevirtual 160, 3) := by decide +kernel
theorem dX7_about_8 : decode cX7_about 8 = .ok (.ifCond .ne 5, 3) := by decide +kernel
theorem dX7_about_11 : decode cX7_about 11 = .ok (.iconst (-1), 1) := by decide +kernel
theorem dX7_about_12 : decode cX7_about 12 = .ok (.ireturn, 1) := by decide +kernel
theorem dX7_about_13 : decode cX7_about 13 = .ok (.iload_n 2, 1) := by decide +kernel
theorem dX7_about_14 : decode cX7_about 14 = .ok (.tableswitch 122 0 6 #[42, 51, 60, 72, 95, 107, 113], 42) := by decide +kernel
theorem dX7_about_56 : decode cX7_about 56 = .ok (.aload_n 0, 1) := by decide +kernel
theorem dX7_about_57 : decode cX7_about 57 = .ok (.getfield 51, 3) := by decide +kernel
theorem dX7_about_60 : decode cX7_about 60 = .ok (.iload_n 1, 1) := by decide +kernel
theorem dX7_about_61 : decode cX7_about 61 = .ok (.invokevirtual 161, 3) := by decide +kernel
theorem dX7_about_64 : decode cX7_about 64 = .ok (.ireturn, 1) := by decide +kernel
theorem dX7_about_65 : decode cX7_about 65 = .ok (.aload_n 0, 1) := by decide +kernel
theorem dX7_about_66 : decode cX7_about 66 = .ok (.getfield 51, 3) := by decide +kernel
theorem dX7_about_69 : decode cX7_about 69 = .ok (.iload_n 1, 1) := by decide +kernel
theorem dX7_about_70 : decode cX7_about 70 = .ok (.invokevirtual 164, 3) := by decide +kernel
theorem dX7_about_73 : decode cX7_about 73 = .ok (.ireturn, 1) := by decide +kernel
theorem dX7_about_74 : decode cX7_about 74 = .ok (.aload_n 0, 1) := by decide +kernel
theorem dX7_about_75 : decode cX7_about 75 = .ok (.getfield 51, 3) := by decide +kernel
theorem dX7_about_78 : decode cX7_about 78 = .ok (.iload_n 1, 1) := by decide +kernel
theorem dX7_about_79 : decode cX7_about 79 = .ok (.invokevirtual 167, 3) := by decide +kernel
theorem dX7_about_82 : decode cX7_about 82 = .ok (.invokevirtual 88, 3) := by decide +kernel
theorem dX7_about_85 : decode cX7_about 85 = .ok (.ireturn, 1) := by decide +kernel
theorem dX7_about_86 : decode cX7_about 86 = .ok (.aload_n 0, 1) := by decide +kernel
theorem dX7_about_87 : decode cX7_about 87 = .ok (.getfield 30, 3) := by decide +kernel
theorem dX7_about_90 : decode cX7_about 90 = .ok (.aload_n 0, 1) := by decide +kernel
theorem dX7_about_91 : decode cX7_about 91 = .ok (.getfield 51, 3) := by decide +kernel
theorem dX7_about_94 : decode cX7_about 94 = .ok (.iload_n 1, 1) := by decide +kernel
theorem dX7_about_95 : decode cX7_about 95 = .ok (.invokevirtual 167, 3) := by decide +kernel
theorem dX7_about_98 : decode cX7_about 98 = .ok (.invokevirtual 171, 3) := by decide +kernel
theorem dX7_about_101 : decode cX7_about 101 = .ok (.aload_n 0, 1) := by decide +kernel
theorem dX7_about_102 : decode cX7_about 102 = .ok (.getfield 30, 3) := by decide +kernel
theorem dX7_about_105 : decode cX7_about 105 = .ok (.invokevirtual 175, 3) := by decide +kernel
theorem dX7_about_108 : decode cX7_about 108 = .ok (.ireturn, 1) := by decide +kernel
theorem dX7_about_109 : decode cX7_about 109 = .ok (.aload_n 0, 1) := by decide +kernel
theorem dX7_about_110 : decode cX7_about 110 = .ok (.getfield 51, 3) := by decide +kernel
theorem dX7_about_113 : decode cX7_about 113 = .ok (.iload_n 1, 1) := by decide +kernel
theorem dX7_about_114 : decode cX7_about 114 = .ok (.invokevirtual 167, 3) := by decide +kernel
theorem dX7_about_117 : decode cX7_about 117 = .ok (.invokevirtual 176, 3) := by decide +kernel
theorem dX7_about_120 : decode cX7_about 120 = .ok (.ireturn, 1) := by decide +kernel
theorem dX7_about_121 : decode cX7_about 121 = .ok (.aload_n 0, 1) := by decide +kernel
theorem dX7_about_122 : decode cX7_about 122 = .ok (.iload_n 1, 1) := by decide +kernel
theorem dX7_about_123 : decode cX7_about 123 = .ok (.invokevirtual 179, 3) := by decide +kernel
theorem dX7_about_126 : decode cX7_about 126 = .ok (.ireturn, 1) := by decide +kernel
theorem dX7_about_127 : decode cX7_about 127 = .ok (.aload_n 0, 1) := by decide +kernel
theorem dX7_about_128 : decode cX7_about 128 = .ok (.getfield 58, 3) := by decide +kernel
theorem dX7_about_131 : decode cX7_about 131 = .ok (.iload_n 1, 1) := by decide +kernel
theorem dX7_about_132 : decode cX7_about 132 = .ok (.invokevirtual 182, 3) := by decide +kernel
theorem dX7_about_135 : decode cX7_about 135 = .ok (.ireturn, 1) := by decide +kernel
theorem dX7_about_136 : decode cX7_about 136 = .ok (.iconst (-1), 1) := by decide +kernel
theorem dX7_about_137 : decode cX7_about 137 = .ok (.ireturn, 1) := by decide +kernel
theorem dX7_name_0 : decode cX7_name 0 = .ok (.aload_n 0, 1) := by decide +kernel
theorem dX7_name_1 : decode cX7_name 1 = .ok (.getfield 51, 3) := by decide +kernel
theorem dX7_name_4 : decode cX7_name 4 = .ok (.iload_n 1, 1) := by decide +kernel
theorem dX7_name_5 : decode cX7_name 5 = .ok (.invokevirtual 160, 3) := by decide +kernel
theorem dX7_name_8 : decode cX7_name 8 = .ok (.ifCond .eq 18, 3) := by decide +kernel
theorem dX7_name_11 : decode cX7_name 11 = .ok (.aload_n 0, 1) := by decide +kernel
theorem dX7_name_12 : decode cX7_name 12 = .ok (.getfield 51, 3) := by decide +kernel
theorem dX7_name_15 : decode cX7_name 15 = .ok (.iload_n 1, 1) := by decide +kernel
theorem dX7_name_16 : decode cX7_name 16 = .ok (.invokevirtual 167, 3) := by decide +kernel
theorem dX7_name_19 : decode cX7_name 19 = .ok (.iload_n 2, 1) := by decide +kernel
theorem dX7_name_20 : decode cX7_name 20 = .ok (.invokevirtual 185, 3) := by decide +kernel
theorem dX7_name_23 : decode cX7_name 23 = .ok (.ifCond .ne 13, 3) := by decide +kernel
theorem dX7_name_26 : decode cX7_name 26 = .ok (.new 186, 3) := by decide +kernel
theorem dX7_name_29 : decode cX7_name 29 = .ok (.dup, 1) := by decide +kernel
theorem dX7_name_30 : decode cX7_name 30 = .ok (.ldc 188, 2) := by decide +kernel
theorem dX7_name_32 : decode cX7_name 32 = .ok (.invokespecial 190, 3) := by decide +kernel
theorem dX7_name_35 : decode cX7_name 35 = .ok (.athrow, 1) := by decide +kernel
theorem dX7_name_36 : decode cX7_name 36 = .ok (.aload_n 0, 1) := by decide +kernel
theorem dX7_name_37 : decode cX7_name 37 = .ok (.getfield 51, 3) := by decide +kernel
theorem dX7_name_40 : decode cX7_name 40 = .ok (.iload_n 1, 1) := by decide +kernel
theorem dX7_name_41 : decode cX7_name 41 = .ok (.invokevirtual 167, 3) := by decide +kernel
theorem dX7_name_44 : decode cX7_name 44 = .ok (.iload_n 2, 1) := by decide +kernel
theorem dX7_name_45 : decode cX7_name 45 = .ok (.invokevirtual 98, 3) := by decide +kernel
theorem dX7_name_48 : decode cX7_name 48 = .ok (.ireturn, 1) := by decide +kernel
theorem dX7_means_0 : decode cX7_means 0 = .ok (.aload_n 0, 1) := by decide +kernel
theorem dX7_means_1 : decode cX7_means 1 = .ok (.getfield 58, 3) := by decide +kernel
theorem dX7_means_4 : decode cX7_means 4 = .ok (.iload_n 1, 1) := by decide +kernel
theorem dX7_means_5 : decode cX7_means 5 = .ok (.invokevirtual 193, 3) := by decide +kernel
theorem dX7_means_8 : decode cX7_means 8 = .ok (.ifCond .ne 5, 3) := by decide +kernel
theorem dX7_means_11 : decode cX7_means 11 = .ok (.iconst (-1), 1) := by decide +kernel
theorem dX7_means_12 : decode cX7_means 12 = .ok (.ireturn, 1) := by decide +kernel
theorem dX7_means_13 : decode cX7_means 13 = .ok (.iload_n 2, 1) := by decide +kernel
theorem dX7_means_14 : decode cX7_means 14 = .ok (.ifCond .ne 12, 3) := by decide +kernel
theorem dX7_means_17 : decode cX7_means 17 = .ok (.aload_n 0, 1) := by decide +kernel
theorem dX7_means_18 : decode cX7_means 18 = .ok (.getfield 58, 3) := by decide +kernel
theorem dX7_means_21 : decode cX7_means 21 = .ok (.iload_n 1, 1) := by decide +kernel
theorem dX7_means_22 : decode cX7_means 22 = .ok (.invokevirtual 194, 3) := by decide +kernel
theorem dX7_means_25 : decode cX7_means 25 = .ok (.ireturn, 1) := by decide +kernel
theorem dX7_means_26 : decode cX7_means 26 = .ok (.iload_n 2, 1) := by decide +kernel
theorem dX7_means_27 : decode cX7_means 27 = .ok (.iconst 1, 1) := by decide +kernel
theorem dX7_means_28 : decode cX7_means 28 = .ok (.if_icmp .ne 14, 3) := by decide +kernel
theorem dX7_means_31 : decode cX7_means 31 = .ok (.aload_n 0, 1) := by decide +kernel
theorem dX7_means_32 : decode cX7_means 32 = .ok (.getfield 58, 3) := by decide +kernel
theorem dX7_means_35 : decode cX7_means 35 = .ok (.iload_n 1, 1) := by decide +kernel
theorem dX7_means_36 : decode cX7_means 36 = .ok (.invokevirtual 195, 3) := by decide +kernel
theorem dX7_means_39 : decode cX7_means 39 = .ok (.goto 4, 3) := by decide +kernel
theorem dX7_means_42 : decode cX7_means 42 = .ok (.iconst (-1), 1) := by decide +kernel
theorem dX7_means_43 : decode cX7_means 43 = .ok (.ireturn, 1) := by decide +kernel
theorem dX7_find_0 : decode cX7_find 0 = .ok (.aload_n 0, 1) := by decide +kernel
theorem dX7_find_1 : decode cX7_find 1 = .ok (.getfield 44, 3) := by decide +kernel
theorem dX7_find_4 : decode cX7_find 4 = .ok (.iload_n 1, 1) := by decide +kernel
theorem dX7_find_5 : decode cX7_find 5 = .ok (.invokevirtual 119, 3) := by decide +kernel
theorem dX7_find_8 : decode cX7_find 8 = .ok (.ifCond .ne 9, 3) := by decide +kernel
theorem dX7_find_11 : decode cX7_find 11 = .ok (.aload_n 0, 1) := by decide +kernel
theorem dX7_find_12 : decode cX7_find 12 = .ok (.iconst 1, 1) := by decide +kernel
theorem dX7_find_13 : decode cX7_find 13 = .ok (.invokevirtual 122, 3) := by decide +kernel
theorem dX7_find_16 : decode cX7_find 16 = .ok (.ireturn, 1) := by decide +kernel
theorem dX7_find_17 : decode cX7_find 17 = .ok (.aload_n 0, 1) := by decide +kernel
theorem dX7_find_18 : decode cX7_find 18 = .ok (.iload_n 2, 1) := by decide +kernel
theorem dX7_find_19 : decode cX7_find 19 = .ok (.invokevirtual 137, 3) := by decide +kernel
theorem dX7_find_22 : decode cX7_find 22 = .ok (.ifCond .ne 9, 3) := by decide +kernel
theorem dX7_find_25 : decode cX7_find 25 = .ok (.aload_n 0, 1) := by decide +kernel
theorem dX7_find_26 : decode cX7_find 26 = .ok (.iconst 2, 1) := by decide +kernel
theorem dX7_find_27 : decode cX7_find 27 = .ok (.invokevirtual 122, 3) := by decide +kernel
theorem dX7_find_30 : decode cX7_find 30 = .ok (.ireturn, 1) := by decide +kernel
theorem dX7_find_31 : decode cX7_find 31 = .ok (.aload_n 0, 1) := by decide +kernel
theorem dX7_find_32 : decode cX7_find 32 = .ok (.aload_n 0, 1) := by decide +kernel
theorem dX7_find_33 : decode cX7_find 33 = .ok (.iload_n 1, 1) := by decide +kernel
theorem dX7_find_34 : decode cX7_find 34 = .ok (.aload_n 0, 1) := by decide +kernel
theorem dX7_find_35 : decode cX7_find 35 = .ok (.getfield 18, 3) := by decide +kernel
theorem dX7_find_38 : decode cX7_find 38 = .ok (.iconst 0, 1) := by decide +kernel
theorem dX7_find_39 : decode cX7_find 39 = .ok (.invokevirtual 152, 3) := by decide +kernel
theorem dX7_find_42 : decode cX7_find 42 = .ok (.invokevirtual 131, 3) := by decide +kernel
theorem dX7_find_45 : decode cX7_find 45 = .ok (.ireturn, 1) := by decide +kernel
theorem dX7_isKind_0 : decode cX7_isKind 0 = .ok (.iload_n 0, 1) := by decide +kernel
theorem dX7_isKind_1 : decode cX7_isKind 1 = .ok (.ifCond .lt 12, 3) := by decide +kernel
theorem dX7_isKind_4 : decode cX7_isKind 4 = .ok (.iload_n 0, 1) := by decide +kernel
theorem dX7_isKind_5 : decode cX7_isKind 5 = .ok (.iconst 3, 1) := by decide +kernel
theorem dX7_isKind_6 : decode cX7_isKind 6 = .ok (.if_icmp .ge 7, 3) := by decide +kernel
theorem dX7_isKind_9 : decode cX7_isKind 9 = .ok (.iconst 1, 1) := by decide +kernel
theorem dX7_isKind_10 : decode cX7_isKind 10 = .ok (.goto 4, 3) := by decide +kernel
theorem dX7_isKind_13 : decode cX7_isKind 13 = .ok (.iconst 0, 1) := by decide +kernel
theorem dX7_isKind_14 : decode cX7_isKind 14 = .ok (.ireturn, 1) := by decide +kernel
theorem dX7_isNameOfOther_0 : decode cX7_isNameOfOther 0 = .ok (.iconst 0, 1) := by decide +kernel
theorem dX7_isNameOfOther_1 : decode cX7_isNameOfOther 1 = .ok (.istore 5, 2) := by decide +kernel
theorem dX7_isNameOfOther_3 : decode cX7_isNameOfOther 3 = .ok (.iload 5, 2) := by decide +kernel
theorem dX7_isNameOfOther_5 : decode cX7_isNameOfOther 5 = .ok (.aload_n 0, 1) := by decide +kernel
theorem dX7_isNameOfOther_6 : decode cX7_isNameOfOther 6 = .ok (.getfield 51, 3) := by decide +kernel
theorem dX7_isNameOfOther_9 : decode cX7_isNameOfOther 9 = .ok (.invokevirtual 198, 3) := by decide +kernel
theorem dX7_isNameOfOther_12 : decode cX7_isNameOfOther 12 = .ok (.if_icmp .ge 45, 3) := by decide +kernel
theorem dX7_isNameOfOther_15 : decode cX7_isNameOfOther 15 = .ok (.iload 5, 2) := by decide +kernel
theorem dX7_isNameOfOther_17 : decode cX7_isNameOfOther 17 = .ok (.iload_n 1, 1) := by decide +kernel
theorem dX7_isNameOfOther_18 : decode cX7_isNameOfOther 18 = .ok (.if_icmp .eq 33, 3) := by decide +kernel
theorem dX7_isNameOfOther_21 : decode cX7_isNameOfOther 21 = .ok (.aload_n 0, 1) := by decide +kernel
theorem dX7_isNameOfOther_22 : decode cX7_isNameOfOther 22 = .ok (.getfield 51, 3) := by decide +kernel
theorem dX7_isNameOfOther_25 : decode cX7_isNameOfOther 25 = .ok (.iload 5, 2) := by decide +kernel
theorem dX7_isNameOfOther_27 : decode cX7_isNameOfOther 27 = .ok (.invokevirtual 161, 3) := by decide +kernel
theorem dX7_isNameOfOther_30 : decode cX7_isNameOfOther 30 = .ok (.iload_n 2, 1) := by decide +kernel
theorem dX7_isNameOfOther_31 : decode cX7_isNameOfOther 31 = .ok (.if_icmp .ne 20, 3) := by decide +kernel
theorem dX7_isNameOfOther_34 : decode cX7_isNameOfOther 34 = .ok (.aload_n 0, 1) := by decide +kernel
theorem dX7_isNameOfOther_35 : decode cX7_isNameOfOther 35 = .ok (.iload 5, 2) := by decide +kernel
theorem dX7_isNameOfOther_37 : decode cX7_isNameOfOther 37 = .ok (.iload 4, 2) := by decide +kernel
theorem dX7_isNameOfOther_39 : decode cX7_isNameOfOther 39 = .ok (.invokevirtual 199, 3) := by decide +kernel
theorem dX7_isNameOfOther_42 : decode cX7_isNameOfOther 42 = .ok (.aload_n 3, 1) := by decide +kernel
theorem dX7_isNameOfOther_43 : decode cX7_isNameOfOther 43 = .ok (.invokevirtual 203, 3) := by decide +kernel
theorem dX7_isNameOfOther_46 : decode cX7_isNameOfOther 46 = .ok (.ifCond .eq 5, 3) := by decide +kernel
theorem dX7_isNameOfOther_49 : decode cX7_isNameOfOther 49 = .ok (.iconst 1, 1) := by decide +kernel
theorem dX7_isNameOfOther_50 : decode cX7_isNameOfOther 50 = .ok (.ireturn, 1) := by decide +kernel
theorem dX7_isNameOfOther_51 : decode cX7_isNameOfOther 51 = .ok (.iinc 5 1, 3) := by decide +kernel
theorem dX7_isNameOfOther_54 : decode cX7_isNameOfOther 54 = .ok (.goto (-51), 3) := by decide +kernel
theorem dX7_isNameOfOther_57 : decode cX7_isNameOfOther 57 = .ok (.iconst 0, 1) := by decide +kernel
theorem dX7_isNameOfOther_58 : decode cX7_isNameOfOther 58 = .ok (.ireturn, 1) := by decide +kernel
theorem dX7_wouldCatchUse_0 : decode cX7_wouldCatchUse 0 = .ok (.iconst 0, 1) := by decide +kernel
theorem dX7_wouldCatchUse_1 : decode cX7_wouldCatchUse 1 = .ok (.istore 4, 2) := by decide +kernel
theorem dX7_wouldCatchUse_3 : decode cX7_wouldCatchUse 3 = .ok (.iload 4, 2) := by decide +kernel
theorem dX7_wouldCatchUse_5 : decode cX7_wouldCatchUse 5 = .ok (.aload_n 0, 1) := by decide +kernel
theorem dX7_wouldCatchUse_6 : decode cX7_wouldCatchUse 6 = .ok (.getfield 58, 3) := by decide +kernel
theorem dX7_wouldCatchUse_9 : decode cX7_wouldCatchUse 9 = .ok (.invokevirtual 207, 3) := by decide +kernel
theorem dX7_wouldCatchUse_12 : decode cX7_wouldCatchUse 12 = .ok (.if_icmp .ge 69, 3) := by decide +kernel
theorem dX7_wouldCatchUse_15 : decode cX7_wouldCatchUse 15 = .ok (.aload_n 0, 1) := by decide +kernel
theorem dX7_wouldCatchUse_16 : decode cX7_wouldCatchUse 16 = .ok (.getfield 58, 3) := by decide +kernel
theorem dX7_wouldCatchUse_19 : decode cX7_wouldCatchUse 19 = .ok (.iload 4, 2) := by decide +kernel
theorem dX7_wouldCatchUse_21 : decode cX7_wouldCatchUse 21 = .ok (.invokevirtual 195, 3) := by decide +kernel
theorem dX7_wouldCatchUse_24 : decode cX7_wouldCatchUse 24 = .ok (.istore 5, 2) := by decide +kernel
theorem dX7_wouldCatchUse_26 : decode cX7_wouldCatchUse 26 = .ok (.iload_n 1, 1) := by decide +kernel
theorem dX7_wouldCatchUse_27 : decode cX7_wouldCatchUse 27 = .ok (.aload_n 0, 1) := by decide +kernel
theorem dX7_wouldCatchUse_28 : decode cX7_wouldCatchUse 28 = .ok (.getfield 51, 3) := by decide +kernel
theorem dX7_wouldCatchUse_31 : decode cX7_wouldCatchUse 31 = .ok (.iload 5, 2) := by decide +kernel
theorem dX7_wouldCatchUse_33 : decode cX7_wouldCatchUse 33 = .ok (.invokevirtual 161, 3) := by decide +kernel
theorem dX7_wouldCatchUse_36 : decode cX7_wouldCatchUse 36 = .ok (.if_icmp .le 39, 3) := by decide +kernel
theorem dX7_wouldCatchUse_39 : decode cX7_wouldCatchUse 39 = .ok (.aload_n 0, 1) := by decide +kernel
theorem dX7_wouldCatchUse_40 : decode cX7_wouldCatchUse 40 = .ok (.getfield 44, 3) := by decide +kernel
theorem dX7_wouldCatchUse_43 : decode cX7_wouldCatchUse 43 = .ok (.aload_n 0, 1) := by decide +kernel
theorem dX7_wouldCatchUse_44 : decode cX7_wouldCatchUse 44 = .ok (.getfield 58, 3) := by decide +kernel
theorem dX7_wouldCatchUse_47 : decode cX7_wouldCatchUse 47 = .ok (.iload 4, 2) := by decide +kernel
theorem dX7_wouldCatchUse_49 : decode cX7_wouldCatchUse 49 = .ok (.invokevirtual 194, 3) := by decide +kernel
theorem dX7_wouldCatchUse_52 : decode cX7_wouldCatchUse 52 = .ok (.iload_n 1, 1) := by decide +kernel
theorem dX7_wouldCatchUse_53 : decode cX7_wouldCatchUse 53 = .ok (.invokevirtual 208, 3) := by decide +kernel
theorem dX7_wouldCatchUse_56 : decode cX7_wouldCatchUse 56 = .ok (.ifCond .eq 19, 3) := by decide +kernel
theorem dX7_wouldCatchUse_59 : decode cX7_wouldCatchUse 59 = .ok (.aload_n 0, 1) := by decide +kernel
theorem dX7_wouldCatchUse_60 : decode cX7_wouldCatchUse 60 = .ok (.iload 5, 2) := by decide +kernel
theorem dX7_wouldCatchUse_62 : decode cX7_wouldCatchUse 62 = .ok (.iload_n 3, 1) := by decide +kernel
theorem dX7_wouldCatchUse_63 : decode cX7_wouldCatchUse 63 = .ok (.invokevirtual 199, 3) := by decide +kernel
theorem dX7_wouldCatchUse_66 : decode cX7_wouldCatchUse 66 = .ok (.aload_n 2, 1) := by decide +kernel
theorem dX7_wouldCatchUse_67 : decode cX7_wouldCatchUse 67 = .ok (.invokevirtual 203, 3) := by decide +kernel
theorem dX7_wouldCatchUse_70 : decode cX7_wouldCatchUse 70 = .ok (.ifCond .eq 5, 3) := by decide +kernel
theorem dX7_wouldCatchUse_73 : decode cX7_wouldCatchUse 73 = .ok (.iconst 1, 1) := by decide +kernel
theorem dX7_wouldCatchUse_74 : decode cX7_wouldCatchUse 74 = .ok (.ireturn, 1) := by decide +kernel
theorem dX7_wouldCatchUse_75 : decode cX7_wouldCatchUse 75 = .ok (.iinc 4 1, 3) := by decide +kernel
theorem dX7_wouldCatchUse_78 : decode cX7_wouldCatchUse 78 = .ok (.goto (-75), 3) := by decide +kernel
theorem dX7_wouldCatchUse_81 : decode cX7_wouldCatchUse 81 = .ok (.iconst 0, 1) := by decide +kernel
theorem dX7_wouldCatchUse_82 : decode cX7_wouldCatchUse 82 = .ok (.ireturn, 1) := by decide +kernel
theorem dX7_nameNowOrThen_0 : decode cX7_nameNowOrThen 0 = .ok (.iload_n 2, 1) := by decide +kernel
theorem dX7_nameNowOrThen_1 : decode cX7_nameNowOrThen 1 = .ok (.ifCond .eq 25, 3) := by decide +kernel
theorem dX7_nameNowOrThen_4 : decode cX7_nameNowOrThen 4 = .ok (.aload_n 0, 1) := by decide +kernel
theorem dX7_nameNowOrThen_5 : decode cX7_nameNowOrThen 5 = .ok (.getfield 65, 3) := by decide +kernel
theorem dX7_nameNowOrThen_8 : decode cX7_nameNowOrThen 8 = .ok (.iload_n 1, 1) := by decide +kernel
theorem dX7_nameNowOrThen_9 : decode cX7_nameNowOrThen 9 = .ok (.invokevirtual 212, 3) := by decide +kernel
theorem dX7_nameNowOrThen_12 : decode cX7_nameNowOrThen 12 = .ok (.ifCond .eq 14, 3) := by decide +kernel
theorem dX7_nameNowOrThen_15 : decode cX7_nameNowOrThen 15 = .ok (.aload_n 0, 1) := by decide +kernel
theorem dX7_nameNowOrThen_16 : decode cX7_nameNowOrThen 16 = .ok (.getfield 65, 3) := by decide +kernel
theorem dX7_nameNowOrThen_19 : decode cX7_nameNowOrThen 19 = .ok (.iload_n 1, 1) := by decide +kernel
theorem dX7_nameNowOrThen_20 : decode cX7_nameNowOrThen 20 = .ok (.invokevirtual 213, 3) := by decide +kernel
theorem dX7_nameNowOrThen_23 : decode cX7_nameNowOrThen 23 = .ok (.goto 11, 3) := by decide +kernel
theorem dX7_nameNowOrThen_26 : decode cX7_nameNowOrThen 26 = .ok (.aload_n 0, 1) := by decide +kernel
theorem dX7_nameNowOrThen_27 : decode cX7_nameNowOrThen 27 = .ok (.getfield 51, 3) := by decide +kernel
theorem dX7_nameNowOrThen_30 : decode cX7_nameNowOrThen 30 = .ok (.iload_n 1, 1) := by decide +kernel
theorem dX7_nameNowOrThen_31 : decode cX7_nameNowOrThen 31 = .ok (.invokevirtual 167, 3) := by decide +kernel
theorem dX7_nameNowOrThen_34 : decode cX7_nameNowOrThen 34 = .ok (.areturn, 1) := by decide +kernel
theorem dX7_thingMeant_0 : decode cX7_thingMeant 0 = .ok (.bipush (-2), 2) := by decide +kernel
theorem dX7_thingMeant_2 : decode cX7_thingMeant 2 = .ok (.istore 4, 2) := by decide +kernel
theorem dX7_thingMeant_4 : decode cX7_thingMeant 4 = .ok (.iconst (-1), 1) := by decide +kernel
theorem dX7_thingMeant_5 : decode cX7_thingMeant 5 = .ok (.istore 5, 2) := by decide +kernel
theorem dX7_thingMeant_7 : decode cX7_thingMeant 7 = .ok (.iconst 0, 1) := by decide +kernel
theorem dX7_thingMeant_8 : decode cX7_thingMeant 8 = .ok (.istore 6, 2) := by decide +kernel
theorem dX7_thingMeant_10 : decode cX7_thingMeant 10 = .ok (.iload 6, 2) := by decide +kernel
theorem dX7_thingMeant_12 : decode cX7_thingMeant 12 = .ok (.aload_n 0, 1) := by decide +kernel
theorem dX7_thingMeant_13 : decode cX7_thingMeant 13 = .ok (.getfield 51, 3) := by decide +kernel
theorem dX7_thingMeant_16 : decode cX7_thingMeant 16 = .ok (.invokevirtual 198, 3) := by decide +kernel
theorem dX7_thingMeant_19 : decode cX7_thingMeant 19 = .ok (.if_icmp .ge 62, 3) := by decide +kernel
theorem dX7_thingMeant_22 : decode cX7_thingMeant 22 = .ok (.aload_n 0, 1) := by decide +kernel
theorem dX7_thingMeant_23 : decode cX7_thingMeant 23 = .ok (.getfield 51, 3) := by decide +kernel
theorem dX7_thingMeant_26 : decode cX7_thingMeant 26 = .ok (.iload 6, 2) := by decide +kernel
theorem dX7_thingMeant_28 : decode cX7_thingMeant 28 = .ok (.invokevirtual 161, 3) := by decide +kernel
theorem dX7_thingMeant_31 : decode cX7_thingMeant 31 = .ok (.istore 7, 2) := by decide +kernel
theorem dX7_thingMeant_33 : decode cX7_thingMeant 33 = .ok (.iload 7, 2) := by decide +kernel
theorem dX7_thingMeant_35 : decode cX7_thingMeant 35 = .ok (.iload 5, 2) := by decide +kernel
theorem dX7_thingMeant_37 : decode cX7_thingMeant 37 = .ok (.if_icmp .le 38, 3) := by decide +kernel
theorem dX7_thingMeant_40 : decode cX7_thingMeant 40 = .ok (.aload_n 0, 1) := by decide +kernel
theorem dX7_thingMeant_41 : decode cX7_thingMeant 41 = .ok (.getfield 44, 3) := by decide +kernel
theorem dX7_thingMeant_44 : decode cX7_thingMeant 44 = .ok (.iload_n 1, 1) := by decide +kernel
theorem dX7_thingMeant_45 : decode cX7_thingMeant 45 = .ok (.iload 7, 2) := by decide +kernel
theorem dX7_thingMeant_47 : decode cX7_thingMeant 47 = .ok (.invokevirtual 208, 3) := by decide +kernel
theorem dX7_thingMeant_50 : decode cX7_thingMeant 50 = .ok (.ifCond .eq 25, 3) := by decide +kernel
theorem dX7_thingMeant_53 : decode cX7_thingMeant 53 = .ok (.aload_n 0, 1) := by decide +kernel
theorem dX7_thingMeant_54 : decode cX7_thingMeant 54 = .ok (.iload 6, 2) := by decide +kernel
theorem dX7_thingMeant_56 : decode cX7_thingMeant 56 = .ok (.iload_n 3, 1) := by decide +kernel
theorem dX7_thingMeant_57 : decode cX7_thingMeant 57 = .ok (.invokevirtual 199, 3) := by decide +kernel
theorem dX7_thingMeant_60 : decode cX7_thingMeant 60 = .ok (.aload_n 2, 1) := by decide +kernel
theorem dX7_thingMeant_61 : decode cX7_thingMeant 61 = .ok (.invokevirtual 203, 3) := by decide +kernel
theorem dX7_thingMeant_64 : decode cX7_thingMeant 64 = .ok (.ifCond .eq 11, 3) := by decide +kernel
theorem dX7_thingMeant_67 : decode cX7_thingMeant 67 = .ok (.iload 6, 2) := by decide +kernel
theorem dX7_thingMeant_69 : decode cX7_thingMeant 69 = .ok (.istore 4, 2) := by decide +kernel
theorem dX7_thingMeant_71 : decode cX7_thingMeant 71 = .ok (.iload 7, 2) := by decide +kernel
theorem dX7_thingMeant_73 : decode cX7_thingMeant 73 = .ok (.istore 5, 2) := by decide +kernel
theorem dX7_thingMeant_75 : decode cX7_thingMeant 75 = .ok (.iinc 6 1, 3) := by decide +kernel
theorem dX7_thingMeant_78 : decode cX7_thingMeant 78 = .ok (.goto (-68), 3) := by decide +kernel
theorem dX7_thingMeant_81 : decode cX7_thingMeant 81 = .ok (.iload 4, 2) := by decide +kernel
theorem dX7_thingMeant_83 : decode cX7_thingMeant 83 = .ok (.ireturn, 1) := by decide +kernel
theorem dX7_word_0 : decode cX7_word 0 = .ok (.iload_n 1, 1) := by decide +kernel
theorem dX7_word_1 : decode cX7_word 1 = .ok (.ifCond .lt 17, 3) := by decide +kernel
theorem dX7_word_4 : decode cX7_word 4 = .ok (.iload_n 1, 1) := by decide +kernel
theorem dX7_word_5 : decode cX7_word 5 = .ok (.bipush 15, 2) := by decide +kernel
theorem dX7_word_7 : decode cX7_word 7 = .ok (.if_icmp .gt 11, 3) := by decide +kernel
theorem dX7_word_10 : decode cX7_word 10 = .ok (.aload_n 0, 1) := by decide +kernel
theorem dX7_word_11 : decode cX7_word 11 = .ok (.iload_n 2, 1) := by decide +kernel
theorem dX7_word_12 : decode cX7_word 12 = .ok (.invokevirtual 214, 3) := by decide +kernel
theorem dX7_word_15 : decode cX7_word 15 = .ok (.ifCond .ne 9, 3) := by decide +kernel
theorem dX7_word_18 : decode cX7_word 18 = .ok (.aload_n 0, 1) := by decide +kernel
theorem dX7_word_19 : decode cX7_word 19 = .ok (.iconst 2, 1) := by decide +kernel
theorem dX7_word_20 : decode cX7_word 20 = .ok (.invokevirtual 122, 3) := by decide +kernel
theorem dX7_word_23 : decode cX7_word 23 = .ok (.ireturn, 1) := by decide +kernel
theorem dX7_word_24 : decode cX7_word 24 = .ok (.aload_n 0, 1) := by decide +kernel
theorem dX7_word_25 : decode cX7_word 25 = .ok (.getfield 30, 3) := by decide +kernel
theorem dX7_word_28 : decode cX7_word 28 = .ok (.aload_n 0, 1) := by decide +kernel
theorem dX7_word_29 : decode cX7_word 29 = .ok (.getfield 18, 3) := by decide +kernel
theorem dX7_word_32 : decode cX7_word 32 = .ok (.invokevirtual 171, 3) := by decide +kernel
theorem dX7_word_35 : decode cX7_word 35 = .ok (.aload_n 0, 1) := by decide +kernel
theorem dX7_word_36 : decode cX7_word 36 = .ok (.getfield 30, 3) := by decide +kernel
theorem dX7_word_39 : decode cX7_word 39 = .ok (.iconst 0, 1) := by decide +kernel
theorem dX7_word_40 : decode cX7_word 40 = .ok (.invokevirtual 217, 3) := by decide +kernel
theorem dX7_word_43 : decode cX7_word 43 = .ok (.lstore_n 3, 1) := by decide +kernel
theorem dX7_word_44 : decode cX7_word 44 = .ok (.aload_n 0, 1) := by decide +kernel
theorem dX7_word_45 : decode cX7_word 45 = .ok (.getfield 37, 3) := by decide +kernel
theorem dX7_word_48 : decode cX7_word 48 = .ok (.lload_n 3, 1) := by decide +kernel
theorem dX7_word_49 : decode cX7_word 49 = .ok (.invokevirtual 221, 3) := by decide +kernel
theorem dX7_word_52 : decode cX7_word 52 = .ok (.bipush (-2), 2) := by decide +kernel
theorem dX7_word_54 : decode cX7_word 54 = .ok (.if_icmp .eq 9, 3) := by decide +kernel
theorem dX7_word_57 : decode cX7_word 57 = .ok (.aload_n 0, 1) := by decide +kernel
theorem dX7_word_58 : decode cX7_word 58 = .ok (.iconst 4, 1) := by decide +kernel
theorem dX7_word_59 : decode cX7_word 59 = .ok (.invokevirtual 122, 3) := by decide +kernel
theorem dX7_word_62 : decode cX7_word 62 = .ok (.ireturn, 1) := by decide +kernel
theorem dX7_word_63 : decode cX7_word 63 = .ok (.aload_n 0, 1) := by decide +kernel
theorem dX7_word_64 : decode cX7_word 64 = .ok (.getfield 37, 3) := by decide +kernel
theorem dX7_word_67 : decode cX7_word 67 = .ok (.invokevirtual 225, 3) := by decide +kernel
theorem dX7_word_70 : decode cX7_word 70 = .ok (.ifCond .eq 9, 3) := by decide +kernel
theorem dX7_word_73 : decode cX7_word 73 = .ok (.aload_n 0, 1) := by decide +kernel
theorem dX7_word_74 : decode cX7_word 74 = .ok (.iconst 3, 1) := by decide +kernel
theorem dX7_word_75 : decode cX7_word 75 = .ok (.invokevirtual 122, 3) := by decide +kernel
theorem dX7_word_78 : decode cX7_word 78 = .ok (.ireturn, 1) := by decide +kernel
theorem dX7_word_79 : decode cX7_word 79 = .ok (.aload_n 0, 1) := by decide +kernel
theorem dX7_word_80 : decode cX7_word 80 = .ok (.aload_n 0, 1) := by decide +kernel
theorem dX7_word_81 : decode cX7_word 81 = .ok (.getfield 37, 3) := by decide +kernel
theorem dX7_word_84 : decode cX7_word 84 = .ok (.lload_n 3, 1) := by decide +kernel
theorem dX7_word_85 : decode cX7_word 85 = .ok (.iload_n 1, 1) := by decide +kernel
theorem dX7_word_86 : decode cX7_word 86 = .ok (.invokevirtual 226, 3) := by decide +kernel
theorem dX7_word_89 : decode cX7_word 89 = .ok (.invokevirtual 131, 3) := by decide +kernel
theorem dX7_word_92 : decode cX7_word 92 = .ok (.ireturn, 1) := by decide +kernel
theorem dX7_shorts_0 : decode cX7_shorts 0 = .ok (.aload_n 0, 1) := by decide +kernel
theorem dX7_shorts_1 : decode cX7_shorts 1 = .ok (.getfield 37, 3) := by decide +kernel
theorem dX7_shorts_4 : decode cX7_shorts 4 = .ok (.iload_n 1, 1) := by decide +kernel
theorem dX7_shorts_5 : decode cX7_shorts 5 = .ok (.invokevirtual 229, 3) := by decide +kernel
theorem dX7_shorts_8 : decode cX7_shorts 8 = .ok (.ifCond .eq 28, 3) := by decide +kernel
theorem dX7_shorts_11 : decode cX7_shorts 11 = .ok (.iload_n 2, 1) := by decide +kernel
theorem dX7_shorts_12 : decode cX7_shorts 12 = .ok (.iconst (-1), 1) := by decide +kernel
theorem dX7_shorts_13 : decode cX7_shorts 13 = .ok (.if_icmp .eq 14, 3) := by decide +kernel
theorem dX7_shorts_16 : decode cX7_shorts 16 = .ok (.aload_n 0, 1) := by decide +kernel
theorem dX7_shorts_17 : decode cX7_shorts 17 = .ok (.getfield 37, 3) := by decide +kernel
theorem dX7_shorts_20 : decode cX7_shorts 20 = .ok (.iload_n 2, 1) := by decide +kernel
theorem dX7_shorts_21 : decode cX7_shorts 21 = .ok (.invokevirtual 229, 3) := by decide +kernel
theorem dX7_shorts_24 : decode cX7_shorts 24 = .ok (.ifCond .eq 12, 3) := by decide +kernel
theorem dX7_shorts_27 : decode cX7_shorts 27 = .ok (.iload_n 1, 1) := by decide +kernel
theorem dX7_shorts_28 : decode cX7_shorts 28 = .ok (.iload_n 2, 1) := by decide +kernel
theorem dX7_shorts_29 : decode cX7_shorts 29 = .ok (.if_icmp .eq 7, 3) := by decide +kernel
theorem dX7_shorts_32 : decode cX7_shorts 32 = .ok (.iconst 1, 1) := by decide +kernel
theorem dX7_shorts_33 : decode cX7_shorts 33 = .ok (.goto 4, 3) := by decide +kernel
theorem dX7_shorts_36 : decode cX7_shorts 36 = .ok (.iconst 0, 1) := by decide +kernel
theorem dX7_shorts_37 : decode cX7_shorts 37 = .ok (.istore_n 3, 1) := by decide +kernel
theorem dX7_shorts_38 : decode cX7_shorts 38 = .ok (.aload_n 0, 1) := by decide +kernel
theorem dX7_shorts_39 : decode cX7_shorts 39 = .ok (.iload_n 3, 1) := by decide +kernel
theorem dX7_shorts_40 : decode cX7_shorts 40 = .ok (.ifCond .eq 7, 3) := by decide +kernel
theorem dX7_shorts_43 : decode cX7_shorts 43 = .ok (.iconst 0, 1) := by decide +kernel
theorem dX7_shorts_44 : decode cX7_shorts 44 = .ok (.goto 4, 3) := by decide +kernel
theorem dX7_shorts_47 : decode cX7_shorts 47 = .ok (.iconst 1, 1) := by decide +kernel
theorem dX7_shorts_48 : decode cX7_shorts 48 = .ok (.putfield 84, 3) := by decide +kernel
theorem dX7_shorts_51 : decode cX7_shorts 51 = .ok (.iload_n 3, 1) := by decide +kernel
theorem dX7_shorts_52 : decode cX7_shorts 52 = .ok (.ifCond .eq 12, 3) := by decide +kernel
theorem dX7_shorts_55 : decode cX7_shorts 55 = .ok (.aload_n 0, 1) := by decide +kernel
theorem dX7_shorts_56 : decode cX7_shorts 56 = .ok (.getfield 37, 3) := by decide +kernel
theorem dX7_shorts_59 : decode cX7_shorts 59 = .ok (.iload_n 1, 1) := by decide +kernel
theorem dX7_shorts_60 : decode cX7_shorts 60 = .ok (.iload_n 2, 1) := by decide +kernel
theorem dX7_shorts_61 : decode cX7_shorts 61 = .ok (.invokevirtual 230, 3) := by decide +kernel
theorem dX7_shorts_64 : decode cX7_shorts 64 = .ok (.iload_n 3, 1) := by decide +kernel
theorem dX7_shorts_65 : decode cX7_shorts 65 = .ok (.ireturn, 1) := by decide +kernel
theorem dX7_alike_0 : decode cX7_alike 0 = .ok (.aload_n 0, 1) := by decide +kernel
theorem dX7_alike_1 : decode cX7_alike 1 = .ok (.getfield 37, 3) := by decide +kernel
theorem dX7_alike_4 : decode cX7_alike 4 = .ok (.iload_n 1, 1) := by decide +kernel
theorem dX7_alike_5 : decode cX7_alike 5 = .ok (.invokevirtual 229, 3) := by decide +kernel
theorem dX7_alike_8 : decode cX7_alike 8 = .ok (.ifCond .eq 18, 3) := by decide +kernel
theorem dX7_alike_11 : decode cX7_alike 11 = .ok (.aload_n 0, 1) := by decide +kernel
theorem dX7_alike_12 : decode cX7_alike 12 = .ok (.getfield 37, 3) := by decide +kernel
theorem dX7_alike_15 : decode cX7_alike 15 = .ok (.iload_n 2, 1) := by decide +kernel
theorem dX7_alike_16 : decode cX7_alike 16 = .ok (.invokevirtual 229, 3) := by decide +kernel
theorem dX7_alike_19 : decode cX7_alike 19 = .ok (.ifCond .eq 7, 3) := by decide +kernel
theorem dX7_alike_22 : decode cX7_alike 22 = .ok (.iconst 1, 1) := by decide +kernel
theorem dX7_alike_23 : decode cX7_alike 23 = .ok (.goto 4, 3) := by decide +kernel
theorem dX7_alike_26 : decode cX7_alike 26 = .ok (.iconst 0, 1) := by decide +kernel
theorem dX7_alike_27 : decode cX7_alike 27 = .ok (.istore_n 3, 1) := by decide +kernel
theorem dX7_alike_28 : decode cX7_alike 28 = .ok (.aload_n 0, 1) := by decide +kernel
theorem dX7_alike_29 : decode cX7_alike 29 = .ok (.iload_n 3, 1) := by decide +kernel
theorem dX7_alike_30 : decode cX7_alike 30 = .ok (.ifCond .eq 7, 3) := by decide +kernel
theorem dX7_alike_33 : decode cX7_alike 33 = .ok (.iconst 0, 1) := by decide +kernel
theorem dX7_alike_34 : decode cX7_alike 34 = .ok (.goto 4, 3) := by decide +kernel
theorem dX7_alike_37 : decode cX7_alike 37 = .ok (.iconst 1, 1) := by decide +kernel
theorem dX7_alike_38 : decode cX7_alike 38 = .ok (.putfield 84, 3) := by decide +kernel
theorem dX7_alike_41 : decode cX7_alike 41 = .ok (.iload_n 3, 1) := by decide +kernel
theorem dX7_alike_42 : decode cX7_alike 42 = .ok (.ifCond .eq 12, 3) := by decide +kernel
theorem dX7_alike_45 : decode cX7_alike 45 = .ok (.aload_n 0, 1) := by decide +kernel
theorem dX7_alike_46 : decode cX7_alike 46 = .ok (.getfield 37, 3) := by decide +kernel
theorem dX7_alike_49 : decode cX7_alike 49 = .ok (.iload_n 1, 1) := by decide +kernel
theorem dX7_alike_50 : decode cX7_alike 50 = .ok (.iload_n 2, 1) := by decide +kernel
theorem dX7_alike_51 : decode cX7_alike 51 = .ok (.invokevirtual 234, 3) := by decide +kernel
theorem dX7_alike_54 : decode cX7_alike 54 = .ok (.iload_n 3, 1) := by decide +kernel
theorem dX7_alike_55 : decode cX7_alike 55 = .ok (.ireturn, 1) := by decide +kernel
theorem dX7_told_0 : decode cX7_told 0 = .ok (.aload_n 0, 1) := by decide +kernel
theorem dX7_told_1 : decode cX7_told 1 = .ok (.getfield 37, 3) := by decide +kernel
theorem dX7_told_4 : decode cX7_told 4 = .ok (.iload_n 1, 1) := by decide +kernel
theorem dX7_told_5 : decode cX7_told 5 = .ok (.invokevirtual 229, 3) := by decide +kernel
theorem dX7_told_8 : decode cX7_told 8 = .ok (.ifCond .ne 5, 3) := by decide +kernel
theorem dX7_told_11 : decode cX7_told 11 = .ok (.iconst (-1), 1) := by decide +kernel
theorem dX7_told_12 : decode cX7_told 12 = .ok (.ireturn, 1) := by decide +kernel
theorem dX7_told_13 : decode cX7_told 13 = .ok (.iload_n 2, 1) := by decide +kernel
theorem dX7_told_14 : decode cX7_told 14 = .ok (.tableswitch 87 0 4 #[34, 43, 52, 65, 78], 34) := by decide +kernel
theorem dX7_told_48 : decode cX7_told 48 = .ok (.aload_n 0, 1) := by decide +kernel
theorem dX7_told_49 : decode cX7_told 49 = .ok (.getfield 37, 3) := by decide +kernel
theorem dX7_told_52 : decode cX7_told 52 = .ok (.iload_n 1, 1) := by decide +kernel
theorem dX7_told_53 : decode cX7_told 53 = .ok (.invokevirtual 237, 3) := by decide +kernel
theorem dX7_told_56 : decode cX7_told 56 = .ok (.ireturn, 1) := by decide +kernel
theorem dX7_told_57 : decode cX7_told 57 = .ok (.aload_n 0, 1) := by decide +kernel
theorem dX7_told_58 : decode cX7_told 58 = .ok (.getfield 37, 3) := by decide +kernel
theorem dX7_told_61 : decode cX7_told 61 = .ok (.iload_n 1, 1) := by decide +kernel
theorem dX7_told_62 : decode cX7_told 62 = .ok (.invokevirtual 240, 3) := by decide +kernel
theorem dX7_told_65 : decode cX7_told 65 = .ok (.ireturn, 1) := by decide +kernel
theorem dX7_told_66 : decode cX7_told 66 = .ok (.aload_n 0, 1) := by decide +kernel
theorem dX7_told_67 : decode cX7_told 67 = .ok (.invokevirtual 243, 3) := by decide +kernel
theorem dX7_told_70 : decode cX7_told 70 = .ok (.aload_n 0, 1) := by decide +kernel
theorem dX7_told_71 : decode cX7_told 71 = .ok (.getfield 37, 3) := by decide +kernel
theorem dX7_told_74 : decode cX7_told 74 = .ok (.iload_n 1, 1) := by decide +kernel
theorem dX7_told_75 : decode cX7_told 75 = .ok (.invokevirtual 246, 3) := by decide +kernel
theorem dX7_told_78 : decode cX7_told 78 = .ok (.ireturn, 1) := by decide +kernel
theorem dX7_told_79 : decode cX7_told 79 = .ok (.aload_n 0, 1) := by decide +kernel
theorem dX7_told_80 : decode cX7_told 80 = .ok (.invokevirtual 243, 3) := by decide +kernel
theorem dX7_told_83 : decode cX7_told 83 = .ok (.aload_n 0, 1) := by decide +kernel
theorem dX7_told_84 : decode cX7_told 84 = .ok (.getfield 37, 3) := by decide +kernel
theorem dX7_told_87 : decode cX7_told 87 = .ok (.iload_n 1, 1) := by decide +kernel
theorem dX7_told_88 : decode cX7_told 88 = .ok (.invokevirtual 249, 3) := by decide +kernel
theorem dX7_told_91 : decode cX7_told 91 = .ok (.ireturn, 1) := by decide +kernel
theorem dX7_told_92 : decode cX7_told 92 = .ok (.aload_n 0, 1) := by decide +kernel
theorem dX7_told_93 : decode cX7_told 93 = .ok (.getfield 37, 3) := by decide +kernel
theorem dX7_told_96 : decode cX7_told 96 = .ok (.iload_n 1, 1) := by decide +kernel
theorem dX7_told_97 : decode cX7_told 97 = .ok (.invokevirtual 252, 3) := by decide +kernel
theorem dX7_told_100 : decode cX7_told 100 = .ok (.ireturn, 1) := by decide +kernel
theorem dX7_told_101 : decode cX7_told 101 = .ok (.iconst (-1), 1) := by decide +kernel
theorem dX7_told_102 : decode cX7_told 102 = .ok (.ireturn, 1) := by decide +kernel
theorem dX7_part_0 : decode cX7_part 0 = .ok (.aload_n 0, 1) := by decide +kernel
theorem dX7_part_1 : decode cX7_part 1 = .ok (.getfield 51, 3) := by decide +kernel
theorem dX7_part_4 : decode cX7_part 4 = .ok (.iload_n 1, 1) := by decide +kernel
theorem dX7_part_5 : decode cX7_part 5 = .ok (.invokevirtual 160, 3) := by decide +kernel
theorem dX7_part_8 : decode cX7_part 8 = .ok (.ifCond .ne 5, 3) := by decide +kernel
theorem dX7_part_11 : decode cX7_part 11 = .ok (.iconst (-1), 1) := by decide +kernel
theorem dX7_part_12 : decode cX7_part 12 = .ok (.ireturn, 1) := by decide +kernel
theorem dX7_part_13 : decode cX7_part 13 = .ok (.aload_n 0, 1) := by decide +kernel
theorem dX7_part_14 : decode cX7_part 14 = .ok (.getfield 30, 3) := by decide +kernel
theorem dX7_part_17 : decode cX7_part 17 = .ok (.aload_n 0, 1) := by decide +kernel
theorem dX7_part_18 : decode cX7_part 18 = .ok (.getfield 51, 3) := by decide +kernel
theorem dX7_part_21 : decode cX7_part 21 = .ok (.iload_n 1, 1) := by decide +kernel
theorem dX7_part_22 : decode cX7_part 22 = .ok (.invokevirtual 167, 3) := by decide +kernel
theorem dX7_part_25 : decode cX7_part 25 = .ok (.invokevirtual 171, 3) := by decide +kernel
theorem dX7_part_28 : decode cX7_part 28 = .ok (.aload_n 0, 1) := by decide +kernel
theorem dX7_part_29 : decode cX7_part 29 = .ok (.getfield 30, 3) := by decide +kernel
theorem dX7_part_32 : decode cX7_part 32 = .ok (.iload_n 2, 1) := by decide +kernel
theorem dX7_part_33 : decode cX7_part 33 = .ok (.invokevirtual 255, 3) := by decide +kernel
theorem dX7_part_36 : decode cX7_part 36 = .ok (.ifCond .eq 21, 3) := by decide +kernel
theorem dX7_part_39 : decode cX7_part 39 = .ok (.aload_n 0, 1) := by decide +kernel
theorem dX7_part_40 : decode cX7_part 40 = .ok (.getfield 37, 3) := by decide +kernel
theorem dX7_part_43 : decode cX7_part 43 = .ok (.aload_n 0, 1) := by decide +kernel
theorem dX7_part_44 : decode cX7_part 44 = .ok (.getfield 30, 3) := by decide +kernel
theorem dX7_part_47 : decode cX7_part 47 = .ok (.iload_n 2, 1) := by decide +kernel
theorem dX7_part_48 : decode cX7_part 48 = .ok (.invokevirtual 217, 3) := by decide +kernel
theorem dX7_part_51 : decode cX7_part 51 = .ok (.invokevirtual 221, 3) := by decide +kernel
theorem dX7_part_54 : decode cX7_part 54 = .ok (.goto 4, 3) := by decide +kernel
theorem dX7_part_57 : decode cX7_part 57 = .ok (.iconst (-1), 1) := by decide +kernel
theorem dX7_part_58 : decode cX7_part 58 = .ok (.ireturn, 1) := by decide +kernel
theorem dX7_way_0 : decode cX7_way 0 = .ok (.iload_n 1, 1) := by decide +kernel
theorem dX7_way_1 : decode cX7_way 1 = .ok (.invokestatic 134, 3) := by decide +kernel
theorem dX7_way_4 : decode cX7_way 4 = .ok (.ifCond .ne 5, 3) := by decide +kernel
theorem dX7_way_7 : decode cX7_way 7 = .ok (.iconst (-1), 1) := by decide +kernel
theorem dX7_way_8 : decode cX7_way 8 = .ok (.ireturn, 1) := by decide +kernel
theorem dX7_way_9 : decode cX7_way 9 = .ok (.aload_n 0, 1) := by decide +kernel
theorem dX7_way_10 : decode cX7_way 10 = .ok (.iload_n 1, 1) := by decide +kernel
theorem dX7_way_11 : decode cX7_way 11 = .ok (.invokevirtual 256, 3) := by decide +kernel
theorem dX7_way_14 : decode cX7_way 14 = .ok (.ireturn, 1) := by decide +kernel
theorem dX7_odd_0 : decode cX7_odd 0 = .ok (.iload_n 1, 1) := by decide +kernel
theorem dX7_odd_1 : decode cX7_odd 1 = .ok (.invokestatic 134, 3) := by decide +kernel
theorem dX7_odd_4 : decode cX7_odd 4 = .ok (.ifCond .ne 5, 3) := by decide +kernel
theorem dX7_odd_7 : decode cX7_odd 7 = .ok (.iconst (-1), 1) := by decide +kernel
theorem dX7_odd_8 : decode cX7_odd 8 = .ok (.ireturn, 1) := by decide +kernel
theorem dX7_odd_9 : decode cX7_odd 9 = .ok (.aload_n 0, 1) := by decide +kernel
theorem dX7_odd_10 : decode cX7_odd 10 = .ok (.iload_n 1, 1) := by decide +kernel
theorem dX7_odd_11 : decode cX7_odd 11 = .ok (.invokevirtual 256, 3) := by decide +kernel
theorem dX7_odd_14 : decode cX7_odd 14 = .ok (.istore_n 2, 1) := by decide +kernel
theorem dX7_odd_15 : decode cX7_odd 15 = .ok (.iconst 0, 1) := by decide +kernel
theorem dX7_odd_16 : decode cX7_odd 16 = .ok (.istore_n 3, 1) := by decide +kernel
theorem dX7_odd_17 : decode cX7_odd 17 = .ok (.iconst 0, 1) := by decide +kernel
theorem dX7_odd_18 : decode cX7_odd 18 = .ok (.istore 4, 2) := by decide +kernel
theorem dX7_odd_20 : decode cX7_odd 20 = .ok (.iload 4, 2) := by decide +kernel
theorem dX7_odd_22 : decode cX7_odd 22 = .ok (.aload_n 0, 1) := by decide +kernel
theorem dX7_odd_23 : decode cX7_odd 23 = .ok (.getfield 51, 3) := by decide +kernel
theorem dX7_odd_26 : decode cX7_odd 26 = .ok (.invokevirtual 198, 3) := by decide +kernel
theorem dX7_odd_29 : decode cX7_odd 29 = .ok (.if_icmp .ge 36, 3) := by decide +kernel
theorem dX7_odd_32 : decode cX7_odd 32 = .ok (.aload_n 0, 1) := by decide +kernel
theorem dX7_odd_33 : decode cX7_odd 33 = .ok (.getfield 51, 3) := by decide +kernel
theorem dX7_odd_36 : decode cX7_odd 36 = .ok (.iload 4, 2) := by decide +kernel
theorem dX7_odd_38 : decode cX7_odd 38 = .ok (.invokevirtual 164, 3) := by decide +kernel
theorem dX7_odd_41 : decode cX7_odd 41 = .ok (.iload_n 1, 1) := by decide +kernel
theorem dX7_odd_42 : decode cX7_odd 42 = .ok (.if_icmp .ne 17, 3) := by decide +kernel
theorem dX7_odd_45 : decode cX7_odd 45 = .ok (.aload_n 0, 1) := by decide +kernel
theorem dX7_odd_46 : decode cX7_odd 46 = .ok (.getfield 76, 3) := by decide +kernel
theorem dX7_odd_49 : decode cX7_odd 49 = .ok (.iload 4, 2) := by decide +kernel
theorem dX7_odd_51 : decode cX7_odd 51 = .ok (.iaload, 1) := by decide +kernel
theorem dX7_odd_52 : decode cX7_odd 52 = .ok (.iload_n 2, 1) := by decide +kernel
theorem dX7_odd_53 : decode cX7_odd 53 = .ok (.if_icmp .eq 6, 3) := by decide +kernel
theorem dX7_odd_56 : decode cX7_odd 56 = .ok (.iinc 3 1, 3) := by decide +kernel
theorem dX7_odd_59 : decode cX7_odd 59 = .ok (.iinc 4 1, 3) := by decide +kernel
theorem dX7_odd_62 : decode cX7_odd 62 = .ok (.goto (-42), 3) := by decide +kernel
theorem dX7_odd_65 : decode cX7_odd 65 = .ok (.iload_n 3, 1) := by decide +kernel
theorem dX7_odd_66 : decode cX7_odd 66 = .ok (.ireturn, 1) := by decide +kernel
theorem dX7_isOdd_0 : decode cX7_isOdd 0 = .ok (.aload_n 0, 1) := by decide +kernel
theorem dX7_isOdd_1 : decode cX7_isOdd 1 = .ok (.getfield 51, 3) := by decide +kernel
theorem dX7_isOdd_4 : decode cX7_isOdd 4 = .ok (.iload_n 1, 1) := by decide +kernel
theorem dX7_isOdd_5 : decode cX7_isOdd 5 = .ok (.invokevirtual 160, 3) := by decide +kernel
theorem dX7_isOdd_8 : decode cX7_isOdd 8 = .ok (.ifCond .ne 5, 3) := by decide +kernel
theorem dX7_isOdd_11 : decode cX7_isOdd 11 = .ok (.iconst (-1), 1) := by decide +kernel
theorem dX7_isOdd_12 : decode cX7_isOdd 12 = .ok (.ireturn, 1) := by decide +kernel
theorem dX7_isOdd_13 : decode cX7_isOdd 13 = .ok (.aload_n 0, 1) := by decide +kernel
theorem dX7_isOdd_14 : decode cX7_isOdd 14 = .ok (.aload_n 0, 1) := by decide +kernel
theorem dX7_isOdd_15 : decode cX7_isOdd 15 = .ok (.getfield 51, 3) := by decide +kernel
theorem dX7_isOdd_18 : decode cX7_isOdd 18 = .ok (.iload_n 1, 1) := by decide +kernel
theorem dX7_isOdd_19 : decode cX7_isOdd 19 = .ok (.invokevirtual 164, 3) := by decide +kernel
theorem dX7_isOdd_22 : decode cX7_isOdd 22 = .ok (.invokevirtual 256, 3) := by decide +kernel
theorem dX7_isOdd_25 : decode cX7_isOdd 25 = .ok (.istore_n 2, 1) := by decide +kernel
theorem dX7_isOdd_26 : decode cX7_isOdd 26 = .ok (.aload_n 0, 1) := by decide +kernel
theorem dX7_isOdd_27 : decode cX7_isOdd 27 = .ok (.getfield 76, 3) := by decide +kernel
theorem dX7_isOdd_30 : decode cX7_isOdd 30 = .ok (.iload_n 1, 1) := by decide +kernel
theorem dX7_isOdd_31 : decode cX7_isOdd 31 = .ok (.iaload, 1) := by decide +kernel
theorem dX7_isOdd_32 : decode cX7_isOdd 32 = .ok (.iload_n 2, 1) := by decide +kernel
theorem dX7_isOdd_33 : decode cX7_isOdd 33 = .ok (.if_icmp .eq 7, 3) := by decide +kernel
theorem dX7_isOdd_36 : decode cX7_isOdd 36 = .ok (.iconst 1, 1) := by decide +kernel
theorem dX7_isOdd_37 : decode cX7_isOdd 37 = .ok (.goto 4, 3) := by decide +kernel
theorem dX7_isOdd_40 : decode cX7_isOdd 40 = .ok (.iconst 0, 1) := by decide +kernel
theorem dX7_isOdd_41 : decode cX7_isOdd 41 = .ok (.ireturn, 1) := by decide +kernel
theorem dX7_mixed_0 : decode cX7_mixed 0 = .ok (.aload_n 0, 1) := by decide +kernel
theorem dX7_mixed_1 : decode cX7_mixed 1 = .ok (.invokevirtual 243, 3) := by decide +kernel
theorem dX7_mixed_4 : decode cX7_mixed 4 = .ok (.aload_n 0, 1) := by decide +kernel
theorem dX7_mixed_5 : decode cX7_mixed 5 = .ok (.getfield 37, 3) := by decide +kernel
theorem dX7_mixed_8 : decode cX7_mixed 8 = .ok (.invokevirtual 259, 3) := by decide +kernel
theorem dX7_mixed_11 : decode cX7_mixed 11 = .ok (.ireturn, 1) := by decide +kernel
theorem dX7_strange_0 : decode cX7_strange 0 = .ok (.iconst 0, 1) := by decide +kernel
theorem dX7_strange_1 : decode cX7_strange 1 = .ok (.istore_n 1, 1) := by decide +kernel
theorem dX7_strange_2 : decode cX7_strange 2 = .ok (.iconst 0, 1) := by decide +kernel
theorem dX7_strange_3 : decode cX7_strange 3 = .ok (.istore_n 2, 1) := by decide +kernel
theorem dX7_strange_4 : decode cX7_strange 4 = .ok (.iload_n 2, 1) := by decide +kernel
theorem dX7_strange_5 : decode cX7_strange 5 = .ok (.aload_n 0, 1) := by decide +kernel
theorem dX7_strange_6 : decode cX7_strange 6 = .ok (.getfield 51, 3) := by decide +kernel
theorem dX7_strange_9 : decode cX7_strange 9 = .ok (.invokevirtual 198, 3) := by decide +kernel
theorem dX7_strange_12 : decode cX7_strange 12 = .ok (.if_icmp .ge 77, 3) := by decide +kernel
theorem dX7_strange_15 : decode cX7_strange 15 = .ok (.aload_n 0, 1) := by decide +kernel
theorem dX7_strange_16 : decode cX7_strange 16 = .ok (.getfield 30, 3) := by decide +kernel
theorem dX7_strange_19 : decode cX7_strange 19 = .ok (.aload_n 0, 1) := by decide +kernel
theorem dX7_strange_20 : decode cX7_strange 20 = .ok (.getfield 51, 3) := by decide +kernel
theorem dX7_strange_23 : decode cX7_strange 23 = .ok (.iload_n 2, 1) := by decide +kernel
theorem dX7_strange_24 : decode cX7_strange 24 = .ok (.invokevirtual 167, 3) := by decide +kernel
theorem dX7_strange_27 : decode cX7_strange 27 = .ok (.invokevirtual 171, 3) := by decide +kernel
theorem dX7_strange_30 : decode cX7_strange 30 = .ok (.iconst 0, 1) := by decide +kernel
theorem dX7_strange_31 : decode cX7_strange 31 = .ok (.istore_n 3, 1) := by decide +kernel
theorem dX7_strange_32 : decode cX7_strange 32 = .ok (.iload_n 3, 1) := by decide +kernel
theorem dX7_strange_33 : decode cX7_strange 33 = .ok (.aload_n 0, 1) := by decide +kernel
theorem dX7_strange_34 : decode cX7_strange 34 = .ok (.getfield 30, 3) := by decide +kernel
theorem dX7_strange_37 : decode cX7_strange 37 = .ok (.invokevirtual 175, 3) := by decide +kernel
theorem dX7_strange_40 : decode cX7_strange 40 = .ok (.if_icmp .ge 43, 3) := by decide +kernel
theorem dX7_strange_43 : decode cX7_strange 43 = .ok (.aload_n 0, 1) := by decide +kernel
theorem dX7_strange_44 : decode cX7_strange 44 = .ok (.getfield 30, 3) := by decide +kernel
theorem dX7_strange_47 : decode cX7_strange 47 = .ok (.iload_n 3, 1) := by decide +kernel
theorem dX7_strange_48 : decode cX7_strange 48 = .ok (.invokevirtual 262, 3) := by decide +kernel
theorem dX7_strange_51 : decode cX7_strange 51 = .ok (.ifCond .ne 26, 3) := by decide +kernel
theorem dX7_strange_54 : decode cX7_strange 54 = .ok (.aload_n 0, 1) := by decide +kernel
theorem dX7_strange_55 : decode cX7_strange 55 = .ok (.getfield 37, 3) := by decide +kernel
theorem dX7_strange_58 : decode cX7_strange 58 = .ok (.aload_n 0, 1) := by decide +kernel
theorem dX7_strange_59 : decode cX7_strange 59 = .ok (.getfield 30, 3) := by decide +kernel
theorem dX7_strange_62 : decode cX7_strange 62 = .ok (.iload_n 3, 1) := by decide +kernel
theorem dX7_strange_63 : decode cX7_strange 63 = .ok (.invokevirtual 217, 3) := by decide +kernel
theorem dX7_strange_66 : decode cX7_strange 66 = .ok (.invokevirtual 221, 3) := by decide +kernel
theorem dX7_strange_69 : decode cX7_strange 69 = .ok (.bipush (-2), 2) := by decide +kernel
theorem dX7_strange_71 : decode cX7_strange 71 = .ok (.if_icmp .ne 6, 3) := by decide +kernel
theorem dX7_strange_74 : decode cX7_strange 74 = .ok (.iinc 1 1, 3) := by decide +kernel
theorem dX7_strange_77 : decode cX7_strange 77 = .ok (.iinc 3 1, 3) := by decide +kernel
theorem dX7_strange_80 : decode cX7_strange 80 = .ok (.goto (-48), 3) := by decide +kernel
theorem dX7_strange_83 : decode cX7_strange 83 = .ok (.iinc 2 1, 3) := by decide +kernel
theorem dX7_strange_86 : decode cX7_strange 86 = .ok (.goto (-82), 3) := by decide +kernel
theorem dX7_strange_89 : decode cX7_strange 89 = .ok (.iload_n 1, 1) := by decide +kernel
theorem dX7_strange_90 : decode cX7_strange 90 = .ok (.ireturn, 1) := by decide +kernel
theorem dX7_patternOf_0 : decode cX7_patternOf 0 = .ok (.aload_n 0, 1) := by decide +kernel
theorem dX7_patternOf_1 : decode cX7_patternOf 1 = .ok (.getfield 30, 3) := by decide +kernel
theorem dX7_patternOf_4 : decode cX7_patternOf 4 = .ok (.aload_n 0, 1) := by decide +kernel
theorem dX7_patternOf_5 : decode cX7_patternOf 5 = .ok (.getfield 51, 3) := by decide +kernel
theorem dX7_patternOf_8 : decode cX7_patternOf 8 = .ok (.iload_n 1, 1) := by decide +kernel
theorem dX7_patternOf_9 : decode cX7_patternOf 9 = .ok (.invokevirtual 167, 3) := by decide +kernel
theorem dX7_patternOf_12 : decode cX7_patternOf 12 = .ok (.invokevirtual 171, 3) := by decide +kernel
theorem dX7_patternOf_15 : decode cX7_patternOf 15 = .ok (.iconst 0, 1) := by decide +kernel
theorem dX7_patternOf_16 : decode cX7_patternOf 16 = .ok (.istore_n 2, 1) := by decide +kernel
theorem dX7_patternOf_17 : decode cX7_patternOf 17 = .ok (.iconst 0, 1) := by decide +kernel
theorem dX7_patternOf_18 : decode cX7_patternOf 18 = .ok (.istore_n 3, 1) := by decide +kernel
theorem dX7_patternOf_19 : decode cX7_patternOf 19 = .ok (.iload_n 3, 1) := by decide +kernel
theorem dX7_patternOf_20 : decode cX7_patternOf 20 = .ok (.aload_n 0, 1) := by decide +kernel
theorem dX7_patternOf_21 : decode cX7_patternOf 21 = .ok (.getfield 30, 3) := by decide +kernel
theorem dX7_patternOf_24 : decode cX7_patternOf 24 = .ok (.invokevirtual 175, 3) := by decide +kernel
theorem dX7_patternOf_27 : decode cX7_patternOf 27 = .ok (.if_icmp .ge 42, 3) := by decide +kernel
theorem dX7_patternOf_30 : decode cX7_patternOf 30 = .ok (.iload_n 3, 1) := by decide +kernel
theorem dX7_patternOf_31 : decode cX7_patternOf 31 = .ok (.iconst 4, 1) := by decide +kernel
theorem dX7_patternOf_32 : decode cX7_patternOf 32 = .ok (.if_icmp .ge 37, 3) := by decide +kernel
theorem dX7_patternOf_35 : decode cX7_patternOf 35 = .ok (.iload_n 2, 1) := by decide +kernel
theorem dX7_patternOf_36 : decode cX7_patternOf 36 = .ok (.bipush 16, 2) := by decide +kernel
theorem dX7_patternOf_38 : decode cX7_patternOf 38 = .ok (.imul, 1) := by decide +kernel
theorem dX7_patternOf_39 : decode cX7_patternOf 39 = .ok (.aload_n 0, 1) := by decide +kernel
theorem dX7_patternOf_40 : decode cX7_patternOf 40 = .ok (.getfield 37, 3) := by decide +kernel
theorem dX7_patternOf_43 : decode cX7_patternOf 43 = .ok (.aload_n 0, 1) := by decide +kernel
theorem dX7_patternOf_44 : decode cX7_patternOf 44 = .ok (.getfield 37, 3) := by decide +kernel
theorem dX7_patternOf_47 : decode cX7_patternOf 47 = .ok (.aload_n 0, 1) := by decide +kernel
theorem dX7_patternOf_48 : decode cX7_patternOf 48 = .ok (.getfield 30, 3) := by decide +kernel
theorem dX7_patternOf_51 : decode cX7_patternOf 51 = .ok (.iload_n 3, 1) := by decide +kernel
theorem dX7_patternOf_52 : decode cX7_patternOf 52 = .ok (.invokevirtual 217, 3) := by decide +kernel
theorem dX7_patternOf_55 : decode cX7_patternOf 55 = .ok (.invokevirtual 221, 3) := by decide +kernel
theorem dX7_patternOf_58 : decode cX7_patternOf 58 = .ok (.invokevirtual 265, 3) := by decide +kernel
theorem dX7_patternOf_61 : decode cX7_patternOf 61 = .ok (.iadd, 1) := by decide +kernel
theorem dX7_patternOf_62 : decode cX7_patternOf 62 = .ok (.istore_n 2, 1) := by decide +kernel
theorem dX7_patternOf_63 : decode cX7_patternOf 63 = .ok (.iinc 3 1, 3) := by decide +kernel
theorem dX7_patternOf_66 : decode cX7_patternOf 66 = .ok (.goto (-47), 3) := by decide +kernel
theorem dX7_patternOf_69 : decode cX7_patternOf 69 = .ok (.iload_n 2, 1) := by decide +kernel
theorem dX7_patternOf_70 : decode cX7_patternOf 70 = .ok (.ireturn, 1) := by decide +kernel
theorem dX7_wayOf_0 : decode cX7_wayOf 0 = .ok (.iconst 0, 1) := by decide +kernel
theorem dX7_wayOf_1 : decode cX7_wayOf 1 = .ok (.istore_n 2, 1) := by decide +kernel
theorem dX7_wayOf_2 : decode cX7_wayOf 2 = .ok (.iload_n 2, 1) := by decide +kernel
theorem dX7_wayOf_3 : decode cX7_wayOf 3 = .ok (.aload_n 0, 1) := by decide +kernel
theorem dX7_wayOf_4 : decode cX7_wayOf 4 = .ok (.getfield 51, 3) := by decide +kernel
theorem dX7_wayOf_7 : decode cX7_wayOf 7 = .ok (.invokevirtual 198, 3) := by decide +kernel
theorem dX7_wayOf_10 : decode cX7_wayOf 10 = .ok (.if_icmp .ge 32, 3) := by decide +kernel
theorem dX7_wayOf_13 : decode cX7_wayOf 13 = .ok (.aload_n 0, 1) := by decide +kernel
theorem dX7_wayOf_14 : decode cX7_wayOf 14 = .ok (.getfield 51, 3) := by decide +kernel
theorem dX7_wayOf_17 : decode cX7_wayOf 17 = .ok (.iload_n 2, 1) := by decide +kernel
theorem dX7_wayOf_18 : decode cX7_wayOf 18 = .ok (.invokevirtual 164, 3) := by decide +kernel
theorem dX7_wayOf_21 : decode cX7_wayOf 21 = .ok (.iload_n 1, 1) := by decide +kernel
theorem dX7_wayOf_22 : decode cX7_wayOf 22 = .ok (.if_icmp .ne 14, 3) := by decide +kernel
theorem dX7_wayOf_25 : decode cX7_wayOf 25 = .ok (.aload_n 0, 1) := by decide +kernel
theorem dX7_wayOf_26 : decode cX7_wayOf 26 = .ok (.getfield 76, 3) := by decide +kernel
theorem dX7_wayOf_29 : decode cX7_wayOf 29 = .ok (.iload_n 2, 1) := by decide +kernel
theorem dX7_wayOf_30 : decode cX7_wayOf 30 = .ok (.aload_n 0, 1) := by decide +kernel
theorem dX7_wayOf_31 : decode cX7_wayOf 31 = .ok (.iload_n 2, 1) := by decide +kernel
theorem dX7_wayOf_32 : decode cX7_wayOf 32 = .ok (.invokevirtual 179, 3) := by decide +kernel
theorem dX7_wayOf_35 : decode cX7_wayOf 35 = .ok (.iastore, 1) := by decide +kernel
theorem dX7_wayOf_36 : decode cX7_wayOf 36 = .ok (.iinc 2 1, 3) := by decide +kernel
theorem dX7_wayOf_39 : decode cX7_wayOf 39 = .ok (.goto (-37), 3) := by decide +kernel
theorem dX7_wayOf_42 : decode cX7_wayOf 42 = .ok (.bipush (-2), 2) := by decide +kernel
theorem dX7_wayOf_44 : decode cX7_wayOf 44 = .ok (.istore_n 2, 1) := by decide +kernel
theorem dX7_wayOf_45 : decode cX7_wayOf 45 = .ok (.iconst 0, 1) := by decide +kernel
theorem dX7_wayOf_46 : decode cX7_wayOf 46 = .ok (.istore_n 3, 1) := by decide +kernel
theorem dX7_wayOf_47 : decode cX7_wayOf 47 = .ok (.iconst 0, 1) := by decide +kernel
theorem dX7_wayOf_48 : decode cX7_wayOf 48 = .ok (.istore 4, 2) := by decide +kernel
theorem dX7_wayOf_50 : decode cX7_wayOf 50 = .ok (.iload 4, 2) := by decide +kernel
theorem dX7_wayOf_52 : decode cX7_wayOf 52 = .ok (.aload_n 0, 1) := by decide +kernel
theorem dX7_wayOf_53 : decode cX7_wayOf 53 = .ok (.getfield 51, 3) := by decide +kernel
theorem dX7_wayOf_56 : decode cX7_wayOf 56 = .ok (.invokevirtual 198, 3) := by decide +kernel
theorem dX7_wayOf_59 : decode cX7_wayOf 59 = .ok (.if_icmp .ge 70, 3) := by decide +kernel
theorem dX7_wayOf_62 : decode cX7_wayOf 62 = .ok (.aload_n 0, 1) := by decide +kernel
theorem dX7_wayOf_63 : decode cX7_wayOf 63 = .ok (.getfield 51, 3) := by decide +kernel
theorem dX7_wayOf_66 : decode cX7_wayOf 66 = .ok (.iload 4, 2) := by decide +kernel
theorem dX7_wayOf_68 : decode cX7_wayOf 68 = .ok (.invokevirtual 164, 3) := by decide +kernel
theorem dX7_wayOf_71 : decode cX7_wayOf 71 = .ok (.iload_n 1, 1) := by decide +kernel
theorem dX7_wayOf_72 : decode cX7_wayOf 72 = .ok (.if_icmp .ne 51, 3) := by decide +kernel
theorem dX7_wayOf_75 : decode cX7_wayOf 75 = .ok (.aload_n 0, 1) := by decide +kernel
theorem dX7_wayOf_76 : decode cX7_wayOf 76 = .ok (.iload_n 1, 1) := by decide +kernel
theorem dX7_wayOf_77 : decode cX7_wayOf 77 = .ok (.aload_n 0, 1) := by decide +kernel
theorem dX7_wayOf_78 : decode cX7_wayOf 78 = .ok (.getfield 76, 3) := by decide +kernel
theorem dX7_wayOf_81 : decode cX7_wayOf 81 = .ok (.iload 4, 2) := by decide +kernel
theorem dX7_wayOf_83 : decode cX7_wayOf 83 = .ok (.iaload, 1) := by decide +kernel
theorem dX7_wayOf_84 : decode cX7_wayOf 84 = .ok (.invokevirtual 268, 3) := by decide +kernel
theorem dX7_wayOf_87 : decode cX7_wayOf 87 = .ok (.istore 5, 2) := by decide +kernel
theorem dX7_wayOf_89 : decode cX7_wayOf 89 = .ok (.iload 5, 2) := by decide +kernel
theorem dX7_wayOf_91 : decode cX7_wayOf 91 = .ok (.iload_n 3, 1) := by decide +kernel
theorem dX7_wayOf_92 : decode cX7_wayOf 92 = .ok (.if_icmp .gt 20, 3) := by decide +kernel
theorem dX7_wayOf_95 : decode cX7_wayOf 95 = .ok (.iload 5, 2) := by decide +kernel
theorem dX7_wayOf_97 : decode cX7_wayOf 97 = .ok (.iload_n 3, 1) := by decide +kernel
theorem dX7_wayOf_98 : decode cX7_wayOf 98 = .ok (.if_icmp .ne 25, 3) := by decide +kernel
theorem dX7_wayOf_101 : decode cX7_wayOf 101 = .ok (.aload_n 0, 1) := by decide +kernel
theorem dX7_wayOf_102 : decode cX7_wayOf 102 = .ok (.getfield 76, 3) := by decide +kernel
theorem dX7_wayOf_105 : decode cX7_wayOf 105 = .ok (.iload 4, 2) := by decide +kernel
theorem dX7_wayOf_107 : decode cX7_wayOf 107 = .ok (.iaload, 1) := by decide +kernel
theorem dX7_wayOf_108 : decode cX7_wayOf 108 = .ok (.iload_n 2, 1) := by decide +kernel
theorem dX7_wayOf_109 : decode cX7_wayOf 109 = .ok (.if_icmp .ge 14, 3) := by decide +kernel
theorem dX7_wayOf_112 : decode cX7_wayOf 112 = .ok (.aload_n 0, 1) := by decide +kernel
theorem dX7_wayOf_113 : decode cX7_wayOf 113 = .ok (.getfield 76, 3) := by decide +kernel
theorem dX7_wayOf_116 : decode cX7_wayOf 116 = .ok (.iload 4, 2) := by decide +kernel
theorem dX7_wayOf_118 : decode cX7_wayOf 118 = .ok (.iaload, 1) := by decide +kernel
theorem dX7_wayOf_119 : decode cX7_wayOf 119 = .ok (.istore_n 2, 1) := by decide +kernel
theorem dX7_wayOf_120 : decode cX7_wayOf 120 = .ok (.iload 5, 2) := by decide +kernel
theorem dX7_wayOf_122 : decode cX7_wayOf 122 = .ok (.istore_n 3, 1) := by decide +kernel
theorem dX7_wayOf_123 : decode cX7_wayOf 123 = .ok (.iinc 4 1, 3) := by decide +kernel
theorem dX7_wayOf_126 : decode cX7_wayOf 126 = .ok (.goto (-76), 3) := by decide +kernel
theorem dX7_wayOf_129 : decode cX7_wayOf 129 = .ok (.iload_n 2, 1) := by decide +kernel
theorem dX7_wayOf_130 : decode cX7_wayOf 130 = .ok (.ireturn, 1) := by decide +kernel
theorem dX7_howOften_0 : decode cX7_howOften 0 = .ok (.iconst 0, 1) := by decide +kernel
theorem dX7_howOften_1 : decode cX7_howOften 1 = .ok (.istore_n 3, 1) := by decide +kernel
theorem dX7_howOften_2 : decode cX7_howOften 2 = .ok (.iconst 0, 1) := by decide +kernel
theorem dX7_howOften_3 : decode cX7_howOften 3 = .ok (.istore 4, 2) := by decide +kernel
theorem dX7_howOften_5 : decode cX7_howOften 5 = .ok (.iload 4, 2) := by decide +kernel
theorem dX7_howOften_7 : decode cX7_howOften 7 = .ok (.aload_n 0, 1) := by decide +kernel
theorem dX7_howOften_8 : decode cX7_howOften 8 = .ok (.getfield 51, 3) := by decide +kernel
theorem dX7_howOften_11 : decode cX7_howOften 11 = .ok (.invokevirtual 198, 3) := by decide +kernel
theorem dX7_howOften_14 : decode cX7_howOften 14 = .ok (.if_icmp .ge 36, 3) := by decide +kernel
theorem dX7_howOften_17 : decode cX7_howOften 17 = .ok (.aload_n 0, 1) := by decide +kernel
theorem dX7_howOften_18 : decode cX7_howOften 18 = .ok (.getfield 51, 3) := by decide +kernel
theorem dX7_howOften_21 : decode cX7_howOften 21 = .ok (.iload 4, 2) := by decide +kernel
theorem dX7_howOften_23 : decode cX7_howOften 23 = .ok (.invokevirtual 164, 3) := by decide +kernel
theorem dX7_howOften_26 : decode cX7_howOften 26 = .ok (.iload_n 1, 1) := by decide +kernel
theorem dX7_howOften_27 : decode cX7_howOften 27 = .ok (.if_icmp .ne 17, 3) := by decide +kernel
theorem dX7_howOften_30 : decode cX7_howOften 30 = .ok (.aload_n 0, 1) := by decide +kernel
theorem dX7_howOften_31 : decode cX7_howOften 31 = .ok (.getfield 76, 3) := by decide +kernel
theorem dX7_howOften_34 : decode cX7_howOften 34 = .ok (.iload 4, 2) := by decide +kernel
theorem dX7_howOften_36 : decode cX7_howOften 36 = .ok (.iaload, 1) := by decide +kernel
theorem dX7_howOften_37 : decode cX7_howOften 37 = .ok (.iload_n 2, 1) := by decide +kernel
theorem dX7_howOften_38 : decode cX7_howOften 38 = .ok (.if_icmp .ne 6, 3) := by decide +kernel
theorem dX7_howOften_41 : decode cX7_howOften 41 = .ok (.iinc 3 1, 3) := by decide +kernel
theorem dX7_howOften_44 : decode cX7_howOften 44 = .ok (.iinc 4 1, 3) := by decide +kernel
theorem dX7_howOften_47 : decode cX7_howOften 47 = .ok (.goto (-42), 3) := by decide +kernel
theorem dX7_howOften_50 : decode cX7_howOften 50 = .ok (.iload_n 3, 1) := by decide +kernel
theorem dX7_howOften_51 : decode cX7_howOften 51 = .ok (.ireturn, 1) := by decide +kernel
theorem dX7_countUsed_0 : decode cX7_countUsed 0 = .ok (.aload_n 0, 1) := by decide +kernel
theorem dX7_countUsed_1 : decode cX7_countUsed 1 = .ok (.getfield 37, 3) := by decide +kernel
theorem dX7_countUsed_4 : decode cX7_countUsed 4 = .ok (.invokevirtual 271, 3) := by decide +kernel
theorem dX7_countUsed_7 : decode cX7_countUsed 7 = .ok (.iconst 0, 1) := by decide +kernel
theorem dX7_countUsed_8 : decode cX7_countUsed 8 = .ok (.istore_n 1, 1) := by decide +kernel
theorem dX7_countUsed_9 : decode cX7_countUsed 9 = .ok (.iload_n 1, 1) := by decide +kernel
theorem dX7_countUsed_10 : decode cX7_countUsed 10 = .ok (.aload_n 0, 1) := by decide +kernel
theorem dX7_countUsed_11 : decode cX7_countUsed 11 = .ok (.getfield 51, 3) := by decide +kernel
theorem dX7_countUsed_14 : decode cX7_countUsed 14 = .ok (.invokevirtual 198, 3) := by decide +kernel
theorem dX7_countUsed_17 : decode cX7_countUsed 17 = .ok (.if_icmp .ge 72, 3) := by decide +kernel
theorem dX7_countUsed_20 : decode cX7_countUsed 20 = .ok (.aload_n 0, 1) := by decide +kernel
theorem dX7_countUsed_21 : decode cX7_countUsed 21 = .ok (.getfield 30, 3) := by decide +kernel
theorem dX7_countUsed_24 : decode cX7_countUsed 24 = .ok (.aload_n 0, 1) := by decide +kernel
theorem dX7_countUsed_25 : decode cX7_countUsed 25 = .ok (.getfield 51, 3) := by decide +kernel
theorem dX7_countUsed_28 : decode cX7_countUsed 28 = .ok (.iload_n 1, 1) := by decide +kernel
theorem dX7_countUsed_29 : decode cX7_countUsed 29 = .ok (.invokevirtual 167, 3) := by decide +kernel
theorem dX7_countUsed_32 : decode cX7_countUsed 32 = .ok (.invokevirtual 171, 3) := by decide +kernel
theorem dX7_countUsed_35 : decode cX7_countUsed 35 = .ok (.iconst 0, 1) := by decide +kernel
theorem dX7_countUsed_36 : decode cX7_countUsed 36 = .ok (.istore_n 2, 1) := by decide +kernel
theorem dX7_countUsed_37 : decode cX7_countUsed 37 = .ok (.iload_n 2, 1) := by decide +kernel
theorem dX7_countUsed_38 : decode cX7_countUsed 38 = .ok (.aload_n 0, 1) := by decide +kernel
theorem dX7_countUsed_39 : decode cX7_countUsed 39 = .ok (.getfield 30, 3) := by decide +kernel
theorem dX7_countUsed_42 : decode cX7_countUsed 42 = .ok (.invokevirtual 175, 3) := by decide +kernel
theorem dX7_countUsed_45 : decode cX7_countUsed 45 = .ok (.if_icmp .ge 38, 3) := by decide +kernel
theorem dX7_countUsed_48 : decode cX7_countUsed 48 = .ok (.aload_n 0, 1) := by decide +kernel
theorem dX7_countUsed_49 : decode cX7_countUsed 49 = .ok (.getfield 37, 3) := by decide +kernel
theorem dX7_countUsed_52 : decode cX7_countUsed 52 = .ok (.aload_n 0, 1) := by decide +kernel
theorem dX7_countUsed_53 : decode cX7_countUsed 53 = .ok (.getfield 37, 3) := by decide +kernel
theorem dX7_countUsed_56 : decode cX7_countUsed 56 = .ok (.aload_n 0, 1) := by decide +kernel
theorem dX7_countUsed_57 : decode cX7_countUsed 57 = .ok (.getfield 37, 3) := by decide +kernel
theorem dX7_countUsed_60 : decode cX7_countUsed 60 = .ok (.aload_n 0, 1) := by decide +kernel
theorem dX7_countUsed_61 : decode cX7_countUsed 61 = .ok (.getfield 30, 3) := by decide +kernel
theorem dX7_countUsed_64 : decode cX7_countUsed 64 = .ok (.iload_n 2, 1) := by decide +kernel
theorem dX7_countUsed_65 : decode cX7_countUsed 65 = .ok (.invokevirtual 217, 3) := by decide +kernel
theorem dX7_countUsed_68 : decode cX7_countUsed 68 = .ok (.invokevirtual 221, 3) := by decide +kernel
theorem dX7_countUsed_71 : decode cX7_countUsed 71 = .ok (.invokevirtual 274, 3) := by decide +kernel
theorem dX7_countUsed_74 : decode cX7_countUsed 74 = .ok (.invokevirtual 277, 3) := by decide +kernel
theorem dX7_countUsed_77 : decode cX7_countUsed 77 = .ok (.iinc 2 1, 3) := by decide +kernel
theorem dX7_countUsed_80 : decode cX7_countUsed 80 = .ok (.goto (-43), 3) := by decide +kernel
theorem dX7_countUsed_83 : decode cX7_countUsed 83 = .ok (.iinc 1 1, 3) := by decide +kernel
theorem dX7_countUsed_86 : decode cX7_countUsed 86 = .ok (.goto (-77), 3) := by decide +kernel
theorem dX7_countUsed_89 : decode cX7_countUsed 89 = .ok (.return_, 1) := by decide +kernel
theorem dX7_offer_0 : decode cX7_offer 0 = .ok (.aload_n 0, 1) := by decide +kernel
theorem dX7_offer_1 : decode cX7_offer 1 = .ok (.getfield 51, 3) := by decide +kernel
theorem dX7_offer_4 : decode cX7_offer 4 = .ok (.iload_n 1, 1) := by decide +kernel
theorem dX7_offer_5 : decode cX7_offer 5 = .ok (.invokevirtual 160, 3) := by decide +kernel
theorem dX7_offer_8 : decode cX7_offer 8 = .ok (.ifCond .ne 9, 3) := by decide +kernel
theorem dX7_offer_11 : decode cX7_offer 11 = .ok (.aload_n 0, 1) := by decide +kernel
theorem dX7_offer_12 : decode cX7_offer 12 = .ok (.iconst 1, 1) := by decide +kernel
theorem dX7_offer_13 : decode cX7_offer 13 = .ok (.invokevirtual 122, 3) := by decide +kernel
theorem dX7_offer_16 : decode cX7_offer 16 = .ok (.ireturn, 1) := by decide +kernel
theorem dX7_offer_17 : decode cX7_offer 17 = .ok (.aload_n 0, 1) := by decide +kernel
theorem dX7_offer_18 : decode cX7_offer 18 = .ok (.invokevirtual 243, 3) := by decide +kernel
theorem dX7_offer_21 : decode cX7_offer 21 = .ok (.aload_n 0, 1) := by decide +kernel
theorem dX7_offer_22 : decode cX7_offer 22 = .ok (.iload_n 1, 1) := by decide +kernel
theorem dX7_offer_23 : decode cX7_offer 23 = .ok (.invokevirtual 280, 3) := by decide +kernel
theorem dX7_offer_26 : decode cX7_offer 26 = .ok (.ifCond .ne 10, 3) := by decide +kernel
theorem dX7_offer_29 : decode cX7_offer 29 = .ok (.aload_n 0, 1) := by decide +kernel
theorem dX7_offer_30 : decode cX7_offer 30 = .ok (.bipush (-2), 2) := by decide +kernel
theorem dX7_offer_32 : decode cX7_offer 32 = .ok (.invokevirtual 131, 3) := by decide +kernel
theorem dX7_offer_35 : decode cX7_offer 35 = .ok (.ireturn, 1) := by decide +kernel
theorem dX7_offer_36 : decode cX7_offer 36 = .ok (.aload_n 0, 1) := by decide +kernel
theorem dX7_offer_37 : decode cX7_offer 37 = .ok (.getfield 24, 3) := by decide +kernel
theorem dX7_offer_40 : decode cX7_offer 40 = .ok (.aload_n 0, 1) := by decide +kernel
theorem dX7_offer_41 : decode cX7_offer 41 = .ok (.getfield 21, 3) := by decide +kernel
theorem dX7_offer_44 : decode cX7_offer 44 = .ok (.invokevirtual 283, 3) := by decide +kernel
theorem dX7_offer_47 : decode cX7_offer 47 = .ok (.aload_n 0, 1) := by decide +kernel
theorem dX7_offer_48 : decode cX7_offer 48 = .ok (.aload_n 0, 1) := by decide +kernel
theorem dX7_offer_49 : decode cX7_offer 49 = .ok (.getfield 24, 3) := by decide +kernel
theorem dX7_offer_52 : decode cX7_offer 52 = .ok (.invokevirtual 88, 3) := by decide +kernel
theorem dX7_offer_55 : decode cX7_offer 55 = .ok (.invokevirtual 131, 3) := by decide +kernel
theorem dX7_offer_58 : decode cX7_offer 58 = .ok (.ireturn, 1) := by decide +kernel
theorem dX7_out_0 : decode cX7_out 0 = .ok (.aload_n 0, 1) := by decide +kernel
theorem dX7_out_1 : decode cX7_out 1 = .ok (.getfield 24, 3) := by decide +kernel
theorem dX7_out_4 : decode cX7_out 4 = .ok (.iload_n 1, 1) := by decide +kernel
theorem dX7_out_5 : decode cX7_out 5 = .ok (.invokevirtual 185, 3) := by decide +kernel
theorem dX7_out_8 : decode cX7_out 8 = .ok (.ifCond .ne 14, 3) := by decide +kernel
theorem dX7_out_11 : decode cX7_out 11 = .ok (.new 186, 3) := by decide +kernel
theorem dX7_out_14 : decode cX7_out 14 = .ok (.dup, 1) := by decide +kernel
theorem dX7_out_15 : decode cX7_out 15 = .ok (.ldc_w 286, 3) := by decide +kernel
theorem dX7_out_18 : decode cX7_out 18 = .ok (.invokespecial 190, 3) := by decide +kernel
theorem dX7_out_21 : decode cX7_out 21 = .ok (.athrow, 1) := by decide +kernel
theorem dX7_out_22 : decode cX7_out 22 = .ok (.aload_n 0, 1) := by decide +kernel
theorem dX7_out_23 : decode cX7_out 23 = .ok (.getfield 24, 3) := by decide +kernel
theorem dX7_out_26 : decode cX7_out 26 = .ok (.iload_n 1, 1) := by decide +kernel
theorem dX7_out_27 : decode cX7_out 27 = .ok (.invokevirtual 98, 3) := by decide +kernel
theorem dX7_out_30 : decode cX7_out 30 = .ok (.ireturn, 1) := by decide +kernel
theorem dX7_rename_0 : decode cX7_rename 0 = .ok (.aload_n 0, 1) := by decide +kernel
theorem dX7_rename_1 : decode cX7_rename 1 = .ok (.getfield 51, 3) := by decide +kernel
theorem dX7_rename_4 : decode cX7_rename 4 = .ok (.iload_n 1, 1) := by decide +kernel
theorem dX7_rename_5 : decode cX7_rename 5 = .ok (.invokevirtual 160, 3) := by decide +kernel
theorem dX7_rename_8 : decode cX7_rename 8 = .ok (.ifCond .ne 9, 3) := by decide +kernel
theorem dX7_rename_11 : decode cX7_rename 11 = .ok (.aload_n 0, 1) := by decide +kernel
theorem dX7_rename_12 : decode cX7_rename 12 = .ok (.iconst 1, 1) := by decide +kernel
theorem dX7_rename_13 : decode cX7_rename 13 = .ok (.invokevirtual 122, 3) := by decide +kernel
theorem dX7_rename_16 : decode cX7_rename 16 = .ok (.ireturn, 1) := by decide +kernel
theorem dX7_rename_17 : decode cX7_rename 17 = .ok (.aload_n 0, 1) := by decide +kernel
theorem dX7_rename_18 : decode cX7_rename 18 = .ok (.iload_n 2, 1) := by decide +kernel
theorem dX7_rename_19 : decode cX7_rename 19 = .ok (.invokevirtual 137, 3) := by decide +kernel
theorem dX7_rename_22 : decode cX7_rename 22 = .ok (.ifCond .ne 9, 3) := by decide +kernel
theorem dX7_rename_25 : decode cX7_rename 25 = .ok (.aload_n 0, 1) := by decide +kernel
theorem dX7_rename_26 : decode cX7_rename 26 = .ok (.iconst 2, 1) := by decide +kernel
theorem dX7_rename_27 : decode cX7_rename 27 = .ok (.invokevirtual 122, 3) := by decide +kernel
theorem dX7_rename_30 : decode cX7_rename 30 = .ok (.ireturn, 1) := by decide +kernel
theorem dX7_rename_31 : decode cX7_rename 31 = .ok (.aload_n 0, 1) := by decide +kernel
theorem dX7_rename_32 : decode cX7_rename 32 = .ok (.getfield 65, 3) := by decide +kernel
theorem dX7_rename_35 : decode cX7_rename 35 = .ok (.iload_n 1, 1) := by decide +kernel
theorem dX7_rename_36 : decode cX7_rename 36 = .ok (.aload_n 0, 1) := by decide +kernel
theorem dX7_rename_37 : decode cX7_rename 37 = .ok (.getfield 18, 3) := by decide +kernel
theorem dX7_rename_40 : decode cX7_rename 40 = .ok (.invokevirtual 288, 3) := by decide +kernel
theorem dX7_rename_43 : decode cX7_rename 43 = .ok (.aload_n 0, 1) := by decide +kernel
theorem dX7_rename_44 : decode cX7_rename 44 = .ok (.aload_n 0, 1) := by decide +kernel
theorem dX7_rename_45 : decode cX7_rename 45 = .ok (.getfield 65, 3) := by decide +kernel
theorem dX7_rename_48 : decode cX7_rename 48 = .ok (.invokevirtual 292, 3) := by decide +kernel
theorem dX7_rename_51 : decode cX7_rename 51 = .ok (.invokevirtual 131, 3) := by decide +kernel
theorem dX7_rename_54 : decode cX7_rename 54 = .ok (.ireturn, 1) := by decide +kernel
theorem dX7_renames_0 : decode cX7_renames 0 = .ok (.aload_n 0, 1) := by decide +kernel
theorem dX7_renames_1 : decode cX7_renames 1 = .ok (.getfield 65, 3) := by decide +kernel
theorem dX7_renames_4 : decode cX7_renames 4 = .ok (.invokevirtual 293, 3) := by decide +kernel
theorem dX7_renames_7 : decode cX7_renames 7 = .ok (.aload_n 0, 1) := by decide +kernel
theorem dX7_renames_8 : decode cX7_renames 8 = .ok (.invokevirtual 243, 3) := by decide +kernel
theorem dX7_renames_11 : decode cX7_renames 11 = .ok (.iconst 0, 1) := by decide +kernel
theorem dX7_renames_12 : decode cX7_renames 12 = .ok (.istore_n 1, 1) := by decide +kernel
theorem dX7_renames_13 : decode cX7_renames 13 = .ok (.iload_n 1, 1) := by decide +kernel
theorem dX7_renames_14 : decode cX7_renames 14 = .ok (.aload_n 0, 1) := by decide +kernel
theorem dX7_renames_15 : decode cX7_renames 15 = .ok (.getfield 51, 3) := by decide +kernel
theorem dX7_renames_18 : decode cX7_renames 18 = .ok (.invokevirtual 198, 3) := by decide +kernel
theorem dX7_renames_21 : decode cX7_renames 21 = .ok (.if_icmp .ge 29, 3) := by decide +kernel
theorem dX7_renames_24 : decode cX7_renames 24 = .ok (.aload_n 0, 1) := by decide +kernel
theorem dX7_renames_25 : decode cX7_renames 25 = .ok (.iload_n 1, 1) := by decide +kernel
theorem dX7_renames_26 : decode cX7_renames 26 = .ok (.invokevirtual 280, 3) := by decide +kernel
theorem dX7_renames_29 : decode cX7_renames 29 = .ok (.ifCond .eq 15, 3) := by decide +kernel
theorem dX7_renames_32 : decode cX7_renames 32 = .ok (.aload_n 0, 1) := by decide +kernel
theorem dX7_renames_33 : decode cX7_renames 33 = .ok (.getfield 65, 3) := by decide +kernel
theorem dX7_renames_36 : decode cX7_renames 36 = .ok (.iload_n 1, 1) := by decide +kernel
theorem dX7_renames_37 : decode cX7_renames 37 = .ok (.aload_n 0, 1) := by decide +kernel
theorem dX7_renames_38 : decode cX7_renames 38 = .ok (.getfield 21, 3) := by decide +kernel
theorem dX7_renames_41 : decode cX7_renames 41 = .ok (.invokevirtual 288, 3) := by decide +kernel
theorem dX7_renames_44 : decode cX7_renames 44 = .ok (.iinc 1 1, 3) := by decide +kernel
theorem dX7_renames_47 : decode cX7_renames 47 = .ok (.goto (-34), 3) := by decide +kernel
theorem dX7_renames_50 : decode cX7_renames 50 = .ok (.aload_n 0, 1) := by decide +kernel
theorem dX7_renames_51 : decode cX7_renames 51 = .ok (.getfield 65, 3) := by decide +kernel
theorem dX7_renames_54 : decode cX7_renames 54 = .ok (.invokevirtual 292, 3) := by decide +kernel
theorem dX7_renames_57 : decode cX7_renames 57 = .ok (.ireturn, 1) := by decide +kernel
theorem dX7_none_0 : decode cX7_none 0 = .ok (.aload_n 0, 1) := by decide +kernel
theorem dX7_none_1 : decode cX7_none 1 = .ok (.getfield 65, 3) := by decide +kernel
theorem dX7_none_4 : decode cX7_none 4 = .ok (.invokevirtual 292, 3) := by decide +kernel
theorem dX7_none_7 : decode cX7_none 7 = .ok (.istore_n 1, 1) := by decide +kernel
theorem dX7_none_8 : decode cX7_none 8 = .ok (.aload_n 0, 1) := by decide +kernel
theorem dX7_none_9 : decode cX7_none 9 = .ok (.getfield 65, 3) := by decide +kernel
theorem dX7_none_12 : decode cX7_none 12 = .ok (.invokevirtual 293, 3) := by decide +kernel
theorem dX7_none_15 : decode cX7_none 15 = .ok (.iload_n 1, 1) := by decide +kernel
theorem dX7_none_16 : decode cX7_none 16 = .ok (.ireturn, 1) := by decide +kernel
theorem dX7_hinders_0 : decode cX7_hinders 0 = .ok (.aload_n 0, 1) := by decide +kernel
theorem dX7_hinders_1 : decode cX7_hinders 1 = .ok (.invokevirtual 294, 3) := by decide +kernel
theorem dX7_hinders_4 : decode cX7_hinders 4 = .ok (.istore_n 1, 1) := by decide +kernel
theorem dX7_hinders_5 : decode cX7_hinders 5 = .ok (.iload_n 1, 1) := by decide +kernel
theorem dX7_hinders_6 : decode cX7_hinders 6 = .ok (.bipush (-2), 2) := by decide +kernel
theorem dX7_hinders_8 : decode cX7_hinders 8 = .ok (.if_icmp .eq 5, 3) := by decide +kernel
theorem dX7_hinders_11 : decode cX7_hinders 11 = .ok (.iload_n 1, 1) := by decide +kernel
theorem dX7_hinders_12 : decode cX7_hinders 12 = .ok (.ireturn, 1) := by decide +kernel
theorem dX7_hinders_13 : decode cX7_hinders 13 = .ok (.aload_n 0, 1) := by decide +kernel
theorem dX7_hinders_14 : decode cX7_hinders 14 = .ok (.invokevirtual 297, 3) := by decide +kernel
theorem dX7_hinders_17 : decode cX7_hinders 17 = .ok (.istore_n 2, 1) := by decide +kernel
theorem dX7_hinders_18 : decode cX7_hinders 18 = .ok (.iload_n 2, 1) := by decide +kernel
theorem dX7_hinders_19 : decode cX7_hinders 19 = .ok (.bipush (-2), 2) := by decide +kernel
theorem dX7_hinders_21 : decode cX7_hinders 21 = .ok (.if_icmp .ne 8, 3) := by decide +kernel
theorem dX7_hinders_24 : decode cX7_hinders 24 = .ok (.bipush (-2), 2) := by decide +kernel
theorem dX7_hinders_26 : decode cX7_hinders 26 = .ok (.goto 8, 3) := by decide +kernel
theorem dX7_hinders_29 : decode cX7_hinders 29 = .ok (.sipush 1000, 3) := by decide +kernel
theorem dX7_hinders_32 : decode cX7_hinders 32 = .ok (.iload_n 2, 1) := by decide +kernel
theorem dX7_hinders_33 : decode cX7_hinders 33 = .ok (.iadd, 1) := by decide +kernel
theorem dX7_hinders_34 : decode cX7_hinders 34 = .ok (.ireturn, 1) := by decide +kernel
theorem dX7_turn_0 : decode cX7_turn 0 = .ok (.aload_n 0, 1) := by decide +kernel
theorem dX7_turn_1 : decode cX7_turn 1 = .ok (.invokevirtual 294, 3) := by decide +kernel
theorem dX7_turn_4 : decode cX7_turn 4 = .ok (.bipush (-2), 2) := by decide +kernel
theorem dX7_turn_6 : decode cX7_turn 6 = .ok (.if_icmp .ne 12, 3) := by decide +kernel
theorem dX7_turn_9 : decode cX7_turn 9 = .ok (.aload_n 0, 1) := by decide +kernel
theorem dX7_turn_10 : decode cX7_turn 10 = .ok (.invokevirtual 297, 3) := by decide +kernel
theorem dX7_turn_13 : decode cX7_turn 13 = .ok (.bipush (-2), 2) := by decide +kernel
theorem dX7_turn_15 : decode cX7_turn 15 = .ok (.if_icmp .eq 9, 3) := by decide +kernel
theorem dX7_turn_18 : decode cX7_turn 18 = .ok (.aload_n 0, 1) := by decide +kernel
theorem dX7_turn_19 : decode cX7_turn 19 = .ok (.iconst 5, 1) := by decide +kernel
theorem dX7_turn_20 : decode cX7_turn 20 = .ok (.invokevirtual 122, 3) := by decide +kernel
theorem dX7_turn_23 : decode cX7_turn 23 = .ok (.ireturn, 1) := by decide +kernel
theorem dX7_turn_24 : decode cX7_turn 24 = .ok (.aload_n 0, 1) := by decide +kernel
theorem dX7_turn_25 : decode cX7_turn 25 = .ok (.getfield 69, 3) := by decide +kernel
theorem dX7_turn_28 : decode cX7_turn 28 = .ok (.invokevirtual 293, 3) := by decide +kernel
theorem dX7_turn_31 : decode cX7_turn 31 = .ok (.iconst 0, 1) := by decide +kernel
theorem dX7_turn_32 : decode cX7_turn 32 = .ok (.istore_n 1, 1) := by decide +kernel
theorem dX7_turn_33 : decode cX7_turn 33 = .ok (.iload_n 1, 1) := by decide +kernel
theorem dX7_turn_34 : decode cX7_turn 34 = .ok (.aload_n 0, 1) := by decide +kernel
theorem dX7_turn_35 : decode cX7_turn 35 = .ok (.getfield 51, 3) := by decide +kernel
theorem dX7_turn_38 : decode cX7_turn 38 = .ok (.invokevirtual 198, 3) := by decide +kernel
theorem dX7_turn_41 : decode cX7_turn 41 = .ok (.if_icmp .ge 55, 3) := by decide +kernel
theorem dX7_turn_44 : decode cX7_turn 44 = .ok (.aload_n 0, 1) := by decide +kernel
theorem dX7_turn_45 : decode cX7_turn 45 = .ok (.getfield 65, 3) := by decide +kernel
theorem dX7_turn_48 : decode cX7_turn 48 = .ok (.iload_n 1, 1) := by decide +kernel
theorem dX7_turn_49 : decode cX7_turn 49 = .ok (.invokevirtual 212, 3) := by decide +kernel
theorem dX7_turn_52 : decode cX7_turn 52 = .ok (.ifCond .eq 38, 3) := by decide +kernel
theorem dX7_turn_55 : decode cX7_turn 55 = .ok (.aload_n 0, 1) := by decide +kernel
theorem dX7_turn_56 : decode cX7_turn 56 = .ok (.getfield 69, 3) := by decide +kernel
theorem dX7_turn_59 : decode cX7_turn 59 = .ok (.iload_n 1, 1) := by decide +kernel
theorem dX7_turn_60 : decode cX7_turn 60 = .ok (.aload_n 0, 1) := by decide +kernel
theorem dX7_turn_61 : decode cX7_turn 61 = .ok (.getfield 51, 3) := by decide +kernel
theorem dX7_turn_64 : decode cX7_turn 64 = .ok (.iload_n 1, 1) := by decide +kernel
theorem dX7_turn_65 : decode cX7_turn 65 = .ok (.invokevirtual 167, 3) := by decide +kernel
theorem dX7_turn_68 : decode cX7_turn 68 = .ok (.invokevirtual 288, 3) := by decide +kernel
theorem dX7_turn_71 : decode cX7_turn 71 = .ok (.aload_n 0, 1) := by decide +kernel
theorem dX7_turn_72 : decode cX7_turn 72 = .ok (.getfield 51, 3) := by decide +kernel
theorem dX7_turn_75 : decode cX7_turn 75 = .ok (.iload_n 1, 1) := by decide +kernel
theorem dX7_turn_76 : decode cX7_turn 76 = .ok (.invokevirtual 167, 3) := by decide +kernel
theorem dX7_turn_79 : decode cX7_turn 79 = .ok (.aload_n 0, 1) := by decide +kernel
theorem dX7_turn_80 : decode cX7_turn 80 = .ok (.getfield 65, 3) := by decide +kernel
theorem dX7_turn_83 : decode cX7_turn 83 = .ok (.iload_n 1, 1) := by decide +kernel
theorem dX7_turn_84 : decode cX7_turn 84 = .ok (.invokevirtual 213, 3) := by decide +kernel
theorem dX7_turn_87 : decode cX7_turn 87 = .ok (.invokevirtual 283, 3) := by decide +kernel
theorem dX7_turn_90 : decode cX7_turn 90 = .ok (.iinc 1 1, 3) := by decide +kernel
theorem dX7_turn_93 : decode cX7_turn 93 = .ok (.goto (-60), 3) := by decide +kernel
theorem dX7_turn_96 : decode cX7_turn 96 = .ok (.aload_n 0, 1) := by decide +kernel
theorem dX7_turn_97 : decode cX7_turn 97 = .ok (.getfield 65, 3) := by decide +kernel
theorem dX7_turn_100 : decode cX7_turn 100 = .ok (.invokevirtual 293, 3) := by decide +kernel
theorem dX7_turn_103 : decode cX7_turn 103 = .ok (.aload_n 0, 1) := by decide +kernel
theorem dX7_turn_104 : decode cX7_turn 104 = .ok (.iconst 1, 1) := by decide +kernel
theorem dX7_turn_105 : decode cX7_turn 105 = .ok (.putfield 80, 3) := by decide +kernel
theorem dX7_turn_108 : decode cX7_turn 108 = .ok (.aload_n 0, 1) := by decide +kernel
theorem dX7_turn_109 : decode cX7_turn 109 = .ok (.aload_n 0, 1) := by decide +kernel
theorem dX7_turn_110 : decode cX7_turn 110 = .ok (.getfield 69, 3) := by decide +kernel
theorem dX7_turn_113 : decode cX7_turn 113 = .ok (.invokevirtual 292, 3) := by decide +kernel
theorem dX7_turn_116 : decode cX7_turn 116 = .ok (.invokevirtual 131, 3) := by decide +kernel
theorem dX7_turn_119 : decode cX7_turn 119 = .ok (.ireturn, 1) := by decide +kernel
theorem dX7_back_0 : decode cX7_back 0 = .ok (.aload_n 0, 1) := by decide +kernel
theorem dX7_back_1 : decode cX7_back 1 = .ok (.getfield 80, 3) := by decide +kernel
theorem dX7_back_4 : decode cX7_back 4 = .ok (.ifCond .ne 10, 3) := by decide +kernel
theorem dX7_back_7 : decode cX7_back 7 = .ok (.aload_n 0, 1) := by decide +kernel
theorem dX7_back_8 : decode cX7_back 8 = .ok (.bipush 6, 2) := by decide +kernel
theorem dX7_back_10 : decode cX7_back 10 = .ok (.invokevirtual 122, 3) := by decide +kernel
theorem dX7_back_13 : decode cX7_back 13 = .ok (.ireturn, 1) := by decide +kernel
theorem dX7_back_14 : decode cX7_back 14 = .ok (.iconst 0, 1) := by decide +kernel
theorem dX7_back_15 : decode cX7_back 15 = .ok (.istore_n 1, 1) := by decide +kernel
theorem dX7_back_16 : decode cX7_back 16 = .ok (.iload_n 1, 1) := by decide +kernel
theorem dX7_back_17 : decode cX7_back 17 = .ok (.aload_n 0, 1) := by decide +kernel
theorem dX7_back_18 : decode cX7_back 18 = .ok (.getfield 51, 3) := by decide +kernel
theorem dX7_back_21 : decode cX7_back 21 = .ok (.invokevirtual 198, 3) := by decide +kernel
theorem dX7_back_24 : decode cX7_back 24 = .ok (.if_icmp .ge 39, 3) := by decide +kernel
theorem dX7_back_27 : decode cX7_back 27 = .ok (.aload_n 0, 1) := by decide +kernel
theorem dX7_back_28 : decode cX7_back 28 = .ok (.getfield 69, 3) := by decide +kernel
theorem dX7_back_31 : decode cX7_back 31 = .ok (.iload_n 1, 1) := by decide +kernel
theorem dX7_back_32 : decode cX7_back 32 = .ok (.invokevirtual 212, 3) := by decide +kernel
theorem dX7_back_35 : decode cX7_back 35 = .ok (.ifCond .eq 22, 3) := by decide +kernel
theorem dX7_back_38 : decode cX7_back 38 = .ok (.aload_n 0, 1) := by decide +kernel
theorem dX7_back_39 : decode cX7_back 39 = .ok (.getfield 51, 3) := by decide +kernel
theorem dX7_back_42 : decode cX7_back 42 = .ok (.iload_n 1, 1) := by decide +kernel
theorem dX7_back_43 : decode cX7_back 43 = .ok (.invokevirtual 167, 3) := by decide +kernel
theorem dX7_back_46 : decode cX7_back 46 = .ok (.aload_n 0, 1) := by decide +kernel
theorem dX7_back_47 : decode cX7_back 47 = .ok (.getfield 69, 3) := by decide +kernel
theorem dX7_back_50 : decode cX7_back 50 = .ok (.iload_n 1, 1) := by decide +kernel
theorem dX7_back_51 : decode cX7_back 51 = .ok (.invokevirtual 213, 3) := by decide +kernel
theorem dX7_back_54 : decode cX7_back 54 = .ok (.invokevirtual 283, 3) := by decide +kernel
theorem dX7_back_57 : decode cX7_back 57 = .ok (.iinc 1 1, 3) := by decide +kernel
theorem dX7_back_60 : decode cX7_back 60 = .ok (.goto (-44), 3) := by decide +kernel
theorem dX7_back_63 : decode cX7_back 63 = .ok (.aload_n 0, 1) := by decide +kernel
theorem dX7_back_64 : decode cX7_back 64 = .ok (.iconst 0, 1) := by decide +kernel
theorem dX7_back_65 : decode cX7_back 65 = .ok (.putfield 80, 3) := by decide +kernel
theorem dX7_back_68 : decode cX7_back 68 = .ok (.aload_n 0, 1) := by decide +kernel
theorem dX7_back_69 : decode cX7_back 69 = .ok (.aload_n 0, 1) := by decide +kernel
theorem dX7_back_70 : decode cX7_back 70 = .ok (.getfield 69, 3) := by decide +kernel
theorem dX7_back_73 : decode cX7_back 73 = .ok (.invokevirtual 292, 3) := by decide +kernel
theorem dX7_back_76 : decode cX7_back 76 = .ok (.invokevirtual 131, 3) := by decide +kernel
theorem dX7_back_79 : decode cX7_back 79 = .ok (.ireturn, 1) := by decide +kernel
theorem dX7_keep_0 : decode cX7_keep 0 = .ok (.iconst 0, 1) := by decide +kernel
theorem dX7_keep_1 : decode cX7_keep 1 = .ok (.istore_n 1, 1) := by decide +kernel
theorem dX7_keep_2 : decode cX7_keep 2 = .ok (.iload_n 1, 1) := by decide +kernel
theorem dX7_keep_3 : decode cX7_keep 3 = .ok (.bipush 80, 2) := by decide +kernel
theorem dX7_keep_5 : decode cX7_keep 5 = .ok (.if_icmp .ge 23, 3) := by decide +kernel
theorem dX7_keep_8 : decode cX7_keep 8 = .ok (.aload_n 0, 1) := by decide +kernel
theorem dX7_keep_9 : decode cX7_keep 9 = .ok (.getfield 72, 3) := by decide +kernel
theorem dX7_keep_12 : decode cX7_keep 12 = .ok (.iload_n 1, 1) := by decide +kernel
theorem dX7_keep_13 : decode cX7_keep 13 = .ok (.aload_n 0, 1) := by decide +kernel
theorem dX7_keep_14 : decode cX7_keep 14 = .ok (.getfield 65, 3) := by decide +kernel
theorem dX7_keep_17 : decode cX7_keep 17 = .ok (.iload_n 1, 1) := by decide +kernel
theorem dX7_keep_18 : decode cX7_keep 18 = .ok (.invokevirtual 212, 3) := by decide +kernel
theorem dX7_keep_21 : decode cX7_keep 21 = .ok (.bastore, 1) := by decide +kernel
theorem dX7_keep_22 : decode cX7_keep 22 = .ok (.iinc 1 1, 3) := by decide +kernel
theorem dX7_keep_25 : decode cX7_keep 25 = .ok (.goto (-23), 3) := by decide +kernel
theorem dX7_keep_28 : decode cX7_keep 28 = .ok (.aload_n 0, 1) := by decide +kernel
theorem dX7_keep_29 : decode cX7_keep 29 = .ok (.getfield 65, 3) := by decide +kernel
theorem dX7_keep_32 : decode cX7_keep 32 = .ok (.invokevirtual 293, 3) := by decide +kernel
theorem dX7_keep_35 : decode cX7_keep 35 = .ok (.iconst 0, 1) := by decide +kernel
theorem dX7_keep_36 : decode cX7_keep 36 = .ok (.istore_n 1, 1) := by decide +kernel
theorem dX7_keep_37 : decode cX7_keep 37 = .ok (.iload_n 1, 1) := by decide +kernel
theorem dX7_keep_38 : decode cX7_keep 38 = .ok (.bipush 80, 2) := by decide +kernel
theorem dX7_keep_40 : decode cX7_keep 40 = .ok (.if_icmp .ge 42, 3) := by decide +kernel
theorem dX7_keep_43 : decode cX7_keep 43 = .ok (.aload_n 0, 1) := by decide +kernel
theorem dX7_keep_44 : decode cX7_keep 44 = .ok (.getfield 72, 3) := by decide +kernel
theorem dX7_keep_47 : decode cX7_keep 47 = .ok (.iload_n 1, 1) := by decide +kernel
theorem dX7_keep_48 : decode cX7_keep 48 = .ok (.baload, 1) := by decide +kernel
theorem dX7_keep_49 : decode cX7_keep 49 = .ok (.ifCond .eq 27, 3) := by decide +kernel
theorem dX7_keep_52 : decode cX7_keep 52 = .ok (.aload_n 0, 1) := by decide +kernel
theorem dX7_keep_53 : decode cX7_keep 53 = .ok (.getfield 65, 3) := by decide +kernel
theorem dX7_keep_56 : decode cX7_keep 56 = .ok (.iload_n 1, 1) := by decide +kernel
theorem dX7_keep_57 : decode cX7_keep 57 = .ok (.invokevirtual 300, 3) := by decide +kernel
theorem dX7_keep_60 : decode cX7_keep 60 = .ok (.aload_n 0, 1) := by decide +kernel
theorem dX7_keep_61 : decode cX7_keep 61 = .ok (.iload_n 1, 1) := by decide +kernel
theorem dX7_keep_62 : decode cX7_keep 62 = .ok (.invokevirtual 303, 3) := by decide +kernel
theorem dX7_keep_65 : decode cX7_keep 65 = .ok (.ifCond .ne 11, 3) := by decide +kernel
theorem dX7_keep_68 : decode cX7_keep 68 = .ok (.aload_n 0, 1) := by decide +kernel
theorem dX7_keep_69 : decode cX7_keep 69 = .ok (.getfield 65, 3) := by decide +kernel
theorem dX7_keep_72 : decode cX7_keep 72 = .ok (.iload_n 1, 1) := by decide +kernel
theorem dX7_keep_73 : decode cX7_keep 73 = .ok (.invokevirtual 306, 3) := by decide +kernel
theorem dX7_keep_76 : decode cX7_keep 76 = .ok (.iinc 1 1, 3) := by decide +kernel
theorem dX7_keep_79 : decode cX7_keep 79 = .ok (.goto (-42), 3) := by decide +kernel
theorem dX7_keep_82 : decode cX7_keep 82 = .ok (.aload_n 0, 1) := by decide +kernel
theorem dX7_keep_83 : decode cX7_keep 83 = .ok (.getfield 65, 3) := by decide +kernel
theorem dX7_keep_86 : decode cX7_keep 86 = .ok (.invokevirtual 292, 3) := by decide +kernel
theorem dX7_keep_89 : decode cX7_keep 89 = .ok (.ireturn, 1) := by decide +kernel
theorem dX7_count_0 : decode cX7_count 0 = .ok (.iload_n 1, 1) := by decide +kernel
theorem dX7_count_1 : decode cX7_count 1 = .ok (.tableswitch 99 0 6 #[43, 51, 59, 67, 75, 83, 91], 43) := by decide +kernel
theorem dX7_count_44 : decode cX7_count 44 = .ok (.aload_n 0, 1) := by decide +kernel
theorem dX7_count_45 : decode cX7_count 45 = .ok (.getfield 44, 3) := by decide +kernel
theorem dX7_count_48 : decode cX7_count 48 = .ok (.invokevirtual 309, 3) := by decide +kernel
theorem dX7_count_51 : decode cX7_count 51 = .ok (.ireturn, 1) := by decide +kernel
theorem dX7_count_52 : decode cX7_count 52 = .ok (.aload_n 0, 1) := by decide +kernel
theorem dX7_count_53 : decode cX7_count 53 = .ok (.getfield 51, 3) := by decide +kernel
theorem dX7_count_56 : decode cX7_count 56 = .ok (.invokevirtual 198, 3) := by decide +kernel
theorem dX7_count_59 : decode cX7_count 59 = .ok (.ireturn, 1) := by decide +kernel
theorem dX7_count_60 : decode cX7_count 60 = .ok (.aload_n 0, 1) := by decide +kernel
theorem dX7_count_61 : decode cX7_count 61 = .ok (.getfield 58, 3) := by decide +kernel
theorem dX7_count_64 : decode cX7_count 64 = .ok (.invokevirtual 207, 3) := by decide +kernel
theorem dX7_count_67 : decode cX7_count 67 = .ok (.ireturn, 1) := by decide +kernel
theorem dX7_count_68 : decode cX7_count 68 = .ok (.aload_n 0, 1) := by decide +kernel
theorem dX7_count_69 : decode cX7_count 69 = .ok (.getfield 37, 3) := by decide +kernel
theorem dX7_count_72 : decode cX7_count 72 = .ok (.invokevirtual 310, 3) := by decide +kernel
theorem dX7_count_75 : decode cX7_count 75 = .ok (.ireturn, 1) := by decide +kernel
theorem dX7_count_76 : decode cX7_count 76 = .ok (.aload_n 0, 1) := by decide +kernel
theorem dX7_count_77 : decode cX7_count 77 = .ok (.getfield 65, 3) := by decide +kernel
theorem dX7_count_80 : decode cX7_count 80 = .ok (.invokevirtual 292, 3) := by decide +kernel
theorem dX7_count_83 : decode cX7_count 83 = .ok (.ireturn, 1) := by decide +kernel
theorem dX7_count_84 : decode cX7_count 84 = .ok (.aload_n 0, 1) := by decide +kernel
theorem dX7_count_85 : decode cX7_count 85 = .ok (.getfield 24, 3) := by decide +kernel
theorem dX7_count_88 : decode cX7_count 88 = .ok (.invokevirtual 88, 3) := by decide +kernel
theorem dX7_count_91 : decode cX7_count 91 = .ok (.ireturn, 1) := by decide +kernel
theorem dX7_count_92 : decode cX7_count 92 = .ok (.aload_n 0, 1) := by decide +kernel
theorem dX7_count_93 : decode cX7_count 93 = .ok (.getfield 14, 3) := by decide +kernel
theorem dX7_count_96 : decode cX7_count 96 = .ok (.invokevirtual 88, 3) := by decide +kernel
theorem dX7_count_99 : decode cX7_count 99 = .ok (.ireturn, 1) := by decide +kernel
theorem dX7_count_100 : decode cX7_count 100 = .ok (.iconst (-1), 1) := by decide +kernel
theorem dX7_count_101 : decode cX7_count 101 = .ok (.ireturn, 1) := by decide +kernel
theorem dX7_trouble_0 : decode cX7_trouble 0 = .ok (.aload_n 0, 1) := by decide +kernel
theorem dX7_trouble_1 : decode cX7_trouble 1 = .ok (.getfield 84, 3) := by decide +kernel
theorem dX7_trouble_4 : decode cX7_trouble 4 = .ok (.ireturn, 1) := by decide +kernel
theorem dX7_refused_0 : decode cX7_refused 0 = .ok (.aload_n 0, 1) := by decide +kernel
theorem dX7_refused_1 : decode cX7_refused 1 = .ok (.iload_n 1, 1) := by decide +kernel
theorem dX7_refused_2 : decode cX7_refused 2 = .ok (.putfield 84, 3) := by decide +kernel
theorem dX7_refused_5 : decode cX7_refused 5 = .ok (.iconst (-1), 1) := by decide +kernel
theorem dX7_refused_6 : decode cX7_refused 6 = .ok (.ireturn, 1) := by decide +kernel
theorem dX7_accepted_0 : decode cX7_accepted 0 = .ok (.aload_n 0, 1) := by decide +kernel
theorem dX7_accepted_1 : decode cX7_accepted 1 = .ok (.iconst 0, 1) := by decide +kernel
theorem dX7_accepted_2 : decode cX7_accepted 2 = .ok (.putfield 84, 3) := by decide +kernel
theorem dX7_accepted_5 : decode cX7_accepted 5 = .ok (.iload_n 1, 1) := by decide +kernel
theorem dX7_accepted_6 : decode cX7_accepted 6 = .ok (.ireturn, 1) := by decide +kernel
theorem dX7_draftsOffer_0 : decode cX7_draftsOffer 0 = .ok (.aload_n 0, 1) := by decide +kernel
theorem dX7_draftsOffer_1 : decode cX7_draftsOffer 1 = .ok (.getfield 51, 3) := by decide +kernel
theorem dX7_draftsOffer_4 : decode cX7_draftsOffer 4 = .ok (.iload_n 1, 1) := by decide +kernel
theorem dX7_draftsOffer_5 : decode cX7_draftsOffer 5 = .ok (.invokevirtual 167, 3) := by decide +kernel
theorem dX7_draftsOffer_8 : decode cX7_draftsOffer 8 = .ok (.astore_n 2, 1) := by decide +kernel
theorem dX7_draftsOffer_9 : decode cX7_draftsOffer 9 = .ok (.aload_n 2, 1) := by decide +kernel
theorem dX7_draftsOffer_10 : decode cX7_draftsOffer 10 = .ok (.invokevirtual 176, 3) := by decide +kernel
theorem dX7_draftsOffer_13 : decode cX7_draftsOffer 13 = .ok (.istore_n 3, 1) := by decide +kernel
theorem dX7_draftsOffer_14 : decode cX7_draftsOffer 14 = .ok (.aload_n 0, 1) := by decide +kernel
theorem dX7_draftsOffer_15 : decode cX7_draftsOffer 15 = .ok (.getfield 21, 3) := by decide +kernel
theorem dX7_draftsOffer_18 : decode cX7_draftsOffer 18 = .ok (.invokevirtual 95, 3) := by decide +kernel
theorem dX7_draftsOffer_21 : decode cX7_draftsOffer 21 = .ok (.aload_n 0, 1) := by decide +kernel
theorem dX7_draftsOffer_22 : decode cX7_draftsOffer 22 = .ok (.getfield 30, 3) := by decide +kernel
theorem dX7_draftsOffer_25 : decode cX7_draftsOffer 25 = .ok (.aload_n 2, 1) := by decide +kernel
theorem dX7_draftsOffer_26 : decode cX7_draftsOffer 26 = .ok (.invokevirtual 171, 3) := by decide +kernel
theorem dX7_draftsOffer_29 : decode cX7_draftsOffer 29 = .ok (.iconst 0, 1) := by decide +kernel
theorem dX7_draftsOffer_30 : decode cX7_draftsOffer 30 = .ok (.istore 4, 2) := by decide +kernel
theorem dX7_draftsOffer_32 : decode cX7_draftsOffer 32 = .ok (.iload 4, 2) := by decide +kernel
theorem dX7_draftsOffer_34 : decode cX7_draftsOffer 34 = .ok (.aload_n 0, 1) := by decide +kernel
theorem dX7_draftsOffer_35 : decode cX7_draftsOffer 35 = .ok (.getfield 30, 3) := by decide +kernel
theorem dX7_draftsOffer_38 : decode cX7_draftsOffer 38 = .ok (.invokevirtual 175, 3) := by decide +kernel
theorem dX7_draftsOffer_41 : decode cX7_draftsOffer 41 = .ok (.if_icmp .ge 72, 3) := by decide +kernel
theorem dX7_draftsOffer_44 : decode cX7_draftsOffer 44 = .ok (.iload 4, 2) := by decide +kernel
theorem dX7_draftsOffer_46 : decode cX7_draftsOffer 46 = .ok (.ifCond .le 22, 3) := by decide +kernel
theorem dX7_draftsOffer_49 : decode cX7_draftsOffer 49 = .ok (.iload_n 3, 1) := by decide +kernel
theorem dX7_draftsOffer_50 : decode cX7_draftsOffer 50 = .ok (.iconst 2, 1) := by decide +kernel
theorem dX7_draftsOffer_51 : decode cX7_draftsOffer 51 = .ok (.if_icmp .eq 8, 3) := by decide +kernel
theorem dX7_draftsOffer_54 : decode cX7_draftsOffer 54 = .ok (.iload_n 3, 1) := by decide +kernel
theorem dX7_draftsOffer_55 : decode cX7_draftsOffer 55 = .ok (.iconst 3, 1) := by decide +kernel
theorem dX7_draftsOffer_56 : decode cX7_draftsOffer 56 = .ok (.if_icmp .ne 12, 3) := by decide +kernel
theorem dX7_draftsOffer_59 : decode cX7_draftsOffer 59 = .ok (.aload_n 0, 1) := by decide +kernel
theorem dX7_draftsOffer_60 : decode cX7_draftsOffer 60 = .ok (.getfield 21, 3) := by decide +kernel
theorem dX7_draftsOffer_63 : decode cX7_draftsOffer 63 = .ok (.bipush 95, 2) := by decide +kernel
theorem dX7_draftsOffer_65 : decode cX7_draftsOffer 65 = .ok (.invokevirtual 102, 3) := by decide +kernel
theorem dX7_draftsOffer_68 : decode cX7_draftsOffer 68 = .ok (.iload_n 3, 1) := by decide +kernel
theorem dX7_draftsOffer_69 : decode cX7_draftsOffer 69 = .ok (.iconst 1, 1) := by decide +kernel
theorem dX7_draftsOffer_70 : decode cX7_draftsOffer 70 = .ok (.if_icmp .eq 12, 3) := by decide +kernel
theorem dX7_draftsOffer_73 : decode cX7_draftsOffer 73 = .ok (.iload_n 3, 1) := by decide +kernel
theorem dX7_draftsOffer_74 : decode cX7_draftsOffer 74 = .ok (.ifCond .ne 12, 3) := by decide +kernel
theorem dX7_draftsOffer_77 : decode cX7_draftsOffer 77 = .ok (.iload 4, 2) := by decide +kernel
theorem dX7_draftsOffer_79 : decode cX7_draftsOffer 79 = .ok (.ifCond .le 7, 3) := by decide +kernel
theorem dX7_draftsOffer_82 : decode cX7_draftsOffer 82 = .ok (.iconst 1, 1) := by decide +kernel
theorem dX7_draftsOffer_83 : decode cX7_draftsOffer 83 = .ok (.goto 4, 3) := by decide +kernel
theorem dX7_draftsOffer_86 : decode cX7_draftsOffer 86 = .ok (.iconst 0, 1) := by decide +kernel
theorem dX7_draftsOffer_87 : decode cX7_draftsOffer 87 = .ok (.istore 5, 2) := by decide +kernel
theorem dX7_draftsOffer_89 : decode cX7_draftsOffer 89 = .ok (.aload_n 0, 1) := by decide +kernel
theorem dX7_draftsOffer_90 : decode cX7_draftsOffer 90 = .ok (.iload 4, 2) := by decide +kernel
theorem dX7_draftsOffer_92 : decode cX7_draftsOffer 92 = .ok (.iload 5, 2) := by decide +kernel
theorem dX7_draftsOffer_94 : decode cX7_draftsOffer 94 = .ok (.iload_n 3, 1) := by decide +kernel
theorem dX7_draftsOffer_95 : decode cX7_draftsOffer 95 = .ok (.iconst 3, 1) := by decide +kernel
theorem dX7_draftsOffer_96 : decode cX7_draftsOffer 96 = .ok (.if_icmp .ne 7, 3) := by decide +kernel
theorem dX7_draftsOffer_99 : decode cX7_draftsOffer 99 = .ok (.iconst 1, 1) := by decide +kernel
theorem dX7_draftsOffer_100 : decode cX7_draftsOffer 100 = .ok (.goto 4, 3) := by decide +kernel
theorem dX7_draftsOffer_103 : decode cX7_draftsOffer 103 = .ok (.iconst 0, 1) := by decide +kernel
theorem dX7_draftsOffer_104 : decode cX7_draftsOffer 104 = .ok (.invokevirtual 311, 3) := by decide +kernel
theorem dX7_draftsOffer_107 : decode cX7_draftsOffer 107 = .ok (.iinc 4 1, 3) := by decide +kernel
theorem dX7_draftsOffer_110 : decode cX7_draftsOffer 110 = .ok (.goto (-78), 3) := by decide +kernel
theorem dX7_draftsOffer_113 : decode cX7_draftsOffer 113 = .ok (.aload_n 0, 1) := by decide +kernel
theorem dX7_draftsOffer_114 : decode cX7_draftsOffer 114 = .ok (.getfield 21, 3) := by decide +kernel
theorem dX7_draftsOffer_117 : decode cX7_draftsOffer 117 = .ok (.invokevirtual 112, 3) := by decide +kernel
theorem dX7_draftsOffer_120 : decode cX7_draftsOffer 120 = .ok (.ifCond .eq 18, 3) := by decide +kernel
theorem dX7_draftsOffer_123 : decode cX7_draftsOffer 123 = .ok (.aload_n 0, 1) := by decide +kernel
theorem dX7_draftsOffer_124 : decode cX7_draftsOffer 124 = .ok (.getfield 21, 3) := by decide +kernel
theorem dX7_draftsOffer_127 : decode cX7_draftsOffer 127 = .ok (.aload_n 2, 1) := by decide +kernel
theorem dX7_draftsOffer_128 : decode cX7_draftsOffer 128 = .ok (.invokevirtual 203, 3) := by decide +kernel
theorem dX7_draftsOffer_131 : decode cX7_draftsOffer 131 = .ok (.ifCond .ne 7, 3) := by decide +kernel
theorem dX7_draftsOffer_134 : decode cX7_draftsOffer 134 = .ok (.iconst 1, 1) := by decide +kernel
theorem dX7_draftsOffer_135 : decode cX7_draftsOffer 135 = .ok (.goto 4, 3) := by decide +kernel
theorem dX7_draftsOffer_138 : decode cX7_draftsOffer 138 = .ok (.iconst 0, 1) := by decide +kernel
theorem dX7_draftsOffer_139 : decode cX7_draftsOffer 139 = .ok (.ireturn, 1) := by decide +kernel
theorem dX7_writePart_0 : decode cX7_writePart 0 = .ok (.aload_n 0, 1) := by decide +kernel
theorem dX7_writePart_1 : decode cX7_writePart 1 = .ok (.getfield 37, 3) := by decide +kernel
theorem dX7_writePart_4 : decode cX7_writePart 4 = .ok (.aload_n 0, 1) := by decide +kernel
theorem dX7_writePart_5 : decode cX7_writePart 5 = .ok (.getfield 37, 3) := by decide +kernel
theorem dX7_writePart_8 : decode cX7_writePart 8 = .ok (.aload_n 0, 1) := by decide +kernel
theorem dX7_writePart_9 : decode cX7_writePart 9 = .ok (.getfield 37, 3) := by decide +kernel
theorem dX7_writePart_12 : decode cX7_writePart 12 = .ok (.aload_n 0, 1) := by decide +kernel
theorem dX7_writePart_13 : decode cX7_writePart 13 = .ok (.getfield 30, 3) := by decide +kernel
theorem dX7_writePart_16 : decode cX7_writePart 16 = .ok (.iload_n 1, 1) := by decide +kernel
theorem dX7_writePart_17 : decode cX7_writePart 17 = .ok (.invokevirtual 217, 3) := by decide +kernel
theorem dX7_writePart_20 : decode cX7_writePart 20 = .ok (.invokevirtual 221, 3) := by decide +kernel
theorem dX7_writePart_23 : decode cX7_writePart 23 = .ok (.invokevirtual 274, 3) := by decide +kernel
theorem dX7_writePart_26 : decode cX7_writePart 26 = .ok (.invokevirtual 249, 3) := by decide +kernel
theorem dX7_writePart_29 : decode cX7_writePart 29 = .ok (.istore 4, 2) := by decide +kernel
theorem dX7_writePart_31 : decode cX7_writePart 31 = .ok (.iload 4, 2) := by decide +kernel
theorem dX7_writePart_33 : decode cX7_writePart 33 = .ok (.bipush (-2), 2) := by decide +kernel
theorem dX7_writePart_35 : decode cX7_writePart 35 = .ok (.if_icmp .ne 14, 3) := by decide +kernel
theorem dX7_writePart_38 : decode cX7_writePart 38 = .ok (.aload_n 0, 1) := by decide +kernel
theorem dX7_writePart_39 : decode cX7_writePart 39 = .ok (.getfield 30, 3) := by decide +kernel
theorem dX7_writePart_42 : decode cX7_writePart 42 = .ok (.iload_n 1, 1) := by decide +kernel
theorem dX7_writePart_43 : decode cX7_writePart 43 = .ok (.invokevirtual 315, 3) := by decide +kernel
theorem dX7_writePart_46 : decode cX7_writePart 46 = .ok (.goto 12, 3) := by decide +kernel
theorem dX7_writePart_49 : decode cX7_writePart 49 = .ok (.aload_n 0, 1) := by decide +kernel
theorem dX7_writePart_50 : decode cX7_writePart 50 = .ok (.getfield 37, 3) := by decide +kernel
theorem dX7_writePart_53 : decode cX7_writePart 53 = .ok (.iload 4, 2) := by decide +kernel
theorem dX7_writePart_55 : decode cX7_writePart 55 = .ok (.invokevirtual 318, 3) := by decide +kernel
theorem dX7_writePart_58 : decode cX7_writePart 58 = .ok (.istore 5, 2) := by decide +kernel
theorem dX7_writePart_60 : decode cX7_writePart 60 = .ok (.iconst 0, 1) := by decide +kernel
theorem dX7_writePart_61 : decode cX7_writePart 61 = .ok (.istore 6, 2) := by decide +kernel
theorem dX7_writePart_63 : decode cX7_writePart 63 = .ok (.iload 6, 2) := by decide +kernel
theorem dX7_writePart_65 : decode cX7_writePart 65 = .ok (.iload 5, 2) := by decide +kernel
theorem dX7_writePart_67 : decode cX7_writePart 67 = .ok (.if_icmp .ge 72, 3) := by decide +kernel
theorem dX7_writePart_70 : decode cX7_writePart 70 = .ok (.iload 4, 2) := by decide +kernel
theorem dX7_writePart_72 : decode cX7_writePart 72 = .ok (.bipush (-2), 2) := by decide +kernel
theorem dX7_writePart_74 : decode cX7_writePart 74 = .ok (.if_icmp .ne 16, 3) := by decide +kernel
theorem dX7_writePart_77 : decode cX7_writePart 77 = .ok (.aload_n 0, 1) := by decide +kernel
theorem dX7_writePart_78 : decode cX7_writePart 78 = .ok (.getfield 30, 3) := by decide +kernel
theorem dX7_writePart_81 : decode cX7_writePart 81 = .ok (.iload_n 1, 1) := by decide +kernel
theorem dX7_writePart_82 : decode cX7_writePart 82 = .ok (.iload 6, 2) := by decide +kernel
theorem dX7_writePart_84 : decode cX7_writePart 84 = .ok (.invokevirtual 319, 3) := by decide +kernel
theorem dX7_writePart_87 : decode cX7_writePart 87 = .ok (.goto 14, 3) := by decide +kernel
theorem dX7_writePart_90 : decode cX7_writePart 90 = .ok (.aload_n 0, 1) := by decide +kernel
theorem dX7_writePart_91 : decode cX7_writePart 91 = .ok (.getfield 37, 3) := by decide +kernel
theorem dX7_writePart_94 : decode cX7_writePart 94 = .ok (.iload 4, 2) := by decide +kernel
theorem dX7_writePart_96 : decode cX7_writePart 96 = .ok (.iload 6, 2) := by decide +kernel
theorem dX7_writePart_98 : decode cX7_writePart 98 = .ok (.invokevirtual 321, 3) := by decide +kernel
theorem dX7_writePart_101 : decode cX7_writePart 101 = .ok (.istore 7, 2) := by decide +kernel
theorem dX7_writePart_103 : decode cX7_writePart 103 = .ok (.aload_n 0, 1) := by decide +kernel
theorem dX7_writePart_104 : decode cX7_writePart 104 = .ok (.getfield 21, 3) := by decide +kernel
theorem dX7_writePart_107 : decode cX7_writePart 107 = .ok (.iload_n 3, 1) := by decide +kernel
theorem dX7_writePart_108 : decode cX7_writePart 108 = .ok (.ifCond .ne 12, 3) := by decide +kernel
theorem dX7_writePart_111 : decode cX7_writePart 111 = .ok (.iload_n 2, 1) := by decide +kernel
theorem dX7_writePart_112 : decode cX7_writePart 112 = .ok (.ifCond .eq 16, 3) := by decide +kernel
theorem dX7_writePart_115 : decode cX7_writePart 115 = .ok (.iload 6, 2) := by decide +kernel
theorem dX7_writePart_117 : decode cX7_writePart 117 = .ok (.ifCond .ne 11, 3) := by decide +kernel
theorem dX7_writePart_120 : decode cX7_writePart 120 = .ok (.iload 7, 2) := by decide +kernel
theorem dX7_writePart_122 : decode cX7_writePart 122 = .ok (.invokestatic 324, 3) := by decide +kernel
theorem dX7_writePart_125 : decode cX7_writePart 125 = .ok (.goto 5, 3) := by decide +kernel
theorem dX7_writePart_128 : decode cX7_writePart 128 = .ok (.iload 7, 2) := by decide +kernel
theorem dX7_writePart_130 : decode cX7_writePart 130 = .ok (.invokevirtual 102, 3) := by decide +kernel
theorem dX7_writePart_133 : decode cX7_writePart 133 = .ok (.iinc 6 1, 3) := by decide +kernel
theorem dX7_writePart_136 : decode cX7_writePart 136 = .ok (.goto (-73), 3) := by decide +kernel
theorem dX7_writePart_139 : decode cX7_writePart 139 = .ok (.return_, 1) := by decide +kernel
theorem dX7_staysSafe_0 : decode cX7_staysSafe 0 = .ok (.aload_n 0, 1) := by decide +kernel
theorem dX7_staysSafe_1 : decode cX7_staysSafe 1 = .ok (.getfield 51, 3) := by decide +kernel
theorem dX7_staysSafe_4 : decode cX7_staysSafe 4 = .ok (.iload_n 1, 1) := by decide +kernel
theorem dX7_staysSafe_5 : decode cX7_staysSafe 5 = .ok (.invokevirtual 161, 3) := by decide +kernel
theorem dX7_staysSafe_8 : decode cX7_staysSafe 8 = .ok (.istore_n 2, 1) := by decide +kernel
theorem dX7_staysSafe_9 : decode cX7_staysSafe 9 = .ok (.aload_n 0, 1) := by decide +kernel
theorem dX7_staysSafe_10 : decode cX7_staysSafe 10 = .ok (.iload_n 1, 1) := by decide +kernel
theorem dX7_staysSafe_11 : decode cX7_staysSafe 11 = .ok (.iconst 1, 1) := by decide +kernel
theorem dX7_staysSafe_12 : decode cX7_staysSafe 12 = .ok (.invokevirtual 199, 3) := by decide +kernel
theorem dX7_staysSafe_15 : decode cX7_staysSafe 15 = .ok (.astore_n 3, 1) := by decide +kernel
theorem dX7_staysSafe_16 : decode cX7_staysSafe 16 = .ok (.aload_n 0, 1) := by decide +kernel
theorem dX7_staysSafe_17 : decode cX7_staysSafe 17 = .ok (.iload_n 1, 1) := by decide +kernel
theorem dX7_staysSafe_18 : decode cX7_staysSafe 18 = .ok (.iload_n 2, 1) := by decide +kernel
theorem dX7_staysSafe_19 : decode cX7_staysSafe 19 = .ok (.aload_n 3, 1) := by decide +kernel
theorem dX7_staysSafe_20 : decode cX7_staysSafe 20 = .ok (.iconst 1, 1) := by decide +kernel
theorem dX7_staysSafe_21 : decode cX7_staysSafe 21 = .ok (.invokevirtual 140, 3) := by decide +kernel
theorem dX7_staysSafe_24 : decode cX7_staysSafe 24 = .ok (.ifCond .ne 13, 3) := by decide +kernel
theorem dX7_staysSafe_27 : decode cX7_staysSafe 27 = .ok (.aload_n 0, 1) := by decide +kernel
theorem dX7_staysSafe_28 : decode cX7_staysSafe 28 = .ok (.iload_n 2, 1) := by decide +kernel
theorem dX7_staysSafe_29 : decode cX7_staysSafe 29 = .ok (.aload_n 3, 1) := by decide +kernel
theorem dX7_staysSafe_30 : decode cX7_staysSafe 30 = .ok (.iconst 1, 1) := by decide +kernel
theorem dX7_staysSafe_31 : decode cX7_staysSafe 31 = .ok (.invokevirtual 144, 3) := by decide +kernel
theorem dX7_staysSafe_34 : decode cX7_staysSafe 34 = .ok (.ifCond .eq 5, 3) := by decide +kernel
theorem dX7_staysSafe_37 : decode cX7_staysSafe 37 = .ok (.iconst 0, 1) := by decide +kernel
theorem dX7_staysSafe_38 : decode cX7_staysSafe 38 = .ok (.ireturn, 1) := by decide +kernel
theorem dX7_staysSafe_39 : decode cX7_staysSafe 39 = .ok (.iconst 0, 1) := by decide +kernel
theorem dX7_staysSafe_40 : decode cX7_staysSafe 40 = .ok (.istore 4, 2) := by decide +kernel
theorem dX7_staysSafe_42 : decode cX7_staysSafe 42 = .ok (.iload 4, 2) := by decide +kernel
theorem dX7_staysSafe_44 : decode cX7_staysSafe 44 = .ok (.aload_n 0, 1) := by decide +kernel
theorem dX7_staysSafe_45 : decode cX7_staysSafe 45 = .ok (.getfield 58, 3) := by decide +kernel
theorem dX7_staysSafe_48 : decode cX7_staysSafe 48 = .ok (.invokevirtual 207, 3) := by decide +kernel
theorem dX7_staysSafe_51 : decode cX7_staysSafe 51 = .ok (.if_icmp .ge 33, 3) := by decide +kernel
theorem dX7_staysSafe_54 : decode cX7_staysSafe 54 = .ok (.aload_n 0, 1) := by decide +kernel
theorem dX7_staysSafe_55 : decode cX7_staysSafe 55 = .ok (.getfield 58, 3) := by decide +kernel
theorem dX7_staysSafe_58 : decode cX7_staysSafe 58 = .ok (.iload 4, 2) := by decide +kernel
theorem dX7_staysSafe_60 : decode cX7_staysSafe 60 = .ok (.invokevirtual 195, 3) := by decide +kernel
theorem dX7_staysSafe_63 : decode cX7_staysSafe 63 = .ok (.iload_n 1, 1) := by decide +kernel
theorem dX7_staysSafe_64 : decode cX7_staysSafe 64 = .ok (.if_icmp .ne 14, 3) := by decide +kernel
theorem dX7_staysSafe_67 : decode cX7_staysSafe 67 = .ok (.aload_n 0, 1) := by decide +kernel
theorem dX7_staysSafe_68 : decode cX7_staysSafe 68 = .ok (.iload 4, 2) := by decide +kernel
theorem dX7_staysSafe_70 : decode cX7_staysSafe 70 = .ok (.invokevirtual 327, 3) := by decide +kernel
theorem dX7_staysSafe_73 : decode cX7_staysSafe 73 = .ok (.ifCond .eq 5, 3) := by decide +kernel
theorem dX7_staysSafe_76 : decode cX7_staysSafe 76 = .ok (.iconst 0, 1) := by decide +kernel
theorem dX7_staysSafe_77 : decode cX7_staysSafe 77 = .ok (.ireturn, 1) := by decide +kernel
theorem dX7_staysSafe_78 : decode cX7_staysSafe 78 = .ok (.iinc 4 1, 3) := by decide +kernel
theorem dX7_staysSafe_81 : decode cX7_staysSafe 81 = .ok (.goto (-39), 3) := by decide +kernel
theorem dX7_staysSafe_84 : decode cX7_staysSafe 84 = .ok (.iconst 1, 1) := by decide +kernel
theorem dX7_staysSafe_85 : decode cX7_staysSafe 85 = .ok (.ireturn, 1) := by decide +kernel
theorem dX7_firstDoubled_0 : decode cX7_firstDoubled 0 = .ok (.iconst 1, 1) := by decide +kernel
theorem dX7_firstDoubled_1 : decode cX7_firstDoubled 1 = .ok (.istore_n 1, 1) := by decide +kernel
theorem dX7_firstDoubled_2 : decode cX7_firstDoubled 2 = .ok (.iload_n 1, 1) := by decide +kernel
theorem dX7_firstDoubled_3 : decode cX7_firstDoubled 3 = .ok (.aload_n 0, 1) := by decide +kernel
theorem dX7_firstDoubled_4 : decode cX7_firstDoubled 4 = .ok (.getfield 51, 3) := by decide +kernel
theorem dX7_firstDoubled_7 : decode cX7_firstDoubled 7 = .ok (.invokevirtual 198, 3) := by decide +kernel
theorem dX7_firstDoubled_10 : decode cX7_firstDoubled 10 = .ok (.if_icmp .ge 63, 3) := by decide +kernel
theorem dX7_firstDoubled_13 : decode cX7_firstDoubled 13 = .ok (.aload_n 0, 1) := by decide +kernel
theorem dX7_firstDoubled_14 : decode cX7_firstDoubled 14 = .ok (.iload_n 1, 1) := by decide +kernel
theorem dX7_firstDoubled_15 : decode cX7_firstDoubled 15 = .ok (.iconst 1, 1) := by decide +kernel
theorem dX7_firstDoubled_16 : decode cX7_firstDoubled 16 = .ok (.invokevirtual 199, 3) := by decide +kernel
theorem dX7_firstDoubled_19 : decode cX7_firstDoubled 19 = .ok (.astore_n 2, 1) := by decide +kernel
theorem dX7_firstDoubled_20 : decode cX7_firstDoubled 20 = .ok (.iconst 0, 1) := by decide +kernel
theorem dX7_firstDoubled_21 : decode cX7_firstDoubled 21 = .ok (.istore_n 3, 1) := by decide +kernel
theorem dX7_firstDoubled_22 : decode cX7_firstDoubled 22 = .ok (.iload_n 3, 1) := by decide +kernel
theorem dX7_firstDoubled_23 : decode cX7_firstDoubled 23 = .ok (.iload_n 1, 1) := by decide +kernel
theorem dX7_firstDoubled_24 : decode cX7_firstDoubled 24 = .ok (.if_icmp .ge 43, 3) := by decide +kernel
theorem dX7_firstDoubled_27 : decode cX7_firstDoubled 27 = .ok (.aload_n 0, 1) := by decide +kernel
theorem dX7_firstDoubled_28 : decode cX7_firstDoubled 28 = .ok (.getfield 51, 3) := by decide +kernel
theorem dX7_firstDoubled_31 : decode cX7_firstDoubled 31 = .ok (.iload_n 3, 1) := by decide +kernel
theorem dX7_firstDoubled_32 : decode cX7_firstDoubled 32 = .ok (.invokevirtual 161, 3) := by decide +kernel
theorem dX7_firstDoubled_35 : decode cX7_firstDoubled 35 = .ok (.aload_n 0, 1) := by decide +kernel
theorem dX7_firstDoubled_36 : decode cX7_firstDoubled 36 = .ok (.getfield 51, 3) := by decide +kernel
theorem dX7_firstDoubled_39 : decode cX7_firstDoubled 39 = .ok (.iload_n 1, 1) := by decide +kernel
theorem dX7_firstDoubled_40 : decode cX7_firstDoubled 40 = .ok (.invokevirtual 161, 3) := by decide +kernel
theorem dX7_firstDoubled_43 : decode cX7_firstDoubled 43 = .ok (.if_icmp .ne 18, 3) := by decide +kernel
theorem dX7_firstDoubled_46 : decode cX7_firstDoubled 46 = .ok (.aload_n 0, 1) := by decide +kernel
theorem dX7_firstDoubled_47 : decode cX7_firstDoubled 47 = .ok (.iload_n 3, 1) := by decide +kernel
theorem dX7_firstDoubled_48 : decode cX7_firstDoubled 48 = .ok (.iconst 1, 1) := by decide +kernel
theorem dX7_firstDoubled_49 : decode cX7_firstDoubled 49 = .ok (.invokevirtual 199, 3) := by decide +kernel
theorem dX7_firstDoubled_52 : decode cX7_firstDoubled 52 = .ok (.aload_n 2, 1) := by decide +kernel
theorem dX7_firstDoubled_53 : decode cX7_firstDoubled 53 = .ok (.invokevirtual 203, 3) := by decide +kernel
theorem dX7_firstDoubled_56 : decode cX7_firstDoubled 56 = .ok (.ifCond .eq 5, 3) := by decide +kernel
theorem dX7_firstDoubled_59 : decode cX7_firstDoubled 59 = .ok (.iload_n 1, 1) := by decide +kernel
theorem dX7_firstDoubled_60 : decode cX7_firstDoubled 60 = .ok (.ireturn, 1) := by decide +kernel
theorem dX7_firstDoubled_61 : decode cX7_firstDoubled 61 = .ok (.iinc 3 1, 3) := by decide +kernel
theorem dX7_firstDoubled_64 : decode cX7_firstDoubled 64 = .ok (.goto (-42), 3) := by decide +kernel
theorem dX7_firstDoubled_67 : decode cX7_firstDoubled 67 = .ok (.iinc 1 1, 3) := by decide +kernel
theorem dX7_firstDoubled_70 : decode cX7_firstDoubled 70 = .ok (.goto (-68), 3) := by decide +kernel
theorem dX7_firstDoubled_73 : decode cX7_firstDoubled 73 = .ok (.bipush (-2), 2) := by decide +kernel
theorem dX7_firstDoubled_75 : decode cX7_firstDoubled 75 = .ok (.ireturn, 1) := by decide +kernel
theorem dX7_firstStrayed_0 : decode cX7_firstStrayed 0 = .ok (.iconst 0, 1) := by decide +kernel
theorem dX7_firstStrayed_1 : decode cX7_firstStrayed 1 = .ok (.istore_n 1, 1) := by decide +kernel
theorem dX7_firstStrayed_2 : decode cX7_firstStrayed 2 = .ok (.iload_n 1, 1) := by decide +kernel
theorem dX7_firstStrayed_3 : decode cX7_firstStrayed 3 = .ok (.aload_n 0, 1) := by decide +kernel
theorem dX7_firstStrayed_4 : decode cX7_firstStrayed 4 = .ok (.getfield 58, 3) := by decide +kernel
theorem dX7_firstStrayed_7 : decode cX7_firstStrayed 7 = .ok (.invokevirtual 207, 3) := by decide +kernel
theorem dX7_firstStrayed_10 : decode cX7_firstStrayed 10 = .ok (.if_icmp .ge 19, 3) := by decide +kernel
theorem dX7_firstStrayed_13 : decode cX7_firstStrayed 13 = .ok (.aload_n 0, 1) := by decide +kernel
theorem dX7_firstStrayed_14 : decode cX7_firstStrayed 14 = .ok (.iload_n 1, 1) := by decide +kernel
theorem dX7_firstStrayed_15 : decode cX7_firstStrayed 15 = .ok (.invokevirtual 327, 3) := by decide +kernel
theorem dX7_firstStrayed_18 : decode cX7_firstStrayed 18 = .ok (.ifCond .eq 5, 3) := by decide +kernel
theorem dX7_firstStrayed_21 : decode cX7_firstStrayed 21 = .ok (.iload_n 1, 1) := by decide +kernel
theorem dX7_firstStrayed_22 : decode cX7_firstStrayed 22 = .ok (.ireturn, 1) := by decide +kernel
theorem dX7_firstStrayed_23 : decode cX7_firstStrayed 23 = .ok (.iinc 1 1, 3) := by decide +kernel
theorem dX7_firstStrayed_26 : decode cX7_firstStrayed 26 = .ok (.goto (-24), 3) := by decide +kernel
theorem dX7_firstStrayed_29 : decode cX7_firstStrayed 29 = .ok (.bipush (-2), 2) := by decide +kernel
theorem dX7_firstStrayed_31 : decode cX7_firstStrayed 31 = .ok (.ireturn, 1) := by decide +kernel
theorem dX7_isStrayed_0 : decode cX7_isStrayed 0 = .ok (.aload_n 0, 1) := by decide +kernel
theorem dX7_isStrayed_1 : decode cX7_isStrayed 1 = .ok (.getfield 58, 3) := by decide +kernel
theorem dX7_isStrayed_4 : decode cX7_isStrayed 4 = .ok (.iload_n 1, 1) := by decide +kernel
theorem dX7_isStrayed_5 : decode cX7_isStrayed 5 = .ok (.invokevirtual 195, 3) := by decide +kernel
theorem dX7_isStrayed_8 : decode cX7_isStrayed 8 = .ok (.istore_n 2, 1) := by decide +kernel
theorem dX7_isStrayed_9 : decode cX7_isStrayed 9 = .ok (.aload_n 0, 1) := by decide +kernel
theorem dX7_isStrayed_10 : decode cX7_isStrayed 10 = .ok (.aload_n 0, 1) := by decide +kernel
theorem dX7_isStrayed_11 : decode cX7_isStrayed 11 = .ok (.getfield 58, 3) := by decide +kernel
theorem dX7_isStrayed_14 : decode cX7_isStrayed 14 = .ok (.iload_n 1, 1) := by decide +kernel
theorem dX7_isStrayed_15 : decode cX7_isStrayed 15 = .ok (.invokevirtual 194, 3) := by decide +kernel
theorem dX7_isStrayed_18 : decode cX7_isStrayed 18 = .ok (.aload_n 0, 1) := by decide +kernel
theorem dX7_isStrayed_19 : decode cX7_isStrayed 19 = .ok (.iload_n 2, 1) := by decide +kernel
theorem dX7_isStrayed_20 : decode cX7_isStrayed 20 = .ok (.iconst 1, 1) := by decide +kernel
theorem dX7_isStrayed_21 : decode cX7_isStrayed 21 = .ok (.invokevirtual 199, 3) := by decide +kernel
theorem dX7_isStrayed_24 : decode cX7_isStrayed 24 = .ok (.iconst 1, 1) := by decide +kernel
theorem dX7_isStrayed_25 : decode cX7_isStrayed 25 = .ok (.invokevirtual 152, 3) := by decide +kernel
theorem dX7_isStrayed_28 : decode cX7_isStrayed 28 = .ok (.iload_n 2, 1) := by decide +kernel
theorem dX7_isStrayed_29 : decode cX7_isStrayed 29 = .ok (.if_icmp .eq 7, 3) := by decide +kernel
theorem dX7_isStrayed_32 : decode cX7_isStrayed 32 = .ok (.iconst 1, 1) := by decide +kernel
theorem dX7_isStrayed_33 : decode cX7_isStrayed 33 = .ok (.goto 4, 3) := by decide +kernel
theorem dX7_isStrayed_36 : decode cX7_isStrayed 36 = .ok (.iconst 0, 1) := by decide +kernel
theorem dX7_isStrayed_37 : decode cX7_isStrayed 37 = .ok (.ireturn, 1) := by decide +kernel
theorem dX7_isSmall_0 : decode cX7_isSmall 0 = .ok (.iload_n 0, 1) := by decide +kernel
theorem dX7_isSmall_1 : decode cX7_isSmall 1 = .ok (.bipush 97, 2) := by decide +kernel
theorem dX7_isSmall_3 : decode cX7_isSmall 3 = .ok (.if_icmp .lt 13, 3) := by decide +kernel
theorem dX7_isSmall_6 : decode cX7_isSmall 6 = .ok (.iload_n 0, 1) := by decide +kernel
theorem dX7_isSmall_7 : decode cX7_isSmall 7 = .ok (.bipush 122, 2) := by decide +kernel
theorem dX7_isSmall_9 : decode cX7_isSmall 9 = .ok (.if_icmp .gt 7, 3) := by decide +kernel
theorem dX7_isSmall_12 : decode cX7_isSmall 12 = .ok (.iconst 1, 1) := by decide +kernel
theorem dX7_isSmall_13 : decode cX7_isSmall 13 = .ok (.goto 4, 3) := by decide +kernel
theorem dX7_isSmall_16 : decode cX7_isSmall 16 = .ok (.iconst 0, 1) := by decide +kernel
theorem dX7_isSmall_17 : decode cX7_isSmall 17 = .ok (.ireturn, 1) := by decide +kernel
theorem dX7_isGreat_0 : decode cX7_isGreat 0 = .ok (.iload_n 0, 1) := by decide +kernel
theorem dX7_isGreat_1 : decode cX7_isGreat 1 = .ok (.bipush 65, 2) := by decide +kernel
theorem dX7_isGreat_3 : decode cX7_isGreat 3 = .ok (.if_icmp .lt 13, 3) := by decide +kernel
theorem dX7_isGreat_6 : decode cX7_isGreat 6 = .ok (.iload_n 0, 1) := by decide +kernel
theorem dX7_isGreat_7 : decode cX7_isGreat 7 = .ok (.bipush 90, 2) := by decide +kernel
theorem dX7_isGreat_9 : decode cX7_isGreat 9 = .ok (.if_icmp .gt 7, 3) := by decide +kernel
theorem dX7_isGreat_12 : decode cX7_isGreat 12 = .ok (.iconst 1, 1) := by decide +kernel
theorem dX7_isGreat_13 : decode cX7_isGreat 13 = .ok (.goto 4, 3) := by decide +kernel
theorem dX7_isGreat_16 : decode cX7_isGreat 16 = .ok (.iconst 0, 1) := by decide +kernel
theorem dX7_isGreat_17 : decode cX7_isGreat 17 = .ok (.ireturn, 1) := by decide +kernel
theorem dX7_isDigit_0 : decode cX7_isDigit 0 = .ok (.iload_n 0, 1) := by decide +kernel
theorem dX7_isDigit_1 : decode cX7_isDigit 1 = .ok (.bipush 48, 2) := by decide +kernel
theorem dX7_isDigit_3 : decode cX7_isDigit 3 = .ok (.if_icmp .lt 13, 3) := by decide +kernel
theorem dX7_isDigit_6 : decode cX7_isDigit 6 = .ok (.iload_n 0, 1) := by decide +kernel
theorem dX7_isDigit_7 : decode cX7_isDigit 7 = .ok (.bipush 57, 2) := by decide +kernel
theorem dX7_isDigit_9 : decode cX7_isDigit 9 = .ok (.if_icmp .gt 7, 3) := by decide +kernel
theorem dX7_isDigit_12 : decode cX7_isDigit 12 = .ok (.iconst 1, 1) := by decide +kernel
theorem dX7_isDigit_13 : decode cX7_isDigit 13 = .ok (.goto 4, 3) := by decide +kernel
theorem dX7_isDigit_16 : decode cX7_isDigit 16 = .ok (.iconst 0, 1) := by decide +kernel
theorem dX7_isDigit_17 : decode cX7_isDigit 17 = .ok (.ireturn, 1) := by decide +kernel
theorem dX7_isLetter_0 : decode cX7_isLetter 0 = .ok (.iload_n 0, 1) := by decide +kernel
theorem dX7_isLetter_1 : decode cX7_isLetter 1 = .ok (.invokestatic 330, 3) := by decide +kernel
theorem dX7_isLetter_4 : decode cX7_isLetter 4 = .ok (.ifCond .ne 10, 3) := by decide +kernel
theorem dX7_isLetter_7 : decode cX7_isLetter 7 = .ok (.iload_n 0, 1) := by decide +kernel
theorem dX7_isLetter_8 : decode cX7_isLetter 8 = .ok (.invokestatic 333, 3) := by decide +kernel
theorem dX7_isLetter_11 : decode cX7_isLetter 11 = .ok (.ifCond .eq 7, 3) := by decide +kernel
theorem dX7_isLetter_14 : decode cX7_isLetter 14 = .ok (.iconst 1, 1) := by decide +kernel
theorem dX7_isLetter_15 : decode cX7_isLetter 15 = .ok (.goto 4, 3) := by decide +kernel
theorem dX7_isLetter_18 : decode cX7_isLetter 18 = .ok (.iconst 0, 1) := by decide +kernel
theorem dX7_isLetter_19 : decode cX7_isLetter 19 = .ok (.ireturn, 1) := by decide +kernel
theorem dX7_smallOf_0 : decode cX7_smallOf 0 = .ok (.iload_n 0, 1) := by decide +kernel
theorem dX7_smallOf_1 : decode cX7_smallOf 1 = .ok (.invokestatic 333, 3) := by decide +kernel
theorem dX7_smallOf_4 : decode cX7_smallOf 4 = .ok (.ifCond .eq 13, 3) := by decide +kernel
theorem dX7_smallOf_7 : decode cX7_smallOf 7 = .ok (.iload_n 0, 1) := by decide +kernel
theorem dX7_smallOf_8 : decode cX7_smallOf 8 = .ok (.bipush 65, 2) := by decide +kernel
theorem dX7_smallOf_10 : decode cX7_smallOf 10 = .ok (.isub, 1) := by decide +kernel
theorem dX7_smallOf_11 : decode cX7_smallOf 11 = .ok (.bipush 97, 2) := by decide +kernel
theorem dX7_smallOf_13 : decode cX7_smallOf 13 = .ok (.iadd, 1) := by decide +kernel
theorem dX7_smallOf_14 : decode cX7_smallOf 14 = .ok (.goto 4, 3) := by decide +kernel
theorem dX7_smallOf_17 : decode cX7_smallOf 17 = .ok (.iload_n 0, 1) := by decide +kernel
theorem dX7_smallOf_18 : decode cX7_smallOf 18 = .ok (.ireturn, 1) := by decide +kernel
theorem dX7_greatOf_0 : decode cX7_greatOf 0 = .ok (.iload_n 0, 1) := by decide +kernel
theorem dX7_greatOf_1 : decode cX7_greatOf 1 = .ok (.invokestatic 330, 3) := by decide +kernel
theorem dX7_greatOf_4 : decode cX7_greatOf 4 = .ok (.ifCond .eq 13, 3) := by decide +kernel
theorem dX7_greatOf_7 : decode cX7_greatOf 7 = .ok (.iload_n 0, 1) := by decide +kernel
theorem dX7_greatOf_8 : decode cX7_greatOf 8 = .ok (.bipush 97, 2) := by decide +kernel
theorem dX7_greatOf_10 : decode cX7_greatOf 10 = .ok (.isub, 1) := by decide +kernel
theorem dX7_greatOf_11 : decode cX7_greatOf 11 = .ok (.bipush 65, 2) := by decide +kernel
theorem dX7_greatOf_13 : decode cX7_greatOf 13 = .ok (.iadd, 1) := by decide +kernel
theorem dX7_greatOf_14 : decode cX7_greatOf 14 = .ok (.goto 4, 3) := by decide +kernel
theorem dX7_greatOf_17 : decode cX7_greatOf 17 = .ok (.iload_n 0, 1) := by decide +kernel
theorem dX7_greatOf_18 : decode cX7_greatOf 18 = .ok (.ireturn, 1) := by decide +kernel
