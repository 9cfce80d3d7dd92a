theorem dX8_thrown_0 : decode cX8_thrown 0 = .ok (.aload_n 0, 1) := by decide +kernel
theorem dX8_thrown_1 : decode cX8_thrown 1 = .ok (.getfield 1, 3) := by decide +kernel
theorem dX8_thrown_4 : decode cX8_thrown 4 = .ok (.ireturn, 1) := by decide +kernel
theorem dX8_refused_0 : decode cX8_refused 0 = .ok (.aload_n 0, 1) := by decide +kernel
theorem dX8_refused_1 : decode cX8_refused 1 = .ok (.iload_n 1, 1) := by decide +kernel
theorem dX8_refused_2 : decode cX8_refused 2 = .ok (.putfield 7, 3) := by decide +kernel
theorem dX8_refused_5 : decode cX8_refused 5 = .ok (.iconst (-1), 1) := by decide +kernel
theorem dX8_refused_6 : decode cX8_refused 6 = .ok (.ireturn, 1) := by decide +kernel
theorem dX8_denied_0 : decode cX8_denied 0 = .ok (.aload_n 0, 1) := by decide +kernel
theorem dX8_denied_1 : decode cX8_denied 1 = .ok (.iload_n 1, 1) := by decide +kernel
theorem dX8_denied_2 : decode cX8_denied 2 = .ok (.putfield 7, 3) := by decide +kernel
theorem dX8_denied_5 : decode cX8_denied 5 = .ok (.iconst 0, 1) := by decide +kernel
theorem dX8_denied_6 : decode cX8_denied 6 = .ok (.ireturn, 1) := by decide +kernel
theorem dX8_done_0 : decode cX8_done 0 = .ok (.aload_n 0, 1) := by decide +kernel
theorem dX8_done_1 : decode cX8_done 1 = .ok (.iconst 0, 1) := by decide +kernel
theorem dX8_done_2 : decode cX8_done 2 = .ok (.putfield 7, 3) := by decide +kernel
theorem dX8_done_5 : decode cX8_done 5 = .ok (.iload_n 1, 1) := by decide +kernel
theorem dX8_done_6 : decode cX8_done 6 = .ok (.ireturn, 1) := by decide +kernel
theorem dX8_granted_0 : decode cX8_granted 0 = .ok (.aload_n 0, 1) := by decide +kernel
theorem dX8_granted_1 : decode cX8_granted 1 = .ok (.iconst 0, 1) := by decide +kernel
theorem dX8_granted_2 : decode cX8_granted 2 = .ok (.putfield 7, 3) := by decide +kernel
theorem dX8_granted_5 : decode cX8_granted 5 = .ok (.iconst 1, 1) := by decide +kernel
theorem dX8_granted_6 : decode cX8_granted 6 = .ok (.ireturn, 1) := by decide +kernel
theorem dX8_in_0 : decode cX8_in 0 = .ok (.iload_n 0, 1) := by decide +kernel
theorem dX8_in_1 : decode cX8_in 1 = .ok (.iload_n 1, 1) := by decide +kernel
theorem dX8_in_2 : decode cX8_in 2 = .ok (.if_icmp .lt 12, 3) := by decide +kernel
theorem dX8_in_5 : decode cX8_in 5 = .ok (.iload_n 0, 1) := by decide +kernel
theorem dX8_in_6 : decode cX8_in 6 = .ok (.iload_n 2, 1) := by decide +kernel
theorem dX8_in_7 : decode cX8_in 7 = .ok (.if_icmp .gt 7, 3) := by decide +kernel
theorem dX8_in_10 : decode cX8_in 10 = .ok (.iconst 1, 1) := by decide +kernel
theorem dX8_in_11 : decode cX8_in 11 = .ok (.goto 4, 3) := by decide +kernel
theorem dX8_in_14 : decode cX8_in 14 = .ok (.iconst 0, 1) := by decide +kernel
theorem dX8_in_15 : decode cX8_in 15 = .ok (.ireturn, 1) := by decide +kernel
theorem dX8_feed_0 : decode cX8_feed 0 = .ok (.aload_n 0, 1) := by decide +kernel
theorem dX8_feed_1 : decode cX8_feed 1 = .ok (.iconst 0, 1) := by decide +kernel
theorem dX8_feed_2 : decode cX8_feed 2 = .ok (.putfield 1, 3) := by decide +kernel
theorem dX8_feed_5 : decode cX8_feed 5 = .ok (.aload_n 0, 1) := by decide +kernel
theorem dX8_feed_6 : decode cX8_feed 6 = .ok (.getfield 10, 3) := by decide +kernel
theorem dX8_feed_9 : decode cX8_feed 9 = .ok (.bipush 20, 2) := by decide +kernel
theorem dX8_feed_11 : decode cX8_feed 11 = .ok (.iadd, 1) := by decide +kernel
theorem dX8_feed_12 : decode cX8_feed 12 = .ok (.sipush 200, 3) := by decide +kernel
theorem dX8_feed_15 : decode cX8_feed 15 = .ok (.if_icmp .le 5, 3) := by decide +kernel
theorem dX8_feed_18 : decode cX8_feed 18 = .ok (.iconst (-1), 1) := by decide +kernel
theorem dX8_feed_19 : decode cX8_feed 19 = .ok (.ireturn, 1) := by decide +kernel
theorem dX8_feed_20 : decode cX8_feed 20 = .ok (.iconst 0, 1) := by decide +kernel
theorem dX8_feed_21 : decode cX8_feed 21 = .ok (.istore 6, 2) := by decide +kernel
theorem dX8_feed_23 : decode cX8_feed 23 = .ok (.iload 6, 2) := by decide +kernel
theorem dX8_feed_25 : decode cX8_feed 25 = .ok (.bipush 20, 2) := by decide +kernel
theorem dX8_feed_27 : decode cX8_feed 27 = .ok (.if_icmp .ge 90, 3) := by decide +kernel
theorem dX8_feed_30 : decode cX8_feed 30 = .ok (.iload 6, 2) := by decide +kernel
theorem dX8_feed_32 : decode cX8_feed 32 = .ok (.iconst 4, 1) := by decide +kernel
theorem dX8_feed_33 : decode cX8_feed 33 = .ok (.if_icmp .ge 7, 3) := by decide +kernel
theorem dX8_feed_36 : decode cX8_feed 36 = .ok (.iload_n 1, 1) := by decide +kernel
theorem dX8_feed_37 : decode cX8_feed 37 = .ok (.goto 39, 3) := by decide +kernel
theorem dX8_feed_40 : decode cX8_feed 40 = .ok (.iload 6, 2) := by decide +kernel
theorem dX8_feed_42 : decode cX8_feed 42 = .ok (.bipush 8, 2) := by decide +kernel
theorem dX8_feed_44 : decode cX8_feed 44 = .ok (.if_icmp .ge 7, 3) := by decide +kernel
theorem dX8_feed_47 : decode cX8_feed 47 = .ok (.iload_n 2, 1) := by decide +kernel
theorem dX8_feed_48 : decode cX8_feed 48 = .ok (.goto 28, 3) := by decide +kernel
theorem dX8_feed_51 : decode cX8_feed 51 = .ok (.iload 6, 2) := by decide +kernel
theorem dX8_feed_53 : decode cX8_feed 53 = .ok (.bipush 12, 2) := by decide +kernel
theorem dX8_feed_55 : decode cX8_feed 55 = .ok (.if_icmp .ge 7, 3) := by decide +kernel
theorem dX8_feed_58 : decode cX8_feed 58 = .ok (.iload_n 3, 1) := by decide +kernel
theorem dX8_feed_59 : decode cX8_feed 59 = .ok (.goto 17, 3) := by decide +kernel
theorem dX8_feed_62 : decode cX8_feed 62 = .ok (.iload 6, 2) := by decide +kernel
theorem dX8_feed_64 : decode cX8_feed 64 = .ok (.bipush 16, 2) := by decide +kernel
theorem dX8_feed_66 : decode cX8_feed 66 = .ok (.if_icmp .ge 8, 3) := by decide +kernel
theorem dX8_feed_69 : decode cX8_feed 69 = .ok (.iload 4, 2) := by decide +kernel
theorem dX8_feed_71 : decode cX8_feed 71 = .ok (.goto 5, 3) := by decide +kernel
theorem dX8_feed_74 : decode cX8_feed 74 = .ok (.iload 5, 2) := by decide +kernel
theorem dX8_feed_76 : decode cX8_feed 76 = .ok (.istore 7, 2) := by decide +kernel
theorem dX8_feed_78 : decode cX8_feed 78 = .ok (.aload_n 0, 1) := by decide +kernel
theorem dX8_feed_79 : decode cX8_feed 79 = .ok (.getfield 13, 3) := by decide +kernel
theorem dX8_feed_82 : decode cX8_feed 82 = .ok (.aload_n 0, 1) := by decide +kernel
theorem dX8_feed_83 : decode cX8_feed 83 = .ok (.getfield 10, 3) := by decide +kernel
theorem dX8_feed_86 : decode cX8_feed 86 = .ok (.iload 7, 2) := by decide +kernel
theorem dX8_feed_88 : decode cX8_feed 88 = .ok (.bipush 24, 2) := by decide +kernel
theorem dX8_feed_90 : decode cX8_feed 90 = .ok (.bipush 8, 2) := by decide +kernel
theorem dX8_feed_92 : decode cX8_feed 92 = .ok (.iload 6, 2) := by decide +kernel
theorem dX8_feed_94 : decode cX8_feed 94 = .ok (.iconst 4, 1) := by decide +kernel
theorem dX8_feed_95 : decode cX8_feed 95 = .ok (.irem, 1) := by decide +kernel
theorem dX8_feed_96 : decode cX8_feed 96 = .ok (.imul, 1) := by decide +kernel
theorem dX8_feed_97 : decode cX8_feed 97 = .ok (.isub, 1) := by decide +kernel
theorem dX8_feed_98 : decode cX8_feed 98 = .ok (.ishr, 1) := by decide +kernel
theorem dX8_feed_99 : decode cX8_feed 99 = .ok (.i2b, 1) := by decide +kernel
theorem dX8_feed_100 : decode cX8_feed 100 = .ok (.bastore, 1) := by decide +kernel
theorem dX8_feed_101 : decode cX8_feed 101 = .ok (.aload_n 0, 1) := by decide +kernel
theorem dX8_feed_102 : decode cX8_feed 102 = .ok (.dup, 1) := by decide +kernel
theorem dX8_feed_103 : decode cX8_feed 103 = .ok (.getfield 10, 3) := by decide +kernel
theorem dX8_feed_106 : decode cX8_feed 106 = .ok (.iconst 1, 1) := by decide +kernel
theorem dX8_feed_107 : decode cX8_feed 107 = .ok (.iadd, 1) := by decide +kernel
theorem dX8_feed_108 : decode cX8_feed 108 = .ok (.putfield 10, 3) := by decide +kernel
theorem dX8_feed_111 : decode cX8_feed 111 = .ok (.iinc 6 1, 3) := by decide +kernel
theorem dX8_feed_114 : decode cX8_feed 114 = .ok (.goto (-91), 3) := by decide +kernel
theorem dX8_feed_117 : decode cX8_feed 117 = .ok (.aload_n 0, 1) := by decide +kernel
theorem dX8_feed_118 : decode cX8_feed 118 = .ok (.getfield 10, 3) := by decide +kernel
theorem dX8_feed_121 : decode cX8_feed 121 = .ok (.ireturn, 1) := by decide +kernel
theorem dX8_isTaped_0 : decode cX8_isTaped 0 = .ok (.iload_n 1, 1) := by decide +kernel
theorem dX8_isTaped_1 : decode cX8_isTaped 1 = .ok (.ifCond .lt 15, 3) := by decide +kernel
theorem dX8_isTaped_4 : decode cX8_isTaped 4 = .ok (.iload_n 1, 1) := by decide +kernel
theorem dX8_isTaped_5 : decode cX8_isTaped 5 = .ok (.aload_n 0, 1) := by decide +kernel
theorem dX8_isTaped_6 : decode cX8_isTaped 6 = .ok (.getfield 10, 3) := by decide +kernel
theorem dX8_isTaped_9 : decode cX8_isTaped 9 = .ok (.if_icmp .gt 7, 3) := by decide +kernel
theorem dX8_isTaped_12 : decode cX8_isTaped 12 = .ok (.iconst 1, 1) := by decide +kernel
theorem dX8_isTaped_13 : decode cX8_isTaped 13 = .ok (.goto 4, 3) := by decide +kernel
theorem dX8_isTaped_16 : decode cX8_isTaped 16 = .ok (.iconst 0, 1) := by decide +kernel
theorem dX8_isTaped_17 : decode cX8_isTaped 17 = .ok (.ireturn, 1) := by decide +kernel
theorem dX8_isSmall_0 : decode cX8_isSmall 0 = .ok (.iload_n 0, 1) := by decide +kernel
theorem dX8_isSmall_1 : decode cX8_isSmall 1 = .ok (.bipush 97, 2) := by decide +kernel
theorem dX8_isSmall_3 : decode cX8_isSmall 3 = .ok (.if_icmp .lt 13, 3) := by decide +kernel
theorem dX8_isSmall_6 : decode cX8_isSmall 6 = .ok (.iload_n 0, 1) := by decide +kernel
theorem dX8_isSmall_7 : decode cX8_isSmall 7 = .ok (.bipush 122, 2) := by decide +kernel
theorem dX8_isSmall_9 : decode cX8_isSmall 9 = .ok (.if_icmp .gt 7, 3) := by decide +kernel
theorem dX8_isSmall_12 : decode cX8_isSmall 12 = .ok (.iconst 1, 1) := by decide +kernel
theorem dX8_isSmall_13 : decode cX8_isSmall 13 = .ok (.goto 4, 3) := by decide +kernel
theorem dX8_isSmall_16 : decode cX8_isSmall 16 = .ok (.iconst 0, 1) := by decide +kernel
theorem dX8_isSmall_17 : decode cX8_isSmall 17 = .ok (.ireturn, 1) := by decide +kernel
theorem dX8_isGreat_0 : decode cX8_isGreat 0 = .ok (.iload_n 0, 1) := by decide +kernel
theorem dX8_isGreat_1 : decode cX8_isGreat 1 = .ok (.bipush 65, 2) := by decide +kernel
theorem dX8_isGreat_3 : decode cX8_isGreat 3 = .ok (.if_icmp .lt 13, 3) := by decide +kernel
theorem dX8_isGreat_6 : decode cX8_isGreat 6 = .ok (.iload_n 0, 1) := by decide +kernel
theorem dX8_isGreat_7 : decode cX8_isGreat 7 = .ok (.bipush 90, 2) := by decide +kernel
theorem dX8_isGreat_9 : decode cX8_isGreat 9 = .ok (.if_icmp .gt 7, 3) := by decide +kernel
theorem dX8_isGreat_12 : decode cX8_isGreat 12 = .ok (.iconst 1, 1) := by decide +kernel
theorem dX8_isGreat_13 : decode cX8_isGreat 13 = .ok (.goto 4, 3) := by decide +kernel
theorem dX8_isGreat_16 : decode cX8_isGreat 16 = .ok (.iconst 0, 1) := by decide +kernel
theorem dX8_isGreat_17 : decode cX8_isGreat 17 = .ok (.ireturn, 1) := by decide +kernel
theorem dX8_isDigit_0 : decode cX8_isDigit 0 = .ok (.iload_n 0, 1) := by decide +kernel
theorem dX8_isDigit_1 : decode cX8_isDigit 1 = .ok (.bipush 48, 2) := by decide +kernel
theorem dX8_isDigit_3 : decode cX8_isDigit 3 = .ok (.if_icmp .lt 13, 3) := by decide +kernel
theorem dX8_isDigit_6 : decode cX8_isDigit 6 = .ok (.iload_n 0, 1) := by decide +kernel
theorem dX8_isDigit_7 : decode cX8_isDigit 7 = .ok (.bipush 57, 2) := by decide +kernel
theorem dX8_isDigit_9 : decode cX8_isDigit 9 = .ok (.if_icmp .gt 7, 3) := by decide +kernel
theorem dX8_isDigit_12 : decode cX8_isDigit 12 = .ok (.iconst 1, 1) := by decide +kernel
theorem dX8_isDigit_13 : decode cX8_isDigit 13 = .ok (.goto 4, 3) := by decide +kernel
theorem dX8_isDigit_16 : decode cX8_isDigit 16 = .ok (.iconst 0, 1) := by decide +kernel
theorem dX8_isDigit_17 : decode cX8_isDigit 17 = .ok (.ireturn, 1) := by decide +kernel
theorem dX8_isLetter_0 : decode cX8_isLetter 0 = .ok (.iload_n 0, 1) := by decide +kernel
theorem dX8_isLetter_1 : decode cX8_isLetter 1 = .ok (.invokestatic 17, 3) := by decide +kernel
theorem dX8_isLetter_4 : decode cX8_isLetter 4 = .ok (.ifCond .ne 10, 3) := by decide +kernel
theorem dX8_isLetter_7 : decode cX8_isLetter 7 = .ok (.iload_n 0, 1) := by decide +kernel
theorem dX8_isLetter_8 : decode cX8_isLetter 8 = .ok (.invokestatic 21, 3) := by decide +kernel
theorem dX8_isLetter_11 : decode cX8_isLetter 11 = .ok (.ifCond .eq 7, 3) := by decide +kernel
theorem dX8_isLetter_14 : decode cX8_isLetter 14 = .ok (.iconst 1, 1) := by decide +kernel
theorem dX8_isLetter_15 : decode cX8_isLetter 15 = .ok (.goto 4, 3) := by decide +kernel
theorem dX8_isLetter_18 : decode cX8_isLetter 18 = .ok (.iconst 0, 1) := by decide +kernel
theorem dX8_isLetter_19 : decode cX8_isLetter 19 = .ok (.ireturn, 1) := by decide +kernel
theorem dX8_isName_0 : decode cX8_isName 0 = .ok (.iload_n 2, 1) := by decide +kernel
theorem dX8_isName_1 : decode cX8_isName 1 = .ok (.iconst 1, 1) := by decide +kernel
theorem dX8_isName_2 : decode cX8_isName 2 = .ok (.bipush 24, 2) := by decide +kernel
theorem dX8_isName_4 : decode cX8_isName 4 = .ok (.invokestatic 24, 3) := by decide +kernel
theorem dX8_isName_7 : decode cX8_isName 7 = .ok (.ifCond .eq 12, 3) := by decide +kernel
theorem dX8_isName_10 : decode cX8_isName 10 = .ok (.aload_n 0, 1) := by decide +kernel
theorem dX8_isName_11 : decode cX8_isName 11 = .ok (.iload_n 1, 1) := by decide +kernel
theorem dX8_isName_12 : decode cX8_isName 12 = .ok (.baload, 1) := by decide +kernel
theorem dX8_isName_13 : decode cX8_isName 13 = .ok (.invokestatic 28, 3) := by decide +kernel
theorem dX8_isName_16 : decode cX8_isName 16 = .ok (.ifCond .eq 5, 3) := by decide +kernel
theorem dX8_isName_19 : decode cX8_isName 19 = .ok (.iconst 0, 1) := by decide +kernel
theorem dX8_isName_20 : decode cX8_isName 20 = .ok (.ireturn, 1) := by decide +kernel
theorem dX8_isName_21 : decode cX8_isName 21 = .ok (.iconst 1, 1) := by decide +kernel
theorem dX8_isName_22 : decode cX8_isName 22 = .ok (.istore_n 3, 1) := by decide +kernel
theorem dX8_isName_23 : decode cX8_isName 23 = .ok (.iconst 0, 1) := by decide +kernel
theorem dX8_isName_24 : decode cX8_isName 24 = .ok (.istore 4, 2) := by decide +kernel
theorem dX8_isName_26 : decode cX8_isName 26 = .ok (.iload_n 1, 1) := by decide +kernel
theorem dX8_isName_27 : decode cX8_isName 27 = .ok (.istore 5, 2) := by decide +kernel
theorem dX8_isName_29 : decode cX8_isName 29 = .ok (.iload 5, 2) := by decide +kernel
theorem dX8_isName_31 : decode cX8_isName 31 = .ok (.iload_n 1, 1) := by decide +kernel
theorem dX8_isName_32 : decode cX8_isName 32 = .ok (.iload_n 2, 1) := by decide +kernel
theorem dX8_isName_33 : decode cX8_isName 33 = .ok (.iadd, 1) := by decide +kernel
theorem dX8_isName_34 : decode cX8_isName 34 = .ok (.if_icmp .ge 70, 3) := by decide +kernel
theorem dX8_isName_37 : decode cX8_isName 37 = .ok (.iload_n 3, 1) := by decide +kernel
theorem dX8_isName_38 : decode cX8_isName 38 = .ok (.ifCond .eq 36, 3) := by decide +kernel
theorem dX8_isName_41 : decode cX8_isName 41 = .ok (.aload_n 0, 1) := by decide +kernel
theorem dX8_isName_42 : decode cX8_isName 42 = .ok (.iload 5, 2) := by decide +kernel
theorem dX8_isName_44 : decode cX8_isName 44 = .ok (.baload, 1) := by decide +kernel
theorem dX8_isName_45 : decode cX8_isName 45 = .ok (.invokestatic 31, 3) := by decide +kernel
theorem dX8_isName_48 : decode cX8_isName 48 = .ok (.ifCond .ne 22, 3) := by decide +kernel
theorem dX8_isName_51 : decode cX8_isName 51 = .ok (.aload_n 0, 1) := by decide +kernel
theorem dX8_isName_52 : decode cX8_isName 52 = .ok (.iload 5, 2) := by decide +kernel
theorem dX8_isName_54 : decode cX8_isName 54 = .ok (.baload, 1) := by decide +kernel
theorem dX8_isName_55 : decode cX8_isName 55 = .ok (.invokestatic 28, 3) := by decide +kernel
theorem dX8_isName_58 : decode cX8_isName 58 = .ok (.ifCond .ne 12, 3) := by decide +kernel
theorem dX8_isName_61 : decode cX8_isName 61 = .ok (.aload_n 0, 1) := by decide +kernel
theorem dX8_isName_62 : decode cX8_isName 62 = .ok (.iload 5, 2) := by decide +kernel
theorem dX8_isName_64 : decode cX8_isName 64 = .ok (.baload, 1) := by decide +kernel
theorem dX8_isName_65 : decode cX8_isName 65 = .ok (.bipush 95, 2) := by decide +kernel
theorem dX8_isName_67 : decode cX8_isName 67 = .ok (.if_icmp .ne 7, 3) := by decide +kernel
theorem dX8_isName_70 : decode cX8_isName 70 = .ok (.iconst 1, 1) := by decide +kernel
theorem dX8_isName_71 : decode cX8_isName 71 = .ok (.goto 4, 3) := by decide +kernel
theorem dX8_isName_74 : decode cX8_isName 74 = .ok (.iconst 0, 1) := by decide +kernel
theorem dX8_isName_75 : decode cX8_isName 75 = .ok (.istore_n 3, 1) := by decide +kernel
theorem dX8_isName_76 : decode cX8_isName 76 = .ok (.iload 4, 2) := by decide +kernel
theorem dX8_isName_78 : decode cX8_isName 78 = .ok (.ifCond .ne 13, 3) := by decide +kernel
theorem dX8_isName_81 : decode cX8_isName 81 = .ok (.aload_n 0, 1) := by decide +kernel
theorem dX8_isName_82 : decode cX8_isName 82 = .ok (.iload 5, 2) := by decide +kernel
theorem dX8_isName_84 : decode cX8_isName 84 = .ok (.baload, 1) := by decide +kernel
theorem dX8_isName_85 : decode cX8_isName 85 = .ok (.invokestatic 31, 3) := by decide +kernel
theorem dX8_isName_88 : decode cX8_isName 88 = .ok (.ifCond .eq 7, 3) := by decide +kernel
theorem dX8_isName_91 : decode cX8_isName 91 = .ok (.iconst 1, 1) := by decide +kernel
theorem dX8_isName_92 : decode cX8_isName 92 = .ok (.goto 4, 3) := by decide +kernel
theorem dX8_isName_95 : decode cX8_isName 95 = .ok (.iconst 0, 1) := by decide +kernel
theorem dX8_isName_96 : decode cX8_isName 96 = .ok (.istore 4, 2) := by decide +kernel
theorem dX8_isName_98 : decode cX8_isName 98 = .ok (.iinc 5 1, 3) := by decide +kernel
theorem dX8_isName_101 : decode cX8_isName 101 = .ok (.goto (-72), 3) := by decide +kernel
theorem dX8_isName_104 : decode cX8_isName 104 = .ok (.iload_n 3, 1) := by decide +kernel
theorem dX8_isName_105 : decode cX8_isName 105 = .ok (.ifCond .eq 12, 3) := by decide +kernel
theorem dX8_isName_108 : decode cX8_isName 108 = .ok (.iload 4, 2) := by decide +kernel
theorem dX8_isName_110 : decode cX8_isName 110 = .ok (.ifCond .eq 7, 3) := by decide +kernel
theorem dX8_isName_113 : decode cX8_isName 113 = .ok (.iconst 1, 1) := by decide +kernel
theorem dX8_isName_114 : decode cX8_isName 114 = .ok (.goto 4, 3) := by decide +kernel
theorem dX8_isName_117 : decode cX8_isName 117 = .ok (.iconst 0, 1) := by decide +kernel
theorem dX8_isName_118 : decode cX8_isName 118 = .ok (.ireturn, 1) := by decide +kernel
theorem dX8_isSame_0 : decode cX8_isSame 0 = .ok (.iload_n 2, 1) := by decide +kernel
theorem dX8_isSame_1 : decode cX8_isSame 1 = .ok (.iload 5, 2) := by decide +kernel
theorem dX8_isSame_3 : decode cX8_isSame 3 = .ok (.if_icmp .ne 7, 3) := by decide +kernel
theorem dX8_isSame_6 : decode cX8_isSame 6 = .ok (.iconst 1, 1) := by decide +kernel
theorem dX8_isSame_7 : decode cX8_isSame 7 = .ok (.goto 4, 3) := by decide +kernel
theorem dX8_isSame_10 : decode cX8_isSame 10 = .ok (.iconst 0, 1) := by decide +kernel
theorem dX8_isSame_11 : decode cX8_isSame 11 = .ok (.istore 6, 2) := by decide +kernel
theorem dX8_isSame_13 : decode cX8_isSame 13 = .ok (.iconst 0, 1) := by decide +kernel
theorem dX8_isSame_14 : decode cX8_isSame 14 = .ok (.istore 7, 2) := by decide +kernel
theorem dX8_isSame_16 : decode cX8_isSame 16 = .ok (.iload 7, 2) := by decide +kernel
theorem dX8_isSame_18 : decode cX8_isSame 18 = .ok (.iload_n 2, 1) := by decide +kernel
theorem dX8_isSame_19 : decode cX8_isSame 19 = .ok (.if_icmp .ge 37, 3) := by decide +kernel
theorem dX8_isSame_22 : decode cX8_isSame 22 = .ok (.iload 6, 2) := by decide +kernel
theorem dX8_isSame_24 : decode cX8_isSame 24 = .ok (.ifCond .eq 32, 3) := by decide +kernel
theorem dX8_isSame_27 : decode cX8_isSame 27 = .ok (.aload_n 0, 1) := by decide +kernel
theorem dX8_isSame_28 : decode cX8_isSame 28 = .ok (.iload_n 1, 1) := by decide +kernel
theorem dX8_isSame_29 : decode cX8_isSame 29 = .ok (.iload 7, 2) := by decide +kernel
theorem dX8_isSame_31 : decode cX8_isSame 31 = .ok (.iadd, 1) := by decide +kernel
theorem dX8_isSame_32 : decode cX8_isSame 32 = .ok (.baload, 1) := by decide +kernel
theorem dX8_isSame_33 : decode cX8_isSame 33 = .ok (.aload_n 3, 1) := by decide +kernel
theorem dX8_isSame_34 : decode cX8_isSame 34 = .ok (.iload 4, 2) := by decide +kernel
theorem dX8_isSame_36 : decode cX8_isSame 36 = .ok (.iload 7, 2) := by decide +kernel
theorem dX8_isSame_38 : decode cX8_isSame 38 = .ok (.iadd, 1) := by decide +kernel
theorem dX8_isSame_39 : decode cX8_isSame 39 = .ok (.baload, 1) := by decide +kernel
theorem dX8_isSame_40 : decode cX8_isSame 40 = .ok (.if_icmp .ne 7, 3) := by decide +kernel
theorem dX8_isSame_43 : decode cX8_isSame 43 = .ok (.iconst 1, 1) := by decide +kernel
theorem dX8_isSame_44 : decode cX8_isSame 44 = .ok (.goto 4, 3) := by decide +kernel
theorem dX8_isSame_47 : decode cX8_isSame 47 = .ok (.iconst 0, 1) := by decide +kernel
theorem dX8_isSame_48 : decode cX8_isSame 48 = .ok (.istore 6, 2) := by decide +kernel
theorem dX8_isSame_50 : decode cX8_isSame 50 = .ok (.iinc 7 1, 3) := by decide +kernel
theorem dX8_isSame_53 : decode cX8_isSame 53 = .ok (.goto (-37), 3) := by decide +kernel
theorem dX8_isSame_56 : decode cX8_isSame 56 = .ok (.iload 6, 2) := by decide +kernel
theorem dX8_isSame_58 : decode cX8_isSame 58 = .ok (.ireturn, 1) := by decide +kernel
theorem dX8_init_0 : decode cX8_init 0 = .ok (.aload_n 0, 1) := by decide +kernel
theorem dX8_init_1 : decode cX8_init 1 = .ok (.invokespecial 34, 3) := by decide +kernel
theorem dX8_init_4 : decode cX8_init 4 = .ok (.aload_n 0, 1) := by decide +kernel
theorem dX8_init_5 : decode cX8_init 5 = .ok (.sipush 200, 3) := by decide +kernel
theorem dX8_init_8 : decode cX8_init 8 = .ok (.newarray .byte, 2) := by decide +kernel
theorem dX8_init_10 : decode cX8_init 10 = .ok (.putfield 13, 3) := by decide +kernel
theorem dX8_init_13 : decode cX8_init 13 = .ok (.aload_n 0, 1) := by decide +kernel
theorem dX8_init_14 : decode cX8_init 14 = .ok (.iconst 1, 1) := by decide +kernel
theorem dX8_init_15 : decode cX8_init 15 = .ok (.putfield 40, 3) := by decide +kernel
theorem dX8_init_18 : decode cX8_init 18 = .ok (.aload_n 0, 1) := by decide +kernel
theorem dX8_init_19 : decode cX8_init 19 = .ok (.bipush 20, 2) := by decide +kernel
theorem dX8_init_21 : decode cX8_init 21 = .ok (.newarray .int, 2) := by decide +kernel
theorem dX8_init_23 : decode cX8_init 23 = .ok (.putfield 43, 3) := by decide +kernel
theorem dX8_init_26 : decode cX8_init 26 = .ok (.aload_n 0, 1) := by decide +kernel
theorem dX8_init_27 : decode cX8_init 27 = .ok (.bipush 80, 2) := by decide +kernel
theorem dX8_init_29 : decode cX8_init 29 = .ok (.newarray .int, 2) := by decide +kernel
theorem dX8_init_31 : decode cX8_init 31 = .ok (.putfield 47, 3) := by decide +kernel
theorem dX8_init_34 : decode cX8_init 34 = .ok (.aload_n 0, 1) := by decide +kernel
theorem dX8_init_35 : decode cX8_init 35 = .ok (.bipush 80, 2) := by decide +kernel
theorem dX8_init_37 : decode cX8_init 37 = .ok (.newarray .int, 2) := by decide +kernel
theorem dX8_init_39 : decode cX8_init 39 = .ok (.putfield 50, 3) := by decide +kernel
theorem dX8_init_42 : decode cX8_init 42 = .ok (.aload_n 0, 1) := by decide +kernel
theorem dX8_init_43 : decode cX8_init 43 = .ok (.bipush 80, 2) := by decide +kernel
theorem dX8_init_45 : decode cX8_init 45 = .ok (.newarray .int, 2) := by decide +kernel
theorem dX8_init_47 : decode cX8_init 47 = .ok (.putfield 53, 3) := by decide +kernel
theorem dX8_init_50 : decode cX8_init 50 = .ok (.aload_n 0, 1) := by decide +kernel
theorem dX8_init_51 : decode cX8_init 51 = .ok (.sipush 150, 3) := by decide +kernel
theorem dX8_init_54 : decode cX8_init 54 = .ok (.newarray .int, 2) := by decide +kernel
theorem dX8_init_56 : decode cX8_init 56 = .ok (.putfield 56, 3) := by decide +kernel
theorem dX8_init_59 : decode cX8_init 59 = .ok (.aload_n 0, 1) := by decide +kernel
theorem dX8_init_60 : decode cX8_init 60 = .ok (.sipush 150, 3) := by decide +kernel
theorem dX8_init_63 : decode cX8_init 63 = .ok (.newarray .int, 2) := by decide +kernel
theorem dX8_init_65 : decode cX8_init 65 = .ok (.putfield 59, 3) := by decide +kernel
theorem dX8_init_68 : decode cX8_init 68 = .ok (.aload_n 0, 1) := by decide +kernel
theorem dX8_init_69 : decode cX8_init 69 = .ok (.sipush 1920, 3) := by decide +kernel
theorem dX8_init_72 : decode cX8_init 72 = .ok (.newarray .byte, 2) := by decide +kernel
theorem dX8_init_74 : decode cX8_init 74 = .ok (.putfield 62, 3) := by decide +kernel
theorem dX8_init_77 : decode cX8_init 77 = .ok (.aload_n 0, 1) := by decide +kernel
theorem dX8_init_78 : decode cX8_init 78 = .ok (.bipush 24, 2) := by decide +kernel
theorem dX8_init_80 : decode cX8_init 80 = .ok (.newarray .int, 2) := by decide +kernel
theorem dX8_init_82 : decode cX8_init 82 = .ok (.putfield 65, 3) := by decide +kernel
theorem dX8_init_85 : decode cX8_init 85 = .ok (.aload_n 0, 1) := by decide +kernel
theorem dX8_init_86 : decode cX8_init 86 = .ok (.bipush 24, 2) := by decide +kernel
theorem dX8_init_88 : decode cX8_init 88 = .ok (.newarray .int, 2) := by decide +kernel
theorem dX8_init_90 : decode cX8_init 90 = .ok (.putfield 68, 3) := by decide +kernel
theorem dX8_init_93 : decode cX8_init 93 = .ok (.aload_n 0, 1) := by decide +kernel
theorem dX8_init_94 : decode cX8_init 94 = .ok (.sipush 720, 3) := by decide +kernel
theorem dX8_init_97 : decode cX8_init 97 = .ok (.newarray .byte, 2) := by decide +kernel
theorem dX8_init_99 : decode cX8_init 99 = .ok (.putfield 71, 3) := by decide +kernel
theorem dX8_init_102 : decode cX8_init 102 = .ok (.aload_n 0, 1) := by decide +kernel
theorem dX8_init_103 : decode cX8_init 103 = .ok (.bipush 60, 2) := by decide +kernel
theorem dX8_init_105 : decode cX8_init 105 = .ok (.newarray .int, 2) := by decide +kernel
theorem dX8_init_107 : decode cX8_init 107 = .ok (.putfield 74, 3) := by decide +kernel
theorem dX8_init_110 : decode cX8_init 110 = .ok (.aload_n 0, 1) := by decide +kernel
theorem dX8_init_111 : decode cX8_init 111 = .ok (.bipush 60, 2) := by decide +kernel
theorem dX8_init_113 : decode cX8_init 113 = .ok (.newarray .int, 2) := by decide +kernel
theorem dX8_init_115 : decode cX8_init 115 = .ok (.putfield 77, 3) := by decide +kernel
theorem dX8_init_118 : decode cX8_init 118 = .ok (.aload_n 0, 1) := by decide +kernel
theorem dX8_init_119 : decode cX8_init 119 = .ok (.bipush 60, 2) := by decide +kernel
theorem dX8_init_121 : decode cX8_init 121 = .ok (.newarray .int, 2) := by decide +kernel
theorem dX8_init_123 : decode cX8_init 123 = .ok (.putfield 80, 3) := by decide +kernel
theorem dX8_init_126 : decode cX8_init 126 = .ok (.aload_n 0, 1) := by decide +kernel
theorem dX8_init_127 : decode cX8_init 127 = .ok (.bipush 60, 2) := by decide +kernel
theorem dX8_init_129 : decode cX8_init 129 = .ok (.newarray .int, 2) := by decide +kernel
theorem dX8_init_131 : decode cX8_init 131 = .ok (.putfield 83, 3) := by decide +kernel
theorem dX8_init_134 : decode cX8_init 134 = .ok (.aload_n 0, 1) := by decide +kernel
theorem dX8_init_135 : decode cX8_init 135 = .ok (.bipush 60, 2) := by decide +kernel
theorem dX8_init_137 : decode cX8_init 137 = .ok (.newarray .int, 2) := by decide +kernel
theorem dX8_init_139 : decode cX8_init 139 = .ok (.putfield 86, 3) := by decide +kernel
theorem dX8_init_142 : decode cX8_init 142 = .ok (.aload_n 0, 1) := by decide +kernel
theorem dX8_init_143 : decode cX8_init 143 = .ok (.bipush 24, 2) := by decide +kernel
theorem dX8_init_145 : decode cX8_init 145 = .ok (.newarray .byte, 2) := by decide +kernel
theorem dX8_init_147 : decode cX8_init 147 = .ok (.putfield 89, 3) := by decide +kernel
theorem dX8_init_150 : decode cX8_init 150 = .ok (.aload_n 0, 1) := by decide +kernel
theorem dX8_init_151 : decode cX8_init 151 = .ok (.sipush 312, 3) := by decide +kernel
theorem dX8_init_154 : decode cX8_init 154 = .ok (.newarray .byte, 2) := by decide +kernel
theorem dX8_init_156 : decode cX8_init 156 = .ok (.putfield 92, 3) := by decide +kernel
theorem dX8_init_159 : decode cX8_init 159 = .ok (.aload_n 0, 1) := by decide +kernel
theorem dX8_init_160 : decode cX8_init 160 = .ok (.bipush 80, 2) := by decide +kernel
theorem dX8_init_162 : decode cX8_init 162 = .ok (.newarray .boolean, 2) := by decide +kernel
theorem dX8_init_164 : decode cX8_init 164 = .ok (.putfield 95, 3) := by decide +kernel
theorem dX8_init_167 : decode cX8_init 167 = .ok (.aload_n 0, 1) := by decide +kernel
theorem dX8_init_168 : decode cX8_init 168 = .ok (.bipush 80, 2) := by decide +kernel
theorem dX8_init_170 : decode cX8_init 170 = .ok (.newarray .boolean, 2) := by decide +kernel
theorem dX8_init_172 : decode cX8_init 172 = .ok (.putfield 99, 3) := by decide +kernel
theorem dX8_init_175 : decode cX8_init 175 = .ok (.aload_n 0, 1) := by decide +kernel
theorem dX8_init_176 : decode cX8_init 176 = .ok (.sipush 1920, 3) := by decide +kernel
theorem dX8_init_179 : decode cX8_init 179 = .ok (.newarray .byte, 2) := by decide +kernel
theorem dX8_init_181 : decode cX8_init 181 = .ok (.putfield 102, 3) := by decide +kernel
theorem dX8_init_184 : decode cX8_init 184 = .ok (.aload_n 0, 1) := by decide +kernel
theorem dX8_init_185 : decode cX8_init 185 = .ok (.sipush 1920, 3) := by decide +kernel
theorem dX8_init_188 : decode cX8_init 188 = .ok (.newarray .byte, 2) := by decide +kernel
theorem dX8_init_190 : decode cX8_init 190 = .ok (.putfield 105, 3) := by decide +kernel
theorem dX8_init_193 : decode cX8_init 193 = .ok (.aload_n 0, 1) := by decide +kernel
theorem dX8_init_194 : decode cX8_init 194 = .ok (.sipush 1920, 3) := by decide +kernel
theorem dX8_init_197 : decode cX8_init 197 = .ok (.newarray .byte, 2) := by decide +kernel
theorem dX8_init_199 : decode cX8_init 199 = .ok (.putfield 108, 3) := by decide +kernel
theorem dX8_init_202 : decode cX8_init 202 = .ok (.aload_n 0, 1) := by decide +kernel
theorem dX8_init_203 : decode cX8_init 203 = .ok (.bipush 80, 2) := by decide +kernel
theorem dX8_init_205 : decode cX8_init 205 = .ok (.newarray .int, 2) := by decide +kernel
theorem dX8_init_207 : decode cX8_init 207 = .ok (.putfield 111, 3) := by decide +kernel
theorem dX8_init_210 : decode cX8_init 210 = .ok (.aload_n 0, 1) := by decide +kernel
theorem dX8_init_211 : decode cX8_init 211 = .ok (.bipush 80, 2) := by decide +kernel
theorem dX8_init_213 : decode cX8_init 213 = .ok (.newarray .int, 2) := by decide +kernel
theorem dX8_init_215 : decode cX8_init 215 = .ok (.putfield 114, 3) := by decide +kernel
theorem dX8_init_218 : decode cX8_init 218 = .ok (.aload_n 0, 1) := by decide +kernel
theorem dX8_init_219 : decode cX8_init 219 = .ok (.bipush 80, 2) := by decide +kernel
theorem dX8_init_221 : decode cX8_init 221 = .ok (.newarray .int, 2) := by decide +kernel
theorem dX8_init_223 : decode cX8_init 223 = .ok (.putfield 117, 3) := by decide +kernel
theorem dX8_init_226 : decode cX8_init 226 = .ok (.aload_n 0, 1) := by decide +kernel
theorem dX8_init_227 : decode cX8_init 227 = .ok (.getfield 43, 3) := by decide +kernel
theorem dX8_init_230 : decode cX8_init 230 = .ok (.iconst 0, 1) := by decide +kernel
theorem dX8_init_231 : decode cX8_init 231 = .ok (.iconst (-1), 1) := by decide +kernel
theorem dX8_init_232 : decode cX8_init 232 = .ok (.iastore, 1) := by decide +kernel
theorem dX8_init_233 : decode cX8_init 233 = .ok (.return_, 1) := by decide +kernel
theorem dX8_isScope_0 : decode cX8_isScope 0 = .ok (.iload_n 1, 1) := by decide +kernel
theorem dX8_isScope_1 : decode cX8_isScope 1 = .ok (.ifCond .lt 15, 3) := by decide +kernel
theorem dX8_isScope_4 : decode cX8_isScope 4 = .ok (.iload_n 1, 1) := by decide +kernel
theorem dX8_isScope_5 : decode cX8_isScope 5 = .ok (.aload_n 0, 1) := by decide +kernel
theorem dX8_isScope_6 : decode cX8_isScope 6 = .ok (.getfield 40, 3) := by decide +kernel
theorem dX8_isScope_9 : decode cX8_isScope 9 = .ok (.if_icmp .ge 7, 3) := by decide +kernel
theorem dX8_isScope_12 : decode cX8_isScope 12 = .ok (.iconst 1, 1) := by decide +kernel
theorem dX8_isScope_13 : decode cX8_isScope 13 = .ok (.goto 4, 3) := by decide +kernel
theorem dX8_isScope_16 : decode cX8_isScope 16 = .ok (.iconst 0, 1) := by decide +kernel
theorem dX8_isScope_17 : decode cX8_isScope 17 = .ok (.ireturn, 1) := by decide +kernel
theorem dX8_isThing_0 : decode cX8_isThing 0 = .ok (.iload_n 1, 1) := by decide +kernel
theorem dX8_isThing_1 : decode cX8_isThing 1 = .ok (.ifCond .lt 15, 3) := by decide +kernel
theorem dX8_isThing_4 : decode cX8_isThing 4 = .ok (.iload_n 1, 1) := by decide +kernel
theorem dX8_isThing_5 : decode cX8_isThing 5 = .ok (.aload_n 0, 1) := by decide +kernel
theorem dX8_isThing_6 : decode cX8_isThing 6 = .ok (.getfield 120, 3) := by decide +kernel
theorem dX8_isThing_9 : decode cX8_isThing 9 = .ok (.if_icmp .ge 7, 3) := by decide +kernel
theorem dX8_isThing_12 : decode cX8_isThing 12 = .ok (.iconst 1, 1) := by decide +kernel
theorem dX8_isThing_13 : decode cX8_isThing 13 = .ok (.goto 4, 3) := by decide +kernel
theorem dX8_isThing_16 : decode cX8_isThing 16 = .ok (.iconst 0, 1) := by decide +kernel
theorem dX8_isThing_17 : decode cX8_isThing 17 = .ok (.ireturn, 1) := by decide +kernel
theorem dX8_scope_0 : decode cX8_scope 0 = .ok (.aload_n 0, 1) := by decide +kernel
theorem dX8_scope_1 : decode cX8_scope 1 = .ok (.iconst 0, 1) := by decide +kernel
theorem dX8_scope_2 : decode cX8_scope 2 = .ok (.putfield 1, 3) := by decide +kernel
theorem dX8_scope_5 : decode cX8_scope 5 = .ok (.aload_n 0, 1) := by decide +kernel
theorem dX8_scope_6 : decode cX8_scope 6 = .ok (.iload_n 1, 1) := by decide +kernel
theorem dX8_scope_7 : decode cX8_scope 7 = .ok (.invokevirtual 123, 3) := by decide +kernel
theorem dX8_scope_10 : decode cX8_scope 10 = .ok (.ifCond .ne 9, 3) := by decide +kernel
theorem dX8_scope_13 : decode cX8_scope 13 = .ok (.aload_n 0, 1) := by decide +kernel
theorem dX8_scope_14 : decode cX8_scope 14 = .ok (.iconst 1, 1) := by decide +kernel
theorem dX8_scope_15 : decode cX8_scope 15 = .ok (.invokevirtual 126, 3) := by decide +kernel
theorem dX8_scope_18 : decode cX8_scope 18 = .ok (.ireturn, 1) := by decide +kernel
theorem dX8_scope_19 : decode cX8_scope 19 = .ok (.aload_n 0, 1) := by decide +kernel
theorem dX8_scope_20 : decode cX8_scope 20 = .ok (.getfield 40, 3) := by decide +kernel
theorem dX8_scope_23 : decode cX8_scope 23 = .ok (.bipush 20, 2) := by decide +kernel
theorem dX8_scope_25 : decode cX8_scope 25 = .ok (.if_icmp .ne 9, 3) := by decide +kernel
theorem dX8_scope_28 : decode cX8_scope 28 = .ok (.aload_n 0, 1) := by decide +kernel
theorem dX8_scope_29 : decode cX8_scope 29 = .ok (.iconst 3, 1) := by decide +kernel
theorem dX8_scope_30 : decode cX8_scope 30 = .ok (.invokevirtual 126, 3) := by decide +kernel
theorem dX8_scope_33 : decode cX8_scope 33 = .ok (.ireturn, 1) := by decide +kernel
theorem dX8_scope_34 : decode cX8_scope 34 = .ok (.aload_n 0, 1) := by decide +kernel
theorem dX8_scope_35 : decode cX8_scope 35 = .ok (.getfield 43, 3) := by decide +kernel
theorem dX8_scope_38 : decode cX8_scope 38 = .ok (.aload_n 0, 1) := by decide +kernel
theorem dX8_scope_39 : decode cX8_scope 39 = .ok (.getfield 40, 3) := by decide +kernel
theorem dX8_scope_42 : decode cX8_scope 42 = .ok (.iload_n 1, 1) := by decide +kernel
theorem dX8_scope_43 : decode cX8_scope 43 = .ok (.iastore, 1) := by decide +kernel
theorem dX8_scope_44 : decode cX8_scope 44 = .ok (.aload_n 0, 1) := by decide +kernel
theorem dX8_scope_45 : decode cX8_scope 45 = .ok (.dup, 1) := by decide +kernel
theorem dX8_scope_46 : decode cX8_scope 46 = .ok (.getfield 40, 3) := by decide +kernel
theorem dX8_scope_49 : decode cX8_scope 49 = .ok (.iconst 1, 1) := by decide +kernel
theorem dX8_scope_50 : decode cX8_scope 50 = .ok (.iadd, 1) := by decide +kernel
theorem dX8_scope_51 : decode cX8_scope 51 = .ok (.putfield 40, 3) := by decide +kernel
theorem dX8_scope_54 : decode cX8_scope 54 = .ok (.aload_n 0, 1) := by decide +kernel
theorem dX8_scope_55 : decode cX8_scope 55 = .ok (.aload_n 0, 1) := by decide +kernel
theorem dX8_scope_56 : decode cX8_scope 56 = .ok (.getfield 40, 3) := by decide +kernel
theorem dX8_scope_59 : decode cX8_scope 59 = .ok (.iconst 1, 1) := by decide +kernel
theorem dX8_scope_60 : decode cX8_scope 60 = .ok (.isub, 1) := by decide +kernel
theorem dX8_scope_61 : decode cX8_scope 61 = .ok (.invokevirtual 130, 3) := by decide +kernel
theorem dX8_scope_64 : decode cX8_scope 64 = .ok (.ireturn, 1) := by decide +kernel
theorem dX8_meaningOf_0 : decode cX8_meaningOf 0 = .ok (.iload_n 1, 1) := by decide +kernel
theorem dX8_meaningOf_1 : decode cX8_meaningOf 1 = .ok (.istore 7, 2) := by decide +kernel
theorem dX8_meaningOf_3 : decode cX8_meaningOf 3 = .ok (.iload 7, 2) := by decide +kernel
theorem dX8_meaningOf_5 : decode cX8_meaningOf 5 = .ok (.iconst (-1), 1) := by decide +kernel
theorem dX8_meaningOf_6 : decode cX8_meaningOf 6 = .ok (.if_icmp .eq 70, 3) := by decide +kernel
theorem dX8_meaningOf_9 : decode cX8_meaningOf 9 = .ok (.iconst 0, 1) := by decide +kernel
theorem dX8_meaningOf_10 : decode cX8_meaningOf 10 = .ok (.istore 8, 2) := by decide +kernel
theorem dX8_meaningOf_12 : decode cX8_meaningOf 12 = .ok (.iload 8, 2) := by decide +kernel
theorem dX8_meaningOf_14 : decode cX8_meaningOf 14 = .ok (.aload_n 0, 1) := by decide +kernel
theorem dX8_meaningOf_15 : decode cX8_meaningOf 15 = .ok (.getfield 120, 3) := by decide +kernel
theorem dX8_meaningOf_18 : decode cX8_meaningOf 18 = .ok (.if_icmp .ge 46, 3) := by decide +kernel
theorem dX8_meaningOf_21 : decode cX8_meaningOf 21 = .ok (.aload_n 0, 1) := by decide +kernel
theorem dX8_meaningOf_22 : decode cX8_meaningOf 22 = .ok (.getfield 47, 3) := by decide +kernel
theorem dX8_meaningOf_25 : decode cX8_meaningOf 25 = .ok (.iload 8, 2) := by decide +kernel
theorem dX8_meaningOf_27 : decode cX8_meaningOf 27 = .ok (.iaload, 1) := by decide +kernel
theorem dX8_meaningOf_28 : decode cX8_meaningOf 28 = .ok (.iload 7, 2) := by decide +kernel
theorem dX8_meaningOf_30 : decode cX8_meaningOf 30 = .ok (.if_icmp .ne 28, 3) := by decide +kernel
theorem dX8_meaningOf_33 : decode cX8_meaningOf 33 = .ok (.aload 5, 2) := by decide +kernel
theorem dX8_meaningOf_35 : decode cX8_meaningOf 35 = .ok (.bipush 24, 2) := by decide +kernel
theorem dX8_meaningOf_37 : decode cX8_meaningOf 37 = .ok (.iload 8, 2) := by decide +kernel
theorem dX8_meaningOf_39 : decode cX8_meaningOf 39 = .ok (.imul, 1) := by decide +kernel
theorem dX8_meaningOf_40 : decode cX8_meaningOf 40 = .ok (.aload 6, 2) := by decide +kernel
theorem dX8_meaningOf_42 : decode cX8_meaningOf 42 = .ok (.iload 8, 2) := by decide +kernel
theorem dX8_meaningOf_44 : decode cX8_meaningOf 44 = .ok (.iaload, 1) := by decide +kernel
theorem dX8_meaningOf_45 : decode cX8_meaningOf 45 = .ok (.aload_n 2, 1) := by decide +kernel
theorem dX8_meaningOf_46 : decode cX8_meaningOf 46 = .ok (.iload_n 3, 1) := by decide +kernel
theorem dX8_meaningOf_47 : decode cX8_meaningOf 47 = .ok (.iload 4, 2) := by decide +kernel
theorem dX8_meaningOf_49 : decode cX8_meaningOf 49 = .ok (.invokestatic 133, 3) := by decide +kernel
theorem dX8_meaningOf_52 : decode cX8_meaningOf 52 = .ok (.ifCond .eq 6, 3) := by decide +kernel
theorem dX8_meaningOf_55 : decode cX8_meaningOf 55 = .ok (.iload 8, 2) := by decide +kernel
theorem dX8_meaningOf_57 : decode cX8_meaningOf 57 = .ok (.ireturn, 1) := by decide +kernel
theorem dX8_meaningOf_58 : decode cX8_meaningOf 58 = .ok (.iinc 8 1, 3) := by decide +kernel
theorem dX8_meaningOf_61 : decode cX8_meaningOf 61 = .ok (.goto (-49), 3) := by decide +kernel
theorem dX8_meaningOf_64 : decode cX8_meaningOf 64 = .ok (.aload_n 0, 1) := by decide +kernel
theorem dX8_meaningOf_65 : decode cX8_meaningOf 65 = .ok (.getfield 43, 3) := by decide +kernel
theorem dX8_meaningOf_68 : decode cX8_meaningOf 68 = .ok (.iload 7, 2) := by decide +kernel
theorem dX8_meaningOf_70 : decode cX8_meaningOf 70 = .ok (.iaload, 1) := by decide +kernel
theorem dX8_meaningOf_71 : decode cX8_meaningOf 71 = .ok (.istore 7, 2) := by decide +kernel
theorem dX8_meaningOf_73 : decode cX8_meaningOf 73 = .ok (.goto (-70), 3) := by decide +kernel
theorem dX8_meaningOf_76 : decode cX8_meaningOf 76 = .ok (.bipush (-2), 2) := by decide +kernel
theorem dX8_meaningOf_78 : decode cX8_meaningOf 78 = .ok (.ireturn, 1) := by decide +kernel
theorem dX8_takesUse_0 : decode cX8_takesUse 0 = .ok (.iconst 0, 1) := by decide +kernel
theorem dX8_takesUse_1 : decode cX8_takesUse 1 = .ok (.istore_n 3, 1) := by decide +kernel
theorem dX8_takesUse_2 : decode cX8_takesUse 2 = .ok (.iload_n 3, 1) := by decide +kernel
theorem dX8_takesUse_3 : decode cX8_takesUse 3 = .ok (.aload_n 0, 1) := by decide +kernel
theorem dX8_takesUse_4 : decode cX8_takesUse 4 = .ok (.getfield 137, 3) := by decide +kernel
theorem dX8_takesUse_7 : decode cX8_takesUse 7 = .ok (.if_icmp .ge 108, 3) := by decide +kernel
theorem dX8_takesUse_10 : decode cX8_takesUse 10 = .ok (.aload_n 0, 1) := by decide +kernel
theorem dX8_takesUse_11 : decode cX8_takesUse 11 = .ok (.getfield 59, 3) := by decide +kernel
theorem dX8_takesUse_14 : decode cX8_takesUse 14 = .ok (.iload_n 3, 1) := by decide +kernel
theorem dX8_takesUse_15 : decode cX8_takesUse 15 = .ok (.iaload, 1) := by decide +kernel
theorem dX8_takesUse_16 : decode cX8_takesUse 16 = .ok (.istore 4, 2) := by decide +kernel
theorem dX8_takesUse_18 : decode cX8_takesUse 18 = .ok (.aload_n 0, 1) := by decide +kernel
theorem dX8_takesUse_19 : decode cX8_takesUse 19 = .ok (.getfield 62, 3) := by decide +kernel
theorem dX8_takesUse_22 : decode cX8_takesUse 22 = .ok (.bipush 24, 2) := by decide +kernel
theorem dX8_takesUse_24 : decode cX8_takesUse 24 = .ok (.iload 4, 2) := by decide +kernel
theorem dX8_takesUse_26 : decode cX8_takesUse 26 = .ok (.imul, 1) := by decide +kernel
theorem dX8_takesUse_27 : decode cX8_takesUse 27 = .ok (.aload_n 0, 1) := by decide +kernel
theorem dX8_takesUse_28 : decode cX8_takesUse 28 = .ok (.getfield 53, 3) := by decide +kernel
theorem dX8_takesUse_31 : decode cX8_takesUse 31 = .ok (.iload 4, 2) := by decide +kernel
theorem dX8_takesUse_33 : decode cX8_takesUse 33 = .ok (.iaload, 1) := by decide +kernel
theorem dX8_takesUse_34 : decode cX8_takesUse 34 = .ok (.aload_n 0, 1) := by decide +kernel
theorem dX8_takesUse_35 : decode cX8_takesUse 35 = .ok (.getfield 13, 3) := by decide +kernel
theorem dX8_takesUse_38 : decode cX8_takesUse 38 = .ok (.iconst 0, 1) := by decide +kernel
theorem dX8_takesUse_39 : decode cX8_takesUse 39 = .ok (.iload_n 2, 1) := by decide +kernel
theorem dX8_takesUse_40 : decode cX8_takesUse 40 = .ok (.invokestatic 133, 3) := by decide +kernel
theorem dX8_takesUse_43 : decode cX8_takesUse 43 = .ok (.ifCond .ne 6, 3) := by decide +kernel
theorem dX8_takesUse_46 : decode cX8_takesUse 46 = .ok (.goto 63, 3) := by decide +kernel
theorem dX8_takesUse_49 : decode cX8_takesUse 49 = .ok (.iconst 0, 1) := by decide +kernel
theorem dX8_takesUse_50 : decode cX8_takesUse 50 = .ok (.istore 5, 2) := by decide +kernel
theorem dX8_takesUse_52 : decode cX8_takesUse 52 = .ok (.aload_n 0, 1) := by decide +kernel
theorem dX8_takesUse_53 : decode cX8_takesUse 53 = .ok (.getfield 56, 3) := by decide +kernel
theorem dX8_takesUse_56 : decode cX8_takesUse 56 = .ok (.iload_n 3, 1) := by decide +kernel
theorem dX8_takesUse_57 : decode cX8_takesUse 57 = .ok (.iaload, 1) := by decide +kernel
theorem dX8_takesUse_58 : decode cX8_takesUse 58 = .ok (.istore 6, 2) := by decide +kernel
theorem dX8_takesUse_60 : decode cX8_takesUse 60 = .ok (.iload 6, 2) := by decide +kernel
theorem dX8_takesUse_62 : decode cX8_takesUse 62 = .ok (.aload_n 0, 1) := by decide +kernel
theorem dX8_takesUse_63 : decode cX8_takesUse 63 = .ok (.getfield 47, 3) := by decide +kernel
theorem dX8_takesUse_66 : decode cX8_takesUse 66 = .ok (.iload 4, 2) := by decide +kernel
theorem dX8_takesUse_68 : decode cX8_takesUse 68 = .ok (.iaload, 1) := by decide +kernel
theorem dX8_takesUse_69 : decode cX8_takesUse 69 = .ok (.if_icmp .eq 33, 3) := by decide +kernel
theorem dX8_takesUse_72 : decode cX8_takesUse 72 = .ok (.iload 5, 2) := by decide +kernel
theorem dX8_takesUse_74 : decode cX8_takesUse 74 = .ok (.ifCond .ne 9, 3) := by decide +kernel
theorem dX8_takesUse_77 : decode cX8_takesUse 77 = .ok (.iload 6, 2) := by decide +kernel
theorem dX8_takesUse_79 : decode cX8_takesUse 79 = .ok (.iload_n 1, 1) := by decide +kernel
theorem dX8_takesUse_80 : decode cX8_takesUse 80 = .ok (.if_icmp .ne 7, 3) := by decide +kernel
theorem dX8_takesUse_83 : decode cX8_takesUse 83 = .ok (.iconst 1, 1) := by decide +kernel
theorem dX8_takesUse_84 : decode cX8_takesUse 84 = .ok (.goto 4, 3) := by decide +kernel
theorem dX8_takesUse_87 : decode cX8_takesUse 87 = .ok (.iconst 0, 1) := by decide +kernel
theorem dX8_takesUse_88 : decode cX8_takesUse 88 = .ok (.istore 5, 2) := by decide +kernel
theorem dX8_takesUse_90 : decode cX8_takesUse 90 = .ok (.aload_n 0, 1) := by decide +kernel
theorem dX8_takesUse_91 : decode cX8_takesUse 91 = .ok (.getfield 43, 3) := by decide +kernel
theorem dX8_takesUse_94 : decode cX8_takesUse 94 = .ok (.iload 6, 2) := by decide +kernel
theorem dX8_takesUse_96 : decode cX8_takesUse 96 = .ok (.iaload, 1) := by decide +kernel
theorem dX8_takesUse_97 : decode cX8_takesUse 97 = .ok (.istore 6, 2) := by decide +kernel
theorem dX8_takesUse_99 : decode cX8_takesUse 99 = .ok (.goto (-39), 3) := by decide +kernel
theorem dX8_takesUse_102 : decode cX8_takesUse 102 = .ok (.iload 5, 2) := by decide +kernel
theorem dX8_takesUse_104 : decode cX8_takesUse 104 = .ok (.ifCond .eq 5, 3) := by decide +kernel
theorem dX8_takesUse_107 : decode cX8_takesUse 107 = .ok (.iconst 1, 1) := by decide +kernel
theorem dX8_takesUse_108 : decode cX8_takesUse 108 = .ok (.ireturn, 1) := by decide +kernel
theorem dX8_takesUse_109 : decode cX8_takesUse 109 = .ok (.iinc 3 1, 3) := by decide +kernel
theorem dX8_takesUse_112 : decode cX8_takesUse 112 = .ok (.goto (-110), 3) := by decide +kernel
theorem dX8_takesUse_115 : decode cX8_takesUse 115 = .ok (.iconst 0, 1) := by decide +kernel
theorem dX8_takesUse_116 : decode cX8_takesUse 116 = .ok (.ireturn, 1) := by decide +kernel
theorem dX8_thing_0 : decode cX8_thing 0 = .ok (.aload_n 0, 1) := by decide +kernel
theorem dX8_thing_1 : decode cX8_thing 1 = .ok (.iconst 0, 1) := by decide +kernel
theorem dX8_thing_2 : decode cX8_thing 2 = .ok (.putfield 1, 3) := by decide +kernel
theorem dX8_thing_5 : decode cX8_thing 5 = .ok (.aload_n 0, 1) := by decide +kernel
theorem dX8_thing_6 : decode cX8_thing 6 = .ok (.iload_n 1, 1) := by decide +kernel
theorem dX8_thing_7 : decode cX8_thing 7 = .ok (.invokevirtual 123, 3) := by decide +kernel
theorem dX8_thing_10 : decode cX8_thing 10 = .ok (.ifCond .ne 9, 3) := by decide +kernel
theorem dX8_thing_13 : decode cX8_thing 13 = .ok (.aload_n 0, 1) := by decide +kernel
theorem dX8_thing_14 : decode cX8_thing 14 = .ok (.iconst 1, 1) := by decide +kernel
theorem dX8_thing_15 : decode cX8_thing 15 = .ok (.invokevirtual 126, 3) := by decide +kernel
theorem dX8_thing_18 : decode cX8_thing 18 = .ok (.ireturn, 1) := by decide +kernel
theorem dX8_thing_19 : decode cX8_thing 19 = .ok (.iload_n 2, 1) := by decide +kernel
theorem dX8_thing_20 : decode cX8_thing 20 = .ok (.iconst 0, 1) := by decide +kernel
theorem dX8_thing_21 : decode cX8_thing 21 = .ok (.iconst 2, 1) := by decide +kernel
theorem dX8_thing_22 : decode cX8_thing 22 = .ok (.invokestatic 24, 3) := by decide +kernel
theorem dX8_thing_25 : decode cX8_thing 25 = .ok (.ifCond .eq 11, 3) := by decide +kernel
theorem dX8_thing_28 : decode cX8_thing 28 = .ok (.aload_n 0, 1) := by decide +kernel
theorem dX8_thing_29 : decode cX8_thing 29 = .ok (.iload_n 3, 1) := by decide +kernel
theorem dX8_thing_30 : decode cX8_thing 30 = .ok (.invokevirtual 140, 3) := by decide +kernel
theorem dX8_thing_33 : decode cX8_thing 33 = .ok (.ifCond .ne 9, 3) := by decide +kernel
theorem dX8_thing_36 : decode cX8_thing 36 = .ok (.aload_n 0, 1) := by decide +kernel
theorem dX8_thing_37 : decode cX8_thing 37 = .ok (.iconst 2, 1) := by decide +kernel
theorem dX8_thing_38 : decode cX8_thing 38 = .ok (.invokevirtual 126, 3) := by decide +kernel
theorem dX8_thing_41 : decode cX8_thing 41 = .ok (.ireturn, 1) := by decide +kernel
theorem dX8_thing_42 : decode cX8_thing 42 = .ok (.aload_n 0, 1) := by decide +kernel
theorem dX8_thing_43 : decode cX8_thing 43 = .ok (.iconst 0, 1) := by decide +kernel
theorem dX8_thing_44 : decode cX8_thing 44 = .ok (.putfield 10, 3) := by decide +kernel
theorem dX8_thing_47 : decode cX8_thing 47 = .ok (.aload_n 0, 1) := by decide +kernel
theorem dX8_thing_48 : decode cX8_thing 48 = .ok (.getfield 13, 3) := by decide +kernel
theorem dX8_thing_51 : decode cX8_thing 51 = .ok (.iconst 0, 1) := by decide +kernel
theorem dX8_thing_52 : decode cX8_thing 52 = .ok (.iload_n 3, 1) := by decide +kernel
theorem dX8_thing_53 : decode cX8_thing 53 = .ok (.invokestatic 143, 3) := by decide +kernel
theorem dX8_thing_56 : decode cX8_thing 56 = .ok (.ifCond .ne 9, 3) := by decide +kernel
theorem dX8_thing_59 : decode cX8_thing 59 = .ok (.aload_n 0, 1) := by decide +kernel
theorem dX8_thing_60 : decode cX8_thing 60 = .ok (.iconst 2, 1) := by decide +kernel
theorem dX8_thing_61 : decode cX8_thing 61 = .ok (.invokevirtual 126, 3) := by decide +kernel
theorem dX8_thing_64 : decode cX8_thing 64 = .ok (.ireturn, 1) := by decide +kernel
theorem dX8_thing_65 : decode cX8_thing 65 = .ok (.iconst 0, 1) := by decide +kernel
theorem dX8_thing_66 : decode cX8_thing 66 = .ok (.istore 4, 2) := by decide +kernel
theorem dX8_thing_68 : decode cX8_thing 68 = .ok (.iconst 0, 1) := by decide +kernel
theorem dX8_thing_69 : decode cX8_thing 69 = .ok (.istore 5, 2) := by decide +kernel
theorem dX8_thing_71 : decode cX8_thing 71 = .ok (.iload 5, 2) := by decide +kernel
theorem dX8_thing_73 : decode cX8_thing 73 = .ok (.aload_n 0, 1) := by decide +kernel
theorem dX8_thing_74 : decode cX8_thing 74 = .ok (.getfield 120, 3) := by decide +kernel
theorem dX8_thing_77 : decode cX8_thing 77 = .ok (.if_icmp .ge 60, 3) := by decide +kernel
theorem dX8_thing_80 : decode cX8_thing 80 = .ok (.iload 4, 2) := by decide +kernel
theorem dX8_thing_82 : decode cX8_thing 82 = .ok (.ifCond .ne 42, 3) := by decide +kernel
theorem dX8_thing_85 : decode cX8_thing 85 = .ok (.aload_n 0, 1) := by decide +kernel
theorem dX8_thing_86 : decode cX8_thing 86 = .ok (.getfield 47, 3) := by decide +kernel
theorem dX8_thing_89 : decode cX8_thing 89 = .ok (.iload 5, 2) := by decide +kernel
theorem dX8_thing_91 : decode cX8_thing 91 = .ok (.iaload, 1) := by decide +kernel
theorem dX8_thing_92 : decode cX8_thing 92 = .ok (.iload_n 1, 1) := by decide +kernel
theorem dX8_thing_93 : decode cX8_thing 93 = .ok (.if_icmp .ne 35, 3) := by decide +kernel
theorem dX8_thing_96 : decode cX8_thing 96 = .ok (.aload_n 0, 1) := by decide +kernel
theorem dX8_thing_97 : decode cX8_thing 97 = .ok (.getfield 62, 3) := by decide +kernel
theorem dX8_thing_100 : decode cX8_thing 100 = .ok (.bipush 24, 2) := by decide +kernel
theorem dX8_thing_102 : decode cX8_thing 102 = .ok (.iload 5, 2) := by decide +kernel
theorem dX8_thing_104 : decode cX8_thing 104 = .ok (.imul, 1) := by decide +kernel
theorem dX8_thing_105 : decode cX8_thing 105 = .ok (.aload_n 0, 1) := by decide +kernel
theorem dX8_thing_106 : decode cX8_thing 106 = .ok (.getfield 53, 3) := by decide +kernel
theorem dX8_thing_109 : decode cX8_thing 109 = .ok (.iload 5, 2) := by decide +kernel
theorem dX8_thing_111 : decode cX8_thing 111 = .ok (.iaload, 1) := by decide +kernel
theorem dX8_thing_112 : decode cX8_thing 112 = .ok (.aload_n 0, 1) := by decide +kernel
theorem dX8_thing_113 : decode cX8_thing 113 = .ok (.getfield 13, 3) := by decide +kernel
theorem dX8_thing_116 : decode cX8_thing 116 = .ok (.iconst 0, 1) := by decide +kernel
theorem dX8_thing_117 : decode cX8_thing 117 = .ok (.iload_n 3, 1) := by decide +kernel
theorem dX8_thing_118 : decode cX8_thing 118 = .ok (.invokestatic 133, 3) := by decide +kernel
theorem dX8_thing_121 : decode cX8_thing 121 = .ok (.ifCond .eq 7, 3) := by decide +kernel
theorem dX8_thing_124 : decode cX8_thing 124 = .ok (.iconst 1, 1) := by decide +kernel
theorem dX8_thing_125 : decode cX8_thing 125 = .ok (.goto 4, 3) := by decide +kernel
theorem dX8_thing_128 : decode cX8_thing 128 = .ok (.iconst 0, 1) := by decide +kernel
theorem dX8_thing_129 : decode cX8_thing 129 = .ok (.istore 4, 2) := by decide +kernel
theorem dX8_thing_131 : decode cX8_thing 131 = .ok (.iinc 5 1, 3) := by decide +kernel
theorem dX8_thing_134 : decode cX8_thing 134 = .ok (.goto (-63), 3) := by decide +kernel
theorem dX8_thing_137 : decode cX8_thing 137 = .ok (.iload 4, 2) := by decide +kernel
theorem dX8_thing_139 : decode cX8_thing 139 = .ok (.ifCond .ne 12, 3) := by decide +kernel
theorem dX8_thing_142 : decode cX8_thing 142 = .ok (.aload_n 0, 1) := by decide +kernel
theorem dX8_thing_143 : decode cX8_thing 143 = .ok (.iload_n 1, 1) := by decide +kernel
theorem dX8_thing_144 : decode cX8_thing 144 = .ok (.iload_n 3, 1) := by decide +kernel
theorem dX8_thing_145 : decode cX8_thing 145 = .ok (.invokevirtual 147, 3) := by decide +kernel
theorem dX8_thing_148 : decode cX8_thing 148 = .ok (.ifCond .eq 9, 3) := by decide +kernel
theorem dX8_thing_151 : decode cX8_thing 151 = .ok (.aload_n 0, 1) := by decide +kernel
theorem dX8_thing_152 : decode cX8_thing 152 = .ok (.iconst 4, 1) := by decide +kernel
theorem dX8_thing_153 : decode cX8_thing 153 = .ok (.invokevirtual 126, 3) := by decide +kernel
theorem dX8_thing_156 : decode cX8_thing 156 = .ok (.ireturn, 1) := by decide +kernel
theorem dX8_thing_157 : decode cX8_thing 157 = .ok (.aload_n 0, 1) := by decide +kernel
theorem dX8_thing_158 : decode cX8_thing 158 = .ok (.getfield 120, 3) := by decide +kernel
theorem dX8_thing_161 : decode cX8_thing 161 = .ok (.bipush 80, 2) := by decide +kernel
theorem dX8_thing_163 : decode cX8_thing 163 = .ok (.if_icmp .ne 9, 3) := by decide +kernel
theorem dX8_thing_166 : decode cX8_thing 166 = .ok (.aload_n 0, 1) := by decide +kernel
theorem dX8_thing_167 : decode cX8_thing 167 = .ok (.iconst 3, 1) := by decide +kernel
theorem dX8_thing_168 : decode cX8_thing 168 = .ok (.invokevirtual 126, 3) := by decide +kernel
theorem dX8_thing_171 : decode cX8_thing 171 = .ok (.ireturn, 1) := by decide +kernel
theorem dX8_thing_172 : decode cX8_thing 172 = .ok (.aload_n 0, 1) := by decide +kernel
theorem dX8_thing_173 : decode cX8_thing 173 = .ok (.getfield 47, 3) := by decide +kernel
theorem dX8_thing_176 : decode cX8_thing 176 = .ok (.aload_n 0, 1) := by decide +kernel
theorem dX8_thing_177 : decode cX8_thing 177 = .ok (.getfield 120, 3) := by decide +kernel
theorem dX8_thing_180 : decode cX8_thing 180 = .ok (.iload_n 1, 1) := by decide +kernel
theorem dX8_thing_181 : decode cX8_thing 181 = .ok (.iastore, 1) := by decide +kernel
theorem dX8_thing_182 : decode cX8_thing 182 = .ok (.aload_n 0, 1) := by decide +kernel
theorem dX8_thing_183 : decode cX8_thing 183 = .ok (.getfield 50, 3) := by decide +kernel
theorem dX8_thing_186 : decode cX8_thing 186 = .ok (.aload_n 0, 1) := by decide +kernel
theorem dX8_thing_187 : decode cX8_thing 187 = .ok (.getfield 120, 3) := by decide +kernel
theorem dX8_thing_190 : decode cX8_thing 190 = .ok (.iload_n 2, 1) := by decide +kernel
theorem dX8_thing_191 : decode cX8_thing 191 = .ok (.iastore, 1) := by decide +kernel
theorem dX8_thing_192 : decode cX8_thing 192 = .ok (.aload_n 0, 1) := by decide +kernel
theorem dX8_thing_193 : decode cX8_thing 193 = .ok (.getfield 53, 3) := by decide +kernel
theorem dX8_thing_196 : decode cX8_thing 196 = .ok (.aload_n 0, 1) := by decide +kernel
theorem dX8_thing_197 : decode cX8_thing 197 = .ok (.getfield 120, 3) := by decide +kernel
theorem dX8_thing_200 : decode cX8_thing 200 = .ok (.iload_n 3, 1) := by decide +kernel
theorem dX8_thing_201 : decode cX8_thing 201 = .ok (.iastore, 1) := by decide +kernel
theorem dX8_thing_202 : decode cX8_thing 202 = .ok (.iconst 0, 1) := by decide +kernel
theorem dX8_thing_203 : decode cX8_thing 203 = .ok (.istore 5, 2) := by decide +kernel
theorem dX8_thing_205 : decode cX8_thing 205 = .ok (.iload 5, 2) := by decide +kernel
theorem dX8_thing_207 : decode cX8_thing 207 = .ok (.iload_n 3, 1) := by decide +kernel
theorem dX8_thing_208 : decode cX8_thing 208 = .ok (.if_icmp .ge 31, 3) := by decide +kernel
theorem dX8_thing_211 : decode cX8_thing 211 = .ok (.aload_n 0, 1) := by decide +kernel
theorem dX8_thing_212 : decode cX8_thing 212 = .ok (.getfield 62, 3) := by decide +kernel
theorem dX8_thing_215 : decode cX8_thing 215 = .ok (.bipush 24, 2) := by decide +kernel
theorem dX8_thing_217 : decode cX8_thing 217 = .ok (.aload_n 0, 1) := by decide +kernel
theorem dX8_thing_218 : decode cX8_thing 218 = .ok (.getfield 120, 3) := by decide +kernel
theorem dX8_thing_221 : decode cX8_thing 221 = .ok (.imul, 1) := by decide +kernel
theorem dX8_thing_222 : decode cX8_thing 222 = .ok (.iload 5, 2) := by decide +kernel
theorem dX8_thing_224 : decode cX8_thing 224 = .ok (.iadd, 1) := by decide +kernel
theorem dX8_thing_225 : decode cX8_thing 225 = .ok (.aload_n 0, 1) := by decide +kernel
theorem dX8_thing_226 : decode cX8_thing 226 = .ok (.getfield 13, 3) := by decide +kernel
theorem dX8_thing_229 : decode cX8_thing 229 = .ok (.iload 5, 2) := by decide +kernel
theorem dX8_thing_231 : decode cX8_thing 231 = .ok (.baload, 1) := by decide +kernel
theorem dX8_thing_232 : decode cX8_thing 232 = .ok (.bastore, 1) := by decide +kernel
theorem dX8_thing_233 : decode cX8_thing 233 = .ok (.iinc 5 1, 3) := by decide +kernel
theorem dX8_thing_236 : decode cX8_thing 236 = .ok (.goto (-31), 3) := by decide +kernel
theorem dX8_thing_239 : decode cX8_thing 239 = .ok (.aload_n 0, 1) := by decide +kernel
theorem dX8_thing_240 : decode cX8_thing 240 = .ok (.getfield 95, 3) := by decide +kernel
theorem dX8_thing_243 : decode cX8_thing 243 = .ok (.aload_n 0, 1) := by decide +kernel
theorem dX8_thing_244 : decode cX8_thing 244 = .ok (.getfield 120, 3) := by decide +kernel
theorem dX8_thing_247 : decode cX8_thing 247 = .ok (.iconst 0, 1) := by decide +kernel
theorem dX8_thing_248 : decode cX8_thing 248 = .ok (.bastore, 1) := by decide +kernel
theorem dX8_thing_249 : decode cX8_thing 249 = .ok (.aload_n 0, 1) := by decide +kernel
theorem dX8_thing_250 : decode cX8_thing 250 = .ok (.dup, 1) := by decide +kernel
theorem dX8_thing_251 : decode cX8_thing 251 = .ok (.getfield 120, 3) := by decide +kernel
theorem dX8_thing_254 : decode cX8_thing 254 = .ok (.iconst 1, 1) := by decide +kernel
theorem dX8_thing_255 : decode cX8_thing 255 = .ok (.iadd, 1) := by decide +kernel
theorem dX8_thing_256 : decode cX8_thing 256 = .ok (.putfield 120, 3) := by decide +kernel
theorem dX8_thing_259 : decode cX8_thing 259 = .ok (.aload_n 0, 1) := by decide +kernel
theorem dX8_thing_260 : decode cX8_thing 260 = .ok (.iconst 0, 1) := by decide +kernel
theorem dX8_thing_261 : decode cX8_thing 261 = .ok (.putfield 151, 3) := by decide +kernel
theorem dX8_thing_264 : decode cX8_thing 264 = .ok (.aload_n 0, 1) := by decide +kernel
theorem dX8_thing_265 : decode cX8_thing 265 = .ok (.aload_n 0, 1) := by decide +kernel
theorem dX8_thing_266 : decode cX8_thing 266 = .ok (.getfield 120, 3) := by decide +kernel
theorem dX8_thing_269 : decode cX8_thing 269 = .ok (.iconst 1, 1) := by decide +kernel
theorem dX8_thing_270 : decode cX8_thing 270 = .ok (.isub, 1) := by decide +kernel
theorem dX8_thing_271 : decode cX8_thing 271 = .ok (.invokevirtual 130, 3) := by decide +kernel
theorem dX8_thing_274 : decode cX8_thing 274 = .ok (.ireturn, 1) := by decide +kernel
theorem dX8_use_0 : decode cX8_use 0 = .ok (.aload_n 0, 1) := by decide +kernel
theorem dX8_use_1 : decode cX8_use 1 = .ok (.iconst 0, 1) := by decide +kernel
theorem dX8_use_2 : decode cX8_use 2 = .ok (.putfield 1, 3) := by decide +kernel
theorem dX8_use_5 : decode cX8_use 5 = .ok (.aload_n 0, 1) := by decide +kernel
theorem dX8_use_6 : decode cX8_use 6 = .ok (.iload_n 1, 1) := by decide +kernel
theorem dX8_use_7 : decode cX8_use 7 = .ok (.invokevirtual 123, 3) := by decide +kernel
theorem dX8_use_10 : decode cX8_use 10 = .ok (.ifCond .ne 9, 3) := by decide +kernel
theorem dX8_use_13 : decode cX8_use 13 = .ok (.aload_n 0, 1) := by decide +kernel
theorem dX8_use_14 : decode cX8_use 14 = .ok (.iconst 1, 1) := by decide +kernel
theorem dX8_use_15 : decode cX8_use 15 = .ok (.invokevirtual 126, 3) := by decide +kernel
theorem dX8_use_18 : decode cX8_use 18 = .ok (.ireturn, 1) := by decide +kernel
theorem dX8_use_19 : decode cX8_use 19 = .ok (.aload_n 0, 1) := by decide +kernel
theorem dX8_use_20 : decode cX8_use 20 = .ok (.iload_n 2, 1) := by decide +kernel
theorem dX8_use_21 : decode cX8_use 21 = .ok (.invokevirtual 140, 3) := by decide +kernel
theorem dX8_use_24 : decode cX8_use 24 = .ok (.ifCond .ne 9, 3) := by decide +kernel
theorem dX8_use_27 : decode cX8_use 27 = .ok (.aload_n 0, 1) := by decide +kernel
theorem dX8_use_28 : decode cX8_use 28 = .ok (.iconst 2, 1) := by decide +kernel
theorem dX8_use_29 : decode cX8_use 29 = .ok (.invokevirtual 126, 3) := by decide +kernel
theorem dX8_use_32 : decode cX8_use 32 = .ok (.ireturn, 1) := by decide +kernel
theorem dX8_use_33 : decode cX8_use 33 = .ok (.aload_n 0, 1) := by decide +kernel
theorem dX8_use_34 : decode cX8_use 34 = .ok (.iconst 0, 1) := by decide +kernel
theorem dX8_use_35 : decode cX8_use 35 = .ok (.putfield 10, 3) := by decide +kernel
theorem dX8_use_38 : decode cX8_use 38 = .ok (.aload_n 0, 1) := by decide +kernel
theorem dX8_use_39 : decode cX8_use 39 = .ok (.getfield 13, 3) := by decide +kernel
theorem dX8_use_42 : decode cX8_use 42 = .ok (.iconst 0, 1) := by decide +kernel
theorem dX8_use_43 : decode cX8_use 43 = .ok (.iload_n 2, 1) := by decide +kernel
theorem dX8_use_44 : decode cX8_use 44 = .ok (.invokestatic 143, 3) := by decide +kernel
theorem dX8_use_47 : decode cX8_use 47 = .ok (.ifCond .ne 9, 3) := by decide +kernel
theorem dX8_use_50 : decode cX8_use 50 = .ok (.aload_n 0, 1) := by decide +kernel
theorem dX8_use_51 : decode cX8_use 51 = .ok (.iconst 2, 1) := by decide +kernel
theorem dX8_use_52 : decode cX8_use 52 = .ok (.invokevirtual 126, 3) := by decide +kernel
theorem dX8_use_55 : decode cX8_use 55 = .ok (.ireturn, 1) := by decide +kernel
theorem dX8_use_56 : decode cX8_use 56 = .ok (.aload_n 0, 1) := by decide +kernel
theorem dX8_use_57 : decode cX8_use 57 = .ok (.iload_n 1, 1) := by decide +kernel
theorem dX8_use_58 : decode cX8_use 58 = .ok (.aload_n 0, 1) := by decide +kernel
theorem dX8_use_59 : decode cX8_use 59 = .ok (.getfield 13, 3) := by decide +kernel
theorem dX8_use_62 : decode cX8_use 62 = .ok (.iconst 0, 1) := by decide +kernel
theorem dX8_use_63 : decode cX8_use 63 = .ok (.iload_n 2, 1) := by decide +kernel
theorem dX8_use_64 : decode cX8_use 64 = .ok (.aload_n 0, 1) := by decide +kernel
theorem dX8_use_65 : decode cX8_use 65 = .ok (.getfield 62, 3) := by decide +kernel
theorem dX8_use_68 : decode cX8_use 68 = .ok (.aload_n 0, 1) := by decide +kernel
theorem dX8_use_69 : decode cX8_use 69 = .ok (.getfield 53, 3) := by decide +kernel
theorem dX8_use_72 : decode cX8_use 72 = .ok (.invokevirtual 155, 3) := by decide +kernel
theorem dX8_use_75 : decode cX8_use 75 = .ok (.istore_n 3, 1) := by decide +kernel
theorem dX8_use_76 : decode cX8_use 76 = .ok (.iload_n 3, 1) := by decide +kernel
theorem dX8_use_77 : decode cX8_use 77 = .ok (.ifCond .ge 10, 3) := by decide +kernel
theorem dX8_use_80 : decode cX8_use 80 = .ok (.aload_n 0, 1) := by decide +kernel
theorem dX8_use_81 : decode cX8_use 81 = .ok (.bipush 6, 2) := by decide +kernel
theorem dX8_use_83 : decode cX8_use 83 = .ok (.invokevirtual 126, 3) := by decide +kernel
theorem dX8_use_86 : decode cX8_use 86 = .ok (.ireturn, 1) := by decide +kernel
theorem dX8_use_87 : decode cX8_use 87 = .ok (.aload_n 0, 1) := by decide +kernel
theorem dX8_use_88 : decode cX8_use 88 = .ok (.getfield 137, 3) := by decide +kernel
theorem dX8_use_91 : decode cX8_use 91 = .ok (.sipush 150, 3) := by decide +kernel
theorem dX8_use_94 : decode cX8_use 94 = .ok (.if_icmp .ne 9, 3) := by decide +kernel
theorem dX8_use_97 : decode cX8_use 97 = .ok (.aload_n 0, 1) := by decide +kernel
theorem dX8_use_98 : decode cX8_use 98 = .ok (.iconst 3, 1) := by decide +kernel
theorem dX8_use_99 : decode cX8_use 99 = .ok (.invokevirtual 126, 3) := by decide +kernel
theorem dX8_use_102 : decode cX8_use 102 = .ok (.ireturn, 1) := by decide +kernel
theorem dX8_use_103 : decode cX8_use 103 = .ok (.aload_n 0, 1) := by decide +kernel
theorem dX8_use_104 : decode cX8_use 104 = .ok (.getfield 56, 3) := by decide +kernel
theorem dX8_use_107 : decode cX8_use 107 = .ok (.aload_n 0, 1) := by decide +kernel
theorem dX8_use_108 : decode cX8_use 108 = .ok (.getfield 137, 3) := by decide +kernel
theorem dX8_use_111 : decode cX8_use 111 = .ok (.iload_n 1, 1) := by decide +kernel
theorem dX8_use_112 : decode cX8_use 112 = .ok (.iastore, 1) := by decide +kernel
theorem dX8_use_113 : decode cX8_use 113 = .ok (.aload_n 0, 1) := by decide +kernel
theorem dX8_use_114 : decode cX8_use 114 = .ok (.getfield 59, 3) := by decide +kernel
theorem dX8_use_117 : decode cX8_use 117 = .ok (.aload_n 0, 1) := by decide +kernel
theorem dX8_use_118 : decode cX8_use 118 = .ok (.getfield 137, 3) := by decide +kernel
theorem dX8_use_121 : decode cX8_use 121 = .ok (.iload_n 3, 1) := by decide +kernel
theorem dX8_use_122 : decode cX8_use 122 = .ok (.iastore, 1) := by decide +kernel
theorem dX8_use_123 : decode cX8_use 123 = .ok (.aload_n 0, 1) := by decide +kernel
theorem dX8_use_124 : decode cX8_use 124 = .ok (.dup, 1) := by decide +kernel
theorem dX8_use_125 : decode cX8_use 125 = .ok (.getfield 137, 3) := by decide +kernel
theorem dX8_use_128 : decode cX8_use 128 = .ok (.iconst 1, 1) := by decide +kernel
theorem dX8_use_129 : decode cX8_use 129 = .ok (.iadd, 1) := by decide +kernel
theorem dX8_use_130 : decode cX8_use 130 = .ok (.putfield 137, 3) := by decide +kernel
theorem dX8_use_133 : decode cX8_use 133 = .ok (.aload_n 0, 1) := by decide +kernel
theorem dX8_use_134 : decode cX8_use 134 = .ok (.iconst 0, 1) := by decide +kernel
theorem dX8_use_135 : decode cX8_use 135 = .ok (.putfield 151, 3) := by decide +kernel
theorem dX8_use_138 : decode cX8_use 138 = .ok (.aload_n 0, 1) := by decide +kernel
theorem dX8_use_139 : decode cX8_use 139 = .ok (.aload_n 0, 1) := by decide +kernel
theorem dX8_use_140 : decode cX8_use 140 = .ok (.getfield 137, 3) := by decide +kernel
theorem dX8_use_143 : decode cX8_use 143 = .ok (.iconst 1, 1) := by decide +kernel
theorem dX8_use_144 : decode cX8_use 144 = .ok (.isub, 1) := by decide +kernel
theorem dX8_use_145 : decode cX8_use 145 = .ok (.invokevirtual 130, 3) := by decide +kernel
theorem dX8_use_148 : decode cX8_use 148 = .ok (.ireturn, 1) := by decide +kernel
theorem dX8_find_0 : decode cX8_find 0 = .ok (.aload_n 0, 1) := by decide +kernel
theorem dX8_find_1 : decode cX8_find 1 = .ok (.iconst 0, 1) := by decide +kernel
theorem dX8_find_2 : decode cX8_find 2 = .ok (.putfield 1, 3) := by decide +kernel
theorem dX8_find_5 : decode cX8_find 5 = .ok (.aload_n 0, 1) := by decide +kernel
theorem dX8_find_6 : decode cX8_find 6 = .ok (.iload_n 1, 1) := by decide +kernel
theorem dX8_find_7 : decode cX8_find 7 = .ok (.invokevirtual 123, 3) := by decide +kernel
theorem dX8_find_10 : decode cX8_find 10 = .ok (.ifCond .ne 9, 3) := by decide +kernel
theorem dX8_find_13 : decode cX8_find 13 = .ok (.aload_n 0, 1) := by decide +kernel
theorem dX8_find_14 : decode cX8_find 14 = .ok (.iconst 1, 1) := by decide +kernel
theorem dX8_find_15 : decode cX8_find 15 = .ok (.invokevirtual 126, 3) := by decide +kernel
theorem dX8_find_18 : decode cX8_find 18 = .ok (.ireturn, 1) := by decide +kernel
theorem dX8_find_19 : decode cX8_find 19 = .ok (.aload_n 0, 1) := by decide +kernel
theorem dX8_find_20 : decode cX8_find 20 = .ok (.iload_n 2, 1) := by decide +kernel
theorem dX8_find_21 : decode cX8_find 21 = .ok (.invokevirtual 140, 3) := by decide +kernel
theorem dX8_find_24 : decode cX8_find 24 = .ok (.ifCond .ne 9, 3) := by decide +kernel
theorem dX8_find_27 : decode cX8_find 27 = .ok (.aload_n 0, 1) := by decide +kernel
theorem dX8_find_28 : decode cX8_find 28 = .ok (.iconst 2, 1) := by decide +kernel
theorem dX8_find_29 : decode cX8_find 29 = .ok (.invokevirtual 126, 3) := by decide +kernel
theorem dX8_find_32 : decode cX8_find 32 = .ok (.ireturn, 1) := by decide +kernel
theorem dX8_find_33 : decode cX8_find 33 = .ok (.aload_n 0, 1) := by decide +kernel
theorem dX8_find_34 : decode cX8_find 34 = .ok (.iconst 0, 1) := by decide +kernel
theorem dX8_find_35 : decode cX8_find 35 = .ok (.putfield 10, 3) := by decide +kernel
theorem dX8_find_38 : decode cX8_find 38 = .ok (.aload_n 0, 1) := by decide +kernel
theorem dX8_find_39 : decode cX8_find 39 = .ok (.getfield 13, 3) := by decide +kernel
theorem dX8_find_42 : decode cX8_find 42 = .ok (.iconst 0, 1) := by decide +kernel
theorem dX8_find_43 : decode cX8_find 43 = .ok (.iload_n 2, 1) := by decide +kernel
theorem dX8_find_44 : decode cX8_find 44 = .ok (.invokestatic 143, 3) := by decide +kernel
theorem dX8_find_47 : decode cX8_find 47 = .ok (.ifCond .ne 9, 3) := by decide +kernel
theorem dX8_find_50 : decode cX8_find 50 = .ok (.aload_n 0, 1) := by decide +kernel
theorem dX8_find_51 : decode cX8_find 51 = .ok (.iconst 2, 1) := by decide +kernel
theorem dX8_find_52 : decode cX8_find 52 = .ok (.invokevirtual 126, 3) := by decide +kernel
theorem dX8_find_55 : decode cX8_find 55 = .ok (.ireturn, 1) := by decide +kernel
theorem dX8_find_56 : decode cX8_find 56 = .ok (.aload_n 0, 1) := by decide +kernel
theorem dX8_find_57 : decode cX8_find 57 = .ok (.aload_n 0, 1) := by decide +kernel
theorem dX8_find_58 : decode cX8_find 58 = .ok (.iload_n 1, 1) := by decide +kernel
theorem dX8_find_59 : decode cX8_find 59 = .ok (.aload_n 0, 1) := by decide +kernel
theorem dX8_find_60 : decode cX8_find 60 = .ok (.getfield 13, 3) := by decide +kernel
theorem dX8_find_63 : decode cX8_find 63 = .ok (.iconst 0, 1) := by decide +kernel
theorem dX8_find_64 : decode cX8_find 64 = .ok (.iload_n 2, 1) := by decide +kernel
theorem dX8_find_65 : decode cX8_find 65 = .ok (.aload_n 0, 1) := by decide +kernel
theorem dX8_find_66 : decode cX8_find 66 = .ok (.getfield 62, 3) := by decide +kernel
theorem dX8_find_69 : decode cX8_find 69 = .ok (.aload_n 0, 1) := by decide +kernel
theorem dX8_find_70 : decode cX8_find 70 = .ok (.getfield 53, 3) := by decide +kernel
theorem dX8_find_73 : decode cX8_find 73 = .ok (.invokevirtual 155, 3) := by decide +kernel
theorem dX8_find_76 : decode cX8_find 76 = .ok (.invokevirtual 130, 3) := by decide +kernel
theorem dX8_find_79 : decode cX8_find 79 = .ok (.ireturn, 1) := by decide +kernel
theorem dX8_means_0 : decode cX8_means 0 = .ok (.aload_n 0, 1) := by decide +kernel
theorem dX8_means_1 : decode cX8_means 1 = .ok (.iconst 0, 1) := by decide +kernel
theorem dX8_means_2 : decode cX8_means 2 = .ok (.putfield 1, 3) := by decide +kernel
theorem dX8_means_5 : decode cX8_means 5 = .ok (.iload_n 1, 1) := by decide +kernel
theorem dX8_means_6 : decode cX8_means 6 = .ok (.ifCond .lt 11, 3) := by decide +kernel
theorem dX8_means_9 : decode cX8_means 9 = .ok (.iload_n 1, 1) := by decide +kernel
theorem dX8_means_10 : decode cX8_means 10 = .ok (.aload_n 0, 1) := by decide +kernel
theorem dX8_means_11 : decode cX8_means 11 = .ok (.getfield 137, 3) := by decide +kernel
theorem dX8_means_14 : decode cX8_means 14 = .ok (.if_icmp .lt 5, 3) := by decide +kernel
theorem dX8_means_17 : decode cX8_means 17 = .ok (.iconst (-1), 1) := by decide +kernel
theorem dX8_means_18 : decode cX8_means 18 = .ok (.ireturn, 1) := by decide +kernel
theorem dX8_means_19 : decode cX8_means 19 = .ok (.iload_n 2, 1) := by decide +kernel
theorem dX8_means_20 : decode cX8_means 20 = .ok (.ifCond .ne 12, 3) := by decide +kernel
theorem dX8_means_23 : decode cX8_means 23 = .ok (.aload_n 0, 1) := by decide +kernel
theorem dX8_means_24 : decode cX8_means 24 = .ok (.getfield 56, 3) := by decide +kernel
theorem dX8_means_27 : decode cX8_means 27 = .ok (.iload_n 1, 1) := by decide +kernel
theorem dX8_means_28 : decode cX8_means 28 = .ok (.iaload, 1) := by decide +kernel
theorem dX8_means_29 : decode cX8_means 29 = .ok (.goto 18, 3) := by decide +kernel
theorem dX8_means_32 : decode cX8_means 32 = .ok (.iload_n 2, 1) := by decide +kernel
theorem dX8_means_33 : decode cX8_means 33 = .ok (.iconst 1, 1) := by decide +kernel
theorem dX8_means_34 : decode cX8_means 34 = .ok (.if_icmp .ne 12, 3) := by decide +kernel
theorem dX8_means_37 : decode cX8_means 37 = .ok (.aload_n 0, 1) := by decide +kernel
theorem dX8_means_38 : decode cX8_means 38 = .ok (.getfield 59, 3) := by decide +kernel
theorem dX8_means_41 : decode cX8_means 41 = .ok (.iload_n 1, 1) := by decide +kernel
theorem dX8_means_42 : decode cX8_means 42 = .ok (.iaload, 1) := by decide +kernel
theorem dX8_means_43 : decode cX8_means 43 = .ok (.goto 4, 3) := by decide +kernel
theorem dX8_means_46 : decode cX8_means 46 = .ok (.iconst (-1), 1) := by decide +kernel
theorem dX8_means_47 : decode cX8_means 47 = .ok (.ireturn, 1) := by decide +kernel
theorem dX8_name_0 : decode cX8_name 0 = .ok (.aload_n 0, 1) := by decide +kernel
theorem dX8_name_1 : decode cX8_name 1 = .ok (.aload_n 0, 1) := by decide +kernel
theorem dX8_name_2 : decode cX8_name 2 = .ok (.iload_n 1, 1) := by decide +kernel
theorem dX8_name_3 : decode cX8_name 3 = .ok (.invokevirtual 159, 3) := by decide +kernel
theorem dX8_name_6 : decode cX8_name 6 = .ok (.ifCond .eq 17, 3) := by decide +kernel
theorem dX8_name_9 : decode cX8_name 9 = .ok (.iload_n 2, 1) := by decide +kernel
theorem dX8_name_10 : decode cX8_name 10 = .ok (.ifCond .lt 13, 3) := by decide +kernel
theorem dX8_name_13 : decode cX8_name 13 = .ok (.iload_n 2, 1) := by decide +kernel
theorem dX8_name_14 : decode cX8_name 14 = .ok (.aload_n 0, 1) := by decide +kernel
theorem dX8_name_15 : decode cX8_name 15 = .ok (.getfield 53, 3) := by decide +kernel
theorem dX8_name_18 : decode cX8_name 18 = .ok (.iload_n 1, 1) := by decide +kernel
theorem dX8_name_19 : decode cX8_name 19 = .ok (.iaload, 1) := by decide +kernel
theorem dX8_name_20 : decode cX8_name 20 = .ok (.if_icmp .lt 7, 3) := by decide +kernel
theorem dX8_name_23 : decode cX8_name 23 = .ok (.iconst 1, 1) := by decide +kernel
theorem dX8_name_24 : decode cX8_name 24 = .ok (.goto 4, 3) := by decide +kernel
theorem dX8_name_27 : decode cX8_name 27 = .ok (.iconst 0, 1) := by decide +kernel
theorem dX8_name_28 : decode cX8_name 28 = .ok (.putfield 1, 3) := by decide +kernel
theorem dX8_name_31 : decode cX8_name 31 = .ok (.aload_n 0, 1) := by decide +kernel
theorem dX8_name_32 : decode cX8_name 32 = .ok (.getfield 1, 3) := by decide +kernel
theorem dX8_name_35 : decode cX8_name 35 = .ok (.ifCond .le 7, 3) := by decide +kernel
theorem dX8_name_38 : decode cX8_name 38 = .ok (.iconst 0, 1) := by decide +kernel
theorem dX8_name_39 : decode cX8_name 39 = .ok (.goto 14, 3) := by decide +kernel
theorem dX8_name_42 : decode cX8_name 42 = .ok (.aload_n 0, 1) := by decide +kernel
theorem dX8_name_43 : decode cX8_name 43 = .ok (.getfield 62, 3) := by decide +kernel
theorem dX8_name_46 : decode cX8_name 46 = .ok (.bipush 24, 2) := by decide +kernel
theorem dX8_name_48 : decode cX8_name 48 = .ok (.iload_n 1, 1) := by decide +kernel
theorem dX8_name_49 : decode cX8_name 49 = .ok (.imul, 1) := by decide +kernel
theorem dX8_name_50 : decode cX8_name 50 = .ok (.iload_n 2, 1) := by decide +kernel
theorem dX8_name_51 : decode cX8_name 51 = .ok (.iadd, 1) := by decide +kernel
theorem dX8_name_52 : decode cX8_name 52 = .ok (.baload, 1) := by decide +kernel
theorem dX8_name_53 : decode cX8_name 53 = .ok (.ireturn, 1) := by decide +kernel
theorem dX8_cuts_0 : decode cX8_cuts 0 = .ok (.aload_n 0, 1) := by decide +kernel
theorem dX8_cuts_1 : decode cX8_cuts 1 = .ok (.iconst 0, 1) := by decide +kernel
theorem dX8_cuts_2 : decode cX8_cuts 2 = .ok (.putfield 162, 3) := by decide +kernel
theorem dX8_cuts_5 : decode cX8_cuts 5 = .ok (.iconst 0, 1) := by decide +kernel
theorem dX8_cuts_6 : decode cX8_cuts 6 = .ok (.istore_n 2, 1) := by decide +kernel
theorem dX8_cuts_7 : decode cX8_cuts 7 = .ok (.iload_n 2, 1) := by decide +kernel
theorem dX8_cuts_8 : decode cX8_cuts 8 = .ok (.aload_n 0, 1) := by decide +kernel
theorem dX8_cuts_9 : decode cX8_cuts 9 = .ok (.getfield 53, 3) := by decide +kernel
theorem dX8_cuts_12 : decode cX8_cuts 12 = .ok (.iload_n 1, 1) := by decide +kernel
theorem dX8_cuts_13 : decode cX8_cuts 13 = .ok (.iaload, 1) := by decide +kernel
theorem dX8_cuts_14 : decode cX8_cuts 14 = .ok (.if_icmp .ge 189, 3) := by decide +kernel
theorem dX8_cuts_17 : decode cX8_cuts 17 = .ok (.aload_n 0, 1) := by decide +kernel
theorem dX8_cuts_18 : decode cX8_cuts 18 = .ok (.getfield 62, 3) := by decide +kernel
theorem dX8_cuts_21 : decode cX8_cuts 21 = .ok (.bipush 24, 2) := by decide +kernel
theorem dX8_cuts_23 : decode cX8_cuts 23 = .ok (.iload_n 1, 1) := by decide +kernel
theorem dX8_cuts_24 : decode cX8_cuts 24 = .ok (.imul, 1) := by decide +kernel
theorem dX8_cuts_25 : decode cX8_cuts 25 = .ok (.iload_n 2, 1) := by decide +kernel
theorem dX8_cuts_26 : decode cX8_cuts 26 = .ok (.iadd, 1) := by decide +kernel
theorem dX8_cuts_27 : decode cX8_cuts 27 = .ok (.baload, 1) := by decide +kernel
theorem dX8_cuts_28 : decode cX8_cuts 28 = .ok (.istore_n 3, 1) := by decide +kernel
theorem dX8_cuts_29 : decode cX8_cuts 29 = .ok (.iload_n 3, 1) := by decide +kernel
theorem dX8_cuts_30 : decode cX8_cuts 30 = .ok (.bipush 95, 2) := by decide +kernel
theorem dX8_cuts_32 : decode cX8_cuts 32 = .ok (.if_icmp .ne 6, 3) := by decide +kernel
theorem dX8_cuts_35 : decode cX8_cuts 35 = .ok (.goto 162, 3) := by decide +kernel
theorem dX8_cuts_38 : decode cX8_cuts 38 = .ok (.iload_n 2, 1) := by decide +kernel
theorem dX8_cuts_39 : decode cX8_cuts 39 = .ok (.ifCond .ne 8, 3) := by decide +kernel
theorem dX8_cuts_42 : decode cX8_cuts 42 = .ok (.bipush 95, 2) := by decide +kernel
theorem dX8_cuts_44 : decode cX8_cuts 44 = .ok (.goto 16, 3) := by decide +kernel
theorem dX8_cuts_47 : decode cX8_cuts 47 = .ok (.aload_n 0, 1) := by decide +kernel
theorem dX8_cuts_48 : decode cX8_cuts 48 = .ok (.getfield 62, 3) := by decide +kernel
theorem dX8_cuts_51 : decode cX8_cuts 51 = .ok (.bipush 24, 2) := by decide +kernel
theorem dX8_cuts_53 : decode cX8_cuts 53 = .ok (.iload_n 1, 1) := by decide +kernel
theorem dX8_cuts_54 : decode cX8_cuts 54 = .ok (.imul, 1) := by decide +kernel
theorem dX8_cuts_55 : decode cX8_cuts 55 = .ok (.iload_n 2, 1) := by decide +kernel
theorem dX8_cuts_56 : decode cX8_cuts 56 = .ok (.iadd, 1) := by decide +kernel
theorem dX8_cuts_57 : decode cX8_cuts 57 = .ok (.iconst 1, 1) := by decide +kernel
theorem dX8_cuts_58 : decode cX8_cuts 58 = .ok (.isub, 1) := by decide +kernel
theorem dX8_cuts_59 : decode cX8_cuts 59 = .ok (.baload, 1) := by decide +kernel
theorem dX8_cuts_60 : decode cX8_cuts 60 = .ok (.istore 4, 2) := by decide +kernel
theorem dX8_cuts_62 : decode cX8_cuts 62 = .ok (.iload_n 2, 1) := by decide +kernel
theorem dX8_cuts_63 : decode cX8_cuts 63 = .ok (.iconst 1, 1) := by decide +kernel
theorem dX8_cuts_64 : decode cX8_cuts 64 = .ok (.iadd, 1) := by decide +kernel
theorem dX8_cuts_65 : decode cX8_cuts 65 = .ok (.aload_n 0, 1) := by decide +kernel
theorem dX8_cuts_66 : decode cX8_cuts 66 = .ok (.getfield 53, 3) := by decide +kernel
theorem dX8_cuts_69 : decode cX8_cuts 69 = .ok (.iload_n 1, 1) := by decide +kernel
theorem dX8_cuts_70 : decode cX8_cuts 70 = .ok (.iaload, 1) := by decide +kernel
theorem dX8_cuts_71 : decode cX8_cuts 71 = .ok (.if_icmp .ge 19, 3) := by decide +kernel
theorem dX8_cuts_74 : decode cX8_cuts 74 = .ok (.aload_n 0, 1) := by decide +kernel
theorem dX8_cuts_75 : decode cX8_cuts 75 = .ok (.getfield 62, 3) := by decide +kernel
theorem dX8_cuts_78 : decode cX8_cuts 78 = .ok (.bipush 24, 2) := by decide +kernel
theorem dX8_cuts_80 : decode cX8_cuts 80 = .ok (.iload_n 1, 1) := by decide +kernel
theorem dX8_cuts_81 : decode cX8_cuts 81 = .ok (.imul, 1) := by decide +kernel
theorem dX8_cuts_82 : decode cX8_cuts 82 = .ok (.iload_n 2, 1) := by decide +kernel
theorem dX8_cuts_83 : decode cX8_cuts 83 = .ok (.iadd, 1) := by decide +kernel
theorem dX8_cuts_84 : decode cX8_cuts 84 = .ok (.iconst 1, 1) := by decide +kernel
theorem dX8_cuts_85 : decode cX8_cuts 85 = .ok (.iadd, 1) := by decide +kernel
theorem dX8_cuts_86 : decode cX8_cuts 86 = .ok (.baload, 1) := by decide +kernel
theorem dX8_cuts_87 : decode cX8_cuts 87 = .ok (.goto 5, 3) := by decide +kernel
theorem dX8_cuts_90 : decode cX8_cuts 90 = .ok (.bipush 95, 2) := by decide +kernel
theorem dX8_cuts_92 : decode cX8_cuts 92 = .ok (.istore 5, 2) := by decide +kernel
theorem dX8_cuts_94 : decode cX8_cuts 94 = .ok (.iload 4, 2) := by decide +kernel
theorem dX8_cuts_96 : decode cX8_cuts 96 = .ok (.bipush 95, 2) := by decide +kernel
theorem dX8_cuts_98 : decode cX8_cuts 98 = .ok (.if_icmp .eq 53, 3) := by decide +kernel
theorem dX8_cuts_101 : decode cX8_cuts 101 = .ok (.iload 4, 2) := by decide +kernel
theorem dX8_cuts_103 : decode cX8_cuts 103 = .ok (.invokestatic 17, 3) := by decide +kernel
theorem dX8_cuts_106 : decode cX8_cuts 106 = .ok (.ifCond .eq 10, 3) := by decide +kernel
theorem dX8_cuts_109 : decode cX8_cuts 109 = .ok (.iload_n 3, 1) := by decide +kernel
theorem dX8_cuts_110 : decode cX8_cuts 110 = .ok (.invokestatic 21, 3) := by decide +kernel
theorem dX8_cuts_113 : decode cX8_cuts 113 = .ok (.ifCond .ne 38, 3) := by decide +kernel
theorem dX8_cuts_116 : decode cX8_cuts 116 = .ok (.iload 4, 2) := by decide +kernel
theorem dX8_cuts_118 : decode cX8_cuts 118 = .ok (.invokestatic 21, 3) := by decide +kernel
theorem dX8_cuts_121 : decode cX8_cuts 121 = .ok (.ifCond .eq 18, 3) := by decide +kernel
theorem dX8_cuts_124 : decode cX8_cuts 124 = .ok (.iload_n 3, 1) := by decide +kernel
theorem dX8_cuts_125 : decode cX8_cuts 125 = .ok (.invokestatic 21, 3) := by decide +kernel
theorem dX8_cuts_128 : decode cX8_cuts 128 = .ok (.ifCond .eq 11, 3) := by decide +kernel
theorem dX8_cuts_131 : decode cX8_cuts 131 = .ok (.iload 5, 2) := by decide +kernel
theorem dX8_cuts_133 : decode cX8_cuts 133 = .ok (.invokestatic 17, 3) := by decide +kernel
theorem dX8_cuts_136 : decode cX8_cuts 136 = .ok (.ifCond .ne 15, 3) := by decide +kernel
theorem dX8_cuts_139 : decode cX8_cuts 139 = .ok (.iload 4, 2) := by decide +kernel
theorem dX8_cuts_141 : decode cX8_cuts 141 = .ok (.invokestatic 28, 3) := by decide +kernel
theorem dX8_cuts_144 : decode cX8_cuts 144 = .ok (.iload_n 3, 1) := by decide +kernel
theorem dX8_cuts_145 : decode cX8_cuts 145 = .ok (.invokestatic 28, 3) := by decide +kernel
theorem dX8_cuts_148 : decode cX8_cuts 148 = .ok (.if_icmp .eq 7, 3) := by decide +kernel
theorem dX8_cuts_151 : decode cX8_cuts 151 = .ok (.iconst 1, 1) := by decide +kernel
theorem dX8_cuts_152 : decode cX8_cuts 152 = .ok (.goto 4, 3) := by decide +kernel
theorem dX8_cuts_155 : decode cX8_cuts 155 = .ok (.iconst 0, 1) := by decide +kernel
theorem dX8_cuts_156 : decode cX8_cuts 156 = .ok (.istore 6, 2) := by decide +kernel
theorem dX8_cuts_158 : decode cX8_cuts 158 = .ok (.iload 6, 2) := by decide +kernel
theorem dX8_cuts_160 : decode cX8_cuts 160 = .ok (.ifCond .eq 23, 3) := by decide +kernel
theorem dX8_cuts_163 : decode cX8_cuts 163 = .ok (.aload_n 0, 1) := by decide +kernel
theorem dX8_cuts_164 : decode cX8_cuts 164 = .ok (.getfield 65, 3) := by decide +kernel
theorem dX8_cuts_167 : decode cX8_cuts 167 = .ok (.aload_n 0, 1) := by decide +kernel
theorem dX8_cuts_168 : decode cX8_cuts 168 = .ok (.getfield 162, 3) := by decide +kernel
theorem dX8_cuts_171 : decode cX8_cuts 171 = .ok (.iload_n 2, 1) := by decide +kernel
theorem dX8_cuts_172 : decode cX8_cuts 172 = .ok (.iastore, 1) := by decide +kernel
theorem dX8_cuts_173 : decode cX8_cuts 173 = .ok (.aload_n 0, 1) := by decide +kernel
theorem dX8_cuts_174 : decode cX8_cuts 174 = .ok (.dup, 1) := by decide +kernel
theorem dX8_cuts_175 : decode cX8_cuts 175 = .ok (.getfield 162, 3) := by decide +kernel
theorem dX8_cuts_178 : decode cX8_cuts 178 = .ok (.iconst 1, 1) := by decide +kernel
theorem dX8_cuts_179 : decode cX8_cuts 179 = .ok (.iadd, 1) := by decide +kernel
theorem dX8_cuts_180 : decode cX8_cuts 180 = .ok (.putfield 162, 3) := by decide +kernel
theorem dX8_cuts_183 : decode cX8_cuts 183 = .ok (.aload_n 0, 1) := by decide +kernel
theorem dX8_cuts_184 : decode cX8_cuts 184 = .ok (.getfield 68, 3) := by decide +kernel
theorem dX8_cuts_187 : decode cX8_cuts 187 = .ok (.aload_n 0, 1) := by decide +kernel
theorem dX8_cuts_188 : decode cX8_cuts 188 = .ok (.getfield 162, 3) := by decide +kernel
theorem dX8_cuts_191 : decode cX8_cuts 191 = .ok (.iconst 1, 1) := by decide +kernel
theorem dX8_cuts_192 : decode cX8_cuts 192 = .ok (.isub, 1) := by decide +kernel
theorem dX8_cuts_193 : decode cX8_cuts 193 = .ok (.iload_n 2, 1) := by decide +kernel
theorem dX8_cuts_194 : decode cX8_cuts 194 = .ok (.iconst 1, 1) := by decide +kernel
theorem dX8_cuts_195 : decode cX8_cuts 195 = .ok (.iadd, 1) := by decide +kernel
theorem dX8_cuts_196 : decode cX8_cuts 196 = .ok (.iastore, 1) := by decide +kernel
theorem dX8_cuts_197 : decode cX8_cuts 197 = .ok (.iinc 2 1, 3) := by decide +kernel
theorem dX8_cuts_200 : decode cX8_cuts 200 = .ok (.goto (-193), 3) := by decide +kernel
theorem dX8_cuts_203 : decode cX8_cuts 203 = .ok (.return_, 1) := by decide +kernel
theorem dX8_styleOf_0 : decode cX8_styleOf 0 = .ok (.iconst 0, 1) := by decide +kernel
theorem dX8_styleOf_1 : decode cX8_styleOf 1 = .ok (.istore_n 2, 1) := by decide +kernel
theorem dX8_styleOf_2 : decode cX8_styleOf 2 = .ok (.iconst 0, 1) := by decide +kernel
theorem dX8_styleOf_3 : decode cX8_styleOf 3 = .ok (.istore_n 3, 1) := by decide +kernel
theorem dX8_styleOf_4 : decode cX8_styleOf 4 = .ok (.iconst 0, 1) := by decide +kernel
theorem dX8_styleOf_5 : decode cX8_styleOf 5 = .ok (.istore 4, 2) := by decide +kernel
theorem dX8_styleOf_7 : decode cX8_styleOf 7 = .ok (.iconst 0, 1) := by decide +kernel
theorem dX8_styleOf_8 : decode cX8_styleOf 8 = .ok (.istore 5, 2) := by decide +kernel
theorem dX8_styleOf_10 : decode cX8_styleOf 10 = .ok (.bipush 24, 2) := by decide +kernel
theorem dX8_styleOf_12 : decode cX8_styleOf 12 = .ok (.iload_n 1, 1) := by decide +kernel
theorem dX8_styleOf_13 : decode cX8_styleOf 13 = .ok (.imul, 1) := by decide +kernel
theorem dX8_styleOf_14 : decode cX8_styleOf 14 = .ok (.aload_n 0, 1) := by decide +kernel
theorem dX8_styleOf_15 : decode cX8_styleOf 15 = .ok (.getfield 53, 3) := by decide +kernel
theorem dX8_styleOf_18 : decode cX8_styleOf 18 = .ok (.iload_n 1, 1) := by decide +kernel
theorem dX8_styleOf_19 : decode cX8_styleOf 19 = .ok (.iaload, 1) := by decide +kernel
theorem dX8_styleOf_20 : decode cX8_styleOf 20 = .ok (.iadd, 1) := by decide +kernel
theorem dX8_styleOf_21 : decode cX8_styleOf 21 = .ok (.iconst 1, 1) := by decide +kernel
theorem dX8_styleOf_22 : decode cX8_styleOf 22 = .ok (.isub, 1) := by decide +kernel
theorem dX8_styleOf_23 : decode cX8_styleOf 23 = .ok (.istore 6, 2) := by decide +kernel
theorem dX8_styleOf_25 : decode cX8_styleOf 25 = .ok (.iload 6, 2) := by decide +kernel
theorem dX8_styleOf_27 : decode cX8_styleOf 27 = .ok (.bipush 24, 2) := by decide +kernel
theorem dX8_styleOf_29 : decode cX8_styleOf 29 = .ok (.iload_n 1, 1) := by decide +kernel
theorem dX8_styleOf_30 : decode cX8_styleOf 30 = .ok (.imul, 1) := by decide +kernel
theorem dX8_styleOf_31 : decode cX8_styleOf 31 = .ok (.if_icmp .lt 101, 3) := by decide +kernel
theorem dX8_styleOf_34 : decode cX8_styleOf 34 = .ok (.iload_n 2, 1) := by decide +kernel
theorem dX8_styleOf_35 : decode cX8_styleOf 35 = .ok (.ifCond .ne 15, 3) := by decide +kernel
theorem dX8_styleOf_38 : decode cX8_styleOf 38 = .ok (.aload_n 0, 1) := by decide +kernel
theorem dX8_styleOf_39 : decode cX8_styleOf 39 = .ok (.getfield 62, 3) := by decide +kernel
theorem dX8_styleOf_42 : decode cX8_styleOf 42 = .ok (.iload 6, 2) := by decide +kernel
theorem dX8_styleOf_44 : decode cX8_styleOf 44 = .ok (.baload, 1) := by decide +kernel
theorem dX8_styleOf_45 : decode cX8_styleOf 45 = .ok (.bipush 95, 2) := by decide +kernel
theorem dX8_styleOf_47 : decode cX8_styleOf 47 = .ok (.if_icmp .ne 7, 3) := by decide +kernel
theorem dX8_styleOf_50 : decode cX8_styleOf 50 = .ok (.iconst 1, 1) := by decide +kernel
theorem dX8_styleOf_51 : decode cX8_styleOf 51 = .ok (.goto 4, 3) := by decide +kernel
theorem dX8_styleOf_54 : decode cX8_styleOf 54 = .ok (.iconst 0, 1) := by decide +kernel
theorem dX8_styleOf_55 : decode cX8_styleOf 55 = .ok (.istore_n 2, 1) := by decide +kernel
theorem dX8_styleOf_56 : decode cX8_styleOf 56 = .ok (.iload_n 3, 1) := by decide +kernel
theorem dX8_styleOf_57 : decode cX8_styleOf 57 = .ok (.ifCond .ne 16, 3) := by decide +kernel
theorem dX8_styleOf_60 : decode cX8_styleOf 60 = .ok (.aload_n 0, 1) := by decide +kernel
theorem dX8_styleOf_61 : decode cX8_styleOf 61 = .ok (.getfield 62, 3) := by decide +kernel
theorem dX8_styleOf_64 : decode cX8_styleOf 64 = .ok (.iload 6, 2) := by decide +kernel
theorem dX8_styleOf_66 : decode cX8_styleOf 66 = .ok (.baload, 1) := by decide +kernel
theorem dX8_styleOf_67 : decode cX8_styleOf 67 = .ok (.invokestatic 21, 3) := by decide +kernel
theorem dX8_styleOf_70 : decode cX8_styleOf 70 = .ok (.ifCond .eq 7, 3) := by decide +kernel
theorem dX8_styleOf_73 : decode cX8_styleOf 73 = .ok (.iconst 1, 1) := by decide +kernel
theorem dX8_styleOf_74 : decode cX8_styleOf 74 = .ok (.goto 4, 3) := by decide +kernel
theorem dX8_styleOf_77 : decode cX8_styleOf 77 = .ok (.iconst 0, 1) := by decide +kernel
theorem dX8_styleOf_78 : decode cX8_styleOf 78 = .ok (.istore_n 3, 1) := by decide +kernel
theorem dX8_styleOf_79 : decode cX8_styleOf 79 = .ok (.iload 4, 2) := by decide +kernel
theorem dX8_styleOf_81 : decode cX8_styleOf 81 = .ok (.ifCond .ne 16, 3) := by decide +kernel
theorem dX8_styleOf_84 : decode cX8_styleOf 84 = .ok (.aload_n 0, 1) := by decide +kernel
theorem dX8_styleOf_85 : decode cX8_styleOf 85 = .ok (.getfield 62, 3) := by decide +kernel
theorem dX8_styleOf_88 : decode cX8_styleOf 88 = .ok (.iload 6, 2) := by decide +kernel
theorem dX8_styleOf_90 : decode cX8_styleOf 90 = .ok (.baload, 1) := by decide +kernel
theorem dX8_styleOf_91 : decode cX8_styleOf 91 = .ok (.invokestatic 17, 3) := by decide +kernel
theorem dX8_styleOf_94 : decode cX8_styleOf 94 = .ok (.ifCond .eq 7, 3) := by decide +kernel
theorem dX8_styleOf_97 : decode cX8_styleOf 97 = .ok (.iconst 1, 1) := by decide +kernel
theorem dX8_styleOf_98 : decode cX8_styleOf 98 = .ok (.goto 4, 3) := by decide +kernel
theorem dX8_styleOf_101 : decode cX8_styleOf 101 = .ok (.iconst 0, 1) := by decide +kernel
theorem dX8_styleOf_102 : decode cX8_styleOf 102 = .ok (.istore 4, 2) := by decide +kernel
theorem dX8_styleOf_104 : decode cX8_styleOf 104 = .ok (.aload_n 0, 1) := by decide +kernel
theorem dX8_styleOf_105 : decode cX8_styleOf 105 = .ok (.getfield 62, 3) := by decide +kernel
theorem dX8_styleOf_108 : decode cX8_styleOf 108 = .ok (.iload 6, 2) := by decide +kernel
theorem dX8_styleOf_110 : decode cX8_styleOf 110 = .ok (.baload, 1) := by decide +kernel
theorem dX8_styleOf_111 : decode cX8_styleOf 111 = .ok (.invokestatic 31, 3) := by decide +kernel
theorem dX8_styleOf_114 : decode cX8_styleOf 114 = .ok (.ifCond .eq 12, 3) := by decide +kernel
theorem dX8_styleOf_117 : decode cX8_styleOf 117 = .ok (.aload_n 0, 1) := by decide +kernel
theorem dX8_styleOf_118 : decode cX8_styleOf 118 = .ok (.getfield 62, 3) := by decide +kernel
theorem dX8_styleOf_121 : decode cX8_styleOf 121 = .ok (.iload 6, 2) := by decide +kernel
theorem dX8_styleOf_123 : decode cX8_styleOf 123 = .ok (.baload, 1) := by decide +kernel
theorem dX8_styleOf_124 : decode cX8_styleOf 124 = .ok (.istore 5, 2) := by decide +kernel
theorem dX8_styleOf_126 : decode cX8_styleOf 126 = .ok (.iinc 6 (-1), 3) := by decide +kernel
theorem dX8_styleOf_129 : decode cX8_styleOf 129 = .ok (.goto (-104), 3) := by decide +kernel
theorem dX8_styleOf_132 : decode cX8_styleOf 132 = .ok (.iload_n 2, 1) := by decide +kernel
theorem dX8_styleOf_133 : decode cX8_styleOf 133 = .ok (.ifCond .eq 11, 3) := by decide +kernel
theorem dX8_styleOf_136 : decode cX8_styleOf 136 = .ok (.iload_n 3, 1) := by decide +kernel
theorem dX8_styleOf_137 : decode cX8_styleOf 137 = .ok (.ifCond .ne 7, 3) := by decide +kernel
theorem dX8_styleOf_140 : decode cX8_styleOf 140 = .ok (.iconst 2, 1) := by decide +kernel
theorem dX8_styleOf_141 : decode cX8_styleOf 141 = .ok (.goto 29, 3) := by decide +kernel
theorem dX8_styleOf_144 : decode cX8_styleOf 144 = .ok (.iload_n 2, 1) := by decide +kernel
theorem dX8_styleOf_145 : decode cX8_styleOf 145 = .ok (.ifCond .eq 12, 3) := by decide +kernel
theorem dX8_styleOf_148 : decode cX8_styleOf 148 = .ok (.iload 4, 2) := by decide +kernel
theorem dX8_styleOf_150 : decode cX8_styleOf 150 = .ok (.ifCond .ne 7, 3) := by decide +kernel
theorem dX8_styleOf_153 : decode cX8_styleOf 153 = .ok (.iconst 3, 1) := by decide +kernel
theorem dX8_styleOf_154 : decode cX8_styleOf 154 = .ok (.goto 16, 3) := by decide +kernel
theorem dX8_styleOf_157 : decode cX8_styleOf 157 = .ok (.iload 5, 2) := by decide +kernel
theorem dX8_styleOf_159 : decode cX8_styleOf 159 = .ok (.invokestatic 21, 3) := by decide +kernel
theorem dX8_styleOf_162 : decode cX8_styleOf 162 = .ok (.ifCond .eq 7, 3) := by decide +kernel
theorem dX8_styleOf_165 : decode cX8_styleOf 165 = .ok (.iconst 1, 1) := by decide +kernel
theorem dX8_styleOf_166 : decode cX8_styleOf 166 = .ok (.goto 4, 3) := by decide +kernel
theorem dX8_styleOf_169 : decode cX8_styleOf 169 = .ok (.iconst 0, 1) := by decide +kernel
theorem dX8_styleOf_170 : decode cX8_styleOf 170 = .ok (.ireturn, 1) := by decide +kernel
theorem dX8_low_0 : decode cX8_low 0 = .ok (.iload_n 0, 1) := by decide +kernel
theorem dX8_low_1 : decode cX8_low 1 = .ok (.invokestatic 21, 3) := by decide +kernel
theorem dX8_low_4 : decode cX8_low 4 = .ok (.ifCond .eq 10, 3) := by decide +kernel
theorem dX8_low_7 : decode cX8_low 7 = .ok (.iload_n 0, 1) := by decide +kernel
theorem dX8_low_8 : decode cX8_low 8 = .ok (.bipush 32, 2) := by decide +kernel
theorem dX8_low_10 : decode cX8_low 10 = .ok (.iadd, 1) := by decide +kernel
theorem dX8_low_11 : decode cX8_low 11 = .ok (.goto 4, 3) := by decide +kernel
theorem dX8_low_14 : decode cX8_low 14 = .ok (.iload_n 0, 1) := by decide +kernel
theorem dX8_low_15 : decode cX8_low 15 = .ok (.ireturn, 1) := by decide +kernel
theorem dX8_isWord_0 : decode cX8_isWord 0 = .ok (.iload_n 1, 1) := by decide +kernel
theorem dX8_isWord_1 : decode cX8_isWord 1 = .ok (.ifCond .lt 15, 3) := by decide +kernel
theorem dX8_isWord_4 : decode cX8_isWord 4 = .ok (.iload_n 1, 1) := by decide +kernel
theorem dX8_isWord_5 : decode cX8_isWord 5 = .ok (.aload_n 0, 1) := by decide +kernel
theorem dX8_isWord_6 : decode cX8_isWord 6 = .ok (.getfield 165, 3) := by decide +kernel
theorem dX8_isWord_9 : decode cX8_isWord 9 = .ok (.if_icmp .ge 7, 3) := by decide +kernel
theorem dX8_isWord_12 : decode cX8_isWord 12 = .ok (.iconst 1, 1) := by decide +kernel
theorem dX8_isWord_13 : decode cX8_isWord 13 = .ok (.goto 4, 3) := by decide +kernel
theorem dX8_isWord_16 : decode cX8_isWord 16 = .ok (.iconst 0, 1) := by decide +kernel
theorem dX8_isWord_17 : decode cX8_isWord 17 = .ok (.ireturn, 1) := by decide +kernel
theorem dX8_word_0 : decode cX8_word 0 = .ok (.aload_n 0, 1) := by decide +kernel
theorem dX8_word_1 : decode cX8_word 1 = .ok (.iconst 0, 1) := by decide +kernel
theorem dX8_word_2 : decode cX8_word 2 = .ok (.putfield 1, 3) := by decide +kernel
theorem dX8_word_5 : decode cX8_word 5 = .ok (.iload_n 1, 1) := by decide +kernel
theorem dX8_word_6 : decode cX8_word 6 = .ok (.iconst 0, 1) := by decide +kernel
theorem dX8_word_7 : decode cX8_word 7 = .ok (.bipush 15, 2) := by decide +kernel
theorem dX8_word_9 : decode cX8_word 9 = .ok (.invokestatic 24, 3) := by decide +kernel
theorem dX8_word_12 : decode cX8_word 12 = .ok (.ifCond .eq 11, 3) := by decide +kernel
theorem dX8_word_15 : decode cX8_word 15 = .ok (.aload_n 0, 1) := by decide +kernel
theorem dX8_word_16 : decode cX8_word 16 = .ok (.iload_n 2, 1) := by decide +kernel
theorem dX8_word_17 : decode cX8_word 17 = .ok (.invokevirtual 140, 3) := by decide +kernel
theorem dX8_word_20 : decode cX8_word 20 = .ok (.ifCond .ne 9, 3) := by decide +kernel
theorem dX8_word_23 : decode cX8_word 23 = .ok (.aload_n 0, 1) := by decide +kernel
theorem dX8_word_24 : decode cX8_word 24 = .ok (.iconst 2, 1) := by decide +kernel
theorem dX8_word_25 : decode cX8_word 25 = .ok (.invokevirtual 126, 3) := by decide +kernel
theorem dX8_word_28 : decode cX8_word 28 = .ok (.ireturn, 1) := by decide +kernel
theorem dX8_word_29 : decode cX8_word 29 = .ok (.aload_n 0, 1) := by decide +kernel
theorem dX8_word_30 : decode cX8_word 30 = .ok (.iconst 0, 1) := by decide +kernel
theorem dX8_word_31 : decode cX8_word 31 = .ok (.putfield 10, 3) := by decide +kernel
theorem dX8_word_34 : decode cX8_word 34 = .ok (.iload_n 2, 1) := by decide +kernel
theorem dX8_word_35 : decode cX8_word 35 = .ok (.iconst 1, 1) := by decide +kernel
theorem dX8_word_36 : decode cX8_word 36 = .ok (.bipush 12, 2) := by decide +kernel
theorem dX8_word_38 : decode cX8_word 38 = .ok (.invokestatic 24, 3) := by decide +kernel
theorem dX8_word_41 : decode cX8_word 41 = .ok (.istore_n 3, 1) := by decide +kernel
theorem dX8_word_42 : decode cX8_word 42 = .ok (.iconst 0, 1) := by decide +kernel
theorem dX8_word_43 : decode cX8_word 43 = .ok (.istore 4, 2) := by decide +kernel
theorem dX8_word_45 : decode cX8_word 45 = .ok (.iload 4, 2) := by decide +kernel
theorem dX8_word_47 : decode cX8_word 47 = .ok (.iload_n 2, 1) := by decide +kernel
theorem dX8_word_48 : decode cX8_word 48 = .ok (.if_icmp .ge 24, 3) := by decide +kernel
theorem dX8_word_51 : decode cX8_word 51 = .ok (.iload_n 3, 1) := by decide +kernel
theorem dX8_word_52 : decode cX8_word 52 = .ok (.ifCond .eq 20, 3) := by decide +kernel
theorem dX8_word_55 : decode cX8_word 55 = .ok (.aload_n 0, 1) := by decide +kernel
theorem dX8_word_56 : decode cX8_word 56 = .ok (.getfield 13, 3) := by decide +kernel
theorem dX8_word_59 : decode cX8_word 59 = .ok (.iload 4, 2) := by decide +kernel
theorem dX8_word_61 : decode cX8_word 61 = .ok (.baload, 1) := by decide +kernel
theorem dX8_word_62 : decode cX8_word 62 = .ok (.invokestatic 17, 3) := by decide +kernel
theorem dX8_word_65 : decode cX8_word 65 = .ok (.istore_n 3, 1) := by decide +kernel
theorem dX8_word_66 : decode cX8_word 66 = .ok (.iinc 4 1, 3) := by decide +kernel
theorem dX8_word_69 : decode cX8_word 69 = .ok (.goto (-24), 3) := by decide +kernel
theorem dX8_word_72 : decode cX8_word 72 = .ok (.iload_n 3, 1) := by decide +kernel
theorem dX8_word_73 : decode cX8_word 73 = .ok (.ifCond .ne 9, 3) := by decide +kernel
theorem dX8_word_76 : decode cX8_word 76 = .ok (.aload_n 0, 1) := by decide +kernel
theorem dX8_word_77 : decode cX8_word 77 = .ok (.iconst 2, 1) := by decide +kernel
theorem dX8_word_78 : decode cX8_word 78 = .ok (.invokevirtual 126, 3) := by decide +kernel
theorem dX8_word_81 : decode cX8_word 81 = .ok (.ireturn, 1) := by decide +kernel
theorem dX8_word_82 : decode cX8_word 82 = .ok (.iconst 0, 1) := by decide +kernel
theorem dX8_word_83 : decode cX8_word 83 = .ok (.istore 4, 2) := by decide +kernel
theorem dX8_word_85 : decode cX8_word 85 = .ok (.iconst 0, 1) := by decide +kernel
theorem dX8_word_86 : decode cX8_word 86 = .ok (.istore 5, 2) := by decide +kernel
theorem dX8_word_88 : decode cX8_word 88 = .ok (.iload 5, 2) := by decide +kernel
theorem dX8_word_90 : decode cX8_word 90 = .ok (.aload_n 0, 1) := by decide +kernel
theorem dX8_word_91 : decode cX8_word 91 = .ok (.getfield 165, 3) := by decide +kernel
theorem dX8_word_94 : decode cX8_word 94 = .ok (.if_icmp .ge 49, 3) := by decide +kernel
theorem dX8_word_97 : decode cX8_word 97 = .ok (.iload 4, 2) := by decide +kernel
theorem dX8_word_99 : decode cX8_word 99 = .ok (.ifCond .ne 31, 3) := by decide +kernel
theorem dX8_word_102 : decode cX8_word 102 = .ok (.aload_n 0, 1) := by decide +kernel
theorem dX8_word_103 : decode cX8_word 103 = .ok (.getfield 71, 3) := by decide +kernel
theorem dX8_word_106 : decode cX8_word 106 = .ok (.bipush 12, 2) := by decide +kernel
theorem dX8_word_108 : decode cX8_word 108 = .ok (.iload 5, 2) := by decide +kernel
theorem dX8_word_110 : decode cX8_word 110 = .ok (.imul, 1) := by decide +kernel
theorem dX8_word_111 : decode cX8_word 111 = .ok (.aload_n 0, 1) := by decide +kernel
theorem dX8_word_112 : decode cX8_word 112 = .ok (.getfield 74, 3) := by decide +kernel
theorem dX8_word_115 : decode cX8_word 115 = .ok (.iload 5, 2) := by decide +kernel
theorem dX8_word_117 : decode cX8_word 117 = .ok (.iaload, 1) := by decide +kernel
theorem dX8_word_118 : decode cX8_word 118 = .ok (.aload_n 0, 1) := by decide +kernel
theorem dX8_word_119 : decode cX8_word 119 = .ok (.getfield 13, 3) := by decide +kernel
theorem dX8_word_122 : decode cX8_word 122 = .ok (.iconst 0, 1) := by decide +kernel
theorem dX8_word_123 : decode cX8_word 123 = .ok (.iload_n 2, 1) := by decide +kernel
theorem dX8_word_124 : decode cX8_word 124 = .ok (.invokestatic 133, 3) := by decide +kernel
theorem dX8_word_127 : decode cX8_word 127 = .ok (.ifCond .eq 7, 3) := by decide +kernel
theorem dX8_word_130 : decode cX8_word 130 = .ok (.iconst 1, 1) := by decide +kernel
theorem dX8_word_131 : decode cX8_word 131 = .ok (.goto 4, 3) := by decide +kernel
theorem dX8_word_134 : decode cX8_word 134 = .ok (.iconst 0, 1) := by decide +kernel
theorem dX8_word_135 : decode cX8_word 135 = .ok (.istore 4, 2) := by decide +kernel
theorem dX8_word_137 : decode cX8_word 137 = .ok (.iinc 5 1, 3) := by decide +kernel
theorem dX8_word_140 : decode cX8_word 140 = .ok (.goto (-52), 3) := by decide +kernel
theorem dX8_word_143 : decode cX8_word 143 = .ok (.iload 4, 2) := by decide +kernel
theorem dX8_word_145 : decode cX8_word 145 = .ok (.ifCond .eq 9, 3) := by decide +kernel
theorem dX8_word_148 : decode cX8_word 148 = .ok (.aload_n 0, 1) := by decide +kernel
theorem dX8_word_149 : decode cX8_word 149 = .ok (.iconst 4, 1) := by decide +kernel
theorem dX8_word_150 : decode cX8_word 150 = .ok (.invokevirtual 126, 3) := by decide +kernel
theorem dX8_word_153 : decode cX8_word 153 = .ok (.ireturn, 1) := by decide +kernel
theorem dX8_word_154 : decode cX8_word 154 = .ok (.aload_n 0, 1) := by decide +kernel
theorem dX8_word_155 : decode cX8_word 155 = .ok (.getfield 165, 3) := by decide +kernel
theorem dX8_word_158 : decode cX8_word 158 = .ok (.bipush 60, 2) := by decide +kernel
theorem dX8_word_160 : decode cX8_word 160 = .ok (.if_icmp .ne 9, 3) := by decide +kernel
theorem dX8_word_163 : decode cX8_word 163 = .ok (.aload_n 0, 1) := by decide +kernel
theorem dX8_word_164 : decode cX8_word 164 = .ok (.iconst 3, 1) := by decide +kernel
theorem dX8_word_165 : decode cX8_word 165 = .ok (.invokevirtual 126, 3) := by decide +kernel
theorem dX8_word_168 : decode cX8_word 168 = .ok (.ireturn, 1) := by decide +kernel
theorem dX8_word_169 : decode cX8_word 169 = .ok (.iconst 0, 1) := by decide +kernel
theorem dX8_word_170 : decode cX8_word 170 = .ok (.istore 5, 2) := by decide +kernel
theorem dX8_word_172 : decode cX8_word 172 = .ok (.iload 5, 2) := by decide +kernel
theorem dX8_word_174 : decode cX8_word 174 = .ok (.iload_n 2, 1) := by decide +kernel
theorem dX8_word_175 : decode cX8_word 175 = .ok (.if_icmp .ge 31, 3) := by decide +kernel
theorem dX8_word_178 : decode cX8_word 178 = .ok (.aload_n 0, 1) := by decide +kernel
theorem dX8_word_179 : decode cX8_word 179 = .ok (.getfield 71, 3) := by decide +kernel
theorem dX8_word_182 : decode cX8_word 182 = .ok (.bipush 12, 2) := by decide +kernel
theorem dX8_word_184 : decode cX8_word 184 = .ok (.aload_n 0, 1) := by decide +kernel
theorem dX8_word_185 : decode cX8_word 185 = .ok (.getfield 165, 3) := by decide +kernel
theorem dX8_word_188 : decode cX8_word 188 = .ok (.imul, 1) := by decide +kernel
theorem dX8_word_189 : decode cX8_word 189 = .ok (.iload 5, 2) := by decide +kernel
theorem dX8_word_191 : decode cX8_word 191 = .ok (.iadd, 1) := by decide +kernel
theorem dX8_word_192 : decode cX8_word 192 = .ok (.aload_n 0, 1) := by decide +kernel
theorem dX8_word_193 : decode cX8_word 193 = .ok (.getfield 13, 3) := by decide +kernel
theorem dX8_word_196 : decode cX8_word 196 = .ok (.iload 5, 2) := by decide +kernel
theorem dX8_word_198 : decode cX8_word 198 = .ok (.baload, 1) := by decide +kernel
theorem dX8_word_199 : decode cX8_word 199 = .ok (.bastore, 1) := by decide +kernel
theorem dX8_word_200 : decode cX8_word 200 = .ok (.iinc 5 1, 3) := by decide +kernel
theorem dX8_word_203 : decode cX8_word 203 = .ok (.goto (-31), 3) := by decide +kernel
theorem dX8_word_206 : decode cX8_word 206 = .ok (.aload_n 0, 1) := by decide +kernel
theorem dX8_word_207 : decode cX8_word 207 = .ok (.getfield 74, 3) := by decide +kernel
theorem dX8_word_210 : decode cX8_word 210 = .ok (.aload_n 0, 1) := by decide +kernel
theorem dX8_word_211 : decode cX8_word 211 = .ok (.getfield 165, 3) := by decide +kernel
theorem dX8_word_214 : decode cX8_word 214 = .ok (.iload_n 2, 1) := by decide +kernel
theorem dX8_word_215 : decode cX8_word 215 = .ok (.iastore, 1) := by decide +kernel
theorem dX8_word_216 : decode cX8_word 216 = .ok (.aload_n 0, 1) := by decide +kernel
theorem dX8_word_217 : decode cX8_word 217 = .ok (.getfield 77, 3) := by decide +kernel
theorem dX8_word_220 : decode cX8_word 220 = .ok (.aload_n 0, 1) := by decide +kernel
theorem dX8_word_221 : decode cX8_word 221 = .ok (.getfield 165, 3) := by decide +kernel
theorem dX8_word_224 : decode cX8_word 224 = .ok (.iload_n 1, 1) := by decide +kernel
theorem dX8_word_225 : decode cX8_word 225 = .ok (.iastore, 1) := by decide +kernel
theorem dX8_word_226 : decode cX8_word 226 = .ok (.aload_n 0, 1) := by decide +kernel
theorem dX8_word_227 : decode cX8_word 227 = .ok (.getfield 80, 3) := by decide +kernel
theorem dX8_word_230 : decode cX8_word 230 = .ok (.aload_n 0, 1) := by decide +kernel
theorem dX8_word_231 : decode cX8_word 231 = .ok (.getfield 165, 3) := by decide +kernel
theorem dX8_word_234 : decode cX8_word 234 = .ok (.iconst (-1), 1) := by decide +kernel
theorem dX8_word_235 : decode cX8_word 235 = .ok (.iastore, 1) := by decide +kernel
theorem dX8_word_236 : decode cX8_word 236 = .ok (.aload_n 0, 1) := by decide +kernel
theorem dX8_word_237 : decode cX8_word 237 = .ok (.getfield 83, 3) := by decide +kernel
theorem dX8_word_240 : decode cX8_word 240 = .ok (.aload_n 0, 1) := by decide +kernel
theorem dX8_word_241 : decode cX8_word 241 = .ok (.getfield 165, 3) := by decide +kernel
theorem dX8_word_244 : decode cX8_word 244 = .ok (.aload_n 0, 1) := by decide +kernel
theorem dX8_word_245 : decode cX8_word 245 = .ok (.getfield 165, 3) := by decide +kernel
theorem dX8_word_248 : decode cX8_word 248 = .ok (.iastore, 1) := by decide +kernel
theorem dX8_word_249 : decode cX8_word 249 = .ok (.aload_n 0, 1) := by decide +kernel
theorem dX8_word_250 : decode cX8_word 250 = .ok (.dup, 1) := by decide +kernel
theorem dX8_word_251 : decode cX8_word 251 = .ok (.getfield 165, 3) := by decide +kernel
theorem dX8_word_254 : decode cX8_word 254 = .ok (.iconst 1, 1) := by decide +kernel
theorem dX8_word_255 : decode cX8_word 255 = .ok (.iadd, 1) := by decide +kernel
theorem dX8_word_256 : decode cX8_word 256 = .ok (.putfield 165, 3) := by decide +kernel
theorem dX8_word_259 : decode cX8_word 259 = .ok (.aload_n 0, 1) := by decide +kernel
theorem dX8_word_260 : decode cX8_word 260 = .ok (.aload_n 0, 1) := by decide +kernel
theorem dX8_word_261 : decode cX8_word 261 = .ok (.getfield 165, 3) := by decide +kernel
theorem dX8_word_264 : decode cX8_word 264 = .ok (.iconst 1, 1) := by decide +kernel
theorem dX8_word_265 : decode cX8_word 265 = .ok (.isub, 1) := by decide +kernel
theorem dX8_word_266 : decode cX8_word 266 = .ok (.invokevirtual 130, 3) := by decide +kernel
theorem dX8_word_269 : decode cX8_word 269 = .ok (.ireturn, 1) := by decide +kernel
theorem dX8_shorts_0 : decode cX8_shorts 0 = .ok (.aload_n 0, 1) := by decide +kernel
theorem dX8_shorts_1 : decode cX8_shorts 1 = .ok (.iconst 0, 1) := by decide +kernel
theorem dX8_shorts_2 : decode cX8_shorts 2 = .ok (.putfield 1, 3) := by decide +kernel
theorem dX8_shorts_5 : decode cX8_shorts 5 = .ok (.aload_n 0, 1) := by decide +kernel
theorem dX8_shorts_6 : decode cX8_shorts 6 = .ok (.iload_n 1, 1) := by decide +kernel
theorem dX8_shorts_7 : decode cX8_shorts 7 = .ok (.invokevirtual 168, 3) := by decide +kernel
theorem dX8_shorts_10 : decode cX8_shorts 10 = .ok (.ifCond .eq 21, 3) := by decide +kernel
theorem dX8_shorts_13 : decode cX8_shorts 13 = .ok (.iload_n 2, 1) := by decide +kernel
theorem dX8_shorts_14 : decode cX8_shorts 14 = .ok (.iconst (-1), 1) := by decide +kernel
theorem dX8_shorts_15 : decode cX8_shorts 15 = .ok (.if_icmp .eq 11, 3) := by decide +kernel
theorem dX8_shorts_18 : decode cX8_shorts 18 = .ok (.aload_n 0, 1) := by decide +kernel
theorem dX8_shorts_19 : decode cX8_shorts 19 = .ok (.iload_n 2, 1) := by decide +kernel
theorem dX8_shorts_20 : decode cX8_shorts 20 = .ok (.invokevirtual 168, 3) := by decide +kernel
theorem dX8_shorts_23 : decode cX8_shorts 23 = .ok (.ifCond .eq 8, 3) := by decide +kernel
theorem dX8_shorts_26 : decode cX8_shorts 26 = .ok (.iload_n 1, 1) := by decide +kernel
theorem dX8_shorts_27 : decode cX8_shorts 27 = .ok (.iload_n 2, 1) := by decide +kernel
theorem dX8_shorts_28 : decode cX8_shorts 28 = .ok (.if_icmp .ne 9, 3) := by decide +kernel
theorem dX8_shorts_31 : decode cX8_shorts 31 = .ok (.aload_n 0, 1) := by decide +kernel
theorem dX8_shorts_32 : decode cX8_shorts 32 = .ok (.iconst 1, 1) := by decide +kernel
theorem dX8_shorts_33 : decode cX8_shorts 33 = .ok (.invokevirtual 171, 3) := by decide +kernel
theorem dX8_shorts_36 : decode cX8_shorts 36 = .ok (.ireturn, 1) := by decide +kernel
theorem dX8_shorts_37 : decode cX8_shorts 37 = .ok (.aload_n 0, 1) := by decide +kernel
theorem dX8_shorts_38 : decode cX8_shorts 38 = .ok (.getfield 80, 3) := by decide +kernel
theorem dX8_shorts_41 : decode cX8_shorts 41 = .ok (.iload_n 1, 1) := by decide +kernel
theorem dX8_shorts_42 : decode cX8_shorts 42 = .ok (.iload_n 2, 1) := by decide +kernel
theorem dX8_shorts_43 : decode cX8_shorts 43 = .ok (.iastore, 1) := by decide +kernel
theorem dX8_shorts_44 : decode cX8_shorts 44 = .ok (.aload_n 0, 1) := by decide +kernel
theorem dX8_shorts_45 : decode cX8_shorts 45 = .ok (.invokevirtual 174, 3) := by decide +kernel
theorem dX8_shorts_48 : decode cX8_shorts 48 = .ok (.ireturn, 1) := by decide +kernel
theorem dX8_alike_0 : decode cX8_alike 0 = .ok (.aload_n 0, 1) := by decide +kernel
theorem dX8_alike_1 : decode cX8_alike 1 = .ok (.iconst 0, 1) := by decide +kernel
theorem dX8_alike_2 : decode cX8_alike 2 = .ok (.putfield 1, 3) := by decide +kernel
theorem dX8_alike_5 : decode cX8_alike 5 = .ok (.aload_n 0, 1) := by decide +kernel
theorem dX8_alike_6 : decode cX8_alike 6 = .ok (.iload_n 1, 1) := by decide +kernel
theorem dX8_alike_7 : decode cX8_alike 7 = .ok (.invokevirtual 168, 3) := by decide +kernel
theorem dX8_alike_10 : decode cX8_alike 10 = .ok (.ifCond .eq 11, 3) := by decide +kernel
theorem dX8_alike_13 : decode cX8_alike 13 = .ok (.aload_n 0, 1) := by decide +kernel
theorem dX8_alike_14 : decode cX8_alike 14 = .ok (.iload_n 2, 1) := by decide +kernel
theorem dX8_alike_15 : decode cX8_alike 15 = .ok (.invokevirtual 168, 3) := by decide +kernel
theorem dX8_alike_18 : decode cX8_alike 18 = .ok (.ifCond .ne 9, 3) := by decide +kernel
theorem dX8_alike_21 : decode cX8_alike 21 = .ok (.aload_n 0, 1) := by decide +kernel
theorem dX8_alike_22 : decode cX8_alike 22 = .ok (.iconst 1, 1) := by decide +kernel
theorem dX8_alike_23 : decode cX8_alike 23 = .ok (.invokevirtual 171, 3) := by decide +kernel
theorem dX8_alike_26 : decode cX8_alike 26 = .ok (.ireturn, 1) := by decide +kernel
theorem dX8_alike_27 : decode cX8_alike 27 = .ok (.aload_n 0, 1) := by decide +kernel
theorem dX8_alike_28 : decode cX8_alike 28 = .ok (.getfield 83, 3) := by decide +kernel
theorem dX8_alike_31 : decode cX8_alike 31 = .ok (.iload_n 2, 1) := by decide +kernel
theorem dX8_alike_32 : decode cX8_alike 32 = .ok (.iaload, 1) := by decide +kernel
theorem dX8_alike_33 : decode cX8_alike 33 = .ok (.istore_n 3, 1) := by decide +kernel
theorem dX8_alike_34 : decode cX8_alike 34 = .ok (.iconst 0, 1) := by decide +kernel
theorem dX8_alike_35 : decode cX8_alike 35 = .ok (.istore 4, 2) := by decide +kernel
theorem dX8_alike_37 : decode cX8_alike 37 = .ok (.iload 4, 2) := by decide +kernel
theorem dX8_alike_39 : decode cX8_alike 39 = .ok (.aload_n 0, 1) := by decide +kernel
theorem dX8_alike_40 : decode cX8_alike 40 = .ok (.getfield 165, 3) := by decide +kernel
theorem dX8_alike_43 : decode cX8_alike 43 = .ok (.if_icmp .ge 33, 3) := by decide +kernel
theorem dX8_alike_46 : decode cX8_alike 46 = .ok (.aload_n 0, 1) := by decide +kernel
theorem dX8_alike_47 : decode cX8_alike 47 = .ok (.getfield 83, 3) := by decide +kernel
theorem dX8_alike_50 : decode cX8_alike 50 = .ok (.iload 4, 2) := by decide +kernel
theorem dX8_alike_52 : decode cX8_alike 52 = .ok (.iaload, 1) := by decide +kernel
theorem dX8_alike_53 : decode cX8_alike 53 = .ok (.iload_n 3, 1) := by decide +kernel
theorem dX8_alike_54 : decode cX8_alike 54 = .ok (.if_icmp .ne 16, 3) := by decide +kernel
theorem dX8_alike_57 : decode cX8_alike 57 = .ok (.aload_n 0, 1) := by decide +kernel
theorem dX8_alike_58 : decode cX8_alike 58 = .ok (.getfield 83, 3) := by decide +kernel
theorem dX8_alike_61 : decode cX8_alike 61 = .ok (.iload 4, 2) := by decide +kernel
theorem dX8_alike_63 : decode cX8_alike 63 = .ok (.aload_n 0, 1) := by decide +kernel
theorem dX8_alike_64 : decode cX8_alike 64 = .ok (.getfield 83, 3) := by decide +kernel
theorem dX8_alike_67 : decode cX8_alike 67 = .ok (.iload_n 1, 1) := by decide +kernel
theorem dX8_alike_68 : decode cX8_alike 68 = .ok (.iaload, 1) := by decide +kernel
theorem dX8_alike_69 : decode cX8_alike 69 = .ok (.iastore, 1) := by decide +kernel
theorem dX8_alike_70 : decode cX8_alike 70 = .ok (.iinc 4 1, 3) := by decide +kernel
theorem dX8_alike_73 : decode cX8_alike 73 = .ok (.goto (-36), 3) := by decide +kernel
theorem dX8_alike_76 : decode cX8_alike 76 = .ok (.aload_n 0, 1) := by decide +kernel
theorem dX8_alike_77 : decode cX8_alike 77 = .ok (.invokevirtual 174, 3) := by decide +kernel
theorem dX8_alike_80 : decode cX8_alike 80 = .ok (.ireturn, 1) := by decide +kernel
theorem dX8_wordOf_0 : decode cX8_wordOf 0 = .ok (.iconst 0, 1) := by decide +kernel
theorem dX8_wordOf_1 : decode cX8_wordOf 1 = .ok (.istore_n 3, 1) := by decide +kernel
theorem dX8_wordOf_2 : decode cX8_wordOf 2 = .ok (.iload_n 3, 1) := by decide +kernel
theorem dX8_wordOf_3 : decode cX8_wordOf 3 = .ok (.aload_n 0, 1) := by decide +kernel
theorem dX8_wordOf_4 : decode cX8_wordOf 4 = .ok (.getfield 165, 3) := by decide +kernel
theorem dX8_wordOf_7 : decode cX8_wordOf 7 = .ok (.if_icmp .ge 114, 3) := by decide +kernel
theorem dX8_wordOf_10 : decode cX8_wordOf 10 = .ok (.aload_n 0, 1) := by decide +kernel
theorem dX8_wordOf_11 : decode cX8_wordOf 11 = .ok (.getfield 74, 3) := by decide +kernel
theorem dX8_wordOf_14 : decode cX8_wordOf 14 = .ok (.iload_n 3, 1) := by decide +kernel
theorem dX8_wordOf_15 : decode cX8_wordOf 15 = .ok (.iaload, 1) := by decide +kernel
theorem dX8_wordOf_16 : decode cX8_wordOf 16 = .ok (.aload_n 0, 1) := by decide +kernel
theorem dX8_wordOf_17 : decode cX8_wordOf 17 = .ok (.getfield 68, 3) := by decide +kernel
theorem dX8_wordOf_20 : decode cX8_wordOf 20 = .ok (.iload_n 2, 1) := by decide +kernel
theorem dX8_wordOf_21 : decode cX8_wordOf 21 = .ok (.iaload, 1) := by decide +kernel
theorem dX8_wordOf_22 : decode cX8_wordOf 22 = .ok (.aload_n 0, 1) := by decide +kernel
theorem dX8_wordOf_23 : decode cX8_wordOf 23 = .ok (.getfield 65, 3) := by decide +kernel
theorem dX8_wordOf_26 : decode cX8_wordOf 26 = .ok (.iload_n 2, 1) := by decide +kernel
theorem dX8_wordOf_27 : decode cX8_wordOf 27 = .ok (.iaload, 1) := by decide +kernel
theorem dX8_wordOf_28 : decode cX8_wordOf 28 = .ok (.isub, 1) := by decide +kernel
theorem dX8_wordOf_29 : decode cX8_wordOf 29 = .ok (.if_icmp .ne 7, 3) := by decide +kernel
theorem dX8_wordOf_32 : decode cX8_wordOf 32 = .ok (.iconst 1, 1) := by decide +kernel
theorem dX8_wordOf_33 : decode cX8_wordOf 33 = .ok (.goto 4, 3) := by decide +kernel
theorem dX8_wordOf_36 : decode cX8_wordOf 36 = .ok (.iconst 0, 1) := by decide +kernel
theorem dX8_wordOf_37 : decode cX8_wordOf 37 = .ok (.istore 4, 2) := by decide +kernel
theorem dX8_wordOf_39 : decode cX8_wordOf 39 = .ok (.iconst 0, 1) := by decide +kernel
theorem dX8_wordOf_40 : decode cX8_wordOf 40 = .ok (.istore 5, 2) := by decide +kernel
theorem dX8_wordOf_42 : decode cX8_wordOf 42 = .ok (.iload 5, 2) := by decide +kernel
theorem dX8_wordOf_44 : decode cX8_wordOf 44 = .ok (.aload_n 0, 1) := by decide +kernel
theorem dX8_wordOf_45 : decode cX8_wordOf 45 = .ok (.getfield 74, 3) := by decide +kernel
theorem dX8_wordOf_48 : decode cX8_wordOf 48 = .ok (.iload_n 3, 1) := by decide +kernel
theorem dX8_wordOf_49 : decode cX8_wordOf 49 = .ok (.iaload, 1) := by decide +kernel
theorem dX8_wordOf_50 : decode cX8_wordOf 50 = .ok (.if_icmp .ge 58, 3) := by decide +kernel
theorem dX8_wordOf_53 : decode cX8_wordOf 53 = .ok (.iload 4, 2) := by decide +kernel
theorem dX8_wordOf_55 : decode cX8_wordOf 55 = .ok (.ifCond .eq 53, 3) := by decide +kernel
theorem dX8_wordOf_58 : decode cX8_wordOf 58 = .ok (.aload_n 0, 1) := by decide +kernel
theorem dX8_wordOf_59 : decode cX8_wordOf 59 = .ok (.getfield 62, 3) := by decide +kernel
theorem dX8_wordOf_62 : decode cX8_wordOf 62 = .ok (.bipush 24, 2) := by decide +kernel
theorem dX8_wordOf_64 : decode cX8_wordOf 64 = .ok (.iload_n 1, 1) := by decide +kernel
theorem dX8_wordOf_65 : decode cX8_wordOf 65 = .ok (.imul, 1) := by decide +kernel
theorem dX8_wordOf_66 : decode cX8_wordOf 66 = .ok (.aload_n 0, 1) := by decide +kernel
theorem dX8_wordOf_67 : decode cX8_wordOf 67 = .ok (.getfield 65, 3) := by decide +kernel
theorem dX8_wordOf_70 : decode cX8_wordOf 70 = .ok (.iload_n 2, 1) := by decide +kernel
theorem dX8_wordOf_71 : decode cX8_wordOf 71 = .ok (.iaload, 1) := by decide +kernel
theorem dX8_wordOf_72 : decode cX8_wordOf 72 = .ok (.iadd, 1) := by decide +kernel
theorem dX8_wordOf_73 : decode cX8_wordOf 73 = .ok (.iload 5, 2) := by decide +kernel
theorem dX8_wordOf_75 : decode cX8_wordOf 75 = .ok (.iadd, 1) := by decide +kernel
theorem dX8_wordOf_76 : decode cX8_wordOf 76 = .ok (.baload, 1) := by decide +kernel
theorem dX8_wordOf_77 : decode cX8_wordOf 77 = .ok (.invokestatic 178, 3) := by decide +kernel
theorem dX8_wordOf_80 : decode cX8_wordOf 80 = .ok (.aload_n 0, 1) := by decide +kernel
theorem dX8_wordOf_81 : decode cX8_wordOf 81 = .ok (.getfield 71, 3) := by decide +kernel
theorem dX8_wordOf_84 : decode cX8_wordOf 84 = .ok (.bipush 12, 2) := by decide +kernel
theorem dX8_wordOf_86 : decode cX8_wordOf 86 = .ok (.iload_n 3, 1) := by decide +kernel
theorem dX8_wordOf_87 : decode cX8_wordOf 87 = .ok (.imul, 1) := by decide +kernel
theorem dX8_wordOf_88 : decode cX8_wordOf 88 = .ok (.iload 5, 2) := by decide +kernel
theorem dX8_wordOf_90 : decode cX8_wordOf 90 = .ok (.iadd, 1) := by decide +kernel
theorem dX8_wordOf_91 : decode cX8_wordOf 91 = .ok (.baload, 1) := by decide +kernel
theorem dX8_wordOf_92 : decode cX8_wordOf 92 = .ok (.if_icmp .ne 7, 3) := by decide +kernel
theorem dX8_wordOf_95 : decode cX8_wordOf 95 = .ok (.iconst 1, 1) := by decide +kernel
theorem dX8_wordOf_96 : decode cX8_wordOf 96 = .ok (.goto 4, 3) := by decide +kernel
theorem dX8_wordOf_99 : decode cX8_wordOf 99 = .ok (.iconst 0, 1) := by decide +kernel
theorem dX8_wordOf_100 : decode cX8_wordOf 100 = .ok (.istore 4, 2) := by decide +kernel
theorem dX8_wordOf_102 : decode cX8_wordOf 102 = .ok (.iinc 5 1, 3) := by decide +kernel
theorem dX8_wordOf_105 : decode cX8_wordOf 105 = .ok (.goto (-63), 3) := by decide +kernel
theorem dX8_wordOf_108 : decode cX8_wordOf 108 = .ok (.iload 4, 2) := by decide +kernel
theorem dX8_wordOf_110 : decode cX8_wordOf 110 = .ok (.ifCond .eq 5, 3) := by decide +kernel
theorem dX8_wordOf_113 : decode cX8_wordOf 113 = .ok (.iload_n 3, 1) := by decide +kernel
theorem dX8_wordOf_114 : decode cX8_wordOf 114 = .ok (.ireturn, 1) := by decide +kernel
theorem dX8_wordOf_115 : decode cX8_wordOf 115 = .ok (.iinc 3 1, 3) := by decide +kernel
theorem dX8_wordOf_118 : decode cX8_wordOf 118 = .ok (.goto (-116), 3) := by decide +kernel
theorem dX8_wordOf_121 : decode cX8_wordOf 121 = .ok (.bipush (-2), 2) := by decide +kernel
theorem dX8_wordOf_123 : decode cX8_wordOf 123 = .ok (.ireturn, 1) := by decide +kernel
theorem dX8_opened_0 : decode cX8_opened 0 = .ok (.iload_n 1, 1) := by decide +kernel
theorem dX8_opened_1 : decode cX8_opened 1 = .ok (.istore_n 2, 1) := by decide +kernel
theorem dX8_opened_2 : decode cX8_opened 2 = .ok (.iconst 0, 1) := by decide +kernel
theorem dX8_opened_3 : decode cX8_opened 3 = .ok (.istore_n 3, 1) := by decide +kernel
theorem dX8_opened_4 : decode cX8_opened 4 = .ok (.iload_n 3, 1) := by decide +kernel
theorem dX8_opened_5 : decode cX8_opened 5 = .ok (.bipush 60, 2) := by decide +kernel
theorem dX8_opened_7 : decode cX8_opened 7 = .ok (.if_icmp .ge 30, 3) := by decide +kernel
theorem dX8_opened_10 : decode cX8_opened 10 = .ok (.iload_n 2, 1) := by decide +kernel
theorem dX8_opened_11 : decode cX8_opened 11 = .ok (.ifCond .lt 26, 3) := by decide +kernel
theorem dX8_opened_14 : decode cX8_opened 14 = .ok (.aload_n 0, 1) := by decide +kernel
theorem dX8_opened_15 : decode cX8_opened 15 = .ok (.getfield 80, 3) := by decide +kernel
theorem dX8_opened_18 : decode cX8_opened 18 = .ok (.iload_n 2, 1) := by decide +kernel
theorem dX8_opened_19 : decode cX8_opened 19 = .ok (.iaload, 1) := by decide +kernel
theorem dX8_opened_20 : decode cX8_opened 20 = .ok (.iconst (-1), 1) := by decide +kernel
theorem dX8_opened_21 : decode cX8_opened 21 = .ok (.if_icmp .eq 16, 3) := by decide +kernel
theorem dX8_opened_24 : decode cX8_opened 24 = .ok (.aload_n 0, 1) := by decide +kernel
theorem dX8_opened_25 : decode cX8_opened 25 = .ok (.getfield 80, 3) := by decide +kernel
theorem dX8_opened_28 : decode cX8_opened 28 = .ok (.iload_n 2, 1) := by decide +kernel
theorem dX8_opened_29 : decode cX8_opened 29 = .ok (.iaload, 1) := by decide +kernel
theorem dX8_opened_30 : decode cX8_opened 30 = .ok (.istore_n 2, 1) := by decide +kernel
theorem dX8_opened_31 : decode cX8_opened 31 = .ok (.iinc 3 1, 3) := by decide +kernel
theorem dX8_opened_34 : decode cX8_opened 34 = .ok (.goto (-30), 3) := by decide +kernel
theorem dX8_opened_37 : decode cX8_opened 37 = .ok (.iload_n 2, 1) := by decide +kernel
theorem dX8_opened_38 : decode cX8_opened 38 = .ok (.ireturn, 1) := by decide +kernel
theorem dX8_counts_0 : decode cX8_counts 0 = .ok (.iconst 0, 1) := by decide +kernel
theorem dX8_counts_1 : decode cX8_counts 1 = .ok (.istore_n 1, 1) := by decide +kernel
theorem dX8_counts_2 : decode cX8_counts 2 = .ok (.iload_n 1, 1) := by decide +kernel
theorem dX8_counts_3 : decode cX8_counts 3 = .ok (.aload_n 0, 1) := by decide +kernel
theorem dX8_counts_4 : decode cX8_counts 4 = .ok (.getfield 165, 3) := by decide +kernel
theorem dX8_counts_7 : decode cX8_counts 7 = .ok (.if_icmp .ge 16, 3) := by decide +kernel
theorem dX8_counts_10 : decode cX8_counts 10 = .ok (.aload_n 0, 1) := by decide +kernel
theorem dX8_counts_11 : decode cX8_counts 11 = .ok (.getfield 86, 3) := by decide +kernel
theorem dX8_counts_14 : decode cX8_counts 14 = .ok (.iload_n 1, 1) := by decide +kernel
theorem dX8_counts_15 : decode cX8_counts 15 = .ok (.iconst 0, 1) := by decide +kernel
theorem dX8_counts_16 : decode cX8_counts 16 = .ok (.iastore, 1) := by decide +kernel
theorem dX8_counts_17 : decode cX8_counts 17 = .ok (.iinc 1 1, 3) := by decide +kernel
theorem dX8_counts_20 : decode cX8_counts 20 = .ok (.goto (-18), 3) := by decide +kernel
theorem dX8_counts_23 : decode cX8_counts 23 = .ok (.iconst 0, 1) := by decide +kernel
theorem dX8_counts_24 : decode cX8_counts 24 = .ok (.istore_n 1, 1) := by decide +kernel
theorem dX8_counts_25 : decode cX8_counts 25 = .ok (.iload_n 1, 1) := by decide +kernel
theorem dX8_counts_26 : decode cX8_counts 26 = .ok (.aload_n 0, 1) := by decide +kernel
theorem dX8_counts_27 : decode cX8_counts 27 = .ok (.getfield 120, 3) := by decide +kernel
theorem dX8_counts_30 : decode cX8_counts 30 = .ok (.if_icmp .ge 55, 3) := by decide +kernel
theorem dX8_counts_33 : decode cX8_counts 33 = .ok (.aload_n 0, 1) := by decide +kernel
theorem dX8_counts_34 : decode cX8_counts 34 = .ok (.iload_n 1, 1) := by decide +kernel
theorem dX8_counts_35 : decode cX8_counts 35 = .ok (.invokevirtual 181, 3) := by decide +kernel
theorem dX8_counts_38 : decode cX8_counts 38 = .ok (.iconst 0, 1) := by decide +kernel
theorem dX8_counts_39 : decode cX8_counts 39 = .ok (.istore_n 2, 1) := by decide +kernel
theorem dX8_counts_40 : decode cX8_counts 40 = .ok (.iload_n 2, 1) := by decide +kernel
theorem dX8_counts_41 : decode cX8_counts 41 = .ok (.aload_n 0, 1) := by decide +kernel
theorem dX8_counts_42 : decode cX8_counts 42 = .ok (.getfield 162, 3) := by decide +kernel
theorem dX8_counts_45 : decode cX8_counts 45 = .ok (.if_icmp .ge 34, 3) := by decide +kernel
theorem dX8_counts_48 : decode cX8_counts 48 = .ok (.aload_n 0, 1) := by decide +kernel
theorem dX8_counts_49 : decode cX8_counts 49 = .ok (.aload_n 0, 1) := by decide +kernel
theorem dX8_counts_50 : decode cX8_counts 50 = .ok (.iload_n 1, 1) := by decide +kernel
theorem dX8_counts_51 : decode cX8_counts 51 = .ok (.iload_n 2, 1) := by decide +kernel
theorem dX8_counts_52 : decode cX8_counts 52 = .ok (.invokevirtual 185, 3) := by decide +kernel
theorem dX8_counts_55 : decode cX8_counts 55 = .ok (.invokevirtual 189, 3) := by decide +kernel
theorem dX8_counts_58 : decode cX8_counts 58 = .ok (.istore_n 3, 1) := by decide +kernel
theorem dX8_counts_59 : decode cX8_counts 59 = .ok (.iload_n 3, 1) := by decide +kernel
theorem dX8_counts_60 : decode cX8_counts 60 = .ok (.ifCond .lt 13, 3) := by decide +kernel
theorem dX8_counts_63 : decode cX8_counts 63 = .ok (.aload_n 0, 1) := by decide +kernel
theorem dX8_counts_64 : decode cX8_counts 64 = .ok (.getfield 86, 3) := by decide +kernel
theorem dX8_counts_67 : decode cX8_counts 67 = .ok (.iload_n 3, 1) := by decide +kernel
theorem dX8_counts_68 : decode cX8_counts 68 = .ok (.dup2, 1) := by decide +kernel
theorem dX8_counts_69 : decode cX8_counts 69 = .ok (.iaload, 1) := by decide +kernel
theorem dX8_counts_70 : decode cX8_counts 70 = .ok (.iconst 1, 1) := by decide +kernel
theorem dX8_counts_71 : decode cX8_counts 71 = .ok (.iadd, 1) := by decide +kernel
theorem dX8_counts_72 : decode cX8_counts 72 = .ok (.iastore, 1) := by decide +kernel
theorem dX8_counts_73 : decode cX8_counts 73 = .ok (.iinc 2 1, 3) := by decide +kernel
theorem dX8_counts_76 : decode cX8_counts 76 = .ok (.goto (-36), 3) := by decide +kernel
theorem dX8_counts_79 : decode cX8_counts 79 = .ok (.iinc 1 1, 3) := by decide +kernel
theorem dX8_counts_82 : decode cX8_counts 82 = .ok (.goto (-57), 3) := by decide +kernel
theorem dX8_counts_85 : decode cX8_counts 85 = .ok (.return_, 1) := by decide +kernel
theorem dX8_headOf_0 : decode cX8_headOf 0 = .ok (.iconst (-1), 1) := by decide +kernel
theorem dX8_headOf_1 : decode cX8_headOf 1 = .ok (.istore_n 2, 1) := by decide +kernel
theorem dX8_headOf_2 : decode cX8_headOf 2 = .ok (.iconst 0, 1) := by decide +kernel
theorem dX8_headOf_3 : decode cX8_headOf 3 = .ok (.istore_n 3, 1) := by decide +kernel
theorem dX8_headOf_4 : decode cX8_headOf 4 = .ok (.iload_n 3, 1) := by decide +kernel
theorem dX8_headOf_5 : decode cX8_headOf 5 = .ok (.aload_n 0, 1) := by decide +kernel
theorem dX8_headOf_6 : decode cX8_headOf 6 = .ok (.getfield 165, 3) := by decide +kernel
theorem dX8_headOf_9 : decode cX8_headOf 9 = .ok (.if_icmp .ge 46, 3) := by decide +kernel
theorem dX8_headOf_12 : decode cX8_headOf 12 = .ok (.aload_n 0, 1) := by decide +kernel
theorem dX8_headOf_13 : decode cX8_headOf 13 = .ok (.getfield 83, 3) := by decide +kernel
theorem dX8_headOf_16 : decode cX8_headOf 16 = .ok (.iload_n 3, 1) := by decide +kernel
theorem dX8_headOf_17 : decode cX8_headOf 17 = .ok (.iaload, 1) := by decide +kernel
theorem dX8_headOf_18 : decode cX8_headOf 18 = .ok (.aload_n 0, 1) := by decide +kernel
theorem dX8_headOf_19 : decode cX8_headOf 19 = .ok (.getfield 83, 3) := by decide +kernel
theorem dX8_headOf_22 : decode cX8_headOf 22 = .ok (.iload_n 1, 1) := by decide +kernel
theorem dX8_headOf_23 : decode cX8_headOf 23 = .ok (.iaload, 1) := by decide +kernel
theorem dX8_headOf_24 : decode cX8_headOf 24 = .ok (.if_icmp .ne 25, 3) := by decide +kernel
theorem dX8_headOf_27 : decode cX8_headOf 27 = .ok (.iload_n 2, 1) := by decide +kernel
theorem dX8_headOf_28 : decode cX8_headOf 28 = .ok (.iconst (-1), 1) := by decide +kernel
theorem dX8_headOf_29 : decode cX8_headOf 29 = .ok (.if_icmp .eq 18, 3) := by decide +kernel
theorem dX8_headOf_32 : decode cX8_headOf 32 = .ok (.aload_n 0, 1) := by decide +kernel
theorem dX8_headOf_33 : decode cX8_headOf 33 = .ok (.getfield 86, 3) := by decide +kernel
theorem dX8_headOf_36 : decode cX8_headOf 36 = .ok (.iload_n 3, 1) := by decide +kernel
theorem dX8_headOf_37 : decode cX8_headOf 37 = .ok (.iaload, 1) := by decide +kernel
theorem dX8_headOf_38 : decode cX8_headOf 38 = .ok (.aload_n 0, 1) := by decide +kernel
theorem dX8_headOf_39 : decode cX8_headOf 39 = .ok (.getfield 86, 3) := by decide +kernel
theorem dX8_headOf_42 : decode cX8_headOf 42 = .ok (.iload_n 2, 1) := by decide +kernel
theorem dX8_headOf_43 : decode cX8_headOf 43 = .ok (.iaload, 1) := by decide +kernel
theorem dX8_headOf_44 : decode cX8_headOf 44 = .ok (.if_icmp .le 5, 3) := by decide +kernel
theorem dX8_headOf_47 : decode cX8_headOf 47 = .ok (.iload_n 3, 1) := by decide +kernel
theorem dX8_headOf_48 : decode cX8_headOf 48 = .ok (.istore_n 2, 1) := by decide +kernel
theorem dX8_headOf_49 : decode cX8_headOf 49 = .ok (.iinc 3 1, 3) := by decide +kernel
theorem dX8_headOf_52 : decode cX8_headOf 52 = .ok (.goto (-48), 3) := by decide +kernel
theorem dX8_headOf_55 : decode cX8_headOf 55 = .ok (.iload_n 2, 1) := by decide +kernel
theorem dX8_headOf_56 : decode cX8_headOf 56 = .ok (.ireturn, 1) := by decide +kernel
theorem dX8_groupSize_0 : decode cX8_groupSize 0 = .ok (.iconst 0, 1) := by decide +kernel
theorem dX8_groupSize_1 : decode cX8_groupSize 1 = .ok (.istore_n 2, 1) := by decide +kernel
theorem dX8_groupSize_2 : decode cX8_groupSize 2 = .ok (.iconst 0, 1) := by decide +kernel
theorem dX8_groupSize_3 : decode cX8_groupSize 3 = .ok (.istore_n 3, 1) := by decide +kernel
theorem dX8_groupSize_4 : decode cX8_groupSize 4 = .ok (.iload_n 3, 1) := by decide +kernel
theorem dX8_groupSize_5 : decode cX8_groupSize 5 = .ok (.aload_n 0, 1) := by decide +kernel
theorem dX8_groupSize_6 : decode cX8_groupSize 6 = .ok (.getfield 165, 3) := by decide +kernel
theorem dX8_groupSize_9 : decode cX8_groupSize 9 = .ok (.if_icmp .ge 32, 3) := by decide +kernel
theorem dX8_groupSize_12 : decode cX8_groupSize 12 = .ok (.iload_n 2, 1) := by decide +kernel
theorem dX8_groupSize_13 : decode cX8_groupSize 13 = .ok (.aload_n 0, 1) := by decide +kernel
theorem dX8_groupSize_14 : decode cX8_groupSize 14 = .ok (.getfield 83, 3) := by decide +kernel
theorem dX8_groupSize_17 : decode cX8_groupSize 17 = .ok (.iload_n 3, 1) := by decide +kernel
theorem dX8_groupSize_18 : decode cX8_groupSize 18 = .ok (.iaload, 1) := by decide +kernel
theorem dX8_groupSize_19 : decode cX8_groupSize 19 = .ok (.aload_n 0, 1) := by decide +kernel
theorem dX8_groupSize_20 : decode cX8_groupSize 20 = .ok (.getfield 83, 3) := by decide +kernel
theorem dX8_groupSize_23 : decode cX8_groupSize 23 = .ok (.iload_n 1, 1) := by decide +kernel
theorem dX8_groupSize_24 : decode cX8_groupSize 24 = .ok (.iaload, 1) := by decide +kernel
theorem dX8_groupSize_25 : decode cX8_groupSize 25 = .ok (.if_icmp .ne 7, 3) := by decide +kernel
theorem dX8_groupSize_28 : decode cX8_groupSize 28 = .ok (.iconst 1, 1) := by decide +kernel
theorem dX8_groupSize_29 : decode cX8_groupSize 29 = .ok (.goto 4, 3) := by decide +kernel
theorem dX8_groupSize_32 : decode cX8_groupSize 32 = .ok (.iconst 0, 1) := by decide +kernel
theorem dX8_groupSize_33 : decode cX8_groupSize 33 = .ok (.iadd, 1) := by decide +kernel
theorem dX8_groupSize_34 : decode cX8_groupSize 34 = .ok (.istore_n 2, 1) := by decide +kernel
theorem dX8_groupSize_35 : decode cX8_groupSize 35 = .ok (.iinc 3 1, 3) := by decide +kernel
theorem dX8_groupSize_38 : decode cX8_groupSize 38 = .ok (.goto (-34), 3) := by decide +kernel
theorem dX8_groupSize_41 : decode cX8_groupSize 41 = .ok (.iload_n 2, 1) := by decide +kernel
theorem dX8_groupSize_42 : decode cX8_groupSize 42 = .ok (.ireturn, 1) := by decide +kernel
theorem dX8_told_0 : decode cX8_told 0 = .ok (.aload_n 0, 1) := by decide +kernel
theorem dX8_told_1 : decode cX8_told 1 = .ok (.iconst 0, 1) := by decide +kernel
theorem dX8_told_2 : decode cX8_told 2 = .ok (.putfield 1, 3) := by decide +kernel
theorem dX8_told_5 : decode cX8_told 5 = .ok (.aload_n 0, 1) := by decide +kernel
theorem dX8_told_6 : decode cX8_told 6 = .ok (.iload_n 1, 1) := by decide +kernel
theorem dX8_told_7 : decode cX8_told 7 = .ok (.invokevirtual 168, 3) := by decide +kernel
theorem dX8_told_10 : decode cX8_told 10 = .ok (.ifCond .ne 5, 3) := by decide +kernel
theorem dX8_told_13 : decode cX8_told 13 = .ok (.iconst (-1), 1) := by decide +kernel
theorem dX8_told_14 : decode cX8_told 14 = .ok (.ireturn, 1) := by decide +kernel
theorem dX8_told_15 : decode cX8_told 15 = .ok (.aload_n 0, 1) := by decide +kernel
theorem dX8_told_16 : decode cX8_told 16 = .ok (.invokevirtual 192, 3) := by decide +kernel
theorem dX8_told_19 : decode cX8_told 19 = .ok (.iload_n 2, 1) := by decide +kernel
theorem dX8_told_20 : decode cX8_told 20 = .ok (.tableswitch 69 0 4 #[36, 43, 50, 57, 63], 36) := by decide +kernel
theorem dX8_told_56 : decode cX8_told 56 = .ok (.aload_n 0, 1) := by decide +kernel
theorem dX8_told_57 : decode cX8_told 57 = .ok (.getfield 77, 3) := by decide +kernel
theorem dX8_told_60 : decode cX8_told 60 = .ok (.iload_n 1, 1) := by decide +kernel
theorem dX8_told_61 : decode cX8_told 61 = .ok (.iaload, 1) := by decide +kernel
theorem dX8_told_62 : decode cX8_told 62 = .ok (.ireturn, 1) := by decide +kernel
theorem dX8_told_63 : decode cX8_told 63 = .ok (.aload_n 0, 1) := by decide +kernel
theorem dX8_told_64 : decode cX8_told 64 = .ok (.getfield 80, 3) := by decide +kernel
theorem dX8_told_67 : decode cX8_told 67 = .ok (.iload_n 1, 1) := by decide +kernel
theorem dX8_told_68 : decode cX8_told 68 = .ok (.iaload, 1) := by decide +kernel
theorem dX8_told_69 : decode cX8_told 69 = .ok (.ireturn, 1) := by decide +kernel
theorem dX8_told_70 : decode cX8_told 70 = .ok (.aload_n 0, 1) := by decide +kernel
theorem dX8_told_71 : decode cX8_told 71 = .ok (.getfield 86, 3) := by decide +kernel
theorem dX8_told_74 : decode cX8_told 74 = .ok (.iload_n 1, 1) := by decide +kernel
theorem dX8_told_75 : decode cX8_told 75 = .ok (.iaload, 1) := by decide +kernel
theorem dX8_told_76 : decode cX8_told 76 = .ok (.ireturn, 1) := by decide +kernel
theorem dX8_told_77 : decode cX8_told 77 = .ok (.aload_n 0, 1) := by decide +kernel
theorem dX8_told_78 : decode cX8_told 78 = .ok (.iload_n 1, 1) := by decide +kernel
theorem dX8_told_79 : decode cX8_told 79 = .ok (.invokevirtual 195, 3) := by decide +kernel
theorem dX8_told_82 : decode cX8_told 82 = .ok (.ireturn, 1) := by decide +kernel
theorem dX8_told_83 : decode cX8_told 83 = .ok (.aload_n 0, 1) := by decide +kernel
theorem dX8_told_84 : decode cX8_told 84 = .ok (.iload_n 1, 1) := by decide +kernel
theorem dX8_told_85 : decode cX8_told 85 = .ok (.invokevirtual 198, 3) := by decide +kernel
theorem dX8_told_88 : decode cX8_told 88 = .ok (.ireturn, 1) := by decide +kernel
theorem dX8_told_89 : decode cX8_told 89 = .ok (.iconst (-1), 1) := by decide +kernel
theorem dX8_told_90 : decode cX8_told 90 = .ok (.ireturn, 1) := by decide +kernel
theorem dX8_part_0 : decode cX8_part 0 = .ok (.aload_n 0, 1) := by decide +kernel
theorem dX8_part_1 : decode cX8_part 1 = .ok (.iconst 0, 1) := by decide +kernel
theorem dX8_part_2 : decode cX8_part 2 = .ok (.putfield 1, 3) := by decide +kernel
theorem dX8_part_5 : decode cX8_part 5 = .ok (.aload_n 0, 1) := by decide +kernel
theorem dX8_part_6 : decode cX8_part 6 = .ok (.iload_n 1, 1) := by decide +kernel
theorem dX8_part_7 : decode cX8_part 7 = .ok (.invokevirtual 159, 3) := by decide +kernel
theorem dX8_part_10 : decode cX8_part 10 = .ok (.ifCond .ne 5, 3) := by decide +kernel
theorem dX8_part_13 : decode cX8_part 13 = .ok (.iconst (-1), 1) := by decide +kernel
theorem dX8_part_14 : decode cX8_part 14 = .ok (.ireturn, 1) := by decide +kernel
theorem dX8_part_15 : decode cX8_part 15 = .ok (.aload_n 0, 1) := by decide +kernel
theorem dX8_part_16 : decode cX8_part 16 = .ok (.iload_n 1, 1) := by decide +kernel
theorem dX8_part_17 : decode cX8_part 17 = .ok (.invokevirtual 181, 3) := by decide +kernel
theorem dX8_part_20 : decode cX8_part 20 = .ok (.iload_n 2, 1) := by decide +kernel
theorem dX8_part_21 : decode cX8_part 21 = .ok (.ifCond .lt 20, 3) := by decide +kernel
theorem dX8_part_24 : decode cX8_part 24 = .ok (.iload_n 2, 1) := by decide +kernel
theorem dX8_part_25 : decode cX8_part 25 = .ok (.aload_n 0, 1) := by decide +kernel
theorem dX8_part_26 : decode cX8_part 26 = .ok (.getfield 162, 3) := by decide +kernel
theorem dX8_part_29 : decode cX8_part 29 = .ok (.if_icmp .ge 12, 3) := by decide +kernel
theorem dX8_part_32 : decode cX8_part 32 = .ok (.aload_n 0, 1) := by decide +kernel
theorem dX8_part_33 : decode cX8_part 33 = .ok (.iload_n 1, 1) := by decide +kernel
theorem dX8_part_34 : decode cX8_part 34 = .ok (.iload_n 2, 1) := by decide +kernel
theorem dX8_part_35 : decode cX8_part 35 = .ok (.invokevirtual 185, 3) := by decide +kernel
theorem dX8_part_38 : decode cX8_part 38 = .ok (.goto 4, 3) := by decide +kernel
theorem dX8_part_41 : decode cX8_part 41 = .ok (.iconst (-1), 1) := by decide +kernel
theorem dX8_part_42 : decode cX8_part 42 = .ok (.ireturn, 1) := by decide +kernel
theorem dX8_patternOf_0 : decode cX8_patternOf 0 = .ok (.aload_n 0, 1) := by decide +kernel
theorem dX8_patternOf_1 : decode cX8_patternOf 1 = .ok (.iload_n 1, 1) := by decide +kernel
theorem dX8_patternOf_2 : decode cX8_patternOf 2 = .ok (.invokevirtual 181, 3) := by decide +kernel
theorem dX8_patternOf_5 : decode cX8_patternOf 5 = .ok (.iconst 0, 1) := by decide +kernel
theorem dX8_patternOf_6 : decode cX8_patternOf 6 = .ok (.istore_n 2, 1) := by decide +kernel
theorem dX8_patternOf_7 : decode cX8_patternOf 7 = .ok (.iconst 0, 1) := by decide +kernel
theorem dX8_patternOf_8 : decode cX8_patternOf 8 = .ok (.istore_n 3, 1) := by decide +kernel
theorem dX8_patternOf_9 : decode cX8_patternOf 9 = .ok (.iload_n 3, 1) := by decide +kernel
theorem dX8_patternOf_10 : decode cX8_patternOf 10 = .ok (.aload_n 0, 1) := by decide +kernel
theorem dX8_patternOf_11 : decode cX8_patternOf 11 = .ok (.getfield 162, 3) := by decide +kernel
theorem dX8_patternOf_14 : decode cX8_patternOf 14 = .ok (.if_icmp .ge 53, 3) := by decide +kernel
theorem dX8_patternOf_17 : decode cX8_patternOf 17 = .ok (.iload_n 3, 1) := by decide +kernel
theorem dX8_patternOf_18 : decode cX8_patternOf 18 = .ok (.iconst 4, 1) := by decide +kernel
theorem dX8_patternOf_19 : decode cX8_patternOf 19 = .ok (.if_icmp .ge 48, 3) := by decide +kernel
theorem dX8_patternOf_22 : decode cX8_patternOf 22 = .ok (.aload_n 0, 1) := by decide +kernel
theorem dX8_patternOf_23 : decode cX8_patternOf 23 = .ok (.iload_n 1, 1) := by decide +kernel
theorem dX8_patternOf_24 : decode cX8_patternOf 24 = .ok (.iload_n 3, 1) := by decide +kernel
theorem dX8_patternOf_25 : decode cX8_patternOf 25 = .ok (.invokevirtual 185, 3) := by decide +kernel
theorem dX8_patternOf_28 : decode cX8_patternOf 28 = .ok (.istore 4, 2) := by decide +kernel
theorem dX8_patternOf_30 : decode cX8_patternOf 30 = .ok (.bipush 16, 2) := by decide +kernel
theorem dX8_patternOf_32 : decode cX8_patternOf 32 = .ok (.iload_n 2, 1) := by decide +kernel
theorem dX8_patternOf_33 : decode cX8_patternOf 33 = .ok (.imul, 1) := by decide +kernel
theorem dX8_patternOf_34 : decode cX8_patternOf 34 = .ok (.iload 4, 2) := by decide +kernel
theorem dX8_patternOf_36 : decode cX8_patternOf 36 = .ok (.ifCond .ge 7, 3) := by decide +kernel
theorem dX8_patternOf_39 : decode cX8_patternOf 39 = .ok (.iconst 0, 1) := by decide +kernel
theorem dX8_patternOf_40 : decode cX8_patternOf 40 = .ok (.goto 19, 3) := by decide +kernel
theorem dX8_patternOf_43 : decode cX8_patternOf 43 = .ok (.aload_n 0, 1) := by decide +kernel
theorem dX8_patternOf_44 : decode cX8_patternOf 44 = .ok (.getfield 77, 3) := by decide +kernel
theorem dX8_patternOf_47 : decode cX8_patternOf 47 = .ok (.iload 4, 2) := by decide +kernel
theorem dX8_patternOf_49 : decode cX8_patternOf 49 = .ok (.iaload, 1) := by decide +kernel
theorem dX8_patternOf_50 : decode cX8_patternOf 50 = .ok (.aload_n 0, 1) := by decide +kernel
theorem dX8_patternOf_51 : decode cX8_patternOf 51 = .ok (.getfield 77, 3) := by decide +kernel
theorem dX8_patternOf_54 : decode cX8_patternOf 54 = .ok (.iload 4, 2) := by decide +kernel
theorem dX8_patternOf_56 : decode cX8_patternOf 56 = .ok (.iaload, 1) := by decide +kernel
theorem dX8_patternOf_57 : decode cX8_patternOf 57 = .ok (.ineg, 1) := by decide +kernel
theorem dX8_patternOf_58 : decode cX8_patternOf 58 = .ok (.iand, 1) := by decide +kernel
theorem dX8_patternOf_59 : decode cX8_patternOf 59 = .ok (.iadd, 1) := by decide +kernel
theorem dX8_patternOf_60 : decode cX8_patternOf 60 = .ok (.istore_n 2, 1) := by decide +kernel
theorem dX8_patternOf_61 : decode cX8_patternOf 61 = .ok (.iinc 3 1, 3) := by decide +kernel
theorem dX8_patternOf_64 : decode cX8_patternOf 64 = .ok (.goto (-55), 3) := by decide +kernel
theorem dX8_patternOf_67 : decode cX8_patternOf 67 = .ok (.iload_n 2, 1) := by decide +kernel
theorem dX8_patternOf_68 : decode cX8_patternOf 68 = .ok (.ireturn, 1) := by decide +kernel
theorem dX8_about_0 : decode cX8_about 0 = .ok (.aload_n 0, 1) := by decide +kernel
theorem dX8_about_1 : decode cX8_about 1 = .ok (.iconst 0, 1) := by decide +kernel
theorem dX8_about_2 : decode cX8_about 2 = .ok (.putfield 1, 3) := by decide +kernel
theorem dX8_about_5 : decode cX8_about 5 = .ok (.aload_n 0, 1) := by decide +kernel
theorem dX8_about_6 : decode cX8_about 6 = .ok (.iload_n 1, 1) := by decide +kernel
theorem dX8_about_7 : decode cX8_about 7 = .ok (.invokevirtual 159, 3) := by decide +kernel
theorem dX8_about_10 : decode cX8_about 10 = .ok (.ifCond .ne 5, 3) := by decide +kernel
theorem dX8_about_13 : decode cX8_about 13 = .ok (.iconst (-1), 1) := by decide +kernel
theorem dX8_about_14 : decode cX8_about 14 = .ok (.ireturn, 1) := by decide +kernel
theorem dX8_about_15 : decode cX8_about 15 = .ok (.aload_n 0, 1) := by decide +kernel
theorem dX8_about_16 : decode cX8_about 16 = .ok (.iload_n 1, 1) := by decide +kernel
theorem dX8_about_17 : decode cX8_about 17 = .ok (.invokevirtual 181, 3) := by decide +kernel
theorem dX8_about_20 : decode cX8_about 20 = .ok (.iload_n 2, 1) := by decide +kernel
theorem dX8_about_21 : decode cX8_about 21 = .ok (.tableswitch 122 0 6 #[43, 50, 57, 64, 69, 75, 81], 43) := by decide +kernel
theorem dX8_about_64 : decode cX8_about 64 = .ok (.aload_n 0, 1) := by decide +kernel
theorem dX8_about_65 : decode cX8_about 65 = .ok (.getfield 47, 3) := by decide +kernel
theorem dX8_about_68 : decode cX8_about 68 = .ok (.iload_n 1, 1) := by decide +kernel
theorem dX8_about_69 : decode cX8_about 69 = .ok (.iaload, 1) := by decide +kernel
theorem dX8_about_70 : decode cX8_about 70 = .ok (.ireturn, 1) := by decide +kernel
theorem dX8_about_71 : decode cX8_about 71 = .ok (.aload_n 0, 1) := by decide +kernel
theorem dX8_about_72 : decode cX8_about 72 = .ok (.getfield 50, 3) := by decide +kernel
theorem dX8_about_75 : decode cX8_about 75 = .ok (.iload_n 1, 1) := by decide +kernel
theorem dX8_about_76 : decode cX8_about 76 = .ok (.iaload, 1) := by decide +kernel
theorem dX8_about_77 : decode cX8_about 77 = .ok (.ireturn, 1) := by decide +kernel
theorem dX8_about_78 : decode cX8_about 78 = .ok (.aload_n 0, 1) := by decide +kernel
theorem dX8_about_79 : decode cX8_about 79 = .ok (.getfield 53, 3) := by decide +kernel
theorem dX8_about_82 : decode cX8_about 82 = .ok (.iload_n 1, 1) := by decide +kernel
theorem dX8_about_83 : decode cX8_about 83 = .ok (.iaload, 1) := by decide +kernel
theorem dX8_about_84 : decode cX8_about 84 = .ok (.ireturn, 1) := by decide +kernel
theorem dX8_about_85 : decode cX8_about 85 = .ok (.aload_n 0, 1) := by decide +kernel
theorem dX8_about_86 : decode cX8_about 86 = .ok (.getfield 162, 3) := by decide +kernel
theorem dX8_about_89 : decode cX8_about 89 = .ok (.ireturn, 1) := by decide +kernel
theorem dX8_about_90 : decode cX8_about 90 = .ok (.aload_n 0, 1) := by decide +kernel
theorem dX8_about_91 : decode cX8_about 91 = .ok (.iload_n 1, 1) := by decide +kernel
theorem dX8_about_92 : decode cX8_about 92 = .ok (.invokevirtual 201, 3) := by decide +kernel
theorem dX8_about_95 : decode cX8_about 95 = .ok (.ireturn, 1) := by decide +kernel
theorem dX8_about_96 : decode cX8_about 96 = .ok (.aload_n 0, 1) := by decide +kernel
theorem dX8_about_97 : decode cX8_about 97 = .ok (.iload_n 1, 1) := by decide +kernel
theorem dX8_about_98 : decode cX8_about 98 = .ok (.invokevirtual 204, 3) := by decide +kernel
theorem dX8_about_101 : decode cX8_about 101 = .ok (.ireturn, 1) := by decide +kernel
theorem dX8_about_102 : decode cX8_about 102 = .ok (.iconst 0, 1) := by decide +kernel
theorem dX8_about_103 : decode cX8_about 103 = .ok (.istore_n 3, 1) := by decide +kernel
theorem dX8_about_104 : decode cX8_about 104 = .ok (.iconst 0, 1) := by decide +kernel
theorem dX8_about_105 : decode cX8_about 105 = .ok (.istore 4, 2) := by decide +kernel
theorem dX8_about_107 : decode cX8_about 107 = .ok (.iload 4, 2) := by decide +kernel
theorem dX8_about_109 : decode cX8_about 109 = .ok (.aload_n 0, 1) := by decide +kernel
theorem dX8_about_110 : decode cX8_about 110 = .ok (.getfield 137, 3) := by decide +kernel
theorem dX8_about_113 : decode cX8_about 113 = .ok (.if_icmp .ge 28, 3) := by decide +kernel
theorem dX8_about_116 : decode cX8_about 116 = .ok (.iload_n 3, 1) := by decide +kernel
theorem dX8_about_117 : decode cX8_about 117 = .ok (.aload_n 0, 1) := by decide +kernel
theorem dX8_about_118 : decode cX8_about 118 = .ok (.getfield 59, 3) := by decide +kernel
theorem dX8_about_121 : decode cX8_about 121 = .ok (.iload 4, 2) := by decide +kernel
theorem dX8_about_123 : decode cX8_about 123 = .ok (.iaload, 1) := by decide +kernel
theorem dX8_about_124 : decode cX8_about 124 = .ok (.iload_n 1, 1) := by decide +kernel
theorem dX8_about_125 : decode cX8_about 125 = .ok (.if_icmp .ne 7, 3) := by decide +kernel
theorem dX8_about_128 : decode cX8_about 128 = .ok (.iconst 1, 1) := by decide +kernel
theorem dX8_about_129 : decode cX8_about 129 = .ok (.goto 4, 3) := by decide +kernel
theorem dX8_about_132 : decode cX8_about 132 = .ok (.iconst 0, 1) := by decide +kernel
theorem dX8_about_133 : decode cX8_about 133 = .ok (.iadd, 1) := by decide +kernel
theorem dX8_about_134 : decode cX8_about 134 = .ok (.istore_n 3, 1) := by decide +kernel
theorem dX8_about_135 : decode cX8_about 135 = .ok (.iinc 4 1, 3) := by decide +kernel
theorem dX8_about_138 : decode cX8_about 138 = .ok (.goto (-31), 3) := by decide +kernel
theorem dX8_about_141 : decode cX8_about 141 = .ok (.iload_n 3, 1) := by decide +kernel
theorem dX8_about_142 : decode cX8_about 142 = .ok (.ireturn, 1) := by decide +kernel
theorem dX8_about_143 : decode cX8_about 143 = .ok (.iconst (-1), 1) := by decide +kernel
theorem dX8_about_144 : decode cX8_about 144 = .ok (.ireturn, 1) := by decide +kernel
theorem dX8_wayOf_0 : decode cX8_wayOf 0 = .ok (.bipush (-2), 2) := by decide +kernel
theorem dX8_wayOf_2 : decode cX8_wayOf 2 = .ok (.istore_n 2, 1) := by decide +kernel
theorem dX8_wayOf_3 : decode cX8_wayOf 3 = .ok (.iconst 0, 1) := by decide +kernel
theorem dX8_wayOf_4 : decode cX8_wayOf 4 = .ok (.istore_n 3, 1) := by decide +kernel
theorem dX8_wayOf_5 : decode cX8_wayOf 5 = .ok (.iconst 0, 1) := by decide +kernel
theorem dX8_wayOf_6 : decode cX8_wayOf 6 = .ok (.istore 4, 2) := by decide +kernel
theorem dX8_wayOf_8 : decode cX8_wayOf 8 = .ok (.iload 4, 2) := by decide +kernel
theorem dX8_wayOf_10 : decode cX8_wayOf 10 = .ok (.aload_n 0, 1) := by decide +kernel
theorem dX8_wayOf_11 : decode cX8_wayOf 11 = .ok (.getfield 120, 3) := by decide +kernel
theorem dX8_wayOf_14 : decode cX8_wayOf 14 = .ok (.if_icmp .ge 111, 3) := by decide +kernel
theorem dX8_wayOf_17 : decode cX8_wayOf 17 = .ok (.aload_n 0, 1) := by decide +kernel
theorem dX8_wayOf_18 : decode cX8_wayOf 18 = .ok (.getfield 50, 3) := by decide +kernel
theorem dX8_wayOf_21 : decode cX8_wayOf 21 = .ok (.iload 4, 2) := by decide +kernel
theorem dX8_wayOf_23 : decode cX8_wayOf 23 = .ok (.iaload, 1) := by decide +kernel
theorem dX8_wayOf_24 : decode cX8_wayOf 24 = .ok (.iload_n 1, 1) := by decide +kernel
theorem dX8_wayOf_25 : decode cX8_wayOf 25 = .ok (.if_icmp .eq 6, 3) := by decide +kernel
theorem dX8_wayOf_28 : decode cX8_wayOf 28 = .ok (.goto 91, 3) := by decide +kernel
theorem dX8_wayOf_31 : decode cX8_wayOf 31 = .ok (.aload_n 0, 1) := by decide +kernel
theorem dX8_wayOf_32 : decode cX8_wayOf 32 = .ok (.iload 4, 2) := by decide +kernel
theorem dX8_wayOf_34 : decode cX8_wayOf 34 = .ok (.invokevirtual 204, 3) := by decide +kernel
theorem dX8_wayOf_37 : decode cX8_wayOf 37 = .ok (.istore 5, 2) := by decide +kernel
theorem dX8_wayOf_39 : decode cX8_wayOf 39 = .ok (.iconst 0, 1) := by decide +kernel
theorem dX8_wayOf_40 : decode cX8_wayOf 40 = .ok (.istore 6, 2) := by decide +kernel
theorem dX8_wayOf_42 : decode cX8_wayOf 42 = .ok (.iconst 0, 1) := by decide +kernel
theorem dX8_wayOf_43 : decode cX8_wayOf 43 = .ok (.istore 7, 2) := by decide +kernel
theorem dX8_wayOf_45 : decode cX8_wayOf 45 = .ok (.iload 7, 2) := by decide +kernel
theorem dX8_wayOf_47 : decode cX8_wayOf 47 = .ok (.aload_n 0, 1) := by decide +kernel
theorem dX8_wayOf_48 : decode cX8_wayOf 48 = .ok (.getfield 120, 3) := by decide +kernel
theorem dX8_wayOf_51 : decode cX8_wayOf 51 = .ok (.if_icmp .ge 41, 3) := by decide +kernel
theorem dX8_wayOf_54 : decode cX8_wayOf 54 = .ok (.iload 6, 2) := by decide +kernel
theorem dX8_wayOf_56 : decode cX8_wayOf 56 = .ok (.aload_n 0, 1) := by decide +kernel
theorem dX8_wayOf_57 : decode cX8_wayOf 57 = .ok (.getfield 50, 3) := by decide +kernel
theorem dX8_wayOf_60 : decode cX8_wayOf 60 = .ok (.iload 7, 2) := by decide +kernel
theorem dX8_wayOf_62 : decode cX8_wayOf 62 = .ok (.iaload, 1) := by decide +kernel
theorem dX8_wayOf_63 : decode cX8_wayOf 63 = .ok (.iload_n 1, 1) := by decide +kernel
theorem dX8_wayOf_64 : decode cX8_wayOf 64 = .ok (.if_icmp .ne 18, 3) := by decide +kernel
theorem dX8_wayOf_67 : decode cX8_wayOf 67 = .ok (.aload_n 0, 1) := by decide +kernel
theorem dX8_wayOf_68 : decode cX8_wayOf 68 = .ok (.iload 7, 2) := by decide +kernel
theorem dX8_wayOf_70 : decode cX8_wayOf 70 = .ok (.invokevirtual 204, 3) := by decide +kernel
theorem dX8_wayOf_73 : decode cX8_wayOf 73 = .ok (.iload 5, 2) := by decide +kernel
theorem dX8_wayOf_75 : decode cX8_wayOf 75 = .ok (.if_icmp .ne 7, 3) := by decide +kernel
theorem dX8_wayOf_78 : decode cX8_wayOf 78 = .ok (.iconst 1, 1) := by decide +kernel
theorem dX8_wayOf_79 : decode cX8_wayOf 79 = .ok (.goto 4, 3) := by decide +kernel
theorem dX8_wayOf_82 : decode cX8_wayOf 82 = .ok (.iconst 0, 1) := by decide +kernel
theorem dX8_wayOf_83 : decode cX8_wayOf 83 = .ok (.iadd, 1) := by decide +kernel
theorem dX8_wayOf_84 : decode cX8_wayOf 84 = .ok (.istore 6, 2) := by decide +kernel
theorem dX8_wayOf_86 : decode cX8_wayOf 86 = .ok (.iinc 7 1, 3) := by decide +kernel
theorem dX8_wayOf_89 : decode cX8_wayOf 89 = .ok (.goto (-44), 3) := by decide +kernel
theorem dX8_wayOf_92 : decode cX8_wayOf 92 = .ok (.iload 6, 2) := by decide +kernel
theorem dX8_wayOf_94 : decode cX8_wayOf 94 = .ok (.iload_n 3, 1) := by decide +kernel
theorem dX8_wayOf_95 : decode cX8_wayOf 95 = .ok (.if_icmp .lt 24, 3) := by decide +kernel
theorem dX8_wayOf_98 : decode cX8_wayOf 98 = .ok (.iload 6, 2) := by decide +kernel
theorem dX8_wayOf_100 : decode cX8_wayOf 100 = .ok (.iload_n 3, 1) := by decide +kernel
theorem dX8_wayOf_101 : decode cX8_wayOf 101 = .ok (.if_icmp .ne 12, 3) := by decide +kernel
theorem dX8_wayOf_104 : decode cX8_wayOf 104 = .ok (.iload 5, 2) := by decide +kernel
theorem dX8_wayOf_106 : decode cX8_wayOf 106 = .ok (.iload_n 2, 1) := by decide +kernel
theorem dX8_wayOf_107 : decode cX8_wayOf 107 = .ok (.if_icmp .lt 6, 3) := by decide +kernel
theorem dX8_wayOf_110 : decode cX8_wayOf 110 = .ok (.goto 9, 3) := by decide +kernel
theorem dX8_wayOf_113 : decode cX8_wayOf 113 = .ok (.iload 6, 2) := by decide +kernel
theorem dX8_wayOf_115 : decode cX8_wayOf 115 = .ok (.istore_n 3, 1) := by decide +kernel
theorem dX8_wayOf_116 : decode cX8_wayOf 116 = .ok (.iload 5, 2) := by decide +kernel
theorem dX8_wayOf_118 : decode cX8_wayOf 118 = .ok (.istore_n 2, 1) := by decide +kernel
theorem dX8_wayOf_119 : decode cX8_wayOf 119 = .ok (.iinc 4 1, 3) := by decide +kernel
theorem dX8_wayOf_122 : decode cX8_wayOf 122 = .ok (.goto (-114), 3) := by decide +kernel
theorem dX8_wayOf_125 : decode cX8_wayOf 125 = .ok (.iload_n 2, 1) := by decide +kernel
theorem dX8_wayOf_126 : decode cX8_wayOf 126 = .ok (.ireturn, 1) := by decide +kernel
theorem dX8_way_0 : decode cX8_way 0 = .ok (.aload_n 0, 1) := by decide +kernel
theorem dX8_way_1 : decode cX8_way 1 = .ok (.iconst 0, 1) := by decide +kernel
theorem dX8_way_2 : decode cX8_way 2 = .ok (.putfield 1, 3) := by decide +kernel
theorem dX8_way_5 : decode cX8_way 5 = .ok (.iload_n 1, 1) := by decide +kernel
theorem dX8_way_6 : decode cX8_way 6 = .ok (.iconst 0, 1) := by decide +kernel
theorem dX8_way_7 : decode cX8_way 7 = .ok (.iconst 2, 1) := by decide +kernel
theorem dX8_way_8 : decode cX8_way 8 = .ok (.invokestatic 24, 3) := by decide +kernel
theorem dX8_way_11 : decode cX8_way 11 = .ok (.ifCond .eq 11, 3) := by decide +kernel
theorem dX8_way_14 : decode cX8_way 14 = .ok (.aload_n 0, 1) := by decide +kernel
theorem dX8_way_15 : decode cX8_way 15 = .ok (.iload_n 1, 1) := by decide +kernel
theorem dX8_way_16 : decode cX8_way 16 = .ok (.invokevirtual 207, 3) := by decide +kernel
theorem dX8_way_19 : decode cX8_way 19 = .ok (.goto 4, 3) := by decide +kernel
theorem dX8_way_22 : decode cX8_way 22 = .ok (.iconst (-1), 1) := by decide +kernel
theorem dX8_way_23 : decode cX8_way 23 = .ok (.ireturn, 1) := by decide +kernel
theorem dX8_odd_0 : decode cX8_odd 0 = .ok (.aload_n 0, 1) := by decide +kernel
theorem dX8_odd_1 : decode cX8_odd 1 = .ok (.iconst 0, 1) := by decide +kernel
theorem dX8_odd_2 : decode cX8_odd 2 = .ok (.putfield 1, 3) := by decide +kernel
theorem dX8_odd_5 : decode cX8_odd 5 = .ok (.iload_n 1, 1) := by decide +kernel
theorem dX8_odd_6 : decode cX8_odd 6 = .ok (.iconst 0, 1) := by decide +kernel
theorem dX8_odd_7 : decode cX8_odd 7 = .ok (.iconst 2, 1) := by decide +kernel
theorem dX8_odd_8 : decode cX8_odd 8 = .ok (.invokestatic 24, 3) := by decide +kernel
theorem dX8_odd_11 : decode cX8_odd 11 = .ok (.ifCond .ne 5, 3) := by decide +kernel
theorem dX8_odd_14 : decode cX8_odd 14 = .ok (.iconst (-1), 1) := by decide +kernel
theorem dX8_odd_15 : decode cX8_odd 15 = .ok (.ireturn, 1) := by decide +kernel
theorem dX8_odd_16 : decode cX8_odd 16 = .ok (.aload_n 0, 1) := by decide +kernel
theorem dX8_odd_17 : decode cX8_odd 17 = .ok (.iload_n 1, 1) := by decide +kernel
theorem dX8_odd_18 : decode cX8_odd 18 = .ok (.invokevirtual 207, 3) := by decide +kernel
theorem dX8_odd_21 : decode cX8_odd 21 = .ok (.istore_n 2, 1) := by decide +kernel
theorem dX8_odd_22 : decode cX8_odd 22 = .ok (.iconst 0, 1) := by decide +kernel
theorem dX8_odd_23 : decode cX8_odd 23 = .ok (.istore_n 3, 1) := by decide +kernel
theorem dX8_odd_24 : decode cX8_odd 24 = .ok (.iconst 0, 1) := by decide +kernel
theorem dX8_odd_25 : decode cX8_odd 25 = .ok (.istore 4, 2) := by decide +kernel
theorem dX8_odd_27 : decode cX8_odd 27 = .ok (.iload 4, 2) := by decide +kernel
theorem dX8_odd_29 : decode cX8_odd 29 = .ok (.aload_n 0, 1) := by decide +kernel
theorem dX8_odd_30 : decode cX8_odd 30 = .ok (.getfield 120, 3) := by decide +kernel
theorem dX8_odd_33 : decode cX8_odd 33 = .ok (.if_icmp .ge 38, 3) := by decide +kernel
theorem dX8_odd_36 : decode cX8_odd 36 = .ok (.iload_n 3, 1) := by decide +kernel
theorem dX8_odd_37 : decode cX8_odd 37 = .ok (.aload_n 0, 1) := by decide +kernel
theorem dX8_odd_38 : decode cX8_odd 38 = .ok (.getfield 50, 3) := by decide +kernel
theorem dX8_odd_41 : decode cX8_odd 41 = .ok (.iload 4, 2) := by decide +kernel
theorem dX8_odd_43 : decode cX8_odd 43 = .ok (.iaload, 1) := by decide +kernel
theorem dX8_odd_44 : decode cX8_odd 44 = .ok (.iload_n 1, 1) := by decide +kernel
theorem dX8_odd_45 : decode cX8_odd 45 = .ok (.if_icmp .ne 17, 3) := by decide +kernel
theorem dX8_odd_48 : decode cX8_odd 48 = .ok (.aload_n 0, 1) := by decide +kernel
theorem dX8_odd_49 : decode cX8_odd 49 = .ok (.iload 4, 2) := by decide +kernel
theorem dX8_odd_51 : decode cX8_odd 51 = .ok (.invokevirtual 204, 3) := by decide +kernel
theorem dX8_odd_54 : decode cX8_odd 54 = .ok (.iload_n 2, 1) := by decide +kernel
theorem dX8_odd_55 : decode cX8_odd 55 = .ok (.if_icmp .eq 7, 3) := by decide +kernel
theorem dX8_odd_58 : decode cX8_odd 58 = .ok (.iconst 1, 1) := by decide +kernel
theorem dX8_odd_59 : decode cX8_odd 59 = .ok (.goto 4, 3) := by decide +kernel
theorem dX8_odd_62 : decode cX8_odd 62 = .ok (.iconst 0, 1) := by decide +kernel
theorem dX8_odd_63 : decode cX8_odd 63 = .ok (.iadd, 1) := by decide +kernel
theorem dX8_odd_64 : decode cX8_odd 64 = .ok (.istore_n 3, 1) := by decide +kernel
theorem dX8_odd_65 : decode cX8_odd 65 = .ok (.iinc 4 1, 3) := by decide +kernel
theorem dX8_odd_68 : decode cX8_odd 68 = .ok (.goto (-41), 3) := by decide +kernel
theorem dX8_odd_71 : decode cX8_odd 71 = .ok (.iload_n 3, 1) := by decide +kernel
theorem dX8_odd_72 : decode cX8_odd 72 = .ok (.ireturn, 1) := by decide +kernel
theorem dX8_isOdd_0 : decode cX8_isOdd 0 = .ok (.aload_n 0, 1) := by decide +kernel
theorem dX8_isOdd_1 : decode cX8_isOdd 1 = .ok (.iconst 0, 1) := by decide +kernel
theorem dX8_isOdd_2 : decode cX8_isOdd 2 = .ok (.putfield 1, 3) := by decide +kernel
theorem dX8_isOdd_5 : decode cX8_isOdd 5 = .ok (.aload_n 0, 1) := by decide +kernel
theorem dX8_isOdd_6 : decode cX8_isOdd 6 = .ok (.iload_n 1, 1) := by decide +kernel
theorem dX8_isOdd_7 : decode cX8_isOdd 7 = .ok (.invokevirtual 159, 3) := by decide +kernel
theorem dX8_isOdd_10 : decode cX8_isOdd 10 = .ok (.ifCond .eq 29, 3) := by decide +kernel
theorem dX8_isOdd_13 : decode cX8_isOdd 13 = .ok (.aload_n 0, 1) := by decide +kernel
theorem dX8_isOdd_14 : decode cX8_isOdd 14 = .ok (.iload_n 1, 1) := by decide +kernel
theorem dX8_isOdd_15 : decode cX8_isOdd 15 = .ok (.invokevirtual 204, 3) := by decide +kernel
theorem dX8_isOdd_18 : decode cX8_isOdd 18 = .ok (.aload_n 0, 1) := by decide +kernel
theorem dX8_isOdd_19 : decode cX8_isOdd 19 = .ok (.aload_n 0, 1) := by decide +kernel
theorem dX8_isOdd_20 : decode cX8_isOdd 20 = .ok (.getfield 50, 3) := by decide +kernel
theorem dX8_isOdd_23 : decode cX8_isOdd 23 = .ok (.iload_n 1, 1) := by decide +kernel
theorem dX8_isOdd_24 : decode cX8_isOdd 24 = .ok (.iaload, 1) := by decide +kernel
theorem dX8_isOdd_25 : decode cX8_isOdd 25 = .ok (.invokevirtual 207, 3) := by decide +kernel
theorem dX8_isOdd_28 : decode cX8_isOdd 28 = .ok (.if_icmp .eq 7, 3) := by decide +kernel
theorem dX8_isOdd_31 : decode cX8_isOdd 31 = .ok (.iconst 1, 1) := by decide +kernel
theorem dX8_isOdd_32 : decode cX8_isOdd 32 = .ok (.goto 8, 3) := by decide +kernel
theorem dX8_isOdd_35 : decode cX8_isOdd 35 = .ok (.iconst 0, 1) := by decide +kernel
theorem dX8_isOdd_36 : decode cX8_isOdd 36 = .ok (.goto 4, 3) := by decide +kernel
theorem dX8_isOdd_39 : decode cX8_isOdd 39 = .ok (.iconst (-1), 1) := by decide +kernel
theorem dX8_isOdd_40 : decode cX8_isOdd 40 = .ok (.ireturn, 1) := by decide +kernel
theorem dX8_mixed_0 : decode cX8_mixed 0 = .ok (.aload_n 0, 1) := by decide +kernel
theorem dX8_mixed_1 : decode cX8_mixed 1 = .ok (.iconst 0, 1) := by decide +kernel
theorem dX8_mixed_2 : decode cX8_mixed 2 = .ok (.putfield 1, 3) := by decide +kernel
theorem dX8_mixed_5 : decode cX8_mixed 5 = .ok (.aload_n 0, 1) := by decide +kernel
theorem dX8_mixed_6 : decode cX8_mixed 6 = .ok (.invokevirtual 192, 3) := by decide +kernel
theorem dX8_mixed_9 : decode cX8_mixed 9 = .ok (.iconst 0, 1) := by decide +kernel
theorem dX8_mixed_10 : decode cX8_mixed 10 = .ok (.istore_n 1, 1) := by decide +kernel
theorem dX8_mixed_11 : decode cX8_mixed 11 = .ok (.iconst 0, 1) := by decide +kernel
theorem dX8_mixed_12 : decode cX8_mixed 12 = .ok (.istore_n 2, 1) := by decide +kernel
theorem dX8_mixed_13 : decode cX8_mixed 13 = .ok (.iload_n 2, 1) := by decide +kernel
theorem dX8_mixed_14 : decode cX8_mixed 14 = .ok (.aload_n 0, 1) := by decide +kernel
theorem dX8_mixed_15 : decode cX8_mixed 15 = .ok (.getfield 165, 3) := by decide +kernel
theorem dX8_mixed_18 : decode cX8_mixed 18 = .ok (.if_icmp .ge 105, 3) := by decide +kernel
theorem dX8_mixed_21 : decode cX8_mixed 21 = .ok (.iconst 0, 1) := by decide +kernel
theorem dX8_mixed_22 : decode cX8_mixed 22 = .ok (.istore_n 3, 1) := by decide +kernel
theorem dX8_mixed_23 : decode cX8_mixed 23 = .ok (.iconst 1, 1) := by decide +kernel
theorem dX8_mixed_24 : decode cX8_mixed 24 = .ok (.istore 4, 2) := by decide +kernel
theorem dX8_mixed_26 : decode cX8_mixed 26 = .ok (.iconst 0, 1) := by decide +kernel
theorem dX8_mixed_27 : decode cX8_mixed 27 = .ok (.istore 5, 2) := by decide +kernel
theorem dX8_mixed_29 : decode cX8_mixed 29 = .ok (.iload 5, 2) := by decide +kernel
theorem dX8_mixed_31 : decode cX8_mixed 31 = .ok (.aload_n 0, 1) := by decide +kernel
theorem dX8_mixed_32 : decode cX8_mixed 32 = .ok (.getfield 165, 3) := by decide +kernel
theorem dX8_mixed_35 : decode cX8_mixed 35 = .ok (.if_icmp .ge 64, 3) := by decide +kernel
theorem dX8_mixed_38 : decode cX8_mixed 38 = .ok (.aload_n 0, 1) := by decide +kernel
theorem dX8_mixed_39 : decode cX8_mixed 39 = .ok (.getfield 83, 3) := by decide +kernel
theorem dX8_mixed_42 : decode cX8_mixed 42 = .ok (.iload 5, 2) := by decide +kernel
theorem dX8_mixed_44 : decode cX8_mixed 44 = .ok (.iaload, 1) := by decide +kernel
theorem dX8_mixed_45 : decode cX8_mixed 45 = .ok (.aload_n 0, 1) := by decide +kernel
theorem dX8_mixed_46 : decode cX8_mixed 46 = .ok (.getfield 83, 3) := by decide +kernel
theorem dX8_mixed_49 : decode cX8_mixed 49 = .ok (.iload_n 2, 1) := by decide +kernel
theorem dX8_mixed_50 : decode cX8_mixed 50 = .ok (.iaload, 1) := by decide +kernel
theorem dX8_mixed_51 : decode cX8_mixed 51 = .ok (.if_icmp .eq 6, 3) := by decide +kernel
theorem dX8_mixed_54 : decode cX8_mixed 54 = .ok (.goto 39, 3) := by decide +kernel
theorem dX8_mixed_57 : decode cX8_mixed 57 = .ok (.iload 4, 2) := by decide +kernel
theorem dX8_mixed_59 : decode cX8_mixed 59 = .ok (.ifCond .eq 13, 3) := by decide +kernel
theorem dX8_mixed_62 : decode cX8_mixed 62 = .ok (.iload 5, 2) := by decide +kernel
theorem dX8_mixed_64 : decode cX8_mixed 64 = .ok (.iload_n 2, 1) := by decide +kernel
theorem dX8_mixed_65 : decode cX8_mixed 65 = .ok (.if_icmp .lt 7, 3) := by decide +kernel
theorem dX8_mixed_68 : decode cX8_mixed 68 = .ok (.iconst 1, 1) := by decide +kernel
theorem dX8_mixed_69 : decode cX8_mixed 69 = .ok (.goto 4, 3) := by decide +kernel
theorem dX8_mixed_72 : decode cX8_mixed 72 = .ok (.iconst 0, 1) := by decide +kernel
theorem dX8_mixed_73 : decode cX8_mixed 73 = .ok (.istore 4, 2) := by decide +kernel
theorem dX8_mixed_75 : decode cX8_mixed 75 = .ok (.iload_n 3, 1) := by decide +kernel
theorem dX8_mixed_76 : decode cX8_mixed 76 = .ok (.aload_n 0, 1) := by decide +kernel
theorem dX8_mixed_77 : decode cX8_mixed 77 = .ok (.getfield 86, 3) := by decide +kernel
theorem dX8_mixed_80 : decode cX8_mixed 80 = .ok (.iload 5, 2) := by decide +kernel
theorem dX8_mixed_82 : decode cX8_mixed 82 = .ok (.iaload, 1) := by decide +kernel
theorem dX8_mixed_83 : decode cX8_mixed 83 = .ok (.ifCond .le 7, 3) := by decide +kernel
theorem dX8_mixed_86 : decode cX8_mixed 86 = .ok (.iconst 1, 1) := by decide +kernel
theorem dX8_mixed_87 : decode cX8_mixed 87 = .ok (.goto 4, 3) := by decide +kernel
theorem dX8_mixed_90 : decode cX8_mixed 90 = .ok (.iconst 0, 1) := by decide +kernel
theorem dX8_mixed_91 : decode cX8_mixed 91 = .ok (.iadd, 1) := by decide +kernel
theorem dX8_mixed_92 : decode cX8_mixed 92 = .ok (.istore_n 3, 1) := by decide +kernel
theorem dX8_mixed_93 : decode cX8_mixed 93 = .ok (.iinc 5 1, 3) := by decide +kernel
theorem dX8_mixed_96 : decode cX8_mixed 96 = .ok (.goto (-67), 3) := by decide +kernel
theorem dX8_mixed_99 : decode cX8_mixed 99 = .ok (.iload_n 1, 1) := by decide +kernel
theorem dX8_mixed_100 : decode cX8_mixed 100 = .ok (.iload 4, 2) := by decide +kernel
theorem dX8_mixed_102 : decode cX8_mixed 102 = .ok (.ifCond .eq 12, 3) := by decide +kernel
theorem dX8_mixed_105 : decode cX8_mixed 105 = .ok (.iload_n 3, 1) := by decide +kernel
theorem dX8_mixed_106 : decode cX8_mixed 106 = .ok (.iconst 1, 1) := by decide +kernel
theorem dX8_mixed_107 : decode cX8_mixed 107 = .ok (.if_icmp .le 7, 3) := by decide +kernel
theorem dX8_mixed_110 : decode cX8_mixed 110 = .ok (.iconst 1, 1) := by decide +kernel
theorem dX8_mixed_111 : decode cX8_mixed 111 = .ok (.goto 4, 3) := by decide +kernel
theorem dX8_mixed_114 : decode cX8_mixed 114 = .ok (.iconst 0, 1) := by decide +kernel
theorem dX8_mixed_115 : decode cX8_mixed 115 = .ok (.iadd, 1) := by decide +kernel
theorem dX8_mixed_116 : decode cX8_mixed 116 = .ok (.istore_n 1, 1) := by decide +kernel
theorem dX8_mixed_117 : decode cX8_mixed 117 = .ok (.iinc 2 1, 3) := by decide +kernel
theorem dX8_mixed_120 : decode cX8_mixed 120 = .ok (.goto (-107), 3) := by decide +kernel
theorem dX8_mixed_123 : decode cX8_mixed 123 = .ok (.iload_n 1, 1) := by decide +kernel
theorem dX8_mixed_124 : decode cX8_mixed 124 = .ok (.ireturn, 1) := by decide +kernel
theorem dX8_strange_0 : decode cX8_strange 0 = .ok (.aload_n 0, 1) := by decide +kernel
theorem dX8_strange_1 : decode cX8_strange 1 = .ok (.iconst 0, 1) := by decide +kernel
theorem dX8_strange_2 : decode cX8_strange 2 = .ok (.putfield 1, 3) := by decide +kernel
theorem dX8_strange_5 : decode cX8_strange 5 = .ok (.iconst 0, 1) := by decide +kernel
theorem dX8_strange_6 : decode cX8_strange 6 = .ok (.istore_n 1, 1) := by decide +kernel
theorem dX8_strange_7 : decode cX8_strange 7 = .ok (.iconst 0, 1) := by decide +kernel
theorem dX8_strange_8 : decode cX8_strange 8 = .ok (.istore_n 2, 1) := by decide +kernel
theorem dX8_strange_9 : decode cX8_strange 9 = .ok (.iload_n 2, 1) := by decide +kernel
theorem dX8_strange_10 : decode cX8_strange 10 = .ok (.aload_n 0, 1) := by decide +kernel
theorem dX8_strange_11 : decode cX8_strange 11 = .ok (.getfield 120, 3) := by decide +kernel
theorem dX8_strange_14 : decode cX8_strange 14 = .ok (.if_icmp .ge 69, 3) := by decide +kernel
theorem dX8_strange_17 : decode cX8_strange 17 = .ok (.aload_n 0, 1) := by decide +kernel
theorem dX8_strange_18 : decode cX8_strange 18 = .ok (.iload_n 2, 1) := by decide +kernel
theorem dX8_strange_19 : decode cX8_strange 19 = .ok (.invokevirtual 181, 3) := by decide +kernel
theorem dX8_strange_22 : decode cX8_strange 22 = .ok (.iconst 0, 1) := by decide +kernel
theorem dX8_strange_23 : decode cX8_strange 23 = .ok (.istore_n 3, 1) := by decide +kernel
theorem dX8_strange_24 : decode cX8_strange 24 = .ok (.iload_n 3, 1) := by decide +kernel
theorem dX8_strange_25 : decode cX8_strange 25 = .ok (.aload_n 0, 1) := by decide +kernel
theorem dX8_strange_26 : decode cX8_strange 26 = .ok (.getfield 162, 3) := by decide +kernel
theorem dX8_strange_29 : decode cX8_strange 29 = .ok (.if_icmp .ge 48, 3) := by decide +kernel
theorem dX8_strange_32 : decode cX8_strange 32 = .ok (.iload_n 1, 1) := by decide +kernel
theorem dX8_strange_33 : decode cX8_strange 33 = .ok (.aload_n 0, 1) := by decide +kernel
theorem dX8_strange_34 : decode cX8_strange 34 = .ok (.iload_n 2, 1) := by decide +kernel
theorem dX8_strange_35 : decode cX8_strange 35 = .ok (.iload_n 3, 1) := by decide +kernel
theorem dX8_strange_36 : decode cX8_strange 36 = .ok (.invokevirtual 185, 3) := by decide +kernel
theorem dX8_strange_39 : decode cX8_strange 39 = .ok (.ifCond .ge 29, 3) := by decide +kernel
theorem dX8_strange_42 : decode cX8_strange 42 = .ok (.aload_n 0, 1) := by decide +kernel
theorem dX8_strange_43 : decode cX8_strange 43 = .ok (.getfield 62, 3) := by decide +kernel
theorem dX8_strange_46 : decode cX8_strange 46 = .ok (.bipush 24, 2) := by decide +kernel
theorem dX8_strange_48 : decode cX8_strange 48 = .ok (.iload_n 2, 1) := by decide +kernel
theorem dX8_strange_49 : decode cX8_strange 49 = .ok (.imul, 1) := by decide +kernel
theorem dX8_strange_50 : decode cX8_strange 50 = .ok (.aload_n 0, 1) := by decide +kernel
theorem dX8_strange_51 : decode cX8_strange 51 = .ok (.getfield 65, 3) := by decide +kernel
theorem dX8_strange_54 : decode cX8_strange 54 = .ok (.iload_n 3, 1) := by decide +kernel
theorem dX8_strange_55 : decode cX8_strange 55 = .ok (.iaload, 1) := by decide +kernel
theorem dX8_strange_56 : decode cX8_strange 56 = .ok (.iadd, 1) := by decide +kernel
theorem dX8_strange_57 : decode cX8_strange 57 = .ok (.baload, 1) := by decide +kernel
theorem dX8_strange_58 : decode cX8_strange 58 = .ok (.invokestatic 28, 3) := by decide +kernel
theorem dX8_strange_61 : decode cX8_strange 61 = .ok (.ifCond .ne 7, 3) := by decide +kernel
theorem dX8_strange_64 : decode cX8_strange 64 = .ok (.iconst 1, 1) := by decide +kernel
theorem dX8_strange_65 : decode cX8_strange 65 = .ok (.goto 4, 3) := by decide +kernel
theorem dX8_strange_68 : decode cX8_strange 68 = .ok (.iconst 0, 1) := by decide +kernel
theorem dX8_strange_69 : decode cX8_strange 69 = .ok (.iadd, 1) := by decide +kernel
theorem dX8_strange_70 : decode cX8_strange 70 = .ok (.istore_n 1, 1) := by decide +kernel
theorem dX8_strange_71 : decode cX8_strange 71 = .ok (.iinc 3 1, 3) := by decide +kernel
theorem dX8_strange_74 : decode cX8_strange 74 = .ok (.goto (-50), 3) := by decide +kernel
theorem dX8_strange_77 : decode cX8_strange 77 = .ok (.iinc 2 1, 3) := by decide +kernel
theorem dX8_strange_80 : decode cX8_strange 80 = .ok (.goto (-71), 3) := by decide +kernel
theorem dX8_strange_83 : decode cX8_strange 83 = .ok (.iload_n 1, 1) := by decide +kernel
theorem dX8_strange_84 : decode cX8_strange 84 = .ok (.ireturn, 1) := by decide +kernel
theorem dX8_makes_0 : decode cX8_makes 0 = .ok (.aload_n 0, 1) := by decide +kernel
theorem dX8_makes_1 : decode cX8_makes 1 = .ok (.getfield 92, 3) := by decide +kernel
theorem dX8_makes_4 : decode cX8_makes 4 = .ok (.aload_n 0, 1) := by decide +kernel
theorem dX8_makes_5 : decode cX8_makes 5 = .ok (.getfield 210, 3) := by decide +kernel
theorem dX8_makes_8 : decode cX8_makes 8 = .ok (.iload_n 2, 1) := by decide +kernel
theorem dX8_makes_9 : decode cX8_makes 9 = .ok (.ifCond .eq 17, 3) := by decide +kernel
theorem dX8_makes_12 : decode cX8_makes 12 = .ok (.iload_n 1, 1) := by decide +kernel
theorem dX8_makes_13 : decode cX8_makes 13 = .ok (.invokestatic 17, 3) := by decide +kernel
theorem dX8_makes_16 : decode cX8_makes 16 = .ok (.ifCond .eq 10, 3) := by decide +kernel
theorem dX8_makes_19 : decode cX8_makes 19 = .ok (.iload_n 1, 1) := by decide +kernel
theorem dX8_makes_20 : decode cX8_makes 20 = .ok (.bipush 32, 2) := by decide +kernel
theorem dX8_makes_22 : decode cX8_makes 22 = .ok (.isub, 1) := by decide +kernel
theorem dX8_makes_23 : decode cX8_makes 23 = .ok (.goto 4, 3) := by decide +kernel
theorem dX8_makes_26 : decode cX8_makes 26 = .ok (.iload_n 1, 1) := by decide +kernel
theorem dX8_makes_27 : decode cX8_makes 27 = .ok (.i2b, 1) := by decide +kernel
theorem dX8_makes_28 : decode cX8_makes 28 = .ok (.bastore, 1) := by decide +kernel
theorem dX8_makes_29 : decode cX8_makes 29 = .ok (.aload_n 0, 1) := by decide +kernel
theorem dX8_makes_30 : decode cX8_makes 30 = .ok (.dup, 1) := by decide +kernel
theorem dX8_makes_31 : decode cX8_makes 31 = .ok (.getfield 210, 3) := by decide +kernel
theorem dX8_makes_34 : decode cX8_makes 34 = .ok (.iconst 1, 1) := by decide +kernel
theorem dX8_makes_35 : decode cX8_makes 35 = .ok (.iadd, 1) := by decide +kernel
theorem dX8_makes_36 : decode cX8_makes 36 = .ok (.putfield 210, 3) := by decide +kernel
theorem dX8_makes_39 : decode cX8_makes 39 = .ok (.return_, 1) := by decide +kernel
theorem dX8_offers_0 : decode cX8_offers 0 = .ok (.aload_n 0, 1) := by decide +kernel
theorem dX8_offers_1 : decode cX8_offers 1 = .ok (.invokevirtual 192, 3) := by decide +kernel
theorem dX8_offers_4 : decode cX8_offers 4 = .ok (.aload_n 0, 1) := by decide +kernel
theorem dX8_offers_5 : decode cX8_offers 5 = .ok (.iload_n 1, 1) := by decide +kernel
theorem dX8_offers_6 : decode cX8_offers 6 = .ok (.invokevirtual 201, 3) := by decide +kernel
theorem dX8_offers_9 : decode cX8_offers 9 = .ok (.istore_n 2, 1) := by decide +kernel
theorem dX8_offers_10 : decode cX8_offers 10 = .ok (.aload_n 0, 1) := by decide +kernel
theorem dX8_offers_11 : decode cX8_offers 11 = .ok (.iload_n 1, 1) := by decide +kernel
theorem dX8_offers_12 : decode cX8_offers 12 = .ok (.invokevirtual 181, 3) := by decide +kernel
theorem dX8_offers_15 : decode cX8_offers 15 = .ok (.aload_n 0, 1) := by decide +kernel
theorem dX8_offers_16 : decode cX8_offers 16 = .ok (.iconst 0, 1) := by decide +kernel
theorem dX8_offers_17 : decode cX8_offers 17 = .ok (.putfield 210, 3) := by decide +kernel
theorem dX8_offers_20 : decode cX8_offers 20 = .ok (.iconst 0, 1) := by decide +kernel
theorem dX8_offers_21 : decode cX8_offers 21 = .ok (.istore_n 3, 1) := by decide +kernel
theorem dX8_offers_22 : decode cX8_offers 22 = .ok (.iload_n 3, 1) := by decide +kernel
theorem dX8_offers_23 : decode cX8_offers 23 = .ok (.aload_n 0, 1) := by decide +kernel
theorem dX8_offers_24 : decode cX8_offers 24 = .ok (.getfield 162, 3) := by decide +kernel
theorem dX8_offers_27 : decode cX8_offers 27 = .ok (.if_icmp .ge 175, 3) := by decide +kernel
theorem dX8_offers_30 : decode cX8_offers 30 = .ok (.aload_n 0, 1) := by decide +kernel
theorem dX8_offers_31 : decode cX8_offers 31 = .ok (.aload_n 0, 1) := by decide +kernel
theorem dX8_offers_32 : decode cX8_offers 32 = .ok (.iload_n 1, 1) := by decide +kernel
theorem dX8_offers_33 : decode cX8_offers 33 = .ok (.iload_n 3, 1) := by decide +kernel
theorem dX8_offers_34 : decode cX8_offers 34 = .ok (.invokevirtual 185, 3) := by decide +kernel
theorem dX8_offers_37 : decode cX8_offers 37 = .ok (.invokevirtual 189, 3) := by decide +kernel
theorem dX8_offers_40 : decode cX8_offers 40 = .ok (.istore 4, 2) := by decide +kernel
theorem dX8_offers_42 : decode cX8_offers 42 = .ok (.iload 4, 2) := by decide +kernel
theorem dX8_offers_44 : decode cX8_offers 44 = .ok (.ifCond .lt 11, 3) := by decide +kernel
theorem dX8_offers_47 : decode cX8_offers 47 = .ok (.aload_n 0, 1) := by decide +kernel
theorem dX8_offers_48 : decode cX8_offers 48 = .ok (.iload 4, 2) := by decide +kernel
theorem dX8_offers_50 : decode cX8_offers 50 = .ok (.invokevirtual 195, 3) := by decide +kernel
theorem dX8_offers_53 : decode cX8_offers 53 = .ok (.istore 4, 2) := by decide +kernel
theorem dX8_offers_55 : decode cX8_offers 55 = .ok (.iload_n 2, 1) := by decide +kernel
theorem dX8_offers_56 : decode cX8_offers 56 = .ok (.iconst 1, 1) := by decide +kernel
theorem dX8_offers_57 : decode cX8_offers 57 = .ok (.if_icmp .le 14, 3) := by decide +kernel
theorem dX8_offers_60 : decode cX8_offers 60 = .ok (.iload_n 3, 1) := by decide +kernel
theorem dX8_offers_61 : decode cX8_offers 61 = .ok (.ifCond .le 10, 3) := by decide +kernel
theorem dX8_offers_64 : decode cX8_offers 64 = .ok (.aload_n 0, 1) := by decide +kernel
theorem dX8_offers_65 : decode cX8_offers 65 = .ok (.bipush 95, 2) := by decide +kernel
theorem dX8_offers_67 : decode cX8_offers 67 = .ok (.iconst 0, 1) := by decide +kernel
theorem dX8_offers_68 : decode cX8_offers 68 = .ok (.invokevirtual 213, 3) := by decide +kernel
theorem dX8_offers_71 : decode cX8_offers 71 = .ok (.iload 4, 2) := by decide +kernel
theorem dX8_offers_73 : decode cX8_offers 73 = .ok (.ifCond .lt 13, 3) := by decide +kernel
theorem dX8_offers_76 : decode cX8_offers 76 = .ok (.aload_n 0, 1) := by decide +kernel
theorem dX8_offers_77 : decode cX8_offers 77 = .ok (.getfield 74, 3) := by decide +kernel
theorem dX8_offers_80 : decode cX8_offers 80 = .ok (.iload 4, 2) := by decide +kernel
theorem dX8_offers_82 : decode cX8_offers 82 = .ok (.iaload, 1) := by decide +kernel
theorem dX8_offers_83 : decode cX8_offers 83 = .ok (.goto 16, 3) := by decide +kernel
theorem dX8_offers_86 : decode cX8_offers 86 = .ok (.aload_n 0, 1) := by decide +kernel
theorem dX8_offers_87 : decode cX8_offers 87 = .ok (.getfield 68, 3) := by decide +kernel
theorem dX8_offers_90 : decode cX8_offers 90 = .ok (.iload_n 3, 1) := by decide +kernel
theorem dX8_offers_91 : decode cX8_offers 91 = .ok (.iaload, 1) := by decide +kernel
theorem dX8_offers_92 : decode cX8_offers 92 = .ok (.aload_n 0, 1) := by decide +kernel
theorem dX8_offers_93 : decode cX8_offers 93 = .ok (.getfield 65, 3) := by decide +kernel
theorem dX8_offers_96 : decode cX8_offers 96 = .ok (.iload_n 3, 1) := by decide +kernel
theorem dX8_offers_97 : decode cX8_offers 97 = .ok (.iaload, 1) := by decide +kernel
theorem dX8_offers_98 : decode cX8_offers 98 = .ok (.isub, 1) := by decide +kernel
theorem dX8_offers_99 : decode cX8_offers 99 = .ok (.istore 5, 2) := by decide +kernel
theorem dX8_offers_101 : decode cX8_offers 101 = .ok (.iconst 0, 1) := by decide +kernel
theorem dX8_offers_102 : decode cX8_offers 102 = .ok (.istore 6, 2) := by decide +kernel
theorem dX8_offers_104 : decode cX8_offers 104 = .ok (.iload 6, 2) := by decide +kernel
theorem dX8_offers_106 : decode cX8_offers 106 = .ok (.iload 5, 2) := by decide +kernel
theorem dX8_offers_108 : decode cX8_offers 108 = .ok (.if_icmp .ge 88, 3) := by decide +kernel
theorem dX8_offers_111 : decode cX8_offers 111 = .ok (.iload 4, 2) := by decide +kernel
theorem dX8_offers_113 : decode cX8_offers 113 = .ok (.ifCond .lt 19, 3) := by decide +kernel
theorem dX8_offers_116 : decode cX8_offers 116 = .ok (.aload_n 0, 1) := by decide +kernel
theorem dX8_offers_117 : decode cX8_offers 117 = .ok (.getfield 71, 3) := by decide +kernel
theorem dX8_offers_120 : decode cX8_offers 120 = .ok (.bipush 12, 2) := by decide +kernel
theorem dX8_offers_122 : decode cX8_offers 122 = .ok (.iload 4, 2) := by decide +kernel
theorem dX8_offers_124 : decode cX8_offers 124 = .ok (.imul, 1) := by decide +kernel
theorem dX8_offers_125 : decode cX8_offers 125 = .ok (.iload 6, 2) := by decide +kernel
theorem dX8_offers_127 : decode cX8_offers 127 = .ok (.iadd, 1) := by decide +kernel
theorem dX8_offers_128 : decode cX8_offers 128 = .ok (.baload, 1) := by decide +kernel
theorem dX8_offers_129 : decode cX8_offers 129 = .ok (.goto 25, 3) := by decide +kernel
theorem dX8_offers_132 : decode cX8_offers 132 = .ok (.aload_n 0, 1) := by decide +kernel
theorem dX8_offers_133 : decode cX8_offers 133 = .ok (.getfield 62, 3) := by decide +kernel
theorem dX8_offers_136 : decode cX8_offers 136 = .ok (.bipush 24, 2) := by decide +kernel
theorem dX8_offers_138 : decode cX8_offers 138 = .ok (.iload_n 1, 1) := by decide +kernel
theorem dX8_offers_139 : decode cX8_offers 139 = .ok (.imul, 1) := by decide +kernel
theorem dX8_offers_140 : decode cX8_offers 140 = .ok (.aload_n 0, 1) := by decide +kernel
theorem dX8_offers_141 : decode cX8_offers 141 = .ok (.getfield 65, 3) := by decide +kernel
theorem dX8_offers_144 : decode cX8_offers 144 = .ok (.iload_n 3, 1) := by decide +kernel
theorem dX8_offers_145 : decode cX8_offers 145 = .ok (.iaload, 1) := by decide +kernel
theorem dX8_offers_146 : decode cX8_offers 146 = .ok (.iadd, 1) := by decide +kernel
theorem dX8_offers_147 : decode cX8_offers 147 = .ok (.iload 6, 2) := by decide +kernel
theorem dX8_offers_149 : decode cX8_offers 149 = .ok (.iadd, 1) := by decide +kernel
theorem dX8_offers_150 : decode cX8_offers 150 = .ok (.baload, 1) := by decide +kernel
theorem dX8_offers_151 : decode cX8_offers 151 = .ok (.invokestatic 178, 3) := by decide +kernel
theorem dX8_offers_154 : decode cX8_offers 154 = .ok (.istore 7, 2) := by decide +kernel
theorem dX8_offers_156 : decode cX8_offers 156 = .ok (.aload_n 0, 1) := by decide +kernel
theorem dX8_offers_157 : decode cX8_offers 157 = .ok (.iload 7, 2) := by decide +kernel
theorem dX8_offers_159 : decode cX8_offers 159 = .ok (.iload_n 2, 1) := by decide +kernel
theorem dX8_offers_160 : decode cX8_offers 160 = .ok (.iconst 3, 1) := by decide +kernel
theorem dX8_offers_161 : decode cX8_offers 161 = .ok (.if_icmp .eq 21, 3) := by decide +kernel
theorem dX8_offers_164 : decode cX8_offers 164 = .ok (.iload 6, 2) := by decide +kernel
theorem dX8_offers_166 : decode cX8_offers 166 = .ok (.ifCond .ne 20, 3) := by decide +kernel
theorem dX8_offers_169 : decode cX8_offers 169 = .ok (.iload_n 2, 1) := by decide +kernel
theorem dX8_offers_170 : decode cX8_offers 170 = .ok (.iconst 1, 1) := by decide +kernel
theorem dX8_offers_171 : decode cX8_offers 171 = .ok (.if_icmp .eq 11, 3) := by decide +kernel
theorem dX8_offers_174 : decode cX8_offers 174 = .ok (.iload_n 2, 1) := by decide +kernel
theorem dX8_offers_175 : decode cX8_offers 175 = .ok (.ifCond .ne 11, 3) := by decide +kernel
theorem dX8_offers_178 : decode cX8_offers 178 = .ok (.iload_n 3, 1) := by decide +kernel
theorem dX8_offers_179 : decode cX8_offers 179 = .ok (.ifCond .le 7, 3) := by decide +kernel
theorem dX8_offers_182 : decode cX8_offers 182 = .ok (.iconst 1, 1) := by decide +kernel
theorem dX8_offers_183 : decode cX8_offers 183 = .ok (.goto 4, 3) := by decide +kernel
theorem dX8_offers_186 : decode cX8_offers 186 = .ok (.iconst 0, 1) := by decide +kernel
theorem dX8_offers_187 : decode cX8_offers 187 = .ok (.invokevirtual 213, 3) := by decide +kernel
theorem dX8_offers_190 : decode cX8_offers 190 = .ok (.iinc 6 1, 3) := by decide +kernel
theorem dX8_offers_193 : decode cX8_offers 193 = .ok (.goto (-89), 3) := by decide +kernel
theorem dX8_offers_196 : decode cX8_offers 196 = .ok (.iinc 3 1, 3) := by decide +kernel
theorem dX8_offers_199 : decode cX8_offers 199 = .ok (.goto (-177), 3) := by decide +kernel
theorem dX8_offers_202 : decode cX8_offers 202 = .ok (.aload_n 0, 1) := by decide +kernel
theorem dX8_offers_203 : decode cX8_offers 203 = .ok (.getfield 92, 3) := by decide +kernel
theorem dX8_offers_206 : decode cX8_offers 206 = .ok (.iconst 0, 1) := by decide +kernel
theorem dX8_offers_207 : decode cX8_offers 207 = .ok (.aload_n 0, 1) := by decide +kernel
theorem dX8_offers_208 : decode cX8_offers 208 = .ok (.getfield 210, 3) := by decide +kernel
theorem dX8_offers_211 : decode cX8_offers 211 = .ok (.invokestatic 143, 3) := by decide +kernel
theorem dX8_offers_214 : decode cX8_offers 214 = .ok (.ifCond .eq 36, 3) := by decide +kernel
theorem dX8_offers_217 : decode cX8_offers 217 = .ok (.aload_n 0, 1) := by decide +kernel
theorem dX8_offers_218 : decode cX8_offers 218 = .ok (.getfield 92, 3) := by decide +kernel
theorem dX8_offers_221 : decode cX8_offers 221 = .ok (.iconst 0, 1) := by decide +kernel
theorem dX8_offers_222 : decode cX8_offers 222 = .ok (.aload_n 0, 1) := by decide +kernel
theorem dX8_offers_223 : decode cX8_offers 223 = .ok (.getfield 210, 3) := by decide +kernel
theorem dX8_offers_226 : decode cX8_offers 226 = .ok (.aload_n 0, 1) := by decide +kernel
theorem dX8_offers_227 : decode cX8_offers 227 = .ok (.getfield 62, 3) := by decide +kernel
theorem dX8_offers_230 : decode cX8_offers 230 = .ok (.bipush 24, 2) := by decide +kernel
theorem dX8_offers_232 : decode cX8_offers 232 = .ok (.iload_n 1, 1) := by decide +kernel
theorem dX8_offers_233 : decode cX8_offers 233 = .ok (.imul, 1) := by decide +kernel
theorem dX8_offers_234 : decode cX8_offers 234 = .ok (.aload_n 0, 1) := by decide +kernel
theorem dX8_offers_235 : decode cX8_offers 235 = .ok (.getfield 53, 3) := by decide +kernel
theorem dX8_offers_238 : decode cX8_offers 238 = .ok (.iload_n 1, 1) := by decide +kernel
theorem dX8_offers_239 : decode cX8_offers 239 = .ok (.iaload, 1) := by decide +kernel
theorem dX8_offers_240 : decode cX8_offers 240 = .ok (.invokestatic 133, 3) := by decide +kernel
theorem dX8_offers_243 : decode cX8_offers 243 = .ok (.ifCond .ne 7, 3) := by decide +kernel
theorem dX8_offers_246 : decode cX8_offers 246 = .ok (.iconst 1, 1) := by decide +kernel
theorem dX8_offers_247 : decode cX8_offers 247 = .ok (.goto 4, 3) := by decide +kernel
theorem dX8_offers_250 : decode cX8_offers 250 = .ok (.iconst 0, 1) := by decide +kernel
theorem dX8_offers_251 : decode cX8_offers 251 = .ok (.ireturn, 1) := by decide +kernel
theorem dX8_offer_0 : decode cX8_offer 0 = .ok (.aload_n 0, 1) := by decide +kernel
theorem dX8_offer_1 : decode cX8_offer 1 = .ok (.iconst 0, 1) := by decide +kernel
theorem dX8_offer_2 : decode cX8_offer 2 = .ok (.putfield 1, 3) := by decide +kernel
theorem dX8_offer_5 : decode cX8_offer 5 = .ok (.aload_n 0, 1) := by decide +kernel
theorem dX8_offer_6 : decode cX8_offer 6 = .ok (.iload_n 1, 1) := by decide +kernel
theorem dX8_offer_7 : decode cX8_offer 7 = .ok (.invokevirtual 159, 3) := by decide +kernel
theorem dX8_offer_10 : decode cX8_offer 10 = .ok (.ifCond .ne 9, 3) := by decide +kernel
theorem dX8_offer_13 : decode cX8_offer 13 = .ok (.aload_n 0, 1) := by decide +kernel
theorem dX8_offer_14 : decode cX8_offer 14 = .ok (.iconst 1, 1) := by decide +kernel
theorem dX8_offer_15 : decode cX8_offer 15 = .ok (.invokevirtual 126, 3) := by decide +kernel
theorem dX8_offer_18 : decode cX8_offer 18 = .ok (.ireturn, 1) := by decide +kernel
theorem dX8_offer_19 : decode cX8_offer 19 = .ok (.aload_n 0, 1) := by decide +kernel
theorem dX8_offer_20 : decode cX8_offer 20 = .ok (.iload_n 1, 1) := by decide +kernel
theorem dX8_offer_21 : decode cX8_offer 21 = .ok (.invokevirtual 217, 3) := by decide +kernel
theorem dX8_offer_24 : decode cX8_offer 24 = .ok (.ifCond .ne 10, 3) := by decide +kernel
theorem dX8_offer_27 : decode cX8_offer 27 = .ok (.aload_n 0, 1) := by decide +kernel
theorem dX8_offer_28 : decode cX8_offer 28 = .ok (.bipush (-2), 2) := by decide +kernel
theorem dX8_offer_30 : decode cX8_offer 30 = .ok (.invokevirtual 130, 3) := by decide +kernel
theorem dX8_offer_33 : decode cX8_offer 33 = .ok (.ireturn, 1) := by decide +kernel
theorem dX8_offer_34 : decode cX8_offer 34 = .ok (.aload_n 0, 1) := by decide +kernel
theorem dX8_offer_35 : decode cX8_offer 35 = .ok (.aload_n 0, 1) := by decide +kernel
theorem dX8_offer_36 : decode cX8_offer 36 = .ok (.getfield 210, 3) := by decide +kernel
theorem dX8_offer_39 : decode cX8_offer 39 = .ok (.putfield 220, 3) := by decide +kernel
theorem dX8_offer_42 : decode cX8_offer 42 = .ok (.iconst 0, 1) := by decide +kernel
theorem dX8_offer_43 : decode cX8_offer 43 = .ok (.istore_n 2, 1) := by decide +kernel
theorem dX8_offer_44 : decode cX8_offer 44 = .ok (.iload_n 2, 1) := by decide +kernel
theorem dX8_offer_45 : decode cX8_offer 45 = .ok (.aload_n 0, 1) := by decide +kernel
theorem dX8_offer_46 : decode cX8_offer 46 = .ok (.getfield 220, 3) := by decide +kernel
theorem dX8_offer_49 : decode cX8_offer 49 = .ok (.if_icmp .ge 21, 3) := by decide +kernel
theorem dX8_offer_52 : decode cX8_offer 52 = .ok (.aload_n 0, 1) := by decide +kernel
theorem dX8_offer_53 : decode cX8_offer 53 = .ok (.getfield 89, 3) := by decide +kernel
theorem dX8_offer_56 : decode cX8_offer 56 = .ok (.iload_n 2, 1) := by decide +kernel
theorem dX8_offer_57 : decode cX8_offer 57 = .ok (.aload_n 0, 1) := by decide +kernel
theorem dX8_offer_58 : decode cX8_offer 58 = .ok (.getfield 92, 3) := by decide +kernel
theorem dX8_offer_61 : decode cX8_offer 61 = .ok (.iload_n 2, 1) := by decide +kernel
theorem dX8_offer_62 : decode cX8_offer 62 = .ok (.baload, 1) := by decide +kernel
theorem dX8_offer_63 : decode cX8_offer 63 = .ok (.bastore, 1) := by decide +kernel
theorem dX8_offer_64 : decode cX8_offer 64 = .ok (.iinc 2 1, 3) := by decide +kernel
theorem dX8_offer_67 : decode cX8_offer 67 = .ok (.goto (-23), 3) := by decide +kernel
theorem dX8_offer_70 : decode cX8_offer 70 = .ok (.aload_n 0, 1) := by decide +kernel
theorem dX8_offer_71 : decode cX8_offer 71 = .ok (.aload_n 0, 1) := by decide +kernel
theorem dX8_offer_72 : decode cX8_offer 72 = .ok (.getfield 220, 3) := by decide +kernel
theorem dX8_offer_75 : decode cX8_offer 75 = .ok (.invokevirtual 130, 3) := by decide +kernel
theorem dX8_offer_78 : decode cX8_offer 78 = .ok (.ireturn, 1) := by decide +kernel
theorem dX8_out_0 : decode cX8_out 0 = .ok (.aload_n 0, 1) := by decide +kernel
theorem dX8_out_1 : decode cX8_out 1 = .ok (.iload_n 1, 1) := by decide +kernel
theorem dX8_out_2 : decode cX8_out 2 = .ok (.ifCond .lt 11, 3) := by decide +kernel
theorem dX8_out_5 : decode cX8_out 5 = .ok (.iload_n 1, 1) := by decide +kernel
theorem dX8_out_6 : decode cX8_out 6 = .ok (.aload_n 0, 1) := by decide +kernel
theorem dX8_out_7 : decode cX8_out 7 = .ok (.getfield 220, 3) := by decide +kernel
theorem dX8_out_10 : decode cX8_out 10 = .ok (.if_icmp .lt 7, 3) := by decide +kernel
theorem dX8_out_13 : decode cX8_out 13 = .ok (.iconst 1, 1) := by decide +kernel
theorem dX8_out_14 : decode cX8_out 14 = .ok (.goto 4, 3) := by decide +kernel
theorem dX8_out_17 : decode cX8_out 17 = .ok (.iconst 0, 1) := by decide +kernel
theorem dX8_out_18 : decode cX8_out 18 = .ok (.putfield 1, 3) := by decide +kernel
theorem dX8_out_21 : decode cX8_out 21 = .ok (.aload_n 0, 1) := by decide +kernel
theorem dX8_out_22 : decode cX8_out 22 = .ok (.getfield 1, 3) := by decide +kernel
theorem dX8_out_25 : decode cX8_out 25 = .ok (.ifCond .le 7, 3) := by decide +kernel
theorem dX8_out_28 : decode cX8_out 28 = .ok (.iconst 0, 1) := by decide +kernel
theorem dX8_out_29 : decode cX8_out 29 = .ok (.goto 9, 3) := by decide +kernel
theorem dX8_out_32 : decode cX8_out 32 = .ok (.aload_n 0, 1) := by decide +kernel
theorem dX8_out_33 : decode cX8_out 33 = .ok (.getfield 89, 3) := by decide +kernel
theorem dX8_out_36 : decode cX8_out 36 = .ok (.iload_n 1, 1) := by decide +kernel
theorem dX8_out_37 : decode cX8_out 37 = .ok (.baload, 1) := by decide +kernel
theorem dX8_out_38 : decode cX8_out 38 = .ok (.ireturn, 1) := by decide +kernel
theorem dX8_renameMany_0 : decode cX8_renameMany 0 = .ok (.iconst 0, 1) := by decide +kernel
theorem dX8_renameMany_1 : decode cX8_renameMany 1 = .ok (.istore_n 1, 1) := by decide +kernel
theorem dX8_renameMany_2 : decode cX8_renameMany 2 = .ok (.iconst 0, 1) := by decide +kernel
theorem dX8_renameMany_3 : decode cX8_renameMany 3 = .ok (.istore_n 2, 1) := by decide +kernel
theorem dX8_renameMany_4 : decode cX8_renameMany 4 = .ok (.iload_n 2, 1) := by decide +kernel
theorem dX8_renameMany_5 : decode cX8_renameMany 5 = .ok (.aload_n 0, 1) := by decide +kernel
theorem dX8_renameMany_6 : decode cX8_renameMany 6 = .ok (.getfield 120, 3) := by decide +kernel
theorem dX8_renameMany_9 : decode cX8_renameMany 9 = .ok (.if_icmp .ge 26, 3) := by decide +kernel
theorem dX8_renameMany_12 : decode cX8_renameMany 12 = .ok (.iload_n 1, 1) := by decide +kernel
theorem dX8_renameMany_13 : decode cX8_renameMany 13 = .ok (.aload_n 0, 1) := by decide +kernel
theorem dX8_renameMany_14 : decode cX8_renameMany 14 = .ok (.getfield 95, 3) := by decide +kernel
theorem dX8_renameMany_17 : decode cX8_renameMany 17 = .ok (.iload_n 2, 1) := by decide +kernel
theorem dX8_renameMany_18 : decode cX8_renameMany 18 = .ok (.baload, 1) := by decide +kernel
theorem dX8_renameMany_19 : decode cX8_renameMany 19 = .ok (.ifCond .eq 7, 3) := by decide +kernel
theorem dX8_renameMany_22 : decode cX8_renameMany 22 = .ok (.iconst 1, 1) := by decide +kernel
theorem dX8_renameMany_23 : decode cX8_renameMany 23 = .ok (.goto 4, 3) := by decide +kernel
theorem dX8_renameMany_26 : decode cX8_renameMany 26 = .ok (.iconst 0, 1) := by decide +kernel
theorem dX8_renameMany_27 : decode cX8_renameMany 27 = .ok (.iadd, 1) := by decide +kernel
theorem dX8_renameMany_28 : decode cX8_renameMany 28 = .ok (.istore_n 1, 1) := by decide +kernel
theorem dX8_renameMany_29 : decode cX8_renameMany 29 = .ok (.iinc 2 1, 3) := by decide +kernel
theorem dX8_renameMany_32 : decode cX8_renameMany 32 = .ok (.goto (-28), 3) := by decide +kernel
theorem dX8_renameMany_35 : decode cX8_renameMany 35 = .ok (.iload_n 1, 1) := by decide +kernel
theorem dX8_renameMany_36 : decode cX8_renameMany 36 = .ok (.ireturn, 1) := by decide +kernel
theorem dX8_rename_0 : decode cX8_rename 0 = .ok (.aload_n 0, 1) := by decide +kernel
theorem dX8_rename_1 : decode cX8_rename 1 = .ok (.iconst 0, 1) := by decide +kernel
theorem dX8_rename_2 : decode cX8_rename 2 = .ok (.putfield 1, 3) := by decide +kernel
theorem dX8_rename_5 : decode cX8_rename 5 = .ok (.aload_n 0, 1) := by decide +kernel
theorem dX8_rename_6 : decode cX8_rename 6 = .ok (.iload_n 1, 1) := by decide +kernel
theorem dX8_rename_7 : decode cX8_rename 7 = .ok (.invokevirtual 159, 3) := by decide +kernel
theorem dX8_rename_10 : decode cX8_rename 10 = .ok (.ifCond .ne 9, 3) := by decide +kernel
theorem dX8_rename_13 : decode cX8_rename 13 = .ok (.aload_n 0, 1) := by decide +kernel
theorem dX8_rename_14 : decode cX8_rename 14 = .ok (.iconst 1, 1) := by decide +kernel
theorem dX8_rename_15 : decode cX8_rename 15 = .ok (.invokevirtual 126, 3) := by decide +kernel
theorem dX8_rename_18 : decode cX8_rename 18 = .ok (.ireturn, 1) := by decide +kernel
theorem dX8_rename_19 : decode cX8_rename 19 = .ok (.aload_n 0, 1) := by decide +kernel
theorem dX8_rename_20 : decode cX8_rename 20 = .ok (.iload_n 2, 1) := by decide +kernel
theorem dX8_rename_21 : decode cX8_rename 21 = .ok (.invokevirtual 140, 3) := by decide +kernel
theorem dX8_rename_24 : decode cX8_rename 24 = .ok (.ifCond .ne 9, 3) := by decide +kernel
theorem dX8_rename_27 : decode cX8_rename 27 = .ok (.aload_n 0, 1) := by decide +kernel
theorem dX8_rename_28 : decode cX8_rename 28 = .ok (.iconst 2, 1) := by decide +kernel
theorem dX8_rename_29 : decode cX8_rename 29 = .ok (.invokevirtual 126, 3) := by decide +kernel
theorem dX8_rename_32 : decode cX8_rename 32 = .ok (.ireturn, 1) := by decide +kernel
theorem dX8_rename_33 : decode cX8_rename 33 = .ok (.aload_n 0, 1) := by decide +kernel
theorem dX8_rename_34 : decode cX8_rename 34 = .ok (.iconst 0, 1) := by decide +kernel
theorem dX8_rename_35 : decode cX8_rename 35 = .ok (.putfield 10, 3) := by decide +kernel
theorem dX8_rename_38 : decode cX8_rename 38 = .ok (.aload_n 0, 1) := by decide +kernel
theorem dX8_rename_39 : decode cX8_rename 39 = .ok (.getfield 13, 3) := by decide +kernel
theorem dX8_rename_42 : decode cX8_rename 42 = .ok (.iconst 0, 1) := by decide +kernel
theorem dX8_rename_43 : decode cX8_rename 43 = .ok (.iload_n 2, 1) := by decide +kernel
theorem dX8_rename_44 : decode cX8_rename 44 = .ok (.invokestatic 143, 3) := by decide +kernel
theorem dX8_rename_47 : decode cX8_rename 47 = .ok (.ifCond .ne 9, 3) := by decide +kernel
theorem dX8_rename_50 : decode cX8_rename 50 = .ok (.aload_n 0, 1) := by decide +kernel
theorem dX8_rename_51 : decode cX8_rename 51 = .ok (.iconst 2, 1) := by decide +kernel
theorem dX8_rename_52 : decode cX8_rename 52 = .ok (.invokevirtual 126, 3) := by decide +kernel
theorem dX8_rename_55 : decode cX8_rename 55 = .ok (.ireturn, 1) := by decide +kernel
theorem dX8_rename_56 : decode cX8_rename 56 = .ok (.aload_n 0, 1) := by decide +kernel
theorem dX8_rename_57 : decode cX8_rename 57 = .ok (.getfield 95, 3) := by decide +kernel
theorem dX8_rename_60 : decode cX8_rename 60 = .ok (.iload_n 1, 1) := by decide +kernel
theorem dX8_rename_61 : decode cX8_rename 61 = .ok (.iconst 1, 1) := by decide +kernel
theorem dX8_rename_62 : decode cX8_rename 62 = .ok (.bastore, 1) := by decide +kernel
theorem dX8_rename_63 : decode cX8_rename 63 = .ok (.aload_n 0, 1) := by decide +kernel
theorem dX8_rename_64 : decode cX8_rename 64 = .ok (.getfield 111, 3) := by decide +kernel
theorem dX8_rename_67 : decode cX8_rename 67 = .ok (.iload_n 1, 1) := by decide +kernel
theorem dX8_rename_68 : decode cX8_rename 68 = .ok (.iload_n 2, 1) := by decide +kernel
theorem dX8_rename_69 : decode cX8_rename 69 = .ok (.iastore, 1) := by decide +kernel
theorem dX8_rename_70 : decode cX8_rename 70 = .ok (.iconst 0, 1) := by decide +kernel
theorem dX8_rename_71 : decode cX8_rename 71 = .ok (.istore_n 3, 1) := by decide +kernel
theorem dX8_rename_72 : decode cX8_rename 72 = .ok (.iload_n 3, 1) := by decide +kernel
theorem dX8_rename_73 : decode cX8_rename 73 = .ok (.iload_n 2, 1) := by decide +kernel
theorem dX8_rename_74 : decode cX8_rename 74 = .ok (.if_icmp .ge 26, 3) := by decide +kernel
theorem dX8_rename_77 : decode cX8_rename 77 = .ok (.aload_n 0, 1) := by decide +kernel
theorem dX8_rename_78 : decode cX8_rename 78 = .ok (.getfield 102, 3) := by decide +kernel
theorem dX8_rename_81 : decode cX8_rename 81 = .ok (.bipush 24, 2) := by decide +kernel
theorem dX8_rename_83 : decode cX8_rename 83 = .ok (.iload_n 1, 1) := by decide +kernel
theorem dX8_rename_84 : decode cX8_rename 84 = .ok (.imul, 1) := by decide +kernel
theorem dX8_rename_85 : decode cX8_rename 85 = .ok (.iload_n 3, 1) := by decide +kernel
theorem dX8_rename_86 : decode cX8_rename 86 = .ok (.iadd, 1) := by decide +kernel
theorem dX8_rename_87 : decode cX8_rename 87 = .ok (.aload_n 0, 1) := by decide +kernel
theorem dX8_rename_88 : decode cX8_rename 88 = .ok (.getfield 13, 3) := by decide +kernel
theorem dX8_rename_91 : decode cX8_rename 91 = .ok (.iload_n 3, 1) := by decide +kernel
theorem dX8_rename_92 : decode cX8_rename 92 = .ok (.baload, 1) := by decide +kernel
theorem dX8_rename_93 : decode cX8_rename 93 = .ok (.bastore, 1) := by decide +kernel
theorem dX8_rename_94 : decode cX8_rename 94 = .ok (.iinc 3 1, 3) := by decide +kernel
theorem dX8_rename_97 : decode cX8_rename 97 = .ok (.goto (-25), 3) := by decide +kernel
theorem dX8_rename_100 : decode cX8_rename 100 = .ok (.aload_n 0, 1) := by decide +kernel
theorem dX8_rename_101 : decode cX8_rename 101 = .ok (.aload_n 0, 1) := by decide +kernel
theorem dX8_rename_102 : decode cX8_rename 102 = .ok (.invokevirtual 223, 3) := by decide +kernel
theorem dX8_rename_105 : decode cX8_rename 105 = .ok (.invokevirtual 130, 3) := by decide +kernel
theorem dX8_rename_108 : decode cX8_rename 108 = .ok (.ireturn, 1) := by decide +kernel
theorem dX8_renames_0 : decode cX8_renames 0 = .ok (.aload_n 0, 1) := by decide +kernel
theorem dX8_renames_1 : decode cX8_renames 1 = .ok (.iconst 0, 1) := by decide +kernel
theorem dX8_renames_2 : decode cX8_renames 2 = .ok (.putfield 1, 3) := by decide +kernel
theorem dX8_renames_5 : decode cX8_renames 5 = .ok (.iconst 0, 1) := by decide +kernel
theorem dX8_renames_6 : decode cX8_renames 6 = .ok (.istore_n 1, 1) := by decide +kernel
theorem dX8_renames_7 : decode cX8_renames 7 = .ok (.iload_n 1, 1) := by decide +kernel
theorem dX8_renames_8 : decode cX8_renames 8 = .ok (.aload_n 0, 1) := by decide +kernel
theorem dX8_renames_9 : decode cX8_renames 9 = .ok (.getfield 120, 3) := by decide +kernel
theorem dX8_renames_12 : decode cX8_renames 12 = .ok (.if_icmp .ge 75, 3) := by decide +kernel
theorem dX8_renames_15 : decode cX8_renames 15 = .ok (.aload_n 0, 1) := by decide +kernel
theorem dX8_renames_16 : decode cX8_renames 16 = .ok (.getfield 95, 3) := by decide +kernel
theorem dX8_renames_19 : decode cX8_renames 19 = .ok (.iload_n 1, 1) := by decide +kernel
theorem dX8_renames_20 : decode cX8_renames 20 = .ok (.aload_n 0, 1) := by decide +kernel
theorem dX8_renames_21 : decode cX8_renames 21 = .ok (.iload_n 1, 1) := by decide +kernel
theorem dX8_renames_22 : decode cX8_renames 22 = .ok (.invokevirtual 217, 3) := by decide +kernel
theorem dX8_renames_25 : decode cX8_renames 25 = .ok (.bastore, 1) := by decide +kernel
theorem dX8_renames_26 : decode cX8_renames 26 = .ok (.aload_n 0, 1) := by decide +kernel
theorem dX8_renames_27 : decode cX8_renames 27 = .ok (.getfield 95, 3) := by decide +kernel
theorem dX8_renames_30 : decode cX8_renames 30 = .ok (.iload_n 1, 1) := by decide +kernel
theorem dX8_renames_31 : decode cX8_renames 31 = .ok (.baload, 1) := by decide +kernel
theorem dX8_renames_32 : decode cX8_renames 32 = .ok (.ifCond .ne 6, 3) := by decide +kernel
theorem dX8_renames_35 : decode cX8_renames 35 = .ok (.goto 46, 3) := by decide +kernel
theorem dX8_renames_38 : decode cX8_renames 38 = .ok (.aload_n 0, 1) := by decide +kernel
theorem dX8_renames_39 : decode cX8_renames 39 = .ok (.getfield 111, 3) := by decide +kernel
theorem dX8_renames_42 : decode cX8_renames 42 = .ok (.iload_n 1, 1) := by decide +kernel
theorem dX8_renames_43 : decode cX8_renames 43 = .ok (.aload_n 0, 1) := by decide +kernel
theorem dX8_renames_44 : decode cX8_renames 44 = .ok (.getfield 210, 3) := by decide +kernel
theorem dX8_renames_47 : decode cX8_renames 47 = .ok (.iastore, 1) := by decide +kernel
theorem dX8_renames_48 : decode cX8_renames 48 = .ok (.iconst 0, 1) := by decide +kernel
theorem dX8_renames_49 : decode cX8_renames 49 = .ok (.istore_n 2, 1) := by decide +kernel
theorem dX8_renames_50 : decode cX8_renames 50 = .ok (.iload_n 2, 1) := by decide +kernel
theorem dX8_renames_51 : decode cX8_renames 51 = .ok (.aload_n 0, 1) := by decide +kernel
theorem dX8_renames_52 : decode cX8_renames 52 = .ok (.getfield 210, 3) := by decide +kernel
theorem dX8_renames_55 : decode cX8_renames 55 = .ok (.if_icmp .ge 26, 3) := by decide +kernel
theorem dX8_renames_58 : decode cX8_renames 58 = .ok (.aload_n 0, 1) := by decide +kernel
theorem dX8_renames_59 : decode cX8_renames 59 = .ok (.getfield 102, 3) := by decide +kernel
theorem dX8_renames_62 : decode cX8_renames 62 = .ok (.bipush 24, 2) := by decide +kernel
theorem dX8_renames_64 : decode cX8_renames 64 = .ok (.iload_n 1, 1) := by decide +kernel
theorem dX8_renames_65 : decode cX8_renames 65 = .ok (.imul, 1) := by decide +kernel
theorem dX8_renames_66 : decode cX8_renames 66 = .ok (.iload_n 2, 1) := by decide +kernel
theorem dX8_renames_67 : decode cX8_renames 67 = .ok (.iadd, 1) := by decide +kernel
theorem dX8_renames_68 : decode cX8_renames 68 = .ok (.aload_n 0, 1) := by decide +kernel
theorem dX8_renames_69 : decode cX8_renames 69 = .ok (.getfield 92, 3) := by decide +kernel
theorem dX8_renames_72 : decode cX8_renames 72 = .ok (.iload_n 2, 1) := by decide +kernel
theorem dX8_renames_73 : decode cX8_renames 73 = .ok (.baload, 1) := by decide +kernel
theorem dX8_renames_74 : decode cX8_renames 74 = .ok (.bastore, 1) := by decide +kernel
theorem dX8_renames_75 : decode cX8_renames 75 = .ok (.iinc 2 1, 3) := by decide +kernel
theorem dX8_renames_78 : decode cX8_renames 78 = .ok (.goto (-28), 3) := by decide +kernel
theorem dX8_renames_81 : decode cX8_renames 81 = .ok (.iinc 1 1, 3) := by decide +kernel
theorem dX8_renames_84 : decode cX8_renames 84 = .ok (.goto (-77), 3) := by decide +kernel
theorem dX8_renames_87 : decode cX8_renames 87 = .ok (.aload_n 0, 1) := by decide +kernel
theorem dX8_renames_88 : decode cX8_renames 88 = .ok (.invokevirtual 223, 3) := by decide +kernel
theorem dX8_renames_91 : decode cX8_renames 91 = .ok (.ireturn, 1) := by decide +kernel
theorem dX8_none_0 : decode cX8_none 0 = .ok (.aload_n 0, 1) := by decide +kernel
theorem dX8_none_1 : decode cX8_none 1 = .ok (.iconst 0, 1) := by decide +kernel
theorem dX8_none_2 : decode cX8_none 2 = .ok (.putfield 1, 3) := by decide +kernel
theorem dX8_none_5 : decode cX8_none 5 = .ok (.aload_n 0, 1) := by decide +kernel
theorem dX8_none_6 : decode cX8_none 6 = .ok (.invokevirtual 223, 3) := by decide +kernel
theorem dX8_none_9 : decode cX8_none 9 = .ok (.istore_n 1, 1) := by decide +kernel
theorem dX8_none_10 : decode cX8_none 10 = .ok (.iconst 0, 1) := by decide +kernel
theorem dX8_none_11 : decode cX8_none 11 = .ok (.istore_n 2, 1) := by decide +kernel
theorem dX8_none_12 : decode cX8_none 12 = .ok (.iload_n 2, 1) := by decide +kernel
theorem dX8_none_13 : decode cX8_none 13 = .ok (.aload_n 0, 1) := by decide +kernel
theorem dX8_none_14 : decode cX8_none 14 = .ok (.getfield 120, 3) := by decide +kernel
theorem dX8_none_17 : decode cX8_none 17 = .ok (.if_icmp .ge 16, 3) := by decide +kernel
theorem dX8_none_20 : decode cX8_none 20 = .ok (.aload_n 0, 1) := by decide +kernel
theorem dX8_none_21 : decode cX8_none 21 = .ok (.getfield 95, 3) := by decide +kernel
theorem dX8_none_24 : decode cX8_none 24 = .ok (.iload_n 2, 1) := by decide +kernel
theorem dX8_none_25 : decode cX8_none 25 = .ok (.iconst 0, 1) := by decide +kernel
theorem dX8_none_26 : decode cX8_none 26 = .ok (.bastore, 1) := by decide +kernel
theorem dX8_none_27 : decode cX8_none 27 = .ok (.iinc 2 1, 3) := by decide +kernel
theorem dX8_none_30 : decode cX8_none 30 = .ok (.goto (-18), 3) := by decide +kernel
theorem dX8_none_33 : decode cX8_none 33 = .ok (.iload_n 1, 1) := by decide +kernel
theorem dX8_none_34 : decode cX8_none 34 = .ok (.ireturn, 1) := by decide +kernel
theorem dX8_hindersTaken_0 : decode cX8_hindersTaken 0 = .ok (.iconst 0, 1) := by decide +kernel
theorem dX8_hindersTaken_1 : decode cX8_hindersTaken 1 = .ok (.istore_n 1, 1) := by decide +kernel
theorem dX8_hindersTaken_2 : decode cX8_hindersTaken 2 = .ok (.iload_n 1, 1) := by decide +kernel
theorem dX8_hindersTaken_3 : decode cX8_hindersTaken 3 = .ok (.aload_n 0, 1) := by decide +kernel
theorem dX8_hindersTaken_4 : decode cX8_hindersTaken 4 = .ok (.getfield 120, 3) := by decide +kernel
theorem dX8_hindersTaken_7 : decode cX8_hindersTaken 7 = .ok (.if_icmp .ge 116, 3) := by decide +kernel
theorem dX8_hindersTaken_10 : decode cX8_hindersTaken 10 = .ok (.aload_n 0, 1) := by decide +kernel
theorem dX8_hindersTaken_11 : decode cX8_hindersTaken 11 = .ok (.getfield 95, 3) := by decide +kernel
theorem dX8_hindersTaken_14 : decode cX8_hindersTaken 14 = .ok (.iload_n 1, 1) := by decide +kernel
theorem dX8_hindersTaken_15 : decode cX8_hindersTaken 15 = .ok (.baload, 1) := by decide +kernel
theorem dX8_hindersTaken_16 : decode cX8_hindersTaken 16 = .ok (.ifCond .eq 16, 3) := by decide +kernel
theorem dX8_hindersTaken_19 : decode cX8_hindersTaken 19 = .ok (.aload_n 0, 1) := by decide +kernel
theorem dX8_hindersTaken_20 : decode cX8_hindersTaken 20 = .ok (.getfield 99, 3) := by decide +kernel
theorem dX8_hindersTaken_23 : decode cX8_hindersTaken 23 = .ok (.iload_n 1, 1) := by decide +kernel
theorem dX8_hindersTaken_24 : decode cX8_hindersTaken 24 = .ok (.baload, 1) := by decide +kernel
theorem dX8_hindersTaken_25 : decode cX8_hindersTaken 25 = .ok (.ifCond .eq 7, 3) := by decide +kernel
theorem dX8_hindersTaken_28 : decode cX8_hindersTaken 28 = .ok (.iconst 1, 1) := by decide +kernel
theorem dX8_hindersTaken_29 : decode cX8_hindersTaken 29 = .ok (.goto 4, 3) := by decide +kernel
theorem dX8_hindersTaken_32 : decode cX8_hindersTaken 32 = .ok (.iconst 0, 1) := by decide +kernel
theorem dX8_hindersTaken_33 : decode cX8_hindersTaken 33 = .ok (.istore_n 2, 1) := by decide +kernel
theorem dX8_hindersTaken_34 : decode cX8_hindersTaken 34 = .ok (.aload_n 0, 1) := by decide +kernel
theorem dX8_hindersTaken_35 : decode cX8_hindersTaken 35 = .ok (.getfield 114, 3) := by decide +kernel
theorem dX8_hindersTaken_38 : decode cX8_hindersTaken 38 = .ok (.iload_n 1, 1) := by decide +kernel
theorem dX8_hindersTaken_39 : decode cX8_hindersTaken 39 = .ok (.iload_n 2, 1) := by decide +kernel
theorem dX8_hindersTaken_40 : decode cX8_hindersTaken 40 = .ok (.ifCond .eq 12, 3) := by decide +kernel
theorem dX8_hindersTaken_43 : decode cX8_hindersTaken 43 = .ok (.aload_n 0, 1) := by decide +kernel
theorem dX8_hindersTaken_44 : decode cX8_hindersTaken 44 = .ok (.getfield 111, 3) := by decide +kernel
theorem dX8_hindersTaken_47 : decode cX8_hindersTaken 47 = .ok (.iload_n 1, 1) := by decide +kernel
theorem dX8_hindersTaken_48 : decode cX8_hindersTaken 48 = .ok (.iaload, 1) := by decide +kernel
theorem dX8_hindersTaken_49 : decode cX8_hindersTaken 49 = .ok (.goto 9, 3) := by decide +kernel
theorem dX8_hindersTaken_52 : decode cX8_hindersTaken 52 = .ok (.aload_n 0, 1) := by decide +kernel
theorem dX8_hindersTaken_53 : decode cX8_hindersTaken 53 = .ok (.getfield 53, 3) := by decide +kernel
theorem dX8_hindersTaken_56 : decode cX8_hindersTaken 56 = .ok (.iload_n 1, 1) := by decide +kernel
theorem dX8_hindersTaken_57 : decode cX8_hindersTaken 57 = .ok (.iaload, 1) := by decide +kernel
theorem dX8_hindersTaken_58 : decode cX8_hindersTaken 58 = .ok (.iastore, 1) := by decide +kernel
theorem dX8_hindersTaken_59 : decode cX8_hindersTaken 59 = .ok (.iconst 0, 1) := by decide +kernel
theorem dX8_hindersTaken_60 : decode cX8_hindersTaken 60 = .ok (.istore_n 3, 1) := by decide +kernel
theorem dX8_hindersTaken_61 : decode cX8_hindersTaken 61 = .ok (.iload_n 3, 1) := by decide +kernel
theorem dX8_hindersTaken_62 : decode cX8_hindersTaken 62 = .ok (.aload_n 0, 1) := by decide +kernel
theorem dX8_hindersTaken_63 : decode cX8_hindersTaken 63 = .ok (.getfield 114, 3) := by decide +kernel
theorem dX8_hindersTaken_66 : decode cX8_hindersTaken 66 = .ok (.iload_n 1, 1) := by decide +kernel
theorem dX8_hindersTaken_67 : decode cX8_hindersTaken 67 = .ok (.iaload, 1) := by decide +kernel
theorem dX8_hindersTaken_68 : decode cX8_hindersTaken 68 = .ok (.if_icmp .ge 49, 3) := by decide +kernel
theorem dX8_hindersTaken_71 : decode cX8_hindersTaken 71 = .ok (.aload_n 0, 1) := by decide +kernel
theorem dX8_hindersTaken_72 : decode cX8_hindersTaken 72 = .ok (.getfield 105, 3) := by decide +kernel
theorem dX8_hindersTaken_75 : decode cX8_hindersTaken 75 = .ok (.bipush 24, 2) := by decide +kernel
theorem dX8_hindersTaken_77 : decode cX8_hindersTaken 77 = .ok (.iload_n 1, 1) := by decide +kernel
theorem dX8_hindersTaken_78 : decode cX8_hindersTaken 78 = .ok (.imul, 1) := by decide +kernel
theorem dX8_hindersTaken_79 : decode cX8_hindersTaken 79 = .ok (.iload_n 3, 1) := by decide +kernel
theorem dX8_hindersTaken_80 : decode cX8_hindersTaken 80 = .ok (.iadd, 1) := by decide +kernel
theorem dX8_hindersTaken_81 : decode cX8_hindersTaken 81 = .ok (.iload_n 2, 1) := by decide +kernel
theorem dX8_hindersTaken_82 : decode cX8_hindersTaken 82 = .ok (.ifCond .eq 17, 3) := by decide +kernel
theorem dX8_hindersTaken_85 : decode cX8_hindersTaken 85 = .ok (.aload_n 0, 1) := by decide +kernel
theorem dX8_hindersTaken_86 : decode cX8_hindersTaken 86 = .ok (.getfield 102, 3) := by decide +kernel
theorem dX8_hindersTaken_89 : decode cX8_hindersTaken 89 = .ok (.bipush 24, 2) := by decide +kernel
theorem dX8_hindersTaken_91 : decode cX8_hindersTaken 91 = .ok (.iload_n 1, 1) := by decide +kernel
theorem dX8_hindersTaken_92 : decode cX8_hindersTaken 92 = .ok (.imul, 1) := by decide +kernel
theorem dX8_hindersTaken_93 : decode cX8_hindersTaken 93 = .ok (.iload_n 3, 1) := by decide +kernel
theorem dX8_hindersTaken_94 : decode cX8_hindersTaken 94 = .ok (.iadd, 1) := by decide +kernel
theorem dX8_hindersTaken_95 : decode cX8_hindersTaken 95 = .ok (.baload, 1) := by decide +kernel
theorem dX8_hindersTaken_96 : decode cX8_hindersTaken 96 = .ok (.goto 14, 3) := by decide +kernel
theorem dX8_hindersTaken_99 : decode cX8_hindersTaken 99 = .ok (.aload_n 0, 1) := by decide +kernel
theorem dX8_hindersTaken_100 : decode cX8_hindersTaken 100 = .ok (.getfield 62, 3) := by decide +kernel
theorem dX8_hindersTaken_103 : decode cX8_hindersTaken 103 = .ok (.bipush 24, 2) := by decide +kernel
theorem dX8_hindersTaken_105 : decode cX8_hindersTaken 105 = .ok (.iload_n 1, 1) := by decide +kernel
theorem dX8_hindersTaken_106 : decode cX8_hindersTaken 106 = .ok (.imul, 1) := by decide +kernel
theorem dX8_hindersTaken_107 : decode cX8_hindersTaken 107 = .ok (.iload_n 3, 1) := by decide +kernel
theorem dX8_hindersTaken_108 : decode cX8_hindersTaken 108 = .ok (.iadd, 1) := by decide +kernel
theorem dX8_hindersTaken_109 : decode cX8_hindersTaken 109 = .ok (.baload, 1) := by decide +kernel
theorem dX8_hindersTaken_110 : decode cX8_hindersTaken 110 = .ok (.bastore, 1) := by decide +kernel
theorem dX8_hindersTaken_111 : decode cX8_hindersTaken 111 = .ok (.iinc 3 1, 3) := by decide +kernel
theorem dX8_hindersTaken_114 : decode cX8_hindersTaken 114 = .ok (.goto (-53), 3) := by decide +kernel
theorem dX8_hindersTaken_117 : decode cX8_hindersTaken 117 = .ok (.iinc 1 1, 3) := by decide +kernel
theorem dX8_hindersTaken_120 : decode cX8_hindersTaken 120 = .ok (.goto (-118), 3) := by decide +kernel
theorem dX8_hindersTaken_123 : decode cX8_hindersTaken 123 = .ok (.iconst 0, 1) := by decide +kernel
theorem dX8_hindersTaken_124 : decode cX8_hindersTaken 124 = .ok (.istore_n 1, 1) := by decide +kernel
theorem dX8_hindersTaken_125 : decode cX8_hindersTaken 125 = .ok (.iload_n 1, 1) := by decide +kernel
theorem dX8_hindersTaken_126 : decode cX8_hindersTaken 126 = .ok (.aload_n 0, 1) := by decide +kernel
theorem dX8_hindersTaken_127 : decode cX8_hindersTaken 127 = .ok (.getfield 120, 3) := by decide +kernel
theorem dX8_hindersTaken_130 : decode cX8_hindersTaken 130 = .ok (.if_icmp .ge 73, 3) := by decide +kernel
theorem dX8_hindersTaken_133 : decode cX8_hindersTaken 133 = .ok (.iconst 0, 1) := by decide +kernel
theorem dX8_hindersTaken_134 : decode cX8_hindersTaken 134 = .ok (.istore_n 2, 1) := by decide +kernel
theorem dX8_hindersTaken_135 : decode cX8_hindersTaken 135 = .ok (.iload_n 2, 1) := by decide +kernel
theorem dX8_hindersTaken_136 : decode cX8_hindersTaken 136 = .ok (.iload_n 1, 1) := by decide +kernel
theorem dX8_hindersTaken_137 : decode cX8_hindersTaken 137 = .ok (.if_icmp .ge 60, 3) := by decide +kernel
theorem dX8_hindersTaken_140 : decode cX8_hindersTaken 140 = .ok (.aload_n 0, 1) := by decide +kernel
theorem dX8_hindersTaken_141 : decode cX8_hindersTaken 141 = .ok (.getfield 47, 3) := by decide +kernel
theorem dX8_hindersTaken_144 : decode cX8_hindersTaken 144 = .ok (.iload_n 2, 1) := by decide +kernel
theorem dX8_hindersTaken_145 : decode cX8_hindersTaken 145 = .ok (.iaload, 1) := by decide +kernel
theorem dX8_hindersTaken_146 : decode cX8_hindersTaken 146 = .ok (.aload_n 0, 1) := by decide +kernel
theorem dX8_hindersTaken_147 : decode cX8_hindersTaken 147 = .ok (.getfield 47, 3) := by decide +kernel
theorem dX8_hindersTaken_150 : decode cX8_hindersTaken 150 = .ok (.iload_n 1, 1) := by decide +kernel
theorem dX8_hindersTaken_151 : decode cX8_hindersTaken 151 = .ok (.iaload, 1) := by decide +kernel
theorem dX8_hindersTaken_152 : decode cX8_hindersTaken 152 = .ok (.if_icmp .ne 39, 3) := by decide +kernel
theorem dX8_hindersTaken_155 : decode cX8_hindersTaken 155 = .ok (.aload_n 0, 1) := by decide +kernel
theorem dX8_hindersTaken_156 : decode cX8_hindersTaken 156 = .ok (.getfield 105, 3) := by decide +kernel
theorem dX8_hindersTaken_159 : decode cX8_hindersTaken 159 = .ok (.bipush 24, 2) := by decide +kernel
theorem dX8_hindersTaken_161 : decode cX8_hindersTaken 161 = .ok (.iload_n 2, 1) := by decide +kernel
theorem dX8_hindersTaken_162 : decode cX8_hindersTaken 162 = .ok (.imul, 1) := by decide +kernel
theorem dX8_hindersTaken_163 : decode cX8_hindersTaken 163 = .ok (.aload_n 0, 1) := by decide +kernel
theorem dX8_hindersTaken_164 : decode cX8_hindersTaken 164 = .ok (.getfield 114, 3) := by decide +kernel
theorem dX8_hindersTaken_167 : decode cX8_hindersTaken 167 = .ok (.iload_n 2, 1) := by decide +kernel
theorem dX8_hindersTaken_168 : decode cX8_hindersTaken 168 = .ok (.iaload, 1) := by decide +kernel
theorem dX8_hindersTaken_169 : decode cX8_hindersTaken 169 = .ok (.aload_n 0, 1) := by decide +kernel
theorem dX8_hindersTaken_170 : decode cX8_hindersTaken 170 = .ok (.getfield 105, 3) := by decide +kernel
theorem dX8_hindersTaken_173 : decode cX8_hindersTaken 173 = .ok (.bipush 24, 2) := by decide +kernel
theorem dX8_hindersTaken_175 : decode cX8_hindersTaken 175 = .ok (.iload_n 1, 1) := by decide +kernel
theorem dX8_hindersTaken_176 : decode cX8_hindersTaken 176 = .ok (.imul, 1) := by decide +kernel
theorem dX8_hindersTaken_177 : decode cX8_hindersTaken 177 = .ok (.aload_n 0, 1) := by decide +kernel
theorem dX8_hindersTaken_178 : decode cX8_hindersTaken 178 = .ok (.getfield 114, 3) := by decide +kernel
theorem dX8_hindersTaken_181 : decode cX8_hindersTaken 181 = .ok (.iload_n 1, 1) := by decide +kernel
theorem dX8_hindersTaken_182 : decode cX8_hindersTaken 182 = .ok (.iaload, 1) := by decide +kernel
theorem dX8_hindersTaken_183 : decode cX8_hindersTaken 183 = .ok (.invokestatic 133, 3) := by decide +kernel
theorem dX8_hindersTaken_186 : decode cX8_hindersTaken 186 = .ok (.ifCond .eq 5, 3) := by decide +kernel
theorem dX8_hindersTaken_189 : decode cX8_hindersTaken 189 = .ok (.iload_n 1, 1) := by decide +kernel
theorem dX8_hindersTaken_190 : decode cX8_hindersTaken 190 = .ok (.ireturn, 1) := by decide +kernel
theorem dX8_hindersTaken_191 : decode cX8_hindersTaken 191 = .ok (.iinc 2 1, 3) := by decide +kernel
theorem dX8_hindersTaken_194 : decode cX8_hindersTaken 194 = .ok (.goto (-59), 3) := by decide +kernel
theorem dX8_hindersTaken_197 : decode cX8_hindersTaken 197 = .ok (.iinc 1 1, 3) := by decide +kernel
theorem dX8_hindersTaken_200 : decode cX8_hindersTaken 200 = .ok (.goto (-75), 3) := by decide +kernel
theorem dX8_hindersTaken_203 : decode cX8_hindersTaken 203 = .ok (.iconst 0, 1) := by decide +kernel
theorem dX8_hindersTaken_204 : decode cX8_hindersTaken 204 = .ok (.istore_n 1, 1) := by decide +kernel
theorem dX8_hindersTaken_205 : decode cX8_hindersTaken 205 = .ok (.iload_n 1, 1) := by decide +kernel
theorem dX8_hindersTaken_206 : decode cX8_hindersTaken 206 = .ok (.aload_n 0, 1) := by decide +kernel
theorem dX8_hindersTaken_207 : decode cX8_hindersTaken 207 = .ok (.getfield 137, 3) := by decide +kernel
theorem dX8_hindersTaken_210 : decode cX8_hindersTaken 210 = .ok (.if_icmp .ge 58, 3) := by decide +kernel
theorem dX8_hindersTaken_213 : decode cX8_hindersTaken 213 = .ok (.aload_n 0, 1) := by decide +kernel
theorem dX8_hindersTaken_214 : decode cX8_hindersTaken 214 = .ok (.getfield 59, 3) := by decide +kernel
theorem dX8_hindersTaken_217 : decode cX8_hindersTaken 217 = .ok (.iload_n 1, 1) := by decide +kernel
theorem dX8_hindersTaken_218 : decode cX8_hindersTaken 218 = .ok (.iaload, 1) := by decide +kernel
theorem dX8_hindersTaken_219 : decode cX8_hindersTaken 219 = .ok (.istore_n 2, 1) := by decide +kernel
theorem dX8_hindersTaken_220 : decode cX8_hindersTaken 220 = .ok (.aload_n 0, 1) := by decide +kernel
theorem dX8_hindersTaken_221 : decode cX8_hindersTaken 221 = .ok (.aload_n 0, 1) := by decide +kernel
theorem dX8_hindersTaken_222 : decode cX8_hindersTaken 222 = .ok (.getfield 56, 3) := by decide +kernel
theorem dX8_hindersTaken_225 : decode cX8_hindersTaken 225 = .ok (.iload_n 1, 1) := by decide +kernel
theorem dX8_hindersTaken_226 : decode cX8_hindersTaken 226 = .ok (.iaload, 1) := by decide +kernel
theorem dX8_hindersTaken_227 : decode cX8_hindersTaken 227 = .ok (.aload_n 0, 1) := by decide +kernel
theorem dX8_hindersTaken_228 : decode cX8_hindersTaken 228 = .ok (.getfield 105, 3) := by decide +kernel
theorem dX8_hindersTaken_231 : decode cX8_hindersTaken 231 = .ok (.bipush 24, 2) := by decide +kernel
theorem dX8_hindersTaken_233 : decode cX8_hindersTaken 233 = .ok (.iload_n 2, 1) := by decide +kernel
theorem dX8_hindersTaken_234 : decode cX8_hindersTaken 234 = .ok (.imul, 1) := by decide +kernel
theorem dX8_hindersTaken_235 : decode cX8_hindersTaken 235 = .ok (.aload_n 0, 1) := by decide +kernel
theorem dX8_hindersTaken_236 : decode cX8_hindersTaken 236 = .ok (.getfield 114, 3) := by decide +kernel
theorem dX8_hindersTaken_239 : decode cX8_hindersTaken 239 = .ok (.iload_n 2, 1) := by decide +kernel
theorem dX8_hindersTaken_240 : decode cX8_hindersTaken 240 = .ok (.iaload, 1) := by decide +kernel
theorem dX8_hindersTaken_241 : decode cX8_hindersTaken 241 = .ok (.aload_n 0, 1) := by decide +kernel
theorem dX8_hindersTaken_242 : decode cX8_hindersTaken 242 = .ok (.getfield 105, 3) := by decide +kernel
theorem dX8_hindersTaken_245 : decode cX8_hindersTaken 245 = .ok (.aload_n 0, 1) := by decide +kernel
theorem dX8_hindersTaken_246 : decode cX8_hindersTaken 246 = .ok (.getfield 114, 3) := by decide +kernel
theorem dX8_hindersTaken_249 : decode cX8_hindersTaken 249 = .ok (.invokevirtual 155, 3) := by decide +kernel
theorem dX8_hindersTaken_252 : decode cX8_hindersTaken 252 = .ok (.iload_n 2, 1) := by decide +kernel
theorem dX8_hindersTaken_253 : decode cX8_hindersTaken 253 = .ok (.if_icmp .eq 9, 3) := by decide +kernel
theorem dX8_hindersTaken_256 : decode cX8_hindersTaken 256 = .ok (.sipush 1000, 3) := by decide +kernel
theorem dX8_hindersTaken_259 : decode cX8_hindersTaken 259 = .ok (.iload_n 1, 1) := by decide +kernel
theorem dX8_hindersTaken_260 : decode cX8_hindersTaken 260 = .ok (.iadd, 1) := by decide +kernel
theorem dX8_hindersTaken_261 : decode cX8_hindersTaken 261 = .ok (.ireturn, 1) := by decide +kernel
theorem dX8_hindersTaken_262 : decode cX8_hindersTaken 262 = .ok (.iinc 1 1, 3) := by decide +kernel
theorem dX8_hindersTaken_265 : decode cX8_hindersTaken 265 = .ok (.goto (-60), 3) := by decide +kernel
theorem dX8_hindersTaken_268 : decode cX8_hindersTaken 268 = .ok (.bipush (-2), 2) := by decide +kernel
theorem dX8_hindersTaken_270 : decode cX8_hindersTaken 270 = .ok (.ireturn, 1) := by decide +kernel
theorem dX8_hindersAll_0 : decode cX8_hindersAll 0 = .ok (.iconst 0, 1) := by decide +kernel
theorem dX8_hindersAll_1 : decode cX8_hindersAll 1 = .ok (.istore_n 1, 1) := by decide +kernel
theorem dX8_hindersAll_2 : decode cX8_hindersAll 2 = .ok (.iload_n 1, 1) := by decide +kernel
theorem dX8_hindersAll_3 : decode cX8_hindersAll 3 = .ok (.aload_n 0, 1) := by decide +kernel
theorem dX8_hindersAll_4 : decode cX8_hindersAll 4 = .ok (.getfield 120, 3) := by decide +kernel
theorem dX8_hindersAll_7 : decode cX8_hindersAll 7 = .ok (.if_icmp .ge 16, 3) := by decide +kernel
theorem dX8_hindersAll_10 : decode cX8_hindersAll 10 = .ok (.aload_n 0, 1) := by decide +kernel
theorem dX8_hindersAll_11 : decode cX8_hindersAll 11 = .ok (.getfield 99, 3) := by decide +kernel
theorem dX8_hindersAll_14 : decode cX8_hindersAll 14 = .ok (.iload_n 1, 1) := by decide +kernel
theorem dX8_hindersAll_15 : decode cX8_hindersAll 15 = .ok (.iconst 1, 1) := by decide +kernel
theorem dX8_hindersAll_16 : decode cX8_hindersAll 16 = .ok (.bastore, 1) := by decide +kernel
theorem dX8_hindersAll_17 : decode cX8_hindersAll 17 = .ok (.iinc 1 1, 3) := by decide +kernel
theorem dX8_hindersAll_20 : decode cX8_hindersAll 20 = .ok (.goto (-18), 3) := by decide +kernel
theorem dX8_hindersAll_23 : decode cX8_hindersAll 23 = .ok (.aload_n 0, 1) := by decide +kernel
theorem dX8_hindersAll_24 : decode cX8_hindersAll 24 = .ok (.invokevirtual 227, 3) := by decide +kernel
theorem dX8_hindersAll_27 : decode cX8_hindersAll 27 = .ok (.ireturn, 1) := by decide +kernel
theorem dX8_hinders_0 : decode cX8_hinders 0 = .ok (.aload_n 0, 1) := by decide +kernel
theorem dX8_hinders_1 : decode cX8_hinders 1 = .ok (.iconst 0, 1) := by decide +kernel
theorem dX8_hinders_2 : decode cX8_hinders 2 = .ok (.putfield 1, 3) := by decide +kernel
theorem dX8_hinders_5 : decode cX8_hinders 5 = .ok (.aload_n 0, 1) := by decide +kernel
theorem dX8_hinders_6 : decode cX8_hinders 6 = .ok (.invokevirtual 230, 3) := by decide +kernel
theorem dX8_hinders_9 : decode cX8_hinders 9 = .ok (.ireturn, 1) := by decide +kernel
theorem dX8_turn_0 : decode cX8_turn 0 = .ok (.aload_n 0, 1) := by decide +kernel
theorem dX8_turn_1 : decode cX8_turn 1 = .ok (.iconst 0, 1) := by decide +kernel
theorem dX8_turn_2 : decode cX8_turn 2 = .ok (.putfield 1, 3) := by decide +kernel
theorem dX8_turn_5 : decode cX8_turn 5 = .ok (.aload_n 0, 1) := by decide +kernel
theorem dX8_turn_6 : decode cX8_turn 6 = .ok (.invokevirtual 230, 3) := by decide +kernel
theorem dX8_turn_9 : decode cX8_turn 9 = .ok (.bipush (-2), 2) := by decide +kernel
theorem dX8_turn_11 : decode cX8_turn 11 = .ok (.if_icmp .eq 9, 3) := by decide +kernel
theorem dX8_turn_14 : decode cX8_turn 14 = .ok (.aload_n 0, 1) := by decide +kernel
theorem dX8_turn_15 : decode cX8_turn 15 = .ok (.iconst 5, 1) := by decide +kernel
theorem dX8_turn_16 : decode cX8_turn 16 = .ok (.invokevirtual 126, 3) := by decide +kernel
theorem dX8_turn_19 : decode cX8_turn 19 = .ok (.ireturn, 1) := by decide +kernel
theorem dX8_turn_20 : decode cX8_turn 20 = .ok (.aload_n 0, 1) := by decide +kernel
theorem dX8_turn_21 : decode cX8_turn 21 = .ok (.aload_n 0, 1) := by decide +kernel
theorem dX8_turn_22 : decode cX8_turn 22 = .ok (.invokevirtual 223, 3) := by decide +kernel
theorem dX8_turn_25 : decode cX8_turn 25 = .ok (.putfield 233, 3) := by decide +kernel
theorem dX8_turn_28 : decode cX8_turn 28 = .ok (.iconst 0, 1) := by decide +kernel
theorem dX8_turn_29 : decode cX8_turn 29 = .ok (.istore_n 1, 1) := by decide +kernel
theorem dX8_turn_30 : decode cX8_turn 30 = .ok (.iload_n 1, 1) := by decide +kernel
theorem dX8_turn_31 : decode cX8_turn 31 = .ok (.aload_n 0, 1) := by decide +kernel
theorem dX8_turn_32 : decode cX8_turn 32 = .ok (.getfield 120, 3) := by decide +kernel
theorem dX8_turn_35 : decode cX8_turn 35 = .ok (.if_icmp .ge 120, 3) := by decide +kernel
theorem dX8_turn_38 : decode cX8_turn 38 = .ok (.aload_n 0, 1) := by decide +kernel
theorem dX8_turn_39 : decode cX8_turn 39 = .ok (.getfield 117, 3) := by decide +kernel
theorem dX8_turn_42 : decode cX8_turn 42 = .ok (.iload_n 1, 1) := by decide +kernel
theorem dX8_turn_43 : decode cX8_turn 43 = .ok (.aload_n 0, 1) := by decide +kernel
theorem dX8_turn_44 : decode cX8_turn 44 = .ok (.getfield 53, 3) := by decide +kernel
theorem dX8_turn_47 : decode cX8_turn 47 = .ok (.iload_n 1, 1) := by decide +kernel
theorem dX8_turn_48 : decode cX8_turn 48 = .ok (.iaload, 1) := by decide +kernel
theorem dX8_turn_49 : decode cX8_turn 49 = .ok (.iastore, 1) := by decide +kernel
theorem dX8_turn_50 : decode cX8_turn 50 = .ok (.iconst 0, 1) := by decide +kernel
theorem dX8_turn_51 : decode cX8_turn 51 = .ok (.istore_n 2, 1) := by decide +kernel
theorem dX8_turn_52 : decode cX8_turn 52 = .ok (.iload_n 2, 1) := by decide +kernel
theorem dX8_turn_53 : decode cX8_turn 53 = .ok (.aload_n 0, 1) := by decide +kernel
theorem dX8_turn_54 : decode cX8_turn 54 = .ok (.getfield 53, 3) := by decide +kernel
theorem dX8_turn_57 : decode cX8_turn 57 = .ok (.iload_n 1, 1) := by decide +kernel
theorem dX8_turn_58 : decode cX8_turn 58 = .ok (.iaload, 1) := by decide +kernel
theorem dX8_turn_59 : decode cX8_turn 59 = .ok (.if_icmp .ge 31, 3) := by decide +kernel
theorem dX8_turn_62 : decode cX8_turn 62 = .ok (.aload_n 0, 1) := by decide +kernel
theorem dX8_turn_63 : decode cX8_turn 63 = .ok (.getfield 108, 3) := by decide +kernel
theorem dX8_turn_66 : decode cX8_turn 66 = .ok (.bipush 24, 2) := by decide +kernel
theorem dX8_turn_68 : decode cX8_turn 68 = .ok (.iload_n 1, 1) := by decide +kernel
theorem dX8_turn_69 : decode cX8_turn 69 = .ok (.imul, 1) := by decide +kernel
theorem dX8_turn_70 : decode cX8_turn 70 = .ok (.iload_n 2, 1) := by decide +kernel
theorem dX8_turn_71 : decode cX8_turn 71 = .ok (.iadd, 1) := by decide +kernel
theorem dX8_turn_72 : decode cX8_turn 72 = .ok (.aload_n 0, 1) := by decide +kernel
theorem dX8_turn_73 : decode cX8_turn 73 = .ok (.getfield 62, 3) := by decide +kernel
theorem dX8_turn_76 : decode cX8_turn 76 = .ok (.bipush 24, 2) := by decide +kernel
theorem dX8_turn_78 : decode cX8_turn 78 = .ok (.iload_n 1, 1) := by decide +kernel
theorem dX8_turn_79 : decode cX8_turn 79 = .ok (.imul, 1) := by decide +kernel
theorem dX8_turn_80 : decode cX8_turn 80 = .ok (.iload_n 2, 1) := by decide +kernel
theorem dX8_turn_81 : decode cX8_turn 81 = .ok (.iadd, 1) := by decide +kernel
theorem dX8_turn_82 : decode cX8_turn 82 = .ok (.baload, 1) := by decide +kernel
theorem dX8_turn_83 : decode cX8_turn 83 = .ok (.bastore, 1) := by decide +kernel
theorem dX8_turn_84 : decode cX8_turn 84 = .ok (.iinc 2 1, 3) := by decide +kernel
theorem dX8_turn_87 : decode cX8_turn 87 = .ok (.goto (-35), 3) := by decide +kernel
theorem dX8_turn_90 : decode cX8_turn 90 = .ok (.aload_n 0, 1) := by decide +kernel
theorem dX8_turn_91 : decode cX8_turn 91 = .ok (.getfield 53, 3) := by decide +kernel
theorem dX8_turn_94 : decode cX8_turn 94 = .ok (.iload_n 1, 1) := by decide +kernel
theorem dX8_turn_95 : decode cX8_turn 95 = .ok (.aload_n 0, 1) := by decide +kernel
theorem dX8_turn_96 : decode cX8_turn 96 = .ok (.getfield 114, 3) := by decide +kernel
theorem dX8_turn_99 : decode cX8_turn 99 = .ok (.iload_n 1, 1) := by decide +kernel
theorem dX8_turn_100 : decode cX8_turn 100 = .ok (.iaload, 1) := by decide +kernel
theorem dX8_turn_101 : decode cX8_turn 101 = .ok (.iastore, 1) := by decide +kernel
theorem dX8_turn_102 : decode cX8_turn 102 = .ok (.iconst 0, 1) := by decide +kernel
theorem dX8_turn_103 : decode cX8_turn 103 = .ok (.istore_n 2, 1) := by decide +kernel
theorem dX8_turn_104 : decode cX8_turn 104 = .ok (.iload_n 2, 1) := by decide +kernel
theorem dX8_turn_105 : decode cX8_turn 105 = .ok (.aload_n 0, 1) := by decide +kernel
theorem dX8_turn_106 : decode cX8_turn 106 = .ok (.getfield 53, 3) := by decide +kernel
theorem dX8_turn_109 : decode cX8_turn 109 = .ok (.iload_n 1, 1) := by decide +kernel
theorem dX8_turn_110 : decode cX8_turn 110 = .ok (.iaload, 1) := by decide +kernel
theorem dX8_turn_111 : decode cX8_turn 111 = .ok (.if_icmp .ge 31, 3) := by decide +kernel
theorem dX8_turn_114 : decode cX8_turn 114 = .ok (.aload_n 0, 1) := by decide +kernel
theorem dX8_turn_115 : decode cX8_turn 115 = .ok (.getfield 62, 3) := by decide +kernel
theorem dX8_turn_118 : decode cX8_turn 118 = .ok (.bipush 24, 2) := by decide +kernel
theorem dX8_turn_120 : decode cX8_turn 120 = .ok (.iload_n 1, 1) := by decide +kernel
theorem dX8_turn_121 : decode cX8_turn 121 = .ok (.imul, 1) := by decide +kernel
theorem dX8_turn_122 : decode cX8_turn 122 = .ok (.iload_n 2, 1) := by decide +kernel
theorem dX8_turn_123 : decode cX8_turn 123 = .ok (.iadd, 1) := by decide +kernel
theorem dX8_turn_124 : decode cX8_turn 124 = .ok (.aload_n 0, 1) := by decide +kernel
theorem dX8_turn_125 : decode cX8_turn 125 = .ok (.getfield 105, 3) := by decide +kernel
theorem dX8_turn_128 : decode cX8_turn 128 = .ok (.bipush 24, 2) := by decide +kernel
theorem dX8_turn_130 : decode cX8_turn 130 = .ok (.iload_n 1, 1) := by decide +kernel
theorem dX8_turn_131 : decode cX8_turn 131 = .ok (.imul, 1) := by decide +kernel
theorem dX8_turn_132 : decode cX8_turn 132 = .ok (.iload_n 2, 1) := by decide +kernel
theorem dX8_turn_133 : decode cX8_turn 133 = .ok (.iadd, 1) := by decide +kernel
theorem dX8_turn_134 : decode cX8_turn 134 = .ok (.baload, 1) := by decide +kernel
theorem dX8_turn_135 : decode cX8_turn 135 = .ok (.bastore, 1) := by decide +kernel
theorem dX8_turn_136 : decode cX8_turn 136 = .ok (.iinc 2 1, 3) := by decide +kernel
theorem dX8_turn_139 : decode cX8_turn 139 = .ok (.goto (-35), 3) := by decide +kernel
theorem dX8_turn_142 : decode cX8_turn 142 = .ok (.aload_n 0, 1) := by decide +kernel
theorem dX8_turn_143 : decode cX8_turn 143 = .ok (.getfield 95, 3) := by decide +kernel
theorem dX8_turn_146 : decode cX8_turn 146 = .ok (.iload_n 1, 1) := by decide +kernel
theorem dX8_turn_147 : decode cX8_turn 147 = .ok (.iconst 0, 1) := by decide +kernel
theorem dX8_turn_148 : decode cX8_turn 148 = .ok (.bastore, 1) := by decide +kernel
theorem dX8_turn_149 : decode cX8_turn 149 = .ok (.iinc 1 1, 3) := by decide +kernel
theorem dX8_turn_152 : decode cX8_turn 152 = .ok (.goto (-122), 3) := by decide +kernel
theorem dX8_turn_155 : decode cX8_turn 155 = .ok (.aload_n 0, 1) := by decide +kernel
theorem dX8_turn_156 : decode cX8_turn 156 = .ok (.iconst 1, 1) := by decide +kernel
theorem dX8_turn_157 : decode cX8_turn 157 = .ok (.putfield 151, 3) := by decide +kernel
theorem dX8_turn_160 : decode cX8_turn 160 = .ok (.aload_n 0, 1) := by decide +kernel
theorem dX8_turn_161 : decode cX8_turn 161 = .ok (.aload_n 0, 1) := by decide +kernel
theorem dX8_turn_162 : decode cX8_turn 162 = .ok (.getfield 233, 3) := by decide +kernel
theorem dX8_turn_165 : decode cX8_turn 165 = .ok (.invokevirtual 130, 3) := by decide +kernel
theorem dX8_turn_168 : decode cX8_turn 168 = .ok (.ireturn, 1) := by decide +kernel
theorem dX8_back_0 : decode cX8_back 0 = .ok (.aload_n 0, 1) := by decide +kernel
theorem dX8_back_1 : decode cX8_back 1 = .ok (.iconst 0, 1) := by decide +kernel
theorem dX8_back_2 : decode cX8_back 2 = .ok (.putfield 1, 3) := by decide +kernel
theorem dX8_back_5 : decode cX8_back 5 = .ok (.aload_n 0, 1) := by decide +kernel
theorem dX8_back_6 : decode cX8_back 6 = .ok (.getfield 151, 3) := by decide +kernel
theorem dX8_back_9 : decode cX8_back 9 = .ok (.ifCond .ne 10, 3) := by decide +kernel
theorem dX8_back_12 : decode cX8_back 12 = .ok (.aload_n 0, 1) := by decide +kernel
theorem dX8_back_13 : decode cX8_back 13 = .ok (.bipush 6, 2) := by decide +kernel
theorem dX8_back_15 : decode cX8_back 15 = .ok (.invokevirtual 126, 3) := by decide +kernel
theorem dX8_back_18 : decode cX8_back 18 = .ok (.ireturn, 1) := by decide +kernel
theorem dX8_back_19 : decode cX8_back 19 = .ok (.aload_n 0, 1) := by decide +kernel
theorem dX8_back_20 : decode cX8_back 20 = .ok (.iconst 0, 1) := by decide +kernel
theorem dX8_back_21 : decode cX8_back 21 = .ok (.putfield 151, 3) := by decide +kernel
theorem dX8_back_24 : decode cX8_back 24 = .ok (.iconst 0, 1) := by decide +kernel
theorem dX8_back_25 : decode cX8_back 25 = .ok (.istore_n 1, 1) := by decide +kernel
theorem dX8_back_26 : decode cX8_back 26 = .ok (.iload_n 1, 1) := by decide +kernel
theorem dX8_back_27 : decode cX8_back 27 = .ok (.aload_n 0, 1) := by decide +kernel
theorem dX8_back_28 : decode cX8_back 28 = .ok (.getfield 120, 3) := by decide +kernel
theorem dX8_back_31 : decode cX8_back 31 = .ok (.if_icmp .ge 61, 3) := by decide +kernel
theorem dX8_back_34 : decode cX8_back 34 = .ok (.aload_n 0, 1) := by decide +kernel
theorem dX8_back_35 : decode cX8_back 35 = .ok (.getfield 53, 3) := by decide +kernel
theorem dX8_back_38 : decode cX8_back 38 = .ok (.iload_n 1, 1) := by decide +kernel
theorem dX8_back_39 : decode cX8_back 39 = .ok (.aload_n 0, 1) := by decide +kernel
theorem dX8_back_40 : decode cX8_back 40 = .ok (.getfield 117, 3) := by decide +kernel
theorem dX8_back_43 : decode cX8_back 43 = .ok (.iload_n 1, 1) := by decide +kernel
theorem dX8_back_44 : decode cX8_back 44 = .ok (.iaload, 1) := by decide +kernel
theorem dX8_back_45 : decode cX8_back 45 = .ok (.iastore, 1) := by decide +kernel
theorem dX8_back_46 : decode cX8_back 46 = .ok (.iconst 0, 1) := by decide +kernel
theorem dX8_back_47 : decode cX8_back 47 = .ok (.istore_n 2, 1) := by decide +kernel
theorem dX8_back_48 : decode cX8_back 48 = .ok (.iload_n 2, 1) := by decide +kernel
theorem dX8_back_49 : decode cX8_back 49 = .ok (.aload_n 0, 1) := by decide +kernel
theorem dX8_back_50 : decode cX8_back 50 = .ok (.getfield 53, 3) := by decide +kernel
theorem dX8_back_53 : decode cX8_back 53 = .ok (.iload_n 1, 1) := by decide +kernel
theorem dX8_back_54 : decode cX8_back 54 = .ok (.iaload, 1) := by decide +kernel
theorem dX8_back_55 : decode cX8_back 55 = .ok (.if_icmp .ge 31, 3) := by decide +kernel
theorem dX8_back_58 : decode cX8_back 58 = .ok (.aload_n 0, 1) := by decide +kernel
theorem dX8_back_59 : decode cX8_back 59 = .ok (.getfield 62, 3) := by decide +kernel
theorem dX8_back_62 : decode cX8_back 62 = .ok (.bipush 24, 2) := by decide +kernel
theorem dX8_back_64 : decode cX8_back 64 = .ok (.iload_n 1, 1) := by decide +kernel
theorem dX8_back_65 : decode cX8_back 65 = .ok (.imul, 1) := by decide +kernel
theorem dX8_back_66 : decode cX8_back 66 = .ok (.iload_n 2, 1) := by decide +kernel
theorem dX8_back_67 : decode cX8_back 67 = .ok (.iadd, 1) := by decide +kernel
theorem dX8_back_68 : decode cX8_back 68 = .ok (.aload_n 0, 1) := by decide +kernel
theorem dX8_back_69 : decode cX8_back 69 = .ok (.getfield 108, 3) := by decide +kernel
theorem dX8_back_72 : decode cX8_back 72 = .ok (.bipush 24, 2) := by decide +kernel
theorem dX8_back_74 : decode cX8_back 74 = .ok (.iload_n 1, 1) := by decide +kernel
theorem dX8_back_75 : decode cX8_back 75 = .ok (.imul, 1) := by decide +kernel
theorem dX8_back_76 : decode cX8_back 76 = .ok (.iload_n 2, 1) := by decide +kernel
theorem dX8_back_77 : decode cX8_back 77 = .ok (.iadd, 1) := by decide +kernel
theorem dX8_back_78 : decode cX8_back 78 = .ok (.baload, 1) := by decide +kernel
theorem dX8_back_79 : decode cX8_back 79 = .ok (.bastore, 1) := by decide +kernel
theorem dX8_back_80 : decode cX8_back 80 = .ok (.iinc 2 1, 3) := by decide +kernel
theorem dX8_back_83 : decode cX8_back 83 = .ok (.goto (-35), 3) := by decide +kernel
theorem dX8_back_86 : decode cX8_back 86 = .ok (.iinc 1 1, 3) := by decide +kernel
theorem dX8_back_89 : decode cX8_back 89 = .ok (.goto (-63), 3) := by decide +kernel
theorem dX8_back_92 : decode cX8_back 92 = .ok (.aload_n 0, 1) := by decide +kernel
theorem dX8_back_93 : decode cX8_back 93 = .ok (.aload_n 0, 1) := by decide +kernel
theorem dX8_back_94 : decode cX8_back 94 = .ok (.getfield 233, 3) := by decide +kernel
theorem dX8_back_97 : decode cX8_back 97 = .ok (.invokevirtual 130, 3) := by decide +kernel
theorem dX8_back_100 : decode cX8_back 100 = .ok (.ireturn, 1) := by decide +kernel
theorem dX8_keep_0 : decode cX8_keep 0 = .ok (.aload_n 0, 1) := by decide +kernel
theorem dX8_keep_1 : decode cX8_keep 1 = .ok (.iconst 0, 1) := by decide +kernel
theorem dX8_keep_2 : decode cX8_keep 2 = .ok (.putfield 1, 3) := by decide +kernel
theorem dX8_keep_5 : decode cX8_keep 5 = .ok (.iconst 0, 1) := by decide +kernel
theorem dX8_keep_6 : decode cX8_keep 6 = .ok (.istore_n 1, 1) := by decide +kernel
theorem dX8_keep_7 : decode cX8_keep 7 = .ok (.iload_n 1, 1) := by decide +kernel
theorem dX8_keep_8 : decode cX8_keep 8 = .ok (.aload_n 0, 1) := by decide +kernel
theorem dX8_keep_9 : decode cX8_keep 9 = .ok (.getfield 120, 3) := by decide +kernel
theorem dX8_keep_12 : decode cX8_keep 12 = .ok (.if_icmp .ge 16, 3) := by decide +kernel
theorem dX8_keep_15 : decode cX8_keep 15 = .ok (.aload_n 0, 1) := by decide +kernel
theorem dX8_keep_16 : decode cX8_keep 16 = .ok (.getfield 99, 3) := by decide +kernel
theorem dX8_keep_19 : decode cX8_keep 19 = .ok (.iload_n 1, 1) := by decide +kernel
theorem dX8_keep_20 : decode cX8_keep 20 = .ok (.iconst 0, 1) := by decide +kernel
theorem dX8_keep_21 : decode cX8_keep 21 = .ok (.bastore, 1) := by decide +kernel
theorem dX8_keep_22 : decode cX8_keep 22 = .ok (.iinc 1 1, 3) := by decide +kernel
theorem dX8_keep_25 : decode cX8_keep 25 = .ok (.goto (-18), 3) := by decide +kernel
theorem dX8_keep_28 : decode cX8_keep 28 = .ok (.iconst 0, 1) := by decide +kernel
theorem dX8_keep_29 : decode cX8_keep 29 = .ok (.istore_n 1, 1) := by decide +kernel
theorem dX8_keep_30 : decode cX8_keep 30 = .ok (.iload_n 1, 1) := by decide +kernel
theorem dX8_keep_31 : decode cX8_keep 31 = .ok (.aload_n 0, 1) := by decide +kernel
theorem dX8_keep_32 : decode cX8_keep 32 = .ok (.getfield 120, 3) := by decide +kernel
theorem dX8_keep_35 : decode cX8_keep 35 = .ok (.if_icmp .ge 48, 3) := by decide +kernel
theorem dX8_keep_38 : decode cX8_keep 38 = .ok (.aload_n 0, 1) := by decide +kernel
theorem dX8_keep_39 : decode cX8_keep 39 = .ok (.getfield 95, 3) := by decide +kernel
theorem dX8_keep_42 : decode cX8_keep 42 = .ok (.iload_n 1, 1) := by decide +kernel
theorem dX8_keep_43 : decode cX8_keep 43 = .ok (.baload, 1) := by decide +kernel
theorem dX8_keep_44 : decode cX8_keep 44 = .ok (.ifCond .ne 6, 3) := by decide +kernel
theorem dX8_keep_47 : decode cX8_keep 47 = .ok (.goto 30, 3) := by decide +kernel
theorem dX8_keep_50 : decode cX8_keep 50 = .ok (.aload_n 0, 1) := by decide +kernel
theorem dX8_keep_51 : decode cX8_keep 51 = .ok (.getfield 99, 3) := by decide +kernel
theorem dX8_keep_54 : decode cX8_keep 54 = .ok (.iload_n 1, 1) := by decide +kernel
theorem dX8_keep_55 : decode cX8_keep 55 = .ok (.iconst 1, 1) := by decide +kernel
theorem dX8_keep_56 : decode cX8_keep 56 = .ok (.bastore, 1) := by decide +kernel
theorem dX8_keep_57 : decode cX8_keep 57 = .ok (.aload_n 0, 1) := by decide +kernel
theorem dX8_keep_58 : decode cX8_keep 58 = .ok (.getfield 99, 3) := by decide +kernel
theorem dX8_keep_61 : decode cX8_keep 61 = .ok (.iload_n 1, 1) := by decide +kernel
theorem dX8_keep_62 : decode cX8_keep 62 = .ok (.aload_n 0, 1) := by decide +kernel
theorem dX8_keep_63 : decode cX8_keep 63 = .ok (.invokevirtual 227, 3) := by decide +kernel
theorem dX8_keep_66 : decode cX8_keep 66 = .ok (.bipush (-2), 2) := by decide +kernel
theorem dX8_keep_68 : decode cX8_keep 68 = .ok (.if_icmp .ne 7, 3) := by decide +kernel
theorem dX8_keep_71 : decode cX8_keep 71 = .ok (.iconst 1, 1) := by decide +kernel
theorem dX8_keep_72 : decode cX8_keep 72 = .ok (.goto 4, 3) := by decide +kernel
theorem dX8_keep_75 : decode cX8_keep 75 = .ok (.iconst 0, 1) := by decide +kernel
theorem dX8_keep_76 : decode cX8_keep 76 = .ok (.bastore, 1) := by decide +kernel
theorem dX8_keep_77 : decode cX8_keep 77 = .ok (.iinc 1 1, 3) := by decide +kernel
theorem dX8_keep_80 : decode cX8_keep 80 = .ok (.goto (-50), 3) := by decide +kernel
theorem dX8_keep_83 : decode cX8_keep 83 = .ok (.iconst 0, 1) := by decide +kernel
theorem dX8_keep_84 : decode cX8_keep 84 = .ok (.istore_n 1, 1) := by decide +kernel
theorem dX8_keep_85 : decode cX8_keep 85 = .ok (.iload_n 1, 1) := by decide +kernel
theorem dX8_keep_86 : decode cX8_keep 86 = .ok (.aload_n 0, 1) := by decide +kernel
theorem dX8_keep_87 : decode cX8_keep 87 = .ok (.getfield 120, 3) := by decide +kernel
theorem dX8_keep_90 : decode cX8_keep 90 = .ok (.if_icmp .ge 38, 3) := by decide +kernel
theorem dX8_keep_93 : decode cX8_keep 93 = .ok (.aload_n 0, 1) := by decide +kernel
theorem dX8_keep_94 : decode cX8_keep 94 = .ok (.getfield 95, 3) := by decide +kernel
theorem dX8_keep_97 : decode cX8_keep 97 = .ok (.iload_n 1, 1) := by decide +kernel
theorem dX8_keep_98 : decode cX8_keep 98 = .ok (.aload_n 0, 1) := by decide +kernel
theorem dX8_keep_99 : decode cX8_keep 99 = .ok (.getfield 95, 3) := by decide +kernel
theorem dX8_keep_102 : decode cX8_keep 102 = .ok (.iload_n 1, 1) := by decide +kernel
theorem dX8_keep_103 : decode cX8_keep 103 = .ok (.baload, 1) := by decide +kernel
theorem dX8_keep_104 : decode cX8_keep 104 = .ok (.ifCond .eq 16, 3) := by decide +kernel
theorem dX8_keep_107 : decode cX8_keep 107 = .ok (.aload_n 0, 1) := by decide +kernel
theorem dX8_keep_108 : decode cX8_keep 108 = .ok (.getfield 99, 3) := by decide +kernel
theorem dX8_keep_111 : decode cX8_keep 111 = .ok (.iload_n 1, 1) := by decide +kernel
theorem dX8_keep_112 : decode cX8_keep 112 = .ok (.baload, 1) := by decide +kernel
theorem dX8_keep_113 : decode cX8_keep 113 = .ok (.ifCond .eq 7, 3) := by decide +kernel
theorem dX8_keep_116 : decode cX8_keep 116 = .ok (.iconst 1, 1) := by decide +kernel
theorem dX8_keep_117 : decode cX8_keep 117 = .ok (.goto 4, 3) := by decide +kernel
theorem dX8_keep_120 : decode cX8_keep 120 = .ok (.iconst 0, 1) := by decide +kernel
theorem dX8_keep_121 : decode cX8_keep 121 = .ok (.bastore, 1) := by decide +kernel
theorem dX8_keep_122 : decode cX8_keep 122 = .ok (.iinc 1 1, 3) := by decide +kernel
theorem dX8_keep_125 : decode cX8_keep 125 = .ok (.goto (-40), 3) := by decide +kernel
theorem dX8_keep_128 : decode cX8_keep 128 = .ok (.aload_n 0, 1) := by decide +kernel
theorem dX8_keep_129 : decode cX8_keep 129 = .ok (.invokevirtual 223, 3) := by decide +kernel
theorem dX8_keep_132 : decode cX8_keep 132 = .ok (.ireturn, 1) := by decide +kernel
theorem dX8_count_0 : decode cX8_count 0 = .ok (.aload_n 0, 1) := by decide +kernel
theorem dX8_count_1 : decode cX8_count 1 = .ok (.iconst 0, 1) := by decide +kernel
theorem dX8_count_2 : decode cX8_count 2 = .ok (.putfield 1, 3) := by decide +kernel
theorem dX8_count_5 : decode cX8_count 5 = .ok (.iload_n 1, 1) := by decide +kernel
theorem dX8_count_6 : decode cX8_count 6 = .ok (.tableswitch 77 0 6 #[42, 47, 52, 57, 62, 67, 72], 42) := by decide +kernel
theorem dX8_count_48 : decode cX8_count 48 = .ok (.aload_n 0, 1) := by decide +kernel
theorem dX8_count_49 : decode cX8_count 49 = .ok (.getfield 40, 3) := by decide +kernel
theorem dX8_count_52 : decode cX8_count 52 = .ok (.ireturn, 1) := by decide +kernel
theorem dX8_count_53 : decode cX8_count 53 = .ok (.aload_n 0, 1) := by decide +kernel
theorem dX8_count_54 : decode cX8_count 54 = .ok (.getfield 120, 3) := by decide +kernel
theorem dX8_count_57 : decode cX8_count 57 = .ok (.ireturn, 1) := by decide +kernel
theorem dX8_count_58 : decode cX8_count 58 = .ok (.aload_n 0, 1) := by decide +kernel
theorem dX8_count_59 : decode cX8_count 59 = .ok (.getfield 137, 3) := by decide +kernel
theorem dX8_count_62 : decode cX8_count 62 = .ok (.ireturn, 1) := by decide +kernel
theorem dX8_count_63 : decode cX8_count 63 = .ok (.aload_n 0, 1) := by decide +kernel
theorem dX8_count_64 : decode cX8_count 64 = .ok (.getfield 165, 3) := by decide +kernel
theorem dX8_count_67 : decode cX8_count 67 = .ok (.ireturn, 1) := by decide +kernel
theorem dX8_count_68 : decode cX8_count 68 = .ok (.aload_n 0, 1) := by decide +kernel
theorem dX8_count_69 : decode cX8_count 69 = .ok (.invokevirtual 223, 3) := by decide +kernel
theorem dX8_count_72 : decode cX8_count 72 = .ok (.ireturn, 1) := by decide +kernel
theorem dX8_count_73 : decode cX8_count 73 = .ok (.aload_n 0, 1) := by decide +kernel
theorem dX8_count_74 : decode cX8_count 74 = .ok (.getfield 220, 3) := by decide +kernel
theorem dX8_count_77 : decode cX8_count 77 = .ok (.ireturn, 1) := by decide +kernel
theorem dX8_count_78 : decode cX8_count 78 = .ok (.aload_n 0, 1) := by decide +kernel
theorem dX8_count_79 : decode cX8_count 79 = .ok (.getfield 10, 3) := by decide +kernel
theorem dX8_count_82 : decode cX8_count 82 = .ok (.ireturn, 1) := by decide +kernel
theorem dX8_count_83 : decode cX8_count 83 = .ok (.iconst (-1), 1) := by decide +kernel
theorem dX8_count_84 : decode cX8_count 84 = .ok (.ireturn, 1) := by decide +kernel
theorem dX8_trouble_0 : decode cX8_trouble 0 = .ok (.aload_n 0, 1) := by decide +kernel
theorem dX8_trouble_1 : decode cX8_trouble 1 = .ok (.iconst 0, 1) := by decide +kernel
theorem dX8_trouble_2 : decode cX8_trouble 2 = .ok (.putfield 1, 3) := by decide +kernel
theorem dX8_trouble_5 : decode cX8_trouble 5 = .ok (.aload_n 0, 1) := by decide +kernel
theorem dX8_trouble_6 : decode cX8_trouble 6 = .ok (.getfield 7, 3) := by decide +kernel
theorem dX8_trouble_9 : decode cX8_trouble 9 = .ok (.ireturn, 1) := by decide +kernel
