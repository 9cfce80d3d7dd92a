theorem dX0_init_0 : decode cX0_init 0 = .ok (.aload_n 0, 1) := by decide +kernel
theorem dX0_init_1 : decode cX0_init 1 = .ok (.invokespecial 3, 3) := by decide +kernel
theorem dX0_init_4 : decode cX0_init 4 = .ok (.aload_n 0, 1) := by decide +kernel
theorem dX0_init_5 : decode cX0_init 5 = .ok (.bipush 60, 2) := by decide +kernel
theorem dX0_init_7 : decode cX0_init 7 = .ok (.newarray .long, 2) := by decide +kernel
theorem dX0_init_9 : decode cX0_init 9 = .ok (.putfield 9, 3) := by decide +kernel
theorem dX0_init_12 : decode cX0_init 12 = .ok (.aload_n 0, 1) := by decide +kernel
theorem dX0_init_13 : decode cX0_init 13 = .ok (.bipush 60, 2) := by decide +kernel
theorem dX0_init_15 : decode cX0_init 15 = .ok (.newarray .int, 2) := by decide +kernel
theorem dX0_init_17 : decode cX0_init 17 = .ok (.putfield 15, 3) := by decide +kernel
theorem dX0_init_20 : decode cX0_init 20 = .ok (.aload_n 0, 1) := by decide +kernel
theorem dX0_init_21 : decode cX0_init 21 = .ok (.bipush 60, 2) := by decide +kernel
theorem dX0_init_23 : decode cX0_init 23 = .ok (.newarray .int, 2) := by decide +kernel
theorem dX0_init_25 : decode cX0_init 25 = .ok (.putfield 19, 3) := by decide +kernel
theorem dX0_init_28 : decode cX0_init 28 = .ok (.aload_n 0, 1) := by decide +kernel
theorem dX0_init_29 : decode cX0_init 29 = .ok (.bipush 60, 2) := by decide +kernel
theorem dX0_init_31 : decode cX0_init 31 = .ok (.newarray .int, 2) := by decide +kernel
theorem dX0_init_33 : decode cX0_init 33 = .ok (.putfield 22, 3) := by decide +kernel
theorem dX0_init_36 : decode cX0_init 36 = .ok (.aload_n 0, 1) := by decide +kernel
theorem dX0_init_37 : decode cX0_init 37 = .ok (.bipush 60, 2) := by decide +kernel
theorem dX0_init_39 : decode cX0_init 39 = .ok (.newarray .int, 2) := by decide +kernel
theorem dX0_init_41 : decode cX0_init 41 = .ok (.putfield 25, 3) := by decide +kernel
theorem dX0_init_44 : decode cX0_init 44 = .ok (.aload_n 0, 1) := by decide +kernel
theorem dX0_init_45 : decode cX0_init 45 = .ok (.iconst 0, 1) := by decide +kernel
theorem dX0_init_46 : decode cX0_init 46 = .ok (.putfield 28, 3) := by decide +kernel
theorem dX0_init_49 : decode cX0_init 49 = .ok (.return_, 1) := by decide +kernel
theorem dX0_size_0 : decode cX0_size 0 = .ok (.aload_n 0, 1) := by decide +kernel
theorem dX0_size_1 : decode cX0_size 1 = .ok (.getfield 28, 3) := by decide +kernel
theorem dX0_size_4 : decode cX0_size 4 = .ok (.ireturn, 1) := by decide +kernel
theorem dX0_isFull_0 : decode cX0_isFull 0 = .ok (.aload_n 0, 1) := by decide +kernel
theorem dX0_isFull_1 : decode cX0_isFull 1 = .ok (.getfield 28, 3) := by decide +kernel
theorem dX0_isFull_4 : decode cX0_isFull 4 = .ok (.bipush 60, 2) := by decide +kernel
theorem dX0_isFull_6 : decode cX0_isFull 6 = .ok (.if_icmp .lt 7, 3) := by decide +kernel
theorem dX0_isFull_9 : decode cX0_isFull 9 = .ok (.iconst 1, 1) := by decide +kernel
theorem dX0_isFull_10 : decode cX0_isFull 10 = .ok (.goto 4, 3) := by decide +kernel
theorem dX0_isFull_13 : decode cX0_isFull 13 = .ok (.iconst 0, 1) := by decide +kernel
theorem dX0_isFull_14 : decode cX0_isFull 14 = .ok (.ireturn, 1) := by decide +kernel
theorem dX0_has_0 : decode cX0_has 0 = .ok (.iload_n 1, 1) := by decide +kernel
theorem dX0_has_1 : decode cX0_has 1 = .ok (.ifCond .lt 15, 3) := by decide +kernel
theorem dX0_has_4 : decode cX0_has 4 = .ok (.iload_n 1, 1) := by decide +kernel
theorem dX0_has_5 : decode cX0_has 5 = .ok (.aload_n 0, 1) := by decide +kernel
theorem dX0_has_6 : decode cX0_has 6 = .ok (.getfield 28, 3) := by decide +kernel
theorem dX0_has_9 : decode cX0_has 9 = .ok (.if_icmp .ge 7, 3) := by decide +kernel
theorem dX0_has_12 : decode cX0_has 12 = .ok (.iconst 1, 1) := by decide +kernel
theorem dX0_has_13 : decode cX0_has 13 = .ok (.goto 4, 3) := by decide +kernel
theorem dX0_has_16 : decode cX0_has 16 = .ok (.iconst 0, 1) := by decide +kernel
theorem dX0_has_17 : decode cX0_has 17 = .ok (.ireturn, 1) := by decide +kernel
theorem dX0_add_0 : decode cX0_add 0 = .ok (.aload_n 0, 1) := by decide +kernel
theorem dX0_add_1 : decode cX0_add 1 = .ok (.invokevirtual 32, 3) := by decide +kernel
theorem dX0_add_4 : decode cX0_add 4 = .ok (.ifCond .eq 5, 3) := by decide +kernel
theorem dX0_add_7 : decode cX0_add 7 = .ok (.iconst (-1), 1) := by decide +kernel
theorem dX0_add_8 : decode cX0_add 8 = .ok (.ireturn, 1) := by decide +kernel
theorem dX0_add_9 : decode cX0_add 9 = .ok (.aload_n 0, 1) := by decide +kernel
theorem dX0_add_10 : decode cX0_add 10 = .ok (.getfield 28, 3) := by decide +kernel
theorem dX0_add_13 : decode cX0_add 13 = .ok (.istore 4, 2) := by decide +kernel
theorem dX0_add_15 : decode cX0_add 15 = .ok (.aload_n 0, 1) := by decide +kernel
theorem dX0_add_16 : decode cX0_add 16 = .ok (.getfield 9, 3) := by decide +kernel
theorem dX0_add_19 : decode cX0_add 19 = .ok (.iload 4, 2) := by decide +kernel
theorem dX0_add_21 : decode cX0_add 21 = .ok (.lload_n 1, 1) := by decide +kernel
theorem dX0_add_22 : decode cX0_add 22 = .ok (.lastore, 1) := by decide +kernel
theorem dX0_add_23 : decode cX0_add 23 = .ok (.aload_n 0, 1) := by decide +kernel
theorem dX0_add_24 : decode cX0_add 24 = .ok (.getfield 15, 3) := by decide +kernel
theorem dX0_add_27 : decode cX0_add 27 = .ok (.iload 4, 2) := by decide +kernel
theorem dX0_add_29 : decode cX0_add 29 = .ok (.iload_n 3, 1) := by decide +kernel
theorem dX0_add_30 : decode cX0_add 30 = .ok (.iastore, 1) := by decide +kernel
theorem dX0_add_31 : decode cX0_add 31 = .ok (.aload_n 0, 1) := by decide +kernel
theorem dX0_add_32 : decode cX0_add 32 = .ok (.getfield 19, 3) := by decide +kernel
theorem dX0_add_35 : decode cX0_add 35 = .ok (.iload 4, 2) := by decide +kernel
theorem dX0_add_37 : decode cX0_add 37 = .ok (.iconst (-1), 1) := by decide +kernel
theorem dX0_add_38 : decode cX0_add 38 = .ok (.iastore, 1) := by decide +kernel
theorem dX0_add_39 : decode cX0_add 39 = .ok (.aload_n 0, 1) := by decide +kernel
theorem dX0_add_40 : decode cX0_add 40 = .ok (.getfield 22, 3) := by decide +kernel
theorem dX0_add_43 : decode cX0_add 43 = .ok (.iload 4, 2) := by decide +kernel
theorem dX0_add_45 : decode cX0_add 45 = .ok (.iload 4, 2) := by decide +kernel
theorem dX0_add_47 : decode cX0_add 47 = .ok (.iastore, 1) := by decide +kernel
theorem dX0_add_48 : decode cX0_add 48 = .ok (.aload_n 0, 1) := by decide +kernel
theorem dX0_add_49 : decode cX0_add 49 = .ok (.dup, 1) := by decide +kernel
theorem dX0_add_50 : decode cX0_add 50 = .ok (.getfield 28, 3) := by decide +kernel
theorem dX0_add_53 : decode cX0_add 53 = .ok (.iconst 1, 1) := by decide +kernel
theorem dX0_add_54 : decode cX0_add 54 = .ok (.iadd, 1) := by decide +kernel
theorem dX0_add_55 : decode cX0_add 55 = .ok (.putfield 28, 3) := by decide +kernel
theorem dX0_add_58 : decode cX0_add 58 = .ok (.iload 4, 2) := by decide +kernel
theorem dX0_add_60 : decode cX0_add 60 = .ok (.ireturn, 1) := by decide +kernel
theorem dX0_numberOf_0 : decode cX0_numberOf 0 = .ok (.iconst 0, 1) := by decide +kernel
theorem dX0_numberOf_1 : decode cX0_numberOf 1 = .ok (.istore_n 3, 1) := by decide +kernel
theorem dX0_numberOf_2 : decode cX0_numberOf 2 = .ok (.iload_n 3, 1) := by decide +kernel
theorem dX0_numberOf_3 : decode cX0_numberOf 3 = .ok (.aload_n 0, 1) := by decide +kernel
theorem dX0_numberOf_4 : decode cX0_numberOf 4 = .ok (.getfield 28, 3) := by decide +kernel
theorem dX0_numberOf_7 : decode cX0_numberOf 7 = .ok (.if_icmp .ge 22, 3) := by decide +kernel
theorem dX0_numberOf_10 : decode cX0_numberOf 10 = .ok (.aload_n 0, 1) := by decide +kernel
theorem dX0_numberOf_11 : decode cX0_numberOf 11 = .ok (.getfield 9, 3) := by decide +kernel
theorem dX0_numberOf_14 : decode cX0_numberOf 14 = .ok (.iload_n 3, 1) := by decide +kernel
theorem dX0_numberOf_15 : decode cX0_numberOf 15 = .ok (.laload, 1) := by decide +kernel
theorem dX0_numberOf_16 : decode cX0_numberOf 16 = .ok (.lload_n 1, 1) := by decide +kernel
theorem dX0_numberOf_17 : decode cX0_numberOf 17 = .ok (.lcmp, 1) := by decide +kernel
theorem dX0_numberOf_18 : decode cX0_numberOf 18 = .ok (.ifCond .ne 5, 3) := by decide +kernel
theorem dX0_numberOf_21 : decode cX0_numberOf 21 = .ok (.iload_n 3, 1) := by decide +kernel
theorem dX0_numberOf_22 : decode cX0_numberOf 22 = .ok (.ireturn, 1) := by decide +kernel
theorem dX0_numberOf_23 : decode cX0_numberOf 23 = .ok (.iinc 3 1, 3) := by decide +kernel
theorem dX0_numberOf_26 : decode cX0_numberOf 26 = .ok (.goto (-24), 3) := by decide +kernel
theorem dX0_numberOf_29 : decode cX0_numberOf 29 = .ok (.bipush (-2), 2) := by decide +kernel
theorem dX0_numberOf_31 : decode cX0_numberOf 31 = .ok (.ireturn, 1) := by decide +kernel
theorem dX0_lengthOf_0 : decode cX0_lengthOf 0 = .ok (.aload_n 0, 1) := by decide +kernel
theorem dX0_lengthOf_1 : decode cX0_lengthOf 1 = .ok (.iload_n 1, 1) := by decide +kernel
theorem dX0_lengthOf_2 : decode cX0_lengthOf 2 = .ok (.invokevirtual 36, 3) := by decide +kernel
theorem dX0_lengthOf_5 : decode cX0_lengthOf 5 = .ok (.ifCond .eq 12, 3) := by decide +kernel
theorem dX0_lengthOf_8 : decode cX0_lengthOf 8 = .ok (.aload_n 0, 1) := by decide +kernel
theorem dX0_lengthOf_9 : decode cX0_lengthOf 9 = .ok (.getfield 9, 3) := by decide +kernel
theorem dX0_lengthOf_12 : decode cX0_lengthOf 12 = .ok (.iload_n 1, 1) := by decide +kernel
theorem dX0_lengthOf_13 : decode cX0_lengthOf 13 = .ok (.laload, 1) := by decide +kernel
theorem dX0_lengthOf_14 : decode cX0_lengthOf 14 = .ok (.goto 4, 3) := by decide +kernel
theorem dX0_lengthOf_17 : decode cX0_lengthOf 17 = .ok (.lconst 0, 1) := by decide +kernel
theorem dX0_lengthOf_18 : decode cX0_lengthOf 18 = .ok (.lstore_n 2, 1) := by decide +kernel
theorem dX0_lengthOf_19 : decode cX0_lengthOf 19 = .ok (.iconst 0, 1) := by decide +kernel
theorem dX0_lengthOf_20 : decode cX0_lengthOf 20 = .ok (.istore 4, 2) := by decide +kernel
theorem dX0_lengthOf_22 : decode cX0_lengthOf 22 = .ok (.iconst 0, 1) := by decide +kernel
theorem dX0_lengthOf_23 : decode cX0_lengthOf 23 = .ok (.istore 5, 2) := by decide +kernel
theorem dX0_lengthOf_25 : decode cX0_lengthOf 25 = .ok (.iload 5, 2) := by decide +kernel
theorem dX0_lengthOf_27 : decode cX0_lengthOf 27 = .ok (.bipush 12, 2) := by decide +kernel
theorem dX0_lengthOf_29 : decode cX0_lengthOf 29 = .ok (.if_icmp .ge 22, 3) := by decide +kernel
theorem dX0_lengthOf_32 : decode cX0_lengthOf 32 = .ok (.lload_n 2, 1) := by decide +kernel
theorem dX0_lengthOf_33 : decode cX0_lengthOf 33 = .ok (.lconst 0, 1) := by decide +kernel
theorem dX0_lengthOf_34 : decode cX0_lengthOf 34 = .ok (.lcmp, 1) := by decide +kernel
theorem dX0_lengthOf_35 : decode cX0_lengthOf 35 = .ok (.ifCond .eq 16, 3) := by decide +kernel
theorem dX0_lengthOf_38 : decode cX0_lengthOf 38 = .ok (.lload_n 2, 1) := by decide +kernel
theorem dX0_lengthOf_39 : decode cX0_lengthOf 39 = .ok (.iconst 5, 1) := by decide +kernel
theorem dX0_lengthOf_40 : decode cX0_lengthOf 40 = .ok (.lshr, 1) := by decide +kernel
theorem dX0_lengthOf_41 : decode cX0_lengthOf 41 = .ok (.lstore_n 2, 1) := by decide +kernel
theorem dX0_lengthOf_42 : decode cX0_lengthOf 42 = .ok (.iinc 4 1, 3) := by decide +kernel
theorem dX0_lengthOf_45 : decode cX0_lengthOf 45 = .ok (.iinc 5 1, 3) := by decide +kernel
theorem dX0_lengthOf_48 : decode cX0_lengthOf 48 = .ok (.goto (-23), 3) := by decide +kernel
theorem dX0_lengthOf_51 : decode cX0_lengthOf 51 = .ok (.iload 4, 2) := by decide +kernel
theorem dX0_lengthOf_53 : decode cX0_lengthOf 53 = .ok (.ireturn, 1) := by decide +kernel
theorem dX0_letterOf_0 : decode cX0_letterOf 0 = .ok (.aload_n 0, 1) := by decide +kernel
theorem dX0_letterOf_1 : decode cX0_letterOf 1 = .ok (.iload_n 1, 1) := by decide +kernel
theorem dX0_letterOf_2 : decode cX0_letterOf 2 = .ok (.invokevirtual 40, 3) := by decide +kernel
theorem dX0_letterOf_5 : decode cX0_letterOf 5 = .ok (.iconst 1, 1) := by decide +kernel
theorem dX0_letterOf_6 : decode cX0_letterOf 6 = .ok (.isub, 1) := by decide +kernel
theorem dX0_letterOf_7 : decode cX0_letterOf 7 = .ok (.iload_n 2, 1) := by decide +kernel
theorem dX0_letterOf_8 : decode cX0_letterOf 8 = .ok (.isub, 1) := by decide +kernel
theorem dX0_letterOf_9 : decode cX0_letterOf 9 = .ok (.istore_n 3, 1) := by decide +kernel
theorem dX0_letterOf_10 : decode cX0_letterOf 10 = .ok (.aload_n 0, 1) := by decide +kernel
theorem dX0_letterOf_11 : decode cX0_letterOf 11 = .ok (.iload_n 1, 1) := by decide +kernel
theorem dX0_letterOf_12 : decode cX0_letterOf 12 = .ok (.invokevirtual 36, 3) := by decide +kernel
theorem dX0_letterOf_15 : decode cX0_letterOf 15 = .ok (.ifCond .eq 11, 3) := by decide +kernel
theorem dX0_letterOf_18 : decode cX0_letterOf 18 = .ok (.iload_n 2, 1) := by decide +kernel
theorem dX0_letterOf_19 : decode cX0_letterOf 19 = .ok (.ifCond .lt 7, 3) := by decide +kernel
theorem dX0_letterOf_22 : decode cX0_letterOf 22 = .ok (.iload_n 3, 1) := by decide +kernel
theorem dX0_letterOf_23 : decode cX0_letterOf 23 = .ok (.ifCond .ge 5, 3) := by decide +kernel
theorem dX0_letterOf_26 : decode cX0_letterOf 26 = .ok (.iconst 0, 1) := by decide +kernel
theorem dX0_letterOf_27 : decode cX0_letterOf 27 = .ok (.ireturn, 1) := by decide +kernel
theorem dX0_letterOf_28 : decode cX0_letterOf 28 = .ok (.bipush 96, 2) := by decide +kernel
theorem dX0_letterOf_30 : decode cX0_letterOf 30 = .ok (.aload_n 0, 1) := by decide +kernel
theorem dX0_letterOf_31 : decode cX0_letterOf 31 = .ok (.getfield 9, 3) := by decide +kernel
theorem dX0_letterOf_34 : decode cX0_letterOf 34 = .ok (.iload_n 1, 1) := by decide +kernel
theorem dX0_letterOf_35 : decode cX0_letterOf 35 = .ok (.laload, 1) := by decide +kernel
theorem dX0_letterOf_36 : decode cX0_letterOf 36 = .ok (.iconst 5, 1) := by decide +kernel
theorem dX0_letterOf_37 : decode cX0_letterOf 37 = .ok (.iload_n 3, 1) := by decide +kernel
theorem dX0_letterOf_38 : decode cX0_letterOf 38 = .ok (.imul, 1) := by decide +kernel
theorem dX0_letterOf_39 : decode cX0_letterOf 39 = .ok (.lshr, 1) := by decide +kernel
theorem dX0_letterOf_40 : decode cX0_letterOf 40 = .ok (.ldc2_w 44, 3) := by decide +kernel
theorem dX0_letterOf_43 : decode cX0_letterOf 43 = .ok (.land, 1) := by decide +kernel
theorem dX0_letterOf_44 : decode cX0_letterOf 44 = .ok (.l2i, 1) := by decide +kernel
theorem dX0_letterOf_45 : decode cX0_letterOf 45 = .ok (.iadd, 1) := by decide +kernel
theorem dX0_letterOf_46 : decode cX0_letterOf 46 = .ok (.ireturn, 1) := by decide +kernel
theorem dX0_rolesOf_0 : decode cX0_rolesOf 0 = .ok (.aload_n 0, 1) := by decide +kernel
theorem dX0_rolesOf_1 : decode cX0_rolesOf 1 = .ok (.iload_n 1, 1) := by decide +kernel
theorem dX0_rolesOf_2 : decode cX0_rolesOf 2 = .ok (.invokevirtual 36, 3) := by decide +kernel
theorem dX0_rolesOf_5 : decode cX0_rolesOf 5 = .ok (.ifCond .eq 12, 3) := by decide +kernel
theorem dX0_rolesOf_8 : decode cX0_rolesOf 8 = .ok (.aload_n 0, 1) := by decide +kernel
theorem dX0_rolesOf_9 : decode cX0_rolesOf 9 = .ok (.getfield 15, 3) := by decide +kernel
theorem dX0_rolesOf_12 : decode cX0_rolesOf 12 = .ok (.iload_n 1, 1) := by decide +kernel
theorem dX0_rolesOf_13 : decode cX0_rolesOf 13 = .ok (.iaload, 1) := by decide +kernel
theorem dX0_rolesOf_14 : decode cX0_rolesOf 14 = .ok (.goto 4, 3) := by decide +kernel
theorem dX0_rolesOf_17 : decode cX0_rolesOf 17 = .ok (.iconst 0, 1) := by decide +kernel
theorem dX0_rolesOf_18 : decode cX0_rolesOf 18 = .ok (.ireturn, 1) := by decide +kernel
theorem dX0_roleOf_0 : decode cX0_roleOf 0 = .ok (.aload_n 0, 1) := by decide +kernel
theorem dX0_roleOf_1 : decode cX0_roleOf 1 = .ok (.iload_n 1, 1) := by decide +kernel
theorem dX0_roleOf_2 : decode cX0_roleOf 2 = .ok (.invokevirtual 46, 3) := by decide +kernel
theorem dX0_roleOf_5 : decode cX0_roleOf 5 = .ok (.istore_n 2, 1) := by decide +kernel
theorem dX0_roleOf_6 : decode cX0_roleOf 6 = .ok (.iload_n 2, 1) := by decide +kernel
theorem dX0_roleOf_7 : decode cX0_roleOf 7 = .ok (.iload_n 2, 1) := by decide +kernel
theorem dX0_roleOf_8 : decode cX0_roleOf 8 = .ok (.ineg, 1) := by decide +kernel
theorem dX0_roleOf_9 : decode cX0_roleOf 9 = .ok (.iand, 1) := by decide +kernel
theorem dX0_roleOf_10 : decode cX0_roleOf 10 = .ok (.ireturn, 1) := by decide +kernel
theorem dX0_shortFor_0 : decode cX0_shortFor 0 = .ok (.aload_n 0, 1) := by decide +kernel
theorem dX0_shortFor_1 : decode cX0_shortFor 1 = .ok (.iload_n 1, 1) := by decide +kernel
theorem dX0_shortFor_2 : decode cX0_shortFor 2 = .ok (.invokevirtual 36, 3) := by decide +kernel
theorem dX0_shortFor_5 : decode cX0_shortFor 5 = .ok (.ifCond .eq 12, 3) := by decide +kernel
theorem dX0_shortFor_8 : decode cX0_shortFor 8 = .ok (.aload_n 0, 1) := by decide +kernel
theorem dX0_shortFor_9 : decode cX0_shortFor 9 = .ok (.getfield 19, 3) := by decide +kernel
theorem dX0_shortFor_12 : decode cX0_shortFor 12 = .ok (.iload_n 1, 1) := by decide +kernel
theorem dX0_shortFor_13 : decode cX0_shortFor 13 = .ok (.iaload, 1) := by decide +kernel
theorem dX0_shortFor_14 : decode cX0_shortFor 14 = .ok (.goto 4, 3) := by decide +kernel
theorem dX0_shortFor_17 : decode cX0_shortFor 17 = .ok (.iconst (-1), 1) := by decide +kernel
theorem dX0_shortFor_18 : decode cX0_shortFor 18 = .ok (.ireturn, 1) := by decide +kernel
theorem dX0_setShort_0 : decode cX0_setShort 0 = .ok (.aload_n 0, 1) := by decide +kernel
theorem dX0_setShort_1 : decode cX0_setShort 1 = .ok (.iload_n 1, 1) := by decide +kernel
theorem dX0_setShort_2 : decode cX0_setShort 2 = .ok (.invokevirtual 36, 3) := by decide +kernel
theorem dX0_setShort_5 : decode cX0_setShort 5 = .ok (.ifCond .eq 10, 3) := by decide +kernel
theorem dX0_setShort_8 : decode cX0_setShort 8 = .ok (.aload_n 0, 1) := by decide +kernel
theorem dX0_setShort_9 : decode cX0_setShort 9 = .ok (.getfield 19, 3) := by decide +kernel
theorem dX0_setShort_12 : decode cX0_setShort 12 = .ok (.iload_n 1, 1) := by decide +kernel
theorem dX0_setShort_13 : decode cX0_setShort 13 = .ok (.iload_n 2, 1) := by decide +kernel
theorem dX0_setShort_14 : decode cX0_setShort 14 = .ok (.iastore, 1) := by decide +kernel
theorem dX0_setShort_15 : decode cX0_setShort 15 = .ok (.return_, 1) := by decide +kernel
theorem dX0_opened_0 : decode cX0_opened 0 = .ok (.iload_n 1, 1) := by decide +kernel
theorem dX0_opened_1 : decode cX0_opened 1 = .ok (.istore_n 2, 1) := by decide +kernel
theorem dX0_opened_2 : decode cX0_opened 2 = .ok (.iconst 0, 1) := by decide +kernel
theorem dX0_opened_3 : decode cX0_opened 3 = .ok (.istore_n 3, 1) := by decide +kernel
theorem dX0_opened_4 : decode cX0_opened 4 = .ok (.iload_n 3, 1) := by decide +kernel
theorem dX0_opened_5 : decode cX0_opened 5 = .ok (.bipush 60, 2) := by decide +kernel
theorem dX0_opened_7 : decode cX0_opened 7 = .ok (.if_icmp .ge 24, 3) := by decide +kernel
theorem dX0_opened_10 : decode cX0_opened 10 = .ok (.aload_n 0, 1) := by decide +kernel
theorem dX0_opened_11 : decode cX0_opened 11 = .ok (.iload_n 2, 1) := by decide +kernel
theorem dX0_opened_12 : decode cX0_opened 12 = .ok (.invokevirtual 49, 3) := by decide +kernel
theorem dX0_opened_15 : decode cX0_opened 15 = .ok (.iconst (-1), 1) := by decide +kernel
theorem dX0_opened_16 : decode cX0_opened 16 = .ok (.if_icmp .eq 15, 3) := by decide +kernel
theorem dX0_opened_19 : decode cX0_opened 19 = .ok (.aload_n 0, 1) := by decide +kernel
theorem dX0_opened_20 : decode cX0_opened 20 = .ok (.iload_n 2, 1) := by decide +kernel
theorem dX0_opened_21 : decode cX0_opened 21 = .ok (.invokevirtual 49, 3) := by decide +kernel
theorem dX0_opened_24 : decode cX0_opened 24 = .ok (.istore_n 2, 1) := by decide +kernel
theorem dX0_opened_25 : decode cX0_opened 25 = .ok (.iinc 3 1, 3) := by decide +kernel
theorem dX0_opened_28 : decode cX0_opened 28 = .ok (.goto (-24), 3) := by decide +kernel
theorem dX0_opened_31 : decode cX0_opened 31 = .ok (.iload_n 2, 1) := by decide +kernel
theorem dX0_opened_32 : decode cX0_opened 32 = .ok (.ireturn, 1) := by decide +kernel
theorem dX0_join_0 : decode cX0_join 0 = .ok (.aload_n 0, 1) := by decide +kernel
theorem dX0_join_1 : decode cX0_join 1 = .ok (.iload_n 1, 1) := by decide +kernel
theorem dX0_join_2 : decode cX0_join 2 = .ok (.invokevirtual 36, 3) := by decide +kernel
theorem dX0_join_5 : decode cX0_join 5 = .ok (.ifCond .eq 11, 3) := by decide +kernel
theorem dX0_join_8 : decode cX0_join 8 = .ok (.aload_n 0, 1) := by decide +kernel
theorem dX0_join_9 : decode cX0_join 9 = .ok (.iload_n 2, 1) := by decide +kernel
theorem dX0_join_10 : decode cX0_join 10 = .ok (.invokevirtual 36, 3) := by decide +kernel
theorem dX0_join_13 : decode cX0_join 13 = .ok (.ifCond .ne 4, 3) := by decide +kernel
theorem dX0_join_16 : decode cX0_join 16 = .ok (.return_, 1) := by decide +kernel
theorem dX0_join_17 : decode cX0_join 17 = .ok (.aload_n 0, 1) := by decide +kernel
theorem dX0_join_18 : decode cX0_join 18 = .ok (.getfield 22, 3) := by decide +kernel
theorem dX0_join_21 : decode cX0_join 21 = .ok (.iload_n 1, 1) := by decide +kernel
theorem dX0_join_22 : decode cX0_join 22 = .ok (.iaload, 1) := by decide +kernel
theorem dX0_join_23 : decode cX0_join 23 = .ok (.istore_n 3, 1) := by decide +kernel
theorem dX0_join_24 : decode cX0_join 24 = .ok (.aload_n 0, 1) := by decide +kernel
theorem dX0_join_25 : decode cX0_join 25 = .ok (.getfield 22, 3) := by decide +kernel
theorem dX0_join_28 : decode cX0_join 28 = .ok (.iload_n 2, 1) := by decide +kernel
theorem dX0_join_29 : decode cX0_join 29 = .ok (.iaload, 1) := by decide +kernel
theorem dX0_join_30 : decode cX0_join 30 = .ok (.istore 4, 2) := by decide +kernel
theorem dX0_join_32 : decode cX0_join 32 = .ok (.iconst 0, 1) := by decide +kernel
theorem dX0_join_33 : decode cX0_join 33 = .ok (.istore 5, 2) := by decide +kernel
theorem dX0_join_35 : decode cX0_join 35 = .ok (.iload 5, 2) := by decide +kernel
theorem dX0_join_37 : decode cX0_join 37 = .ok (.aload_n 0, 1) := by decide +kernel
theorem dX0_join_38 : decode cX0_join 38 = .ok (.getfield 28, 3) := by decide +kernel
theorem dX0_join_41 : decode cX0_join 41 = .ok (.if_icmp .ge 29, 3) := by decide +kernel
theorem dX0_join_44 : decode cX0_join 44 = .ok (.aload_n 0, 1) := by decide +kernel
theorem dX0_join_45 : decode cX0_join 45 = .ok (.getfield 22, 3) := by decide +kernel
theorem dX0_join_48 : decode cX0_join 48 = .ok (.iload 5, 2) := by decide +kernel
theorem dX0_join_50 : decode cX0_join 50 = .ok (.iaload, 1) := by decide +kernel
theorem dX0_join_51 : decode cX0_join 51 = .ok (.iload 4, 2) := by decide +kernel
theorem dX0_join_53 : decode cX0_join 53 = .ok (.if_icmp .ne 11, 3) := by decide +kernel
theorem dX0_join_56 : decode cX0_join 56 = .ok (.aload_n 0, 1) := by decide +kernel
theorem dX0_join_57 : decode cX0_join 57 = .ok (.getfield 22, 3) := by decide +kernel
theorem dX0_join_60 : decode cX0_join 60 = .ok (.iload 5, 2) := by decide +kernel
theorem dX0_join_62 : decode cX0_join 62 = .ok (.iload_n 3, 1) := by decide +kernel
theorem dX0_join_63 : decode cX0_join 63 = .ok (.iastore, 1) := by decide +kernel
theorem dX0_join_64 : decode cX0_join 64 = .ok (.iinc 5 1, 3) := by decide +kernel
theorem dX0_join_67 : decode cX0_join 67 = .ok (.goto (-32), 3) := by decide +kernel
theorem dX0_join_70 : decode cX0_join 70 = .ok (.return_, 1) := by decide +kernel
theorem dX0_groupSize_0 : decode cX0_groupSize 0 = .ok (.iconst 0, 1) := by decide +kernel
theorem dX0_groupSize_1 : decode cX0_groupSize 1 = .ok (.istore_n 2, 1) := by decide +kernel
theorem dX0_groupSize_2 : decode cX0_groupSize 2 = .ok (.iconst 0, 1) := by decide +kernel
theorem dX0_groupSize_3 : decode cX0_groupSize 3 = .ok (.istore_n 3, 1) := by decide +kernel
theorem dX0_groupSize_4 : decode cX0_groupSize 4 = .ok (.iload_n 3, 1) := by decide +kernel
theorem dX0_groupSize_5 : decode cX0_groupSize 5 = .ok (.aload_n 0, 1) := by decide +kernel
theorem dX0_groupSize_6 : decode cX0_groupSize 6 = .ok (.getfield 28, 3) := by decide +kernel
theorem dX0_groupSize_9 : decode cX0_groupSize 9 = .ok (.if_icmp .ge 35, 3) := by decide +kernel
theorem dX0_groupSize_12 : decode cX0_groupSize 12 = .ok (.aload_n 0, 1) := by decide +kernel
theorem dX0_groupSize_13 : decode cX0_groupSize 13 = .ok (.iload_n 1, 1) := by decide +kernel
theorem dX0_groupSize_14 : decode cX0_groupSize 14 = .ok (.invokevirtual 36, 3) := by decide +kernel
theorem dX0_groupSize_17 : decode cX0_groupSize 17 = .ok (.ifCond .eq 21, 3) := by decide +kernel
theorem dX0_groupSize_20 : decode cX0_groupSize 20 = .ok (.aload_n 0, 1) := by decide +kernel
theorem dX0_groupSize_21 : decode cX0_groupSize 21 = .ok (.getfield 22, 3) := by decide +kernel
theorem dX0_groupSize_24 : decode cX0_groupSize 24 = .ok (.iload_n 3, 1) := by decide +kernel
theorem dX0_groupSize_25 : decode cX0_groupSize 25 = .ok (.iaload, 1) := by decide +kernel
theorem dX0_groupSize_26 : decode cX0_groupSize 26 = .ok (.aload_n 0, 1) := by decide +kernel
theorem dX0_groupSize_27 : decode cX0_groupSize 27 = .ok (.getfield 22, 3) := by decide +kernel
theorem dX0_groupSize_30 : decode cX0_groupSize 30 = .ok (.iload_n 1, 1) := by decide +kernel
theorem dX0_groupSize_31 : decode cX0_groupSize 31 = .ok (.iaload, 1) := by decide +kernel
theorem dX0_groupSize_32 : decode cX0_groupSize 32 = .ok (.if_icmp .ne 6, 3) := by decide +kernel
theorem dX0_groupSize_35 : decode cX0_groupSize 35 = .ok (.iinc 2 1, 3) := by decide +kernel
theorem dX0_groupSize_38 : decode cX0_groupSize 38 = .ok (.iinc 3 1, 3) := by decide +kernel
theorem dX0_groupSize_41 : decode cX0_groupSize 41 = .ok (.goto (-37), 3) := by decide +kernel
theorem dX0_groupSize_44 : decode cX0_groupSize 44 = .ok (.iload_n 2, 1) := by decide +kernel
theorem dX0_groupSize_45 : decode cX0_groupSize 45 = .ok (.ireturn, 1) := by decide +kernel
theorem dX0_clearUsed_0 : decode cX0_clearUsed 0 = .ok (.iconst 0, 1) := by decide +kernel
theorem dX0_clearUsed_1 : decode cX0_clearUsed 1 = .ok (.istore_n 1, 1) := by decide +kernel
theorem dX0_clearUsed_2 : decode cX0_clearUsed 2 = .ok (.iload_n 1, 1) := by decide +kernel
theorem dX0_clearUsed_3 : decode cX0_clearUsed 3 = .ok (.aload_n 0, 1) := by decide +kernel
theorem dX0_clearUsed_4 : decode cX0_clearUsed 4 = .ok (.getfield 28, 3) := by decide +kernel
theorem dX0_clearUsed_7 : decode cX0_clearUsed 7 = .ok (.if_icmp .ge 16, 3) := by decide +kernel
theorem dX0_clearUsed_10 : decode cX0_clearUsed 10 = .ok (.aload_n 0, 1) := by decide +kernel
theorem dX0_clearUsed_11 : decode cX0_clearUsed 11 = .ok (.getfield 25, 3) := by decide +kernel
theorem dX0_clearUsed_14 : decode cX0_clearUsed 14 = .ok (.iload_n 1, 1) := by decide +kernel
theorem dX0_clearUsed_15 : decode cX0_clearUsed 15 = .ok (.iconst 0, 1) := by decide +kernel
theorem dX0_clearUsed_16 : decode cX0_clearUsed 16 = .ok (.iastore, 1) := by decide +kernel
theorem dX0_clearUsed_17 : decode cX0_clearUsed 17 = .ok (.iinc 1 1, 3) := by decide +kernel
theorem dX0_clearUsed_20 : decode cX0_clearUsed 20 = .ok (.goto (-18), 3) := by decide +kernel
theorem dX0_clearUsed_23 : decode cX0_clearUsed 23 = .ok (.return_, 1) := by decide +kernel
theorem dX0_addUsed_0 : decode cX0_addUsed 0 = .ok (.aload_n 0, 1) := by decide +kernel
theorem dX0_addUsed_1 : decode cX0_addUsed 1 = .ok (.iload_n 1, 1) := by decide +kernel
theorem dX0_addUsed_2 : decode cX0_addUsed 2 = .ok (.invokevirtual 36, 3) := by decide +kernel
theorem dX0_addUsed_5 : decode cX0_addUsed 5 = .ok (.ifCond .eq 13, 3) := by decide +kernel
theorem dX0_addUsed_8 : decode cX0_addUsed 8 = .ok (.aload_n 0, 1) := by decide +kernel
theorem dX0_addUsed_9 : decode cX0_addUsed 9 = .ok (.getfield 25, 3) := by decide +kernel
theorem dX0_addUsed_12 : decode cX0_addUsed 12 = .ok (.iload_n 1, 1) := by decide +kernel
theorem dX0_addUsed_13 : decode cX0_addUsed 13 = .ok (.dup2, 1) := by decide +kernel
theorem dX0_addUsed_14 : decode cX0_addUsed 14 = .ok (.iaload, 1) := by decide +kernel
theorem dX0_addUsed_15 : decode cX0_addUsed 15 = .ok (.iconst 1, 1) := by decide +kernel
theorem dX0_addUsed_16 : decode cX0_addUsed 16 = .ok (.iadd, 1) := by decide +kernel
theorem dX0_addUsed_17 : decode cX0_addUsed 17 = .ok (.iastore, 1) := by decide +kernel
theorem dX0_addUsed_18 : decode cX0_addUsed 18 = .ok (.return_, 1) := by decide +kernel
theorem dX0_usedOf_0 : decode cX0_usedOf 0 = .ok (.aload_n 0, 1) := by decide +kernel
theorem dX0_usedOf_1 : decode cX0_usedOf 1 = .ok (.iload_n 1, 1) := by decide +kernel
theorem dX0_usedOf_2 : decode cX0_usedOf 2 = .ok (.invokevirtual 36, 3) := by decide +kernel
theorem dX0_usedOf_5 : decode cX0_usedOf 5 = .ok (.ifCond .eq 12, 3) := by decide +kernel
theorem dX0_usedOf_8 : decode cX0_usedOf 8 = .ok (.aload_n 0, 1) := by decide +kernel
theorem dX0_usedOf_9 : decode cX0_usedOf 9 = .ok (.getfield 25, 3) := by decide +kernel
theorem dX0_usedOf_12 : decode cX0_usedOf 12 = .ok (.iload_n 1, 1) := by decide +kernel
theorem dX0_usedOf_13 : decode cX0_usedOf 13 = .ok (.iaload, 1) := by decide +kernel
theorem dX0_usedOf_14 : decode cX0_usedOf 14 = .ok (.goto 4, 3) := by decide +kernel
theorem dX0_usedOf_17 : decode cX0_usedOf 17 = .ok (.iconst 0, 1) := by decide +kernel
theorem dX0_usedOf_18 : decode cX0_usedOf 18 = .ok (.ireturn, 1) := by decide +kernel
theorem dX0_headOf_0 : decode cX0_headOf 0 = .ok (.bipush (-2), 2) := by decide +kernel
theorem dX0_headOf_2 : decode cX0_headOf 2 = .ok (.istore_n 2, 1) := by decide +kernel
theorem dX0_headOf_3 : decode cX0_headOf 3 = .ok (.iconst 0, 1) := by decide +kernel
theorem dX0_headOf_4 : decode cX0_headOf 4 = .ok (.istore_n 3, 1) := by decide +kernel
theorem dX0_headOf_5 : decode cX0_headOf 5 = .ok (.iload_n 3, 1) := by decide +kernel
theorem dX0_headOf_6 : decode cX0_headOf 6 = .ok (.aload_n 0, 1) := by decide +kernel
theorem dX0_headOf_7 : decode cX0_headOf 7 = .ok (.getfield 28, 3) := by decide +kernel
theorem dX0_headOf_10 : decode cX0_headOf 10 = .ok (.if_icmp .ge 54, 3) := by decide +kernel
theorem dX0_headOf_13 : decode cX0_headOf 13 = .ok (.aload_n 0, 1) := by decide +kernel
theorem dX0_headOf_14 : decode cX0_headOf 14 = .ok (.iload_n 1, 1) := by decide +kernel
theorem dX0_headOf_15 : decode cX0_headOf 15 = .ok (.invokevirtual 36, 3) := by decide +kernel
theorem dX0_headOf_18 : decode cX0_headOf 18 = .ok (.ifCond .eq 40, 3) := by decide +kernel
theorem dX0_headOf_21 : decode cX0_headOf 21 = .ok (.aload_n 0, 1) := by decide +kernel
theorem dX0_headOf_22 : decode cX0_headOf 22 = .ok (.getfield 22, 3) := by decide +kernel
theorem dX0_headOf_25 : decode cX0_headOf 25 = .ok (.iload_n 3, 1) := by decide +kernel
theorem dX0_headOf_26 : decode cX0_headOf 26 = .ok (.iaload, 1) := by decide +kernel
theorem dX0_headOf_27 : decode cX0_headOf 27 = .ok (.aload_n 0, 1) := by decide +kernel
theorem dX0_headOf_28 : decode cX0_headOf 28 = .ok (.getfield 22, 3) := by decide +kernel
theorem dX0_headOf_31 : decode cX0_headOf 31 = .ok (.iload_n 1, 1) := by decide +kernel
theorem dX0_headOf_32 : decode cX0_headOf 32 = .ok (.iaload, 1) := by decide +kernel
theorem dX0_headOf_33 : decode cX0_headOf 33 = .ok (.if_icmp .ne 25, 3) := by decide +kernel
theorem dX0_headOf_36 : decode cX0_headOf 36 = .ok (.iload_n 2, 1) := by decide +kernel
theorem dX0_headOf_37 : decode cX0_headOf 37 = .ok (.bipush (-2), 2) := by decide +kernel
theorem dX0_headOf_39 : decode cX0_headOf 39 = .ok (.if_icmp .eq 17, 3) := by decide +kernel
theorem dX0_headOf_42 : decode cX0_headOf 42 = .ok (.aload_n 0, 1) := by decide +kernel
theorem dX0_headOf_43 : decode cX0_headOf 43 = .ok (.getfield 25, 3) := by decide +kernel
theorem dX0_headOf_46 : decode cX0_headOf 46 = .ok (.iload_n 3, 1) := by decide +kernel
theorem dX0_headOf_47 : decode cX0_headOf 47 = .ok (.iaload, 1) := by decide +kernel
theorem dX0_headOf_48 : decode cX0_headOf 48 = .ok (.aload_n 0, 1) := by decide +kernel
theorem dX0_headOf_49 : decode cX0_headOf 49 = .ok (.iload_n 2, 1) := by decide +kernel
theorem dX0_headOf_50 : decode cX0_headOf 50 = .ok (.invokevirtual 52, 3) := by decide +kernel
theorem dX0_headOf_53 : decode cX0_headOf 53 = .ok (.if_icmp .le 5, 3) := by decide +kernel
theorem dX0_headOf_56 : decode cX0_headOf 56 = .ok (.iload_n 3, 1) := by decide +kernel
theorem dX0_headOf_57 : decode cX0_headOf 57 = .ok (.istore_n 2, 1) := by decide +kernel
theorem dX0_headOf_58 : decode cX0_headOf 58 = .ok (.iinc 3 1, 3) := by decide +kernel
theorem dX0_headOf_61 : decode cX0_headOf 61 = .ok (.goto (-56), 3) := by decide +kernel
theorem dX0_headOf_64 : decode cX0_headOf 64 = .ok (.iload_n 2, 1) := by decide +kernel
theorem dX0_headOf_65 : decode cX0_headOf 65 = .ok (.ireturn, 1) := by decide +kernel
theorem dX0_mixedGroups_0 : decode cX0_mixedGroups 0 = .ok (.iconst 0, 1) := by decide +kernel
theorem dX0_mixedGroups_1 : decode cX0_mixedGroups 1 = .ok (.istore_n 1, 1) := by decide +kernel
theorem dX0_mixedGroups_2 : decode cX0_mixedGroups 2 = .ok (.iconst 0, 1) := by decide +kernel
theorem dX0_mixedGroups_3 : decode cX0_mixedGroups 3 = .ok (.istore_n 2, 1) := by decide +kernel
theorem dX0_mixedGroups_4 : decode cX0_mixedGroups 4 = .ok (.iload_n 2, 1) := by decide +kernel
theorem dX0_mixedGroups_5 : decode cX0_mixedGroups 5 = .ok (.aload_n 0, 1) := by decide +kernel
theorem dX0_mixedGroups_6 : decode cX0_mixedGroups 6 = .ok (.getfield 28, 3) := by decide +kernel
theorem dX0_mixedGroups_9 : decode cX0_mixedGroups 9 = .ok (.if_icmp .ge 61, 3) := by decide +kernel
theorem dX0_mixedGroups_12 : decode cX0_mixedGroups 12 = .ok (.iconst 0, 1) := by decide +kernel
theorem dX0_mixedGroups_13 : decode cX0_mixedGroups 13 = .ok (.istore_n 3, 1) := by decide +kernel
theorem dX0_mixedGroups_14 : decode cX0_mixedGroups 14 = .ok (.iconst 0, 1) := by decide +kernel
theorem dX0_mixedGroups_15 : decode cX0_mixedGroups 15 = .ok (.istore 4, 2) := by decide +kernel
theorem dX0_mixedGroups_17 : decode cX0_mixedGroups 17 = .ok (.iload 4, 2) := by decide +kernel
theorem dX0_mixedGroups_19 : decode cX0_mixedGroups 19 = .ok (.aload_n 0, 1) := by decide +kernel
theorem dX0_mixedGroups_20 : decode cX0_mixedGroups 20 = .ok (.getfield 28, 3) := by decide +kernel
theorem dX0_mixedGroups_23 : decode cX0_mixedGroups 23 = .ok (.if_icmp .ge 33, 3) := by decide +kernel
theorem dX0_mixedGroups_26 : decode cX0_mixedGroups 26 = .ok (.aload_n 0, 1) := by decide +kernel
theorem dX0_mixedGroups_27 : decode cX0_mixedGroups 27 = .ok (.getfield 22, 3) := by decide +kernel
theorem dX0_mixedGroups_30 : decode cX0_mixedGroups 30 = .ok (.iload 4, 2) := by decide +kernel
theorem dX0_mixedGroups_32 : decode cX0_mixedGroups 32 = .ok (.iaload, 1) := by decide +kernel
theorem dX0_mixedGroups_33 : decode cX0_mixedGroups 33 = .ok (.iload_n 2, 1) := by decide +kernel
theorem dX0_mixedGroups_34 : decode cX0_mixedGroups 34 = .ok (.if_icmp .ne 16, 3) := by decide +kernel
theorem dX0_mixedGroups_37 : decode cX0_mixedGroups 37 = .ok (.aload_n 0, 1) := by decide +kernel
theorem dX0_mixedGroups_38 : decode cX0_mixedGroups 38 = .ok (.getfield 25, 3) := by decide +kernel
theorem dX0_mixedGroups_41 : decode cX0_mixedGroups 41 = .ok (.iload 4, 2) := by decide +kernel
theorem dX0_mixedGroups_43 : decode cX0_mixedGroups 43 = .ok (.iaload, 1) := by decide +kernel
theorem dX0_mixedGroups_44 : decode cX0_mixedGroups 44 = .ok (.ifCond .le 6, 3) := by decide +kernel
theorem dX0_mixedGroups_47 : decode cX0_mixedGroups 47 = .ok (.iinc 3 1, 3) := by decide +kernel
theorem dX0_mixedGroups_50 : decode cX0_mixedGroups 50 = .ok (.iinc 4 1, 3) := by decide +kernel
theorem dX0_mixedGroups_53 : decode cX0_mixedGroups 53 = .ok (.goto (-36), 3) := by decide +kernel
theorem dX0_mixedGroups_56 : decode cX0_mixedGroups 56 = .ok (.iload_n 3, 1) := by decide +kernel
theorem dX0_mixedGroups_57 : decode cX0_mixedGroups 57 = .ok (.iconst 1, 1) := by decide +kernel
theorem dX0_mixedGroups_58 : decode cX0_mixedGroups 58 = .ok (.if_icmp .le 6, 3) := by decide +kernel
theorem dX0_mixedGroups_61 : decode cX0_mixedGroups 61 = .ok (.iinc 1 1, 3) := by decide +kernel
theorem dX0_mixedGroups_64 : decode cX0_mixedGroups 64 = .ok (.iinc 2 1, 3) := by decide +kernel
theorem dX0_mixedGroups_67 : decode cX0_mixedGroups 67 = .ok (.goto (-63), 3) := by decide +kernel
theorem dX0_mixedGroups_70 : decode cX0_mixedGroups 70 = .ok (.iload_n 1, 1) := by decide +kernel
theorem dX0_mixedGroups_71 : decode cX0_mixedGroups 71 = .ok (.ireturn, 1) := by decide +kernel
theorem dX1_init_0 : decode cX1_init 0 = .ok (.aload_n 0, 1) := by decide +kernel
theorem dX1_init_1 : decode cX1_init 1 = .ok (.invokespecial 3, 3) := by decide +kernel
theorem dX1_init_4 : decode cX1_init 4 = .ok (.aload_n 0, 1) := by decide +kernel
theorem dX1_init_5 : decode cX1_init 5 = .ok (.bipush 24, 2) := by decide +kernel
theorem dX1_init_7 : decode cX1_init 7 = .ok (.newarray .int, 2) := by decide +kernel
theorem dX1_init_9 : decode cX1_init 9 = .ok (.putfield 9, 3) := by decide +kernel
theorem dX1_init_12 : decode cX1_init 12 = .ok (.aload_n 0, 1) := by decide +kernel
theorem dX1_init_13 : decode cX1_init 13 = .ok (.bipush 24, 2) := by decide +kernel
theorem dX1_init_15 : decode cX1_init 15 = .ok (.newarray .int, 2) := by decide +kernel
theorem dX1_init_17 : decode cX1_init 17 = .ok (.putfield 15, 3) := by decide +kernel
theorem dX1_init_20 : decode cX1_init 20 = .ok (.aload_n 0, 1) := by decide +kernel
theorem dX1_init_21 : decode cX1_init 21 = .ok (.bipush 24, 2) := by decide +kernel
theorem dX1_init_23 : decode cX1_init 23 = .ok (.newarray .int, 2) := by decide +kernel
theorem dX1_init_25 : decode cX1_init 25 = .ok (.putfield 18, 3) := by decide +kernel
theorem dX1_init_28 : decode cX1_init 28 = .ok (.aload_n 0, 1) := by decide +kernel
theorem dX1_init_29 : decode cX1_init 29 = .ok (.bipush 24, 2) := by decide +kernel
theorem dX1_init_31 : decode cX1_init 31 = .ok (.newarray .long, 2) := by decide +kernel
theorem dX1_init_33 : decode cX1_init 33 = .ok (.putfield 21, 3) := by decide +kernel
theorem dX1_init_36 : decode cX1_init 36 = .ok (.aload_n 0, 1) := by decide +kernel
theorem dX1_init_37 : decode cX1_init 37 = .ok (.iconst 0, 1) := by decide +kernel
theorem dX1_init_38 : decode cX1_init 38 = .ok (.putfield 25, 3) := by decide +kernel
theorem dX1_init_41 : decode cX1_init 41 = .ok (.return_, 1) := by decide +kernel
theorem dX1_size_0 : decode cX1_size 0 = .ok (.aload_n 0, 1) := by decide +kernel
theorem dX1_size_1 : decode cX1_size 1 = .ok (.getfield 25, 3) := by decide +kernel
theorem dX1_size_4 : decode cX1_size 4 = .ok (.ireturn, 1) := by decide +kernel
theorem dX1_has_0 : decode cX1_has 0 = .ok (.iload_n 1, 1) := by decide +kernel
theorem dX1_has_1 : decode cX1_has 1 = .ok (.ifCond .lt 15, 3) := by decide +kernel
theorem dX1_has_4 : decode cX1_has 4 = .ok (.iload_n 1, 1) := by decide +kernel
theorem dX1_has_5 : decode cX1_has 5 = .ok (.aload_n 0, 1) := by decide +kernel
theorem dX1_has_6 : decode cX1_has 6 = .ok (.getfield 25, 3) := by decide +kernel
theorem dX1_has_9 : decode cX1_has 9 = .ok (.if_icmp .ge 7, 3) := by decide +kernel
theorem dX1_has_12 : decode cX1_has 12 = .ok (.iconst 1, 1) := by decide +kernel
theorem dX1_has_13 : decode cX1_has 13 = .ok (.goto 4, 3) := by decide +kernel
theorem dX1_has_16 : decode cX1_has 16 = .ok (.iconst 0, 1) := by decide +kernel
theorem dX1_has_17 : decode cX1_has 17 = .ok (.ireturn, 1) := by decide +kernel
theorem dX1_lengthOf_0 : decode cX1_lengthOf 0 = .ok (.aload_n 0, 1) := by decide +kernel
theorem dX1_lengthOf_1 : decode cX1_lengthOf 1 = .ok (.iload_n 1, 1) := by decide +kernel
theorem dX1_lengthOf_2 : decode cX1_lengthOf 2 = .ok (.invokevirtual 29, 3) := by decide +kernel
theorem dX1_lengthOf_5 : decode cX1_lengthOf 5 = .ok (.ifCond .eq 19, 3) := by decide +kernel
theorem dX1_lengthOf_8 : decode cX1_lengthOf 8 = .ok (.aload_n 0, 1) := by decide +kernel
theorem dX1_lengthOf_9 : decode cX1_lengthOf 9 = .ok (.getfield 18, 3) := by decide +kernel
theorem dX1_lengthOf_12 : decode cX1_lengthOf 12 = .ok (.iload_n 1, 1) := by decide +kernel
theorem dX1_lengthOf_13 : decode cX1_lengthOf 13 = .ok (.iaload, 1) := by decide +kernel
theorem dX1_lengthOf_14 : decode cX1_lengthOf 14 = .ok (.aload_n 0, 1) := by decide +kernel
theorem dX1_lengthOf_15 : decode cX1_lengthOf 15 = .ok (.getfield 15, 3) := by decide +kernel
theorem dX1_lengthOf_18 : decode cX1_lengthOf 18 = .ok (.iload_n 1, 1) := by decide +kernel
theorem dX1_lengthOf_19 : decode cX1_lengthOf 19 = .ok (.iaload, 1) := by decide +kernel
theorem dX1_lengthOf_20 : decode cX1_lengthOf 20 = .ok (.isub, 1) := by decide +kernel
theorem dX1_lengthOf_21 : decode cX1_lengthOf 21 = .ok (.goto 4, 3) := by decide +kernel
theorem dX1_lengthOf_24 : decode cX1_lengthOf 24 = .ok (.iconst 0, 1) := by decide +kernel
theorem dX1_lengthOf_25 : decode cX1_lengthOf 25 = .ok (.ireturn, 1) := by decide +kernel
theorem dX1_at_0 : decode cX1_at 0 = .ok (.iload_n 2, 1) := by decide +kernel
theorem dX1_at_1 : decode cX1_at 1 = .ok (.ifCond .lt 28, 3) := by decide +kernel
theorem dX1_at_4 : decode cX1_at 4 = .ok (.iload_n 2, 1) := by decide +kernel
theorem dX1_at_5 : decode cX1_at 5 = .ok (.aload_n 0, 1) := by decide +kernel
theorem dX1_at_6 : decode cX1_at 6 = .ok (.iload_n 1, 1) := by decide +kernel
theorem dX1_at_7 : decode cX1_at 7 = .ok (.invokevirtual 33, 3) := by decide +kernel
theorem dX1_at_10 : decode cX1_at 10 = .ok (.if_icmp .ge 19, 3) := by decide +kernel
theorem dX1_at_13 : decode cX1_at 13 = .ok (.aload_n 0, 1) := by decide +kernel
theorem dX1_at_14 : decode cX1_at 14 = .ok (.getfield 9, 3) := by decide +kernel
theorem dX1_at_17 : decode cX1_at 17 = .ok (.aload_n 0, 1) := by decide +kernel
theorem dX1_at_18 : decode cX1_at 18 = .ok (.getfield 15, 3) := by decide +kernel
theorem dX1_at_21 : decode cX1_at 21 = .ok (.iload_n 1, 1) := by decide +kernel
theorem dX1_at_22 : decode cX1_at 22 = .ok (.iaload, 1) := by decide +kernel
theorem dX1_at_23 : decode cX1_at 23 = .ok (.iload_n 2, 1) := by decide +kernel
theorem dX1_at_24 : decode cX1_at 24 = .ok (.iadd, 1) := by decide +kernel
theorem dX1_at_25 : decode cX1_at 25 = .ok (.iaload, 1) := by decide +kernel
theorem dX1_at_26 : decode cX1_at 26 = .ok (.goto 4, 3) := by decide +kernel
theorem dX1_at_29 : decode cX1_at 29 = .ok (.iconst 0, 1) := by decide +kernel
theorem dX1_at_30 : decode cX1_at 30 = .ok (.ireturn, 1) := by decide +kernel
theorem dX1_isNumber_0 : decode cX1_isNumber 0 = .ok (.aload_n 0, 1) := by decide +kernel
theorem dX1_isNumber_1 : decode cX1_isNumber 1 = .ok (.iload_n 1, 1) := by decide +kernel
theorem dX1_isNumber_2 : decode cX1_isNumber 2 = .ok (.iconst 0, 1) := by decide +kernel
theorem dX1_isNumber_3 : decode cX1_isNumber 3 = .ok (.invokevirtual 37, 3) := by decide +kernel
theorem dX1_isNumber_6 : decode cX1_isNumber 6 = .ok (.invokestatic 41, 3) := by decide +kernel
theorem dX1_isNumber_9 : decode cX1_isNumber 9 = .ok (.ireturn, 1) := by decide +kernel
theorem dX1_keyOf_0 : decode cX1_keyOf 0 = .ok (.aload_n 0, 1) := by decide +kernel
theorem dX1_keyOf_1 : decode cX1_keyOf 1 = .ok (.iload_n 1, 1) := by decide +kernel
theorem dX1_keyOf_2 : decode cX1_keyOf 2 = .ok (.invokevirtual 29, 3) := by decide +kernel
theorem dX1_keyOf_5 : decode cX1_keyOf 5 = .ok (.ifCond .eq 12, 3) := by decide +kernel
theorem dX1_keyOf_8 : decode cX1_keyOf 8 = .ok (.aload_n 0, 1) := by decide +kernel
theorem dX1_keyOf_9 : decode cX1_keyOf 9 = .ok (.getfield 21, 3) := by decide +kernel
theorem dX1_keyOf_12 : decode cX1_keyOf 12 = .ok (.iload_n 1, 1) := by decide +kernel
theorem dX1_keyOf_13 : decode cX1_keyOf 13 = .ok (.laload, 1) := by decide +kernel
theorem dX1_keyOf_14 : decode cX1_keyOf 14 = .ok (.goto 4, 3) := by decide +kernel
theorem dX1_keyOf_17 : decode cX1_keyOf 17 = .ok (.lconst 0, 1) := by decide +kernel
theorem dX1_keyOf_18 : decode cX1_keyOf 18 = .ok (.lreturn, 1) := by decide +kernel
theorem dX1_split_0 : decode cX1_split 0 = .ok (.aload_n 0, 1) := by decide +kernel
theorem dX1_split_1 : decode cX1_split 1 = .ok (.iconst 0, 1) := by decide +kernel
theorem dX1_split_2 : decode cX1_split 2 = .ok (.putfield 25, 3) := by decide +kernel
theorem dX1_split_5 : decode cX1_split 5 = .ok (.iconst 0, 1) := by decide +kernel
theorem dX1_split_6 : decode cX1_split 6 = .ok (.istore_n 2, 1) := by decide +kernel
theorem dX1_split_7 : decode cX1_split 7 = .ok (.aload_n 1, 1) := by decide +kernel
theorem dX1_split_8 : decode cX1_split 8 = .ok (.invokevirtual 44, 3) := by decide +kernel
theorem dX1_split_11 : decode cX1_split 11 = .ok (.bipush 24, 2) := by decide +kernel
theorem dX1_split_13 : decode cX1_split 13 = .ok (.invokestatic 49, 3) := by decide +kernel
theorem dX1_split_16 : decode cX1_split 16 = .ok (.istore_n 3, 1) := by decide +kernel
theorem dX1_split_17 : decode cX1_split 17 = .ok (.iconst 0, 1) := by decide +kernel
theorem dX1_split_18 : decode cX1_split 18 = .ok (.istore 4, 2) := by decide +kernel
theorem dX1_split_20 : decode cX1_split 20 = .ok (.iload 4, 2) := by decide +kernel
theorem dX1_split_22 : decode cX1_split 22 = .ok (.iload_n 3, 1) := by decide +kernel
theorem dX1_split_23 : decode cX1_split 23 = .ok (.if_icmp .ge 76, 3) := by decide +kernel
theorem dX1_split_26 : decode cX1_split 26 = .ok (.aload_n 0, 1) := by decide +kernel
theorem dX1_split_27 : decode cX1_split 27 = .ok (.getfield 9, 3) := by decide +kernel
theorem dX1_split_30 : decode cX1_split 30 = .ok (.iload 4, 2) := by decide +kernel
theorem dX1_split_32 : decode cX1_split 32 = .ok (.aload_n 1, 1) := by decide +kernel
theorem dX1_split_33 : decode cX1_split 33 = .ok (.iload 4, 2) := by decide +kernel
theorem dX1_split_35 : decode cX1_split 35 = .ok (.invokevirtual 54, 3) := by decide +kernel
theorem dX1_split_38 : decode cX1_split 38 = .ok (.invokestatic 56, 3) := by decide +kernel
theorem dX1_split_41 : decode cX1_split 41 = .ok (.iastore, 1) := by decide +kernel
theorem dX1_split_42 : decode cX1_split 42 = .ok (.aload_n 1, 1) := by decide +kernel
theorem dX1_split_43 : decode cX1_split 43 = .ok (.iload 4, 2) := by decide +kernel
theorem dX1_split_45 : decode cX1_split 45 = .ok (.invokevirtual 54, 3) := by decide +kernel
theorem dX1_split_48 : decode cX1_split 48 = .ok (.bipush 95, 2) := by decide +kernel
theorem dX1_split_50 : decode cX1_split 50 = .ok (.if_icmp .ne 18, 3) := by decide +kernel
theorem dX1_split_53 : decode cX1_split 53 = .ok (.aload_n 0, 1) := by decide +kernel
theorem dX1_split_54 : decode cX1_split 54 = .ok (.iload_n 2, 1) := by decide +kernel
theorem dX1_split_55 : decode cX1_split 55 = .ok (.iload 4, 2) := by decide +kernel
theorem dX1_split_57 : decode cX1_split 57 = .ok (.invokevirtual 59, 3) := by decide +kernel
theorem dX1_split_60 : decode cX1_split 60 = .ok (.iload 4, 2) := by decide +kernel
theorem dX1_split_62 : decode cX1_split 62 = .ok (.iconst 1, 1) := by decide +kernel
theorem dX1_split_63 : decode cX1_split 63 = .ok (.iadd, 1) := by decide +kernel
theorem dX1_split_64 : decode cX1_split 64 = .ok (.istore_n 2, 1) := by decide +kernel
theorem dX1_split_65 : decode cX1_split 65 = .ok (.goto 28, 3) := by decide +kernel
theorem dX1_split_68 : decode cX1_split 68 = .ok (.iload 4, 2) := by decide +kernel
theorem dX1_split_70 : decode cX1_split 70 = .ok (.iload_n 2, 1) := by decide +kernel
theorem dX1_split_71 : decode cX1_split 71 = .ok (.if_icmp .le 22, 3) := by decide +kernel
theorem dX1_split_74 : decode cX1_split 74 = .ok (.aload_n 1, 1) := by decide +kernel
theorem dX1_split_75 : decode cX1_split 75 = .ok (.iload 4, 2) := by decide +kernel
theorem dX1_split_77 : decode cX1_split 77 = .ok (.invokestatic 63, 3) := by decide +kernel
theorem dX1_split_80 : decode cX1_split 80 = .ok (.ifCond .eq 13, 3) := by decide +kernel
theorem dX1_split_83 : decode cX1_split 83 = .ok (.aload_n 0, 1) := by decide +kernel
theorem dX1_split_84 : decode cX1_split 84 = .ok (.iload_n 2, 1) := by decide +kernel
theorem dX1_split_85 : decode cX1_split 85 = .ok (.iload 4, 2) := by decide +kernel
theorem dX1_split_87 : decode cX1_split 87 = .ok (.invokevirtual 59, 3) := by decide +kernel
theorem dX1_split_90 : decode cX1_split 90 = .ok (.iload 4, 2) := by decide +kernel
theorem dX1_split_92 : decode cX1_split 92 = .ok (.istore_n 2, 1) := by decide +kernel
theorem dX1_split_93 : decode cX1_split 93 = .ok (.iinc 4 1, 3) := by decide +kernel
theorem dX1_split_96 : decode cX1_split 96 = .ok (.goto (-76), 3) := by decide +kernel
theorem dX1_split_99 : decode cX1_split 99 = .ok (.aload_n 0, 1) := by decide +kernel
theorem dX1_split_100 : decode cX1_split 100 = .ok (.iload_n 2, 1) := by decide +kernel
theorem dX1_split_101 : decode cX1_split 101 = .ok (.iload_n 3, 1) := by decide +kernel
theorem dX1_split_102 : decode cX1_split 102 = .ok (.invokevirtual 59, 3) := by decide +kernel
theorem dX1_split_105 : decode cX1_split 105 = .ok (.return_, 1) := by decide +kernel
theorem dX1_add_0 : decode cX1_add 0 = .ok (.iload_n 1, 1) := by decide +kernel
theorem dX1_add_1 : decode cX1_add 1 = .ok (.ifCond .lt 68, 3) := by decide +kernel
theorem dX1_add_4 : decode cX1_add 4 = .ok (.iload_n 1, 1) := by decide +kernel
theorem dX1_add_5 : decode cX1_add 5 = .ok (.iload_n 2, 1) := by decide +kernel
theorem dX1_add_6 : decode cX1_add 6 = .ok (.if_icmp .ge 63, 3) := by decide +kernel
theorem dX1_add_9 : decode cX1_add 9 = .ok (.iload_n 2, 1) := by decide +kernel
theorem dX1_add_10 : decode cX1_add 10 = .ok (.bipush 24, 2) := by decide +kernel
theorem dX1_add_12 : decode cX1_add 12 = .ok (.if_icmp .gt 57, 3) := by decide +kernel
theorem dX1_add_15 : decode cX1_add 15 = .ok (.aload_n 0, 1) := by decide +kernel
theorem dX1_add_16 : decode cX1_add 16 = .ok (.getfield 25, 3) := by decide +kernel
theorem dX1_add_19 : decode cX1_add 19 = .ok (.bipush 24, 2) := by decide +kernel
theorem dX1_add_21 : decode cX1_add 21 = .ok (.if_icmp .ge 48, 3) := by decide +kernel
theorem dX1_add_24 : decode cX1_add 24 = .ok (.aload_n 0, 1) := by decide +kernel
theorem dX1_add_25 : decode cX1_add 25 = .ok (.getfield 15, 3) := by decide +kernel
theorem dX1_add_28 : decode cX1_add 28 = .ok (.aload_n 0, 1) := by decide +kernel
theorem dX1_add_29 : decode cX1_add 29 = .ok (.getfield 25, 3) := by decide +kernel
theorem dX1_add_32 : decode cX1_add 32 = .ok (.iload_n 1, 1) := by decide +kernel
theorem dX1_add_33 : decode cX1_add 33 = .ok (.iastore, 1) := by decide +kernel
theorem dX1_add_34 : decode cX1_add 34 = .ok (.aload_n 0, 1) := by decide +kernel
theorem dX1_add_35 : decode cX1_add 35 = .ok (.getfield 18, 3) := by decide +kernel
theorem dX1_add_38 : decode cX1_add 38 = .ok (.aload_n 0, 1) := by decide +kernel
theorem dX1_add_39 : decode cX1_add 39 = .ok (.getfield 25, 3) := by decide +kernel
theorem dX1_add_42 : decode cX1_add 42 = .ok (.iload_n 2, 1) := by decide +kernel
theorem dX1_add_43 : decode cX1_add 43 = .ok (.iastore, 1) := by decide +kernel
theorem dX1_add_44 : decode cX1_add 44 = .ok (.aload_n 0, 1) := by decide +kernel
theorem dX1_add_45 : decode cX1_add 45 = .ok (.getfield 21, 3) := by decide +kernel
theorem dX1_add_48 : decode cX1_add 48 = .ok (.aload_n 0, 1) := by decide +kernel
theorem dX1_add_49 : decode cX1_add 49 = .ok (.getfield 25, 3) := by decide +kernel
theorem dX1_add_52 : decode cX1_add 52 = .ok (.aload_n 0, 1) := by decide +kernel
theorem dX1_add_53 : decode cX1_add 53 = .ok (.iload_n 1, 1) := by decide +kernel
theorem dX1_add_54 : decode cX1_add 54 = .ok (.iload_n 2, 1) := by decide +kernel
theorem dX1_add_55 : decode cX1_add 55 = .ok (.invokevirtual 67, 3) := by decide +kernel
theorem dX1_add_58 : decode cX1_add 58 = .ok (.lastore, 1) := by decide +kernel
theorem dX1_add_59 : decode cX1_add 59 = .ok (.aload_n 0, 1) := by decide +kernel
theorem dX1_add_60 : decode cX1_add 60 = .ok (.dup, 1) := by decide +kernel
theorem dX1_add_61 : decode cX1_add 61 = .ok (.getfield 25, 3) := by decide +kernel
theorem dX1_add_64 : decode cX1_add 64 = .ok (.iconst 1, 1) := by decide +kernel
theorem dX1_add_65 : decode cX1_add 65 = .ok (.iadd, 1) := by decide +kernel
theorem dX1_add_66 : decode cX1_add 66 = .ok (.putfield 25, 3) := by decide +kernel
theorem dX1_add_69 : decode cX1_add 69 = .ok (.return_, 1) := by decide +kernel
theorem dX1_keyBetween_0 : decode cX1_keyBetween 0 = .ok (.iload_n 2, 1) := by decide +kernel
theorem dX1_keyBetween_1 : decode cX1_keyBetween 1 = .ok (.iload_n 1, 1) := by decide +kernel
theorem dX1_keyBetween_2 : decode cX1_keyBetween 2 = .ok (.isub, 1) := by decide +kernel
theorem dX1_keyBetween_3 : decode cX1_keyBetween 3 = .ok (.bipush 12, 2) := by decide +kernel
theorem dX1_keyBetween_5 : decode cX1_keyBetween 5 = .ok (.if_icmp .le 5, 3) := by decide +kernel
theorem dX1_keyBetween_8 : decode cX1_keyBetween 8 = .ok (.lconst 0, 1) := by decide +kernel
theorem dX1_keyBetween_9 : decode cX1_keyBetween 9 = .ok (.lreturn, 1) := by decide +kernel
theorem dX1_keyBetween_10 : decode cX1_keyBetween 10 = .ok (.lconst 0, 1) := by decide +kernel
theorem dX1_keyBetween_11 : decode cX1_keyBetween 11 = .ok (.lstore_n 3, 1) := by decide +kernel
theorem dX1_keyBetween_12 : decode cX1_keyBetween 12 = .ok (.iload_n 1, 1) := by decide +kernel
theorem dX1_keyBetween_13 : decode cX1_keyBetween 13 = .ok (.istore 5, 2) := by decide +kernel
theorem dX1_keyBetween_15 : decode cX1_keyBetween 15 = .ok (.iload 5, 2) := by decide +kernel
theorem dX1_keyBetween_17 : decode cX1_keyBetween 17 = .ok (.iload_n 2, 1) := by decide +kernel
theorem dX1_keyBetween_18 : decode cX1_keyBetween 18 = .ok (.if_icmp .ge 44, 3) := by decide +kernel
theorem dX1_keyBetween_21 : decode cX1_keyBetween 21 = .ok (.aload_n 0, 1) := by decide +kernel
theorem dX1_keyBetween_22 : decode cX1_keyBetween 22 = .ok (.getfield 9, 3) := by decide +kernel
theorem dX1_keyBetween_25 : decode cX1_keyBetween 25 = .ok (.iload 5, 2) := by decide +kernel
theorem dX1_keyBetween_27 : decode cX1_keyBetween 27 = .ok (.iaload, 1) := by decide +kernel
theorem dX1_keyBetween_28 : decode cX1_keyBetween 28 = .ok (.invokestatic 71, 3) := by decide +kernel
theorem dX1_keyBetween_31 : decode cX1_keyBetween 31 = .ok (.ifCond .ne 5, 3) := by decide +kernel
theorem dX1_keyBetween_34 : decode cX1_keyBetween 34 = .ok (.lconst 0, 1) := by decide +kernel
theorem dX1_keyBetween_35 : decode cX1_keyBetween 35 = .ok (.lreturn, 1) := by decide +kernel
theorem dX1_keyBetween_36 : decode cX1_keyBetween 36 = .ok (.lload_n 3, 1) := by decide +kernel
theorem dX1_keyBetween_37 : decode cX1_keyBetween 37 = .ok (.ldc2_w 74, 3) := by decide +kernel
theorem dX1_keyBetween_40 : decode cX1_keyBetween 40 = .ok (.lmul, 1) := by decide +kernel
theorem dX1_keyBetween_41 : decode cX1_keyBetween 41 = .ok (.aload_n 0, 1) := by decide +kernel
theorem dX1_keyBetween_42 : decode cX1_keyBetween 42 = .ok (.getfield 9, 3) := by decide +kernel
theorem dX1_keyBetween_45 : decode cX1_keyBetween 45 = .ok (.iload 5, 2) := by decide +kernel
theorem dX1_keyBetween_47 : decode cX1_keyBetween 47 = .ok (.iaload, 1) := by decide +kernel
theorem dX1_keyBetween_48 : decode cX1_keyBetween 48 = .ok (.bipush 97, 2) := by decide +kernel
theorem dX1_keyBetween_50 : decode cX1_keyBetween 50 = .ok (.isub, 1) := by decide +kernel
theorem dX1_keyBetween_51 : decode cX1_keyBetween 51 = .ok (.iconst 1, 1) := by decide +kernel
theorem dX1_keyBetween_52 : decode cX1_keyBetween 52 = .ok (.iadd, 1) := by decide +kernel
theorem dX1_keyBetween_53 : decode cX1_keyBetween 53 = .ok (.i2l, 1) := by decide +kernel
theorem dX1_keyBetween_54 : decode cX1_keyBetween 54 = .ok (.ladd, 1) := by decide +kernel
theorem dX1_keyBetween_55 : decode cX1_keyBetween 55 = .ok (.lstore_n 3, 1) := by decide +kernel
theorem dX1_keyBetween_56 : decode cX1_keyBetween 56 = .ok (.iinc 5 1, 3) := by decide +kernel
theorem dX1_keyBetween_59 : decode cX1_keyBetween 59 = .ok (.goto (-44), 3) := by decide +kernel
theorem dX1_keyBetween_62 : decode cX1_keyBetween 62 = .ok (.lload_n 3, 1) := by decide +kernel
theorem dX1_keyBetween_63 : decode cX1_keyBetween 63 = .ok (.lreturn, 1) := by decide +kernel
theorem dX1_isCutAhead_0 : decode cX1_isCutAhead 0 = .ok (.aload_n 0, 1) := by decide +kernel
theorem dX1_isCutAhead_1 : decode cX1_isCutAhead 1 = .ok (.iload_n 1, 1) := by decide +kernel
theorem dX1_isCutAhead_2 : decode cX1_isCutAhead 2 = .ok (.iconst 1, 1) := by decide +kernel
theorem dX1_isCutAhead_3 : decode cX1_isCutAhead 3 = .ok (.isub, 1) := by decide +kernel
theorem dX1_isCutAhead_4 : decode cX1_isCutAhead 4 = .ok (.invokevirtual 54, 3) := by decide +kernel
theorem dX1_isCutAhead_7 : decode cX1_isCutAhead 7 = .ok (.istore_n 2, 1) := by decide +kernel
theorem dX1_isCutAhead_8 : decode cX1_isCutAhead 8 = .ok (.aload_n 0, 1) := by decide +kernel
theorem dX1_isCutAhead_9 : decode cX1_isCutAhead 9 = .ok (.iload_n 1, 1) := by decide +kernel
theorem dX1_isCutAhead_10 : decode cX1_isCutAhead 10 = .ok (.invokevirtual 54, 3) := by decide +kernel
theorem dX1_isCutAhead_13 : decode cX1_isCutAhead 13 = .ok (.istore_n 3, 1) := by decide +kernel
theorem dX1_isCutAhead_14 : decode cX1_isCutAhead 14 = .ok (.iload_n 2, 1) := by decide +kernel
theorem dX1_isCutAhead_15 : decode cX1_isCutAhead 15 = .ok (.invokestatic 41, 3) := by decide +kernel
theorem dX1_isCutAhead_18 : decode cX1_isCutAhead 18 = .ok (.iload_n 3, 1) := by decide +kernel
theorem dX1_isCutAhead_19 : decode cX1_isCutAhead 19 = .ok (.invokestatic 41, 3) := by decide +kernel
theorem dX1_isCutAhead_22 : decode cX1_isCutAhead 22 = .ok (.if_icmp .eq 5, 3) := by decide +kernel
theorem dX1_isCutAhead_25 : decode cX1_isCutAhead 25 = .ok (.iconst 1, 1) := by decide +kernel
theorem dX1_isCutAhead_26 : decode cX1_isCutAhead 26 = .ok (.ireturn, 1) := by decide +kernel
theorem dX1_isCutAhead_27 : decode cX1_isCutAhead 27 = .ok (.iload_n 3, 1) := by decide +kernel
theorem dX1_isCutAhead_28 : decode cX1_isCutAhead 28 = .ok (.invokestatic 76, 3) := by decide +kernel
theorem dX1_isCutAhead_31 : decode cX1_isCutAhead 31 = .ok (.ifCond .eq 34, 3) := by decide +kernel
theorem dX1_isCutAhead_34 : decode cX1_isCutAhead 34 = .ok (.iload_n 2, 1) := by decide +kernel
theorem dX1_isCutAhead_35 : decode cX1_isCutAhead 35 = .ok (.invokestatic 71, 3) := by decide +kernel
theorem dX1_isCutAhead_38 : decode cX1_isCutAhead 38 = .ok (.ifCond .ne 23, 3) := by decide +kernel
theorem dX1_isCutAhead_41 : decode cX1_isCutAhead 41 = .ok (.iload_n 2, 1) := by decide +kernel
theorem dX1_isCutAhead_42 : decode cX1_isCutAhead 42 = .ok (.invokestatic 76, 3) := by decide +kernel
theorem dX1_isCutAhead_45 : decode cX1_isCutAhead 45 = .ok (.ifCond .eq 20, 3) := by decide +kernel
theorem dX1_isCutAhead_48 : decode cX1_isCutAhead 48 = .ok (.aload_n 0, 1) := by decide +kernel
theorem dX1_isCutAhead_49 : decode cX1_isCutAhead 49 = .ok (.iload_n 1, 1) := by decide +kernel
theorem dX1_isCutAhead_50 : decode cX1_isCutAhead 50 = .ok (.iconst 1, 1) := by decide +kernel
theorem dX1_isCutAhead_51 : decode cX1_isCutAhead 51 = .ok (.iadd, 1) := by decide +kernel
theorem dX1_isCutAhead_52 : decode cX1_isCutAhead 52 = .ok (.invokevirtual 54, 3) := by decide +kernel
theorem dX1_isCutAhead_55 : decode cX1_isCutAhead 55 = .ok (.invokestatic 71, 3) := by decide +kernel
theorem dX1_isCutAhead_58 : decode cX1_isCutAhead 58 = .ok (.ifCond .eq 7, 3) := by decide +kernel
theorem dX1_isCutAhead_61 : decode cX1_isCutAhead 61 = .ok (.iconst 1, 1) := by decide +kernel
theorem dX1_isCutAhead_62 : decode cX1_isCutAhead 62 = .ok (.goto 4, 3) := by decide +kernel
theorem dX1_isCutAhead_65 : decode cX1_isCutAhead 65 = .ok (.iconst 0, 1) := by decide +kernel
theorem dX1_isCutAhead_66 : decode cX1_isCutAhead 66 = .ok (.ireturn, 1) := by decide +kernel
theorem dX2_init_0 : decode cX2_init 0 = .ok (.aload_n 0, 1) := by decide +kernel
theorem dX2_init_1 : decode cX2_init 1 = .ok (.invokespecial 3, 3) := by decide +kernel
theorem dX2_init_4 : decode cX2_init 4 = .ok (.aload_n 0, 1) := by decide +kernel
theorem dX2_init_5 : decode cX2_init 5 = .ok (.bipush 80, 2) := by decide +kernel
theorem dX2_init_7 : decode cX2_init 7 = .ok (.newarray .boolean, 2) := by decide +kernel
theorem dX2_init_9 : decode cX2_init 9 = .ok (.putfield 9, 3) := by decide +kernel
theorem dX2_init_12 : decode cX2_init 12 = .ok (.aload_n 0, 1) := by decide +kernel
theorem dX2_init_13 : decode cX2_init 13 = .ok (.bipush 80, 2) := by decide +kernel
theorem dX2_init_15 : decode cX2_init 15 = .ok (.anewarray 15, 3) := by decide +kernel
theorem dX2_init_18 : decode cX2_init 18 = .ok (.putfield 17, 3) := by decide +kernel
theorem dX2_init_21 : decode cX2_init 21 = .ok (.aload_n 0, 1) := by decide +kernel
theorem dX2_init_22 : decode cX2_init 22 = .ok (.iconst 0, 1) := by decide +kernel
theorem dX2_init_23 : decode cX2_init 23 = .ok (.putfield 21, 3) := by decide +kernel
theorem dX2_init_26 : decode cX2_init 26 = .ok (.iconst 0, 1) := by decide +kernel
theorem dX2_init_27 : decode cX2_init 27 = .ok (.istore_n 1, 1) := by decide +kernel
theorem dX2_init_28 : decode cX2_init 28 = .ok (.iload_n 1, 1) := by decide +kernel
theorem dX2_init_29 : decode cX2_init 29 = .ok (.bipush 80, 2) := by decide +kernel
theorem dX2_init_31 : decode cX2_init 31 = .ok (.if_icmp .ge 24, 3) := by decide +kernel
theorem dX2_init_34 : decode cX2_init 34 = .ok (.aload_n 0, 1) := by decide +kernel
theorem dX2_init_35 : decode cX2_init 35 = .ok (.getfield 17, 3) := by decide +kernel
theorem dX2_init_38 : decode cX2_init 38 = .ok (.iload_n 1, 1) := by decide +kernel
theorem dX2_init_39 : decode cX2_init 39 = .ok (.new 15, 3) := by decide +kernel
theorem dX2_init_42 : decode cX2_init 42 = .ok (.dup, 1) := by decide +kernel
theorem dX2_init_43 : decode cX2_init 43 = .ok (.bipush 24, 2) := by decide +kernel
theorem dX2_init_45 : decode cX2_init 45 = .ok (.invokespecial 25, 3) := by decide +kernel
theorem dX2_init_48 : decode cX2_init 48 = .ok (.aastore, 1) := by decide +kernel
theorem dX2_init_49 : decode cX2_init 49 = .ok (.iinc 1 1, 3) := by decide +kernel
theorem dX2_init_52 : decode cX2_init 52 = .ok (.goto (-24), 3) := by decide +kernel
theorem dX2_init_55 : decode cX2_init 55 = .ok (.return_, 1) := by decide +kernel
theorem dX2_size_0 : decode cX2_size 0 = .ok (.aload_n 0, 1) := by decide +kernel
theorem dX2_size_1 : decode cX2_size 1 = .ok (.getfield 21, 3) := by decide +kernel
theorem dX2_size_4 : decode cX2_size 4 = .ok (.ireturn, 1) := by decide +kernel
theorem dX2_has_0 : decode cX2_has 0 = .ok (.iload_n 1, 1) := by decide +kernel
theorem dX2_has_1 : decode cX2_has 1 = .ok (.ifCond .lt 22, 3) := by decide +kernel
theorem dX2_has_4 : decode cX2_has 4 = .ok (.iload_n 1, 1) := by decide +kernel
theorem dX2_has_5 : decode cX2_has 5 = .ok (.bipush 80, 2) := by decide +kernel
theorem dX2_has_7 : decode cX2_has 7 = .ok (.if_icmp .ge 16, 3) := by decide +kernel
theorem dX2_has_10 : decode cX2_has 10 = .ok (.aload_n 0, 1) := by decide +kernel
theorem dX2_has_11 : decode cX2_has 11 = .ok (.getfield 9, 3) := by decide +kernel
theorem dX2_has_14 : decode cX2_has 14 = .ok (.iload_n 1, 1) := by decide +kernel
theorem dX2_has_15 : decode cX2_has 15 = .ok (.baload, 1) := by decide +kernel
theorem dX2_has_16 : decode cX2_has 16 = .ok (.ifCond .eq 7, 3) := by decide +kernel
theorem dX2_has_19 : decode cX2_has 19 = .ok (.iconst 1, 1) := by decide +kernel
theorem dX2_has_20 : decode cX2_has 20 = .ok (.goto 4, 3) := by decide +kernel
theorem dX2_has_23 : decode cX2_has 23 = .ok (.iconst 0, 1) := by decide +kernel
theorem dX2_has_24 : decode cX2_has 24 = .ok (.ireturn, 1) := by decide +kernel
theorem dX2_nameOf_0 : decode cX2_nameOf 0 = .ok (.aload_n 0, 1) := by decide +kernel
theorem dX2_nameOf_1 : decode cX2_nameOf 1 = .ok (.getfield 17, 3) := by decide +kernel
theorem dX2_nameOf_4 : decode cX2_nameOf 4 = .ok (.iload_n 1, 1) := by decide +kernel
theorem dX2_nameOf_5 : decode cX2_nameOf 5 = .ok (.ifCond .lt 13, 3) := by decide +kernel
theorem dX2_nameOf_8 : decode cX2_nameOf 8 = .ok (.iload_n 1, 1) := by decide +kernel
theorem dX2_nameOf_9 : decode cX2_nameOf 9 = .ok (.bipush 80, 2) := by decide +kernel
theorem dX2_nameOf_11 : decode cX2_nameOf 11 = .ok (.if_icmp .ge 7, 3) := by decide +kernel
theorem dX2_nameOf_14 : decode cX2_nameOf 14 = .ok (.iload_n 1, 1) := by decide +kernel
theorem dX2_nameOf_15 : decode cX2_nameOf 15 = .ok (.goto 4, 3) := by decide +kernel
theorem dX2_nameOf_18 : decode cX2_nameOf 18 = .ok (.iconst 0, 1) := by decide +kernel
theorem dX2_nameOf_19 : decode cX2_nameOf 19 = .ok (.aaload, 1) := by decide +kernel
theorem dX2_nameOf_20 : decode cX2_nameOf 20 = .ok (.areturn, 1) := by decide +kernel
theorem dX2_put_0 : decode cX2_put 0 = .ok (.iload_n 1, 1) := by decide +kernel
theorem dX2_put_1 : decode cX2_put 1 = .ok (.ifCond .lt 24, 3) := by decide +kernel
theorem dX2_put_4 : decode cX2_put 4 = .ok (.iload_n 1, 1) := by decide +kernel
theorem dX2_put_5 : decode cX2_put 5 = .ok (.bipush 80, 2) := by decide +kernel
theorem dX2_put_7 : decode cX2_put 7 = .ok (.if_icmp .ge 18, 3) := by decide +kernel
theorem dX2_put_10 : decode cX2_put 10 = .ok (.aload_n 0, 1) := by decide +kernel
theorem dX2_put_11 : decode cX2_put 11 = .ok (.getfield 17, 3) := by decide +kernel
theorem dX2_put_14 : decode cX2_put 14 = .ok (.iload_n 1, 1) := by decide +kernel
theorem dX2_put_15 : decode cX2_put 15 = .ok (.aaload, 1) := by decide +kernel
theorem dX2_put_16 : decode cX2_put 16 = .ok (.aload_n 2, 1) := by decide +kernel
theorem dX2_put_17 : decode cX2_put 17 = .ok (.invokevirtual 28, 3) := by decide +kernel
theorem dX2_put_20 : decode cX2_put 20 = .ok (.aload_n 0, 1) := by decide +kernel
theorem dX2_put_21 : decode cX2_put 21 = .ok (.iload_n 1, 1) := by decide +kernel
theorem dX2_put_22 : decode cX2_put 22 = .ok (.invokevirtual 32, 3) := by decide +kernel
theorem dX2_put_25 : decode cX2_put 25 = .ok (.return_, 1) := by decide +kernel
theorem dX2_putAgain_0 : decode cX2_putAgain 0 = .ok (.iload_n 1, 1) := by decide +kernel
theorem dX2_putAgain_1 : decode cX2_putAgain 1 = .ok (.ifCond .lt 35, 3) := by decide +kernel
theorem dX2_putAgain_4 : decode cX2_putAgain 4 = .ok (.iload_n 1, 1) := by decide +kernel
theorem dX2_putAgain_5 : decode cX2_putAgain 5 = .ok (.bipush 80, 2) := by decide +kernel
theorem dX2_putAgain_7 : decode cX2_putAgain 7 = .ok (.if_icmp .ge 29, 3) := by decide +kernel
theorem dX2_putAgain_10 : decode cX2_putAgain 10 = .ok (.aload_n 0, 1) := by decide +kernel
theorem dX2_putAgain_11 : decode cX2_putAgain 11 = .ok (.getfield 9, 3) := by decide +kernel
theorem dX2_putAgain_14 : decode cX2_putAgain 14 = .ok (.iload_n 1, 1) := by decide +kernel
theorem dX2_putAgain_15 : decode cX2_putAgain 15 = .ok (.baload, 1) := by decide +kernel
theorem dX2_putAgain_16 : decode cX2_putAgain 16 = .ok (.ifCond .ne 20, 3) := by decide +kernel
theorem dX2_putAgain_19 : decode cX2_putAgain 19 = .ok (.aload_n 0, 1) := by decide +kernel
theorem dX2_putAgain_20 : decode cX2_putAgain 20 = .ok (.getfield 9, 3) := by decide +kernel
theorem dX2_putAgain_23 : decode cX2_putAgain 23 = .ok (.iload_n 1, 1) := by decide +kernel
theorem dX2_putAgain_24 : decode cX2_putAgain 24 = .ok (.iconst 1, 1) := by decide +kernel
theorem dX2_putAgain_25 : decode cX2_putAgain 25 = .ok (.bastore, 1) := by decide +kernel
theorem dX2_putAgain_26 : decode cX2_putAgain 26 = .ok (.aload_n 0, 1) := by decide +kernel
theorem dX2_putAgain_27 : decode cX2_putAgain 27 = .ok (.dup, 1) := by decide +kernel
theorem dX2_putAgain_28 : decode cX2_putAgain 28 = .ok (.getfield 21, 3) := by decide +kernel
theorem dX2_putAgain_31 : decode cX2_putAgain 31 = .ok (.iconst 1, 1) := by decide +kernel
theorem dX2_putAgain_32 : decode cX2_putAgain 32 = .ok (.iadd, 1) := by decide +kernel
theorem dX2_putAgain_33 : decode cX2_putAgain 33 = .ok (.putfield 21, 3) := by decide +kernel
theorem dX2_putAgain_36 : decode cX2_putAgain 36 = .ok (.return_, 1) := by decide +kernel
theorem dX2_drop_0 : decode cX2_drop 0 = .ok (.aload_n 0, 1) := by decide +kernel
theorem dX2_drop_1 : decode cX2_drop 1 = .ok (.iload_n 1, 1) := by decide +kernel
theorem dX2_drop_2 : decode cX2_drop 2 = .ok (.invokevirtual 35, 3) := by decide +kernel
theorem dX2_drop_5 : decode cX2_drop 5 = .ok (.ifCond .eq 20, 3) := by decide +kernel
theorem dX2_drop_8 : decode cX2_drop 8 = .ok (.aload_n 0, 1) := by decide +kernel
theorem dX2_drop_9 : decode cX2_drop 9 = .ok (.getfield 9, 3) := by decide +kernel
theorem dX2_drop_12 : decode cX2_drop 12 = .ok (.iload_n 1, 1) := by decide +kernel
theorem dX2_drop_13 : decode cX2_drop 13 = .ok (.iconst 0, 1) := by decide +kernel
theorem dX2_drop_14 : decode cX2_drop 14 = .ok (.bastore, 1) := by decide +kernel
theorem dX2_drop_15 : decode cX2_drop 15 = .ok (.aload_n 0, 1) := by decide +kernel
theorem dX2_drop_16 : decode cX2_drop 16 = .ok (.dup, 1) := by decide +kernel
theorem dX2_drop_17 : decode cX2_drop 17 = .ok (.getfield 21, 3) := by decide +kernel
theorem dX2_drop_20 : decode cX2_drop 20 = .ok (.iconst 1, 1) := by decide +kernel
theorem dX2_drop_21 : decode cX2_drop 21 = .ok (.isub, 1) := by decide +kernel
theorem dX2_drop_22 : decode cX2_drop 22 = .ok (.putfield 21, 3) := by decide +kernel
theorem dX2_drop_25 : decode cX2_drop 25 = .ok (.return_, 1) := by decide +kernel
theorem dX2_clear_0 : decode cX2_clear 0 = .ok (.iconst 0, 1) := by decide +kernel
theorem dX2_clear_1 : decode cX2_clear 1 = .ok (.istore_n 1, 1) := by decide +kernel
theorem dX2_clear_2 : decode cX2_clear 2 = .ok (.iload_n 1, 1) := by decide +kernel
theorem dX2_clear_3 : decode cX2_clear 3 = .ok (.bipush 80, 2) := by decide +kernel
theorem dX2_clear_5 : decode cX2_clear 5 = .ok (.if_icmp .ge 16, 3) := by decide +kernel
theorem dX2_clear_8 : decode cX2_clear 8 = .ok (.aload_n 0, 1) := by decide +kernel
theorem dX2_clear_9 : decode cX2_clear 9 = .ok (.getfield 9, 3) := by decide +kernel
theorem dX2_clear_12 : decode cX2_clear 12 = .ok (.iload_n 1, 1) := by decide +kernel
theorem dX2_clear_13 : decode cX2_clear 13 = .ok (.iconst 0, 1) := by decide +kernel
theorem dX2_clear_14 : decode cX2_clear 14 = .ok (.bastore, 1) := by decide +kernel
theorem dX2_clear_15 : decode cX2_clear 15 = .ok (.iinc 1 1, 3) := by decide +kernel
theorem dX2_clear_18 : decode cX2_clear 18 = .ok (.goto (-16), 3) := by decide +kernel
theorem dX2_clear_21 : decode cX2_clear 21 = .ok (.aload_n 0, 1) := by decide +kernel
theorem dX2_clear_22 : decode cX2_clear 22 = .ok (.iconst 0, 1) := by decide +kernel
theorem dX2_clear_23 : decode cX2_clear 23 = .ok (.putfield 21, 3) := by decide +kernel
theorem dX2_clear_26 : decode cX2_clear 26 = .ok (.return_, 1) := by decide +kernel
theorem dX3_init_0 : decode cX3_init 0 = .ok (.aload_n 0, 1) := by decide +kernel
theorem dX3_init_1 : decode cX3_init 1 = .ok (.invokespecial 3, 3) := by decide +kernel
theorem dX3_init_4 : decode cX3_init 4 = .ok (.aload_n 0, 1) := by decide +kernel
theorem dX3_init_5 : decode cX3_init 5 = .ok (.bipush 20, 2) := by decide +kernel
theorem dX3_init_7 : decode cX3_init 7 = .ok (.newarray .int, 2) := by decide +kernel
theorem dX3_init_9 : decode cX3_init 9 = .ok (.putfield 9, 3) := by decide +kernel
theorem dX3_init_12 : decode cX3_init 12 = .ok (.aload_n 0, 1) := by decide +kernel
theorem dX3_init_13 : decode cX3_init 13 = .ok (.iconst 1, 1) := by decide +kernel
theorem dX3_init_14 : decode cX3_init 14 = .ok (.putfield 15, 3) := by decide +kernel
theorem dX3_init_17 : decode cX3_init 17 = .ok (.aload_n 0, 1) := by decide +kernel
theorem dX3_init_18 : decode cX3_init 18 = .ok (.getfield 9, 3) := by decide +kernel
theorem dX3_init_21 : decode cX3_init 21 = .ok (.iconst 0, 1) := by decide +kernel
theorem dX3_init_22 : decode cX3_init 22 = .ok (.iconst 1, 1) := by decide +kernel
theorem dX3_init_23 : decode cX3_init 23 = .ok (.iastore, 1) := by decide +kernel
theorem dX3_init_24 : decode cX3_init 24 = .ok (.return_, 1) := by decide +kernel
theorem dX3_size_0 : decode cX3_size 0 = .ok (.aload_n 0, 1) := by decide +kernel
theorem dX3_size_1 : decode cX3_size 1 = .ok (.getfield 15, 3) := by decide +kernel
theorem dX3_size_4 : decode cX3_size 4 = .ok (.ireturn, 1) := by decide +kernel
theorem dX3_isFull_0 : decode cX3_isFull 0 = .ok (.aload_n 0, 1) := by decide +kernel
theorem dX3_isFull_1 : decode cX3_isFull 1 = .ok (.getfield 15, 3) := by decide +kernel
theorem dX3_isFull_4 : decode cX3_isFull 4 = .ok (.bipush 20, 2) := by decide +kernel
theorem dX3_isFull_6 : decode cX3_isFull 6 = .ok (.if_icmp .lt 7, 3) := by decide +kernel
theorem dX3_isFull_9 : decode cX3_isFull 9 = .ok (.iconst 1, 1) := by decide +kernel
theorem dX3_isFull_10 : decode cX3_isFull 10 = .ok (.goto 4, 3) := by decide +kernel
theorem dX3_isFull_13 : decode cX3_isFull 13 = .ok (.iconst 0, 1) := by decide +kernel
theorem dX3_isFull_14 : decode cX3_isFull 14 = .ok (.ireturn, 1) := by decide +kernel
theorem dX3_has_0 : decode cX3_has 0 = .ok (.iload_n 1, 1) := by decide +kernel
theorem dX3_has_1 : decode cX3_has 1 = .ok (.ifCond .lt 15, 3) := by decide +kernel
theorem dX3_has_4 : decode cX3_has 4 = .ok (.iload_n 1, 1) := by decide +kernel
theorem dX3_has_5 : decode cX3_has 5 = .ok (.aload_n 0, 1) := by decide +kernel
theorem dX3_has_6 : decode cX3_has 6 = .ok (.getfield 15, 3) := by decide +kernel
theorem dX3_has_9 : decode cX3_has 9 = .ok (.if_icmp .ge 7, 3) := by decide +kernel
theorem dX3_has_12 : decode cX3_has 12 = .ok (.iconst 1, 1) := by decide +kernel
theorem dX3_has_13 : decode cX3_has 13 = .ok (.goto 4, 3) := by decide +kernel
theorem dX3_has_16 : decode cX3_has 16 = .ok (.iconst 0, 1) := by decide +kernel
theorem dX3_has_17 : decode cX3_has 17 = .ok (.ireturn, 1) := by decide +kernel
theorem dX3_addWithin_0 : decode cX3_addWithin 0 = .ok (.aload_n 0, 1) := by decide +kernel
theorem dX3_addWithin_1 : decode cX3_addWithin 1 = .ok (.invokevirtual 19, 3) := by decide +kernel
theorem dX3_addWithin_4 : decode cX3_addWithin 4 = .ok (.ifCond .ne 11, 3) := by decide +kernel
theorem dX3_addWithin_7 : decode cX3_addWithin 7 = .ok (.aload_n 0, 1) := by decide +kernel
theorem dX3_addWithin_8 : decode cX3_addWithin 8 = .ok (.iload_n 1, 1) := by decide +kernel
theorem dX3_addWithin_9 : decode cX3_addWithin 9 = .ok (.invokevirtual 23, 3) := by decide +kernel
theorem dX3_addWithin_12 : decode cX3_addWithin 12 = .ok (.ifCond .ne 5, 3) := by decide +kernel
theorem dX3_addWithin_15 : decode cX3_addWithin 15 = .ok (.iconst (-1), 1) := by decide +kernel
theorem dX3_addWithin_16 : decode cX3_addWithin 16 = .ok (.ireturn, 1) := by decide +kernel
theorem dX3_addWithin_17 : decode cX3_addWithin 17 = .ok (.aload_n 0, 1) := by decide +kernel
theorem dX3_addWithin_18 : decode cX3_addWithin 18 = .ok (.getfield 15, 3) := by decide +kernel
theorem dX3_addWithin_21 : decode cX3_addWithin 21 = .ok (.istore_n 2, 1) := by decide +kernel
theorem dX3_addWithin_22 : decode cX3_addWithin 22 = .ok (.aload_n 0, 1) := by decide +kernel
theorem dX3_addWithin_23 : decode cX3_addWithin 23 = .ok (.getfield 9, 3) := by decide +kernel
theorem dX3_addWithin_26 : decode cX3_addWithin 26 = .ok (.iload_n 2, 1) := by decide +kernel
theorem dX3_addWithin_27 : decode cX3_addWithin 27 = .ok (.aload_n 0, 1) := by decide +kernel
theorem dX3_addWithin_28 : decode cX3_addWithin 28 = .ok (.getfield 9, 3) := by decide +kernel
theorem dX3_addWithin_31 : decode cX3_addWithin 31 = .ok (.iload_n 1, 1) := by decide +kernel
theorem dX3_addWithin_32 : decode cX3_addWithin 32 = .ok (.iaload, 1) := by decide +kernel
theorem dX3_addWithin_33 : decode cX3_addWithin 33 = .ok (.iconst 1, 1) := by decide +kernel
theorem dX3_addWithin_34 : decode cX3_addWithin 34 = .ok (.iload_n 2, 1) := by decide +kernel
theorem dX3_addWithin_35 : decode cX3_addWithin 35 = .ok (.ishl, 1) := by decide +kernel
theorem dX3_addWithin_36 : decode cX3_addWithin 36 = .ok (.ior, 1) := by decide +kernel
theorem dX3_addWithin_37 : decode cX3_addWithin 37 = .ok (.iastore, 1) := by decide +kernel
theorem dX3_addWithin_38 : decode cX3_addWithin 38 = .ok (.aload_n 0, 1) := by decide +kernel
theorem dX3_addWithin_39 : decode cX3_addWithin 39 = .ok (.dup, 1) := by decide +kernel
theorem dX3_addWithin_40 : decode cX3_addWithin 40 = .ok (.getfield 15, 3) := by decide +kernel
theorem dX3_addWithin_43 : decode cX3_addWithin 43 = .ok (.iconst 1, 1) := by decide +kernel
theorem dX3_addWithin_44 : decode cX3_addWithin 44 = .ok (.iadd, 1) := by decide +kernel
theorem dX3_addWithin_45 : decode cX3_addWithin 45 = .ok (.putfield 15, 3) := by decide +kernel
theorem dX3_addWithin_48 : decode cX3_addWithin 48 = .ok (.iload_n 2, 1) := by decide +kernel
theorem dX3_addWithin_49 : decode cX3_addWithin 49 = .ok (.ireturn, 1) := by decide +kernel
theorem dX3_isWithin_0 : decode cX3_isWithin 0 = .ok (.aload_n 0, 1) := by decide +kernel
theorem dX3_isWithin_1 : decode cX3_isWithin 1 = .ok (.iload_n 1, 1) := by decide +kernel
theorem dX3_isWithin_2 : decode cX3_isWithin 2 = .ok (.invokevirtual 23, 3) := by decide +kernel
theorem dX3_isWithin_5 : decode cX3_isWithin 5 = .ok (.ifCond .eq 29, 3) := by decide +kernel
theorem dX3_isWithin_8 : decode cX3_isWithin 8 = .ok (.aload_n 0, 1) := by decide +kernel
theorem dX3_isWithin_9 : decode cX3_isWithin 9 = .ok (.iload_n 2, 1) := by decide +kernel
theorem dX3_isWithin_10 : decode cX3_isWithin 10 = .ok (.invokevirtual 23, 3) := by decide +kernel
theorem dX3_isWithin_13 : decode cX3_isWithin 13 = .ok (.ifCond .eq 21, 3) := by decide +kernel
theorem dX3_isWithin_16 : decode cX3_isWithin 16 = .ok (.aload_n 0, 1) := by decide +kernel
theorem dX3_isWithin_17 : decode cX3_isWithin 17 = .ok (.getfield 9, 3) := by decide +kernel
theorem dX3_isWithin_20 : decode cX3_isWithin 20 = .ok (.iload_n 1, 1) := by decide +kernel
theorem dX3_isWithin_21 : decode cX3_isWithin 21 = .ok (.iaload, 1) := by decide +kernel
theorem dX3_isWithin_22 : decode cX3_isWithin 22 = .ok (.iload_n 2, 1) := by decide +kernel
theorem dX3_isWithin_23 : decode cX3_isWithin 23 = .ok (.ishr, 1) := by decide +kernel
theorem dX3_isWithin_24 : decode cX3_isWithin 24 = .ok (.iconst 1, 1) := by decide +kernel
theorem dX3_isWithin_25 : decode cX3_isWithin 25 = .ok (.iand, 1) := by decide +kernel
theorem dX3_isWithin_26 : decode cX3_isWithin 26 = .ok (.iconst 1, 1) := by decide +kernel
theorem dX3_isWithin_27 : decode cX3_isWithin 27 = .ok (.if_icmp .ne 7, 3) := by decide +kernel
theorem dX3_isWithin_30 : decode cX3_isWithin 30 = .ok (.iconst 1, 1) := by decide +kernel
theorem dX3_isWithin_31 : decode cX3_isWithin 31 = .ok (.goto 4, 3) := by decide +kernel
theorem dX3_isWithin_34 : decode cX3_isWithin 34 = .ok (.iconst 0, 1) := by decide +kernel
theorem dX3_isWithin_35 : decode cX3_isWithin 35 = .ok (.ireturn, 1) := by decide +kernel
theorem dX4_init_0 : decode cX4_init 0 = .ok (.aload_n 0, 1) := by decide +kernel
theorem dX4_init_1 : decode cX4_init 1 = .ok (.invokespecial 3, 3) := by decide +kernel
theorem dX4_init_4 : decode cX4_init 4 = .ok (.aload_n 0, 1) := by decide +kernel
theorem dX4_init_5 : decode cX4_init 5 = .ok (.iconst 0, 1) := by decide +kernel
theorem dX4_init_6 : decode cX4_init 6 = .ok (.putfield 9, 3) := by decide +kernel
theorem dX4_init_9 : decode cX4_init 9 = .ok (.aload_n 0, 1) := by decide +kernel
theorem dX4_init_10 : decode cX4_init 10 = .ok (.iconst 0, 1) := by decide +kernel
theorem dX4_init_11 : decode cX4_init 11 = .ok (.putfield 15, 3) := by decide +kernel
theorem dX4_init_14 : decode cX4_init 14 = .ok (.aload_n 0, 1) := by decide +kernel
theorem dX4_init_15 : decode cX4_init 15 = .ok (.iload_n 1, 1) := by decide +kernel
theorem dX4_init_16 : decode cX4_init 16 = .ok (.ifCond .le 7, 3) := by decide +kernel
theorem dX4_init_19 : decode cX4_init 19 = .ok (.iload_n 1, 1) := by decide +kernel
theorem dX4_init_20 : decode cX4_init 20 = .ok (.goto 4, 3) := by decide +kernel
theorem dX4_init_23 : decode cX4_init 23 = .ok (.iconst 0, 1) := by decide +kernel
theorem dX4_init_24 : decode cX4_init 24 = .ok (.newarray .int, 2) := by decide +kernel
theorem dX4_init_26 : decode cX4_init 26 = .ok (.putfield 19, 3) := by decide +kernel
theorem dX4_init_29 : decode cX4_init 29 = .ok (.return_, 1) := by decide +kernel
theorem dX4_size_0 : decode cX4_size 0 = .ok (.aload_n 0, 1) := by decide +kernel
theorem dX4_size_1 : decode cX4_size 1 = .ok (.getfield 9, 3) := by decide +kernel
theorem dX4_size_4 : decode cX4_size 4 = .ok (.ireturn, 1) := by decide +kernel
theorem dX4_has_0 : decode cX4_has 0 = .ok (.iload_n 1, 1) := by decide +kernel
theorem dX4_has_1 : decode cX4_has 1 = .ok (.ifCond .lt 15, 3) := by decide +kernel
theorem dX4_has_4 : decode cX4_has 4 = .ok (.iload_n 1, 1) := by decide +kernel
theorem dX4_has_5 : decode cX4_has 5 = .ok (.aload_n 0, 1) := by decide +kernel
theorem dX4_has_6 : decode cX4_has 6 = .ok (.getfield 9, 3) := by decide +kernel
theorem dX4_has_9 : decode cX4_has 9 = .ok (.if_icmp .ge 7, 3) := by decide +kernel
theorem dX4_has_12 : decode cX4_has 12 = .ok (.iconst 1, 1) := by decide +kernel
theorem dX4_has_13 : decode cX4_has 13 = .ok (.goto 4, 3) := by decide +kernel
theorem dX4_has_16 : decode cX4_has 16 = .ok (.iconst 0, 1) := by decide +kernel
theorem dX4_has_17 : decode cX4_has 17 = .ok (.ireturn, 1) := by decide +kernel
theorem dX4_at_0 : decode cX4_at 0 = .ok (.aload_n 0, 1) := by decide +kernel
theorem dX4_at_1 : decode cX4_at 1 = .ok (.iload_n 1, 1) := by decide +kernel
theorem dX4_at_2 : decode cX4_at 2 = .ok (.invokevirtual 23, 3) := by decide +kernel
theorem dX4_at_5 : decode cX4_at 5 = .ok (.ifCond .eq 12, 3) := by decide +kernel
theorem dX4_at_8 : decode cX4_at 8 = .ok (.aload_n 0, 1) := by decide +kernel
theorem dX4_at_9 : decode cX4_at 9 = .ok (.getfield 19, 3) := by decide +kernel
theorem dX4_at_12 : decode cX4_at 12 = .ok (.iload_n 1, 1) := by decide +kernel
theorem dX4_at_13 : decode cX4_at 13 = .ok (.iaload, 1) := by decide +kernel
theorem dX4_at_14 : decode cX4_at 14 = .ok (.goto 4, 3) := by decide +kernel
theorem dX4_at_17 : decode cX4_at 17 = .ok (.iconst 0, 1) := by decide +kernel
theorem dX4_at_18 : decode cX4_at 18 = .ok (.ireturn, 1) := by decide +kernel
theorem dX4_clear_0 : decode cX4_clear 0 = .ok (.aload_n 0, 1) := by decide +kernel
theorem dX4_clear_1 : decode cX4_clear 1 = .ok (.iconst 0, 1) := by decide +kernel
theorem dX4_clear_2 : decode cX4_clear 2 = .ok (.putfield 9, 3) := by decide +kernel
theorem dX4_clear_5 : decode cX4_clear 5 = .ok (.aload_n 0, 1) := by decide +kernel
theorem dX4_clear_6 : decode cX4_clear 6 = .ok (.iconst 0, 1) := by decide +kernel
theorem dX4_clear_7 : decode cX4_clear 7 = .ok (.putfield 15, 3) := by decide +kernel
theorem dX4_clear_10 : decode cX4_clear 10 = .ok (.return_, 1) := by decide +kernel
theorem dX4_add_0 : decode cX4_add 0 = .ok (.aload_n 0, 1) := by decide +kernel
theorem dX4_add_1 : decode cX4_add 1 = .ok (.getfield 9, 3) := by decide +kernel
theorem dX4_add_4 : decode cX4_add 4 = .ok (.aload_n 0, 1) := by decide +kernel
theorem dX4_add_5 : decode cX4_add 5 = .ok (.getfield 19, 3) := by decide +kernel
theorem dX4_add_8 : decode cX4_add 8 = .ok (.arraylength, 1) := by decide +kernel
theorem dX4_add_9 : decode cX4_add 9 = .ok (.if_icmp .ge 26, 3) := by decide +kernel
theorem dX4_add_12 : decode cX4_add 12 = .ok (.aload_n 0, 1) := by decide +kernel
theorem dX4_add_13 : decode cX4_add 13 = .ok (.getfield 19, 3) := by decide +kernel
theorem dX4_add_16 : decode cX4_add 16 = .ok (.aload_n 0, 1) := by decide +kernel
theorem dX4_add_17 : decode cX4_add 17 = .ok (.getfield 9, 3) := by decide +kernel
theorem dX4_add_20 : decode cX4_add 20 = .ok (.iload_n 1, 1) := by decide +kernel
theorem dX4_add_21 : decode cX4_add 21 = .ok (.iastore, 1) := by decide +kernel
theorem dX4_add_22 : decode cX4_add 22 = .ok (.aload_n 0, 1) := by decide +kernel
theorem dX4_add_23 : decode cX4_add 23 = .ok (.dup, 1) := by decide +kernel
theorem dX4_add_24 : decode cX4_add 24 = .ok (.getfield 9, 3) := by decide +kernel
theorem dX4_add_27 : decode cX4_add 27 = .ok (.iconst 1, 1) := by decide +kernel
theorem dX4_add_28 : decode cX4_add 28 = .ok (.iadd, 1) := by decide +kernel
theorem dX4_add_29 : decode cX4_add 29 = .ok (.putfield 9, 3) := by decide +kernel
theorem dX4_add_32 : decode cX4_add 32 = .ok (.goto 8, 3) := by decide +kernel
theorem dX4_add_35 : decode cX4_add 35 = .ok (.aload_n 0, 1) := by decide +kernel
theorem dX4_add_36 : decode cX4_add 36 = .ok (.iconst 1, 1) := by decide +kernel
theorem dX4_add_37 : decode cX4_add 37 = .ok (.putfield 15, 3) := by decide +kernel
theorem dX4_add_40 : decode cX4_add 40 = .ok (.return_, 1) := by decide +kernel
theorem dX4_addNumber_0 : decode cX4_addNumber 0 = .ok (.bipush 24, 2) := by decide +kernel
theorem dX4_addNumber_2 : decode cX4_addNumber 2 = .ok (.istore_n 2, 1) := by decide +kernel
theorem dX4_addNumber_3 : decode cX4_addNumber 3 = .ok (.iload_n 2, 1) := by decide +kernel
theorem dX4_addNumber_4 : decode cX4_addNumber 4 = .ok (.ifCond .lt 20, 3) := by decide +kernel
theorem dX4_addNumber_7 : decode cX4_addNumber 7 = .ok (.aload_n 0, 1) := by decide +kernel
theorem dX4_addNumber_8 : decode cX4_addNumber 8 = .ok (.iload_n 1, 1) := by decide +kernel
theorem dX4_addNumber_9 : decode cX4_addNumber 9 = .ok (.iload_n 2, 1) := by decide +kernel
theorem dX4_addNumber_10 : decode cX4_addNumber 10 = .ok (.ishr, 1) := by decide +kernel
theorem dX4_addNumber_11 : decode cX4_addNumber 11 = .ok (.sipush 255, 3) := by decide +kernel
theorem dX4_addNumber_14 : decode cX4_addNumber 14 = .ok (.iand, 1) := by decide +kernel
theorem dX4_addNumber_15 : decode cX4_addNumber 15 = .ok (.invokevirtual 27, 3) := by decide +kernel
theorem dX4_addNumber_18 : decode cX4_addNumber 18 = .ok (.iinc 2 (-8), 3) := by decide +kernel
theorem dX4_addNumber_21 : decode cX4_addNumber 21 = .ok (.goto (-18), 3) := by decide +kernel
theorem dX4_addNumber_24 : decode cX4_addNumber 24 = .ok (.return_, 1) := by decide +kernel
theorem dX4_set_0 : decode cX4_set 0 = .ok (.aload_n 0, 1) := by decide +kernel
theorem dX4_set_1 : decode cX4_set 1 = .ok (.invokevirtual 31, 3) := by decide +kernel
theorem dX4_set_4 : decode cX4_set 4 = .ok (.iconst 0, 1) := by decide +kernel
theorem dX4_set_5 : decode cX4_set 5 = .ok (.istore_n 2, 1) := by decide +kernel
theorem dX4_set_6 : decode cX4_set 6 = .ok (.iload_n 2, 1) := by decide +kernel
theorem dX4_set_7 : decode cX4_set 7 = .ok (.aload_n 1, 1) := by decide +kernel
theorem dX4_set_8 : decode cX4_set 8 = .ok (.getfield 9, 3) := by decide +kernel
theorem dX4_set_11 : decode cX4_set 11 = .ok (.if_icmp .ge 19, 3) := by decide +kernel
theorem dX4_set_14 : decode cX4_set 14 = .ok (.aload_n 0, 1) := by decide +kernel
theorem dX4_set_15 : decode cX4_set 15 = .ok (.aload_n 1, 1) := by decide +kernel
theorem dX4_set_16 : decode cX4_set 16 = .ok (.getfield 19, 3) := by decide +kernel
theorem dX4_set_19 : decode cX4_set 19 = .ok (.iload_n 2, 1) := by decide +kernel
theorem dX4_set_20 : decode cX4_set 20 = .ok (.iaload, 1) := by decide +kernel
theorem dX4_set_21 : decode cX4_set 21 = .ok (.invokevirtual 27, 3) := by decide +kernel
theorem dX4_set_24 : decode cX4_set 24 = .ok (.iinc 2 1, 3) := by decide +kernel
theorem dX4_set_27 : decode cX4_set 27 = .ok (.goto (-21), 3) := by decide +kernel
theorem dX4_set_30 : decode cX4_set 30 = .ok (.return_, 1) := by decide +kernel
theorem dX4_same_0 : decode cX4_same 0 = .ok (.aload_n 0, 1) := by decide +kernel
theorem dX4_same_1 : decode cX4_same 1 = .ok (.getfield 9, 3) := by decide +kernel
theorem dX4_same_4 : decode cX4_same 4 = .ok (.aload_n 1, 1) := by decide +kernel
theorem dX4_same_5 : decode cX4_same 5 = .ok (.getfield 9, 3) := by decide +kernel
theorem dX4_same_8 : decode cX4_same 8 = .ok (.if_icmp .eq 5, 3) := by decide +kernel
theorem dX4_same_11 : decode cX4_same 11 = .ok (.iconst 0, 1) := by decide +kernel
theorem dX4_same_12 : decode cX4_same 12 = .ok (.ireturn, 1) := by decide +kernel
theorem dX4_same_13 : decode cX4_same 13 = .ok (.iconst 0, 1) := by decide +kernel
theorem dX4_same_14 : decode cX4_same 14 = .ok (.istore_n 2, 1) := by decide +kernel
theorem dX4_same_15 : decode cX4_same 15 = .ok (.iload_n 2, 1) := by decide +kernel
theorem dX4_same_16 : decode cX4_same 16 = .ok (.aload_n 0, 1) := by decide +kernel
theorem dX4_same_17 : decode cX4_same 17 = .ok (.getfield 9, 3) := by decide +kernel
theorem dX4_same_20 : decode cX4_same 20 = .ok (.if_icmp .ge 26, 3) := by decide +kernel
theorem dX4_same_23 : decode cX4_same 23 = .ok (.aload_n 0, 1) := by decide +kernel
theorem dX4_same_24 : decode cX4_same 24 = .ok (.getfield 19, 3) := by decide +kernel
theorem dX4_same_27 : decode cX4_same 27 = .ok (.iload_n 2, 1) := by decide +kernel
theorem dX4_same_28 : decode cX4_same 28 = .ok (.iaload, 1) := by decide +kernel
theorem dX4_same_29 : decode cX4_same 29 = .ok (.aload_n 1, 1) := by decide +kernel
theorem dX4_same_30 : decode cX4_same 30 = .ok (.getfield 19, 3) := by decide +kernel
theorem dX4_same_33 : decode cX4_same 33 = .ok (.iload_n 2, 1) := by decide +kernel
theorem dX4_same_34 : decode cX4_same 34 = .ok (.iaload, 1) := by decide +kernel
theorem dX4_same_35 : decode cX4_same 35 = .ok (.if_icmp .eq 5, 3) := by decide +kernel
theorem dX4_same_38 : decode cX4_same 38 = .ok (.iconst 0, 1) := by decide +kernel
theorem dX4_same_39 : decode cX4_same 39 = .ok (.ireturn, 1) := by decide +kernel
theorem dX4_same_40 : decode cX4_same 40 = .ok (.iinc 2 1, 3) := by decide +kernel
theorem dX4_same_43 : decode cX4_same 43 = .ok (.goto (-28), 3) := by decide +kernel
theorem dX4_same_46 : decode cX4_same 46 = .ok (.iconst 1, 1) := by decide +kernel
theorem dX4_same_47 : decode cX4_same 47 = .ok (.ireturn, 1) := by decide +kernel
theorem dX4_isName_0 : decode cX4_isName 0 = .ok (.aload_n 0, 1) := by decide +kernel
theorem dX4_isName_1 : decode cX4_isName 1 = .ok (.getfield 15, 3) := by decide +kernel
theorem dX4_isName_4 : decode cX4_isName 4 = .ok (.ifCond .ne 31, 3) := by decide +kernel
theorem dX4_isName_7 : decode cX4_isName 7 = .ok (.aload_n 0, 1) := by decide +kernel
theorem dX4_isName_8 : decode cX4_isName 8 = .ok (.getfield 9, 3) := by decide +kernel
theorem dX4_isName_11 : decode cX4_isName 11 = .ok (.ifCond .eq 24, 3) := by decide +kernel
theorem dX4_isName_14 : decode cX4_isName 14 = .ok (.aload_n 0, 1) := by decide +kernel
theorem dX4_isName_15 : decode cX4_isName 15 = .ok (.getfield 9, 3) := by decide +kernel
theorem dX4_isName_18 : decode cX4_isName 18 = .ok (.bipush 24, 2) := by decide +kernel
theorem dX4_isName_20 : decode cX4_isName 20 = .ok (.if_icmp .gt 15, 3) := by decide +kernel
theorem dX4_isName_23 : decode cX4_isName 23 = .ok (.aload_n 0, 1) := by decide +kernel
theorem dX4_isName_24 : decode cX4_isName 24 = .ok (.getfield 19, 3) := by decide +kernel
theorem dX4_isName_27 : decode cX4_isName 27 = .ok (.iconst 0, 1) := by decide +kernel
theorem dX4_isName_28 : decode cX4_isName 28 = .ok (.iaload, 1) := by decide +kernel
theorem dX4_isName_29 : decode cX4_isName 29 = .ok (.invokestatic 34, 3) := by decide +kernel
theorem dX4_isName_32 : decode cX4_isName 32 = .ok (.ifCond .eq 5, 3) := by decide +kernel
theorem dX4_isName_35 : decode cX4_isName 35 = .ok (.iconst 0, 1) := by decide +kernel
theorem dX4_isName_36 : decode cX4_isName 36 = .ok (.ireturn, 1) := by decide +kernel
theorem dX4_isName_37 : decode cX4_isName 37 = .ok (.iconst 0, 1) := by decide +kernel
theorem dX4_isName_38 : decode cX4_isName 38 = .ok (.istore_n 1, 1) := by decide +kernel
theorem dX4_isName_39 : decode cX4_isName 39 = .ok (.iconst 0, 1) := by decide +kernel
theorem dX4_isName_40 : decode cX4_isName 40 = .ok (.istore_n 2, 1) := by decide +kernel
theorem dX4_isName_41 : decode cX4_isName 41 = .ok (.iload_n 2, 1) := by decide +kernel
theorem dX4_isName_42 : decode cX4_isName 42 = .ok (.aload_n 0, 1) := by decide +kernel
theorem dX4_isName_43 : decode cX4_isName 43 = .ok (.getfield 9, 3) := by decide +kernel
theorem dX4_isName_46 : decode cX4_isName 46 = .ok (.if_icmp .ge 51, 3) := by decide +kernel
theorem dX4_isName_49 : decode cX4_isName 49 = .ok (.aload_n 0, 1) := by decide +kernel
theorem dX4_isName_50 : decode cX4_isName 50 = .ok (.getfield 19, 3) := by decide +kernel
theorem dX4_isName_53 : decode cX4_isName 53 = .ok (.iload_n 2, 1) := by decide +kernel
theorem dX4_isName_54 : decode cX4_isName 54 = .ok (.iaload, 1) := by decide +kernel
theorem dX4_isName_55 : decode cX4_isName 55 = .ok (.invokestatic 37, 3) := by decide +kernel
theorem dX4_isName_58 : decode cX4_isName 58 = .ok (.ifCond .eq 8, 3) := by decide +kernel
theorem dX4_isName_61 : decode cX4_isName 61 = .ok (.iconst 1, 1) := by decide +kernel
theorem dX4_isName_62 : decode cX4_isName 62 = .ok (.istore_n 1, 1) := by decide +kernel
theorem dX4_isName_63 : decode cX4_isName 63 = .ok (.goto 28, 3) := by decide +kernel
theorem dX4_isName_66 : decode cX4_isName 66 = .ok (.aload_n 0, 1) := by decide +kernel
theorem dX4_isName_67 : decode cX4_isName 67 = .ok (.getfield 19, 3) := by decide +kernel
theorem dX4_isName_70 : decode cX4_isName 70 = .ok (.iload_n 2, 1) := by decide +kernel
theorem dX4_isName_71 : decode cX4_isName 71 = .ok (.iaload, 1) := by decide +kernel
theorem dX4_isName_72 : decode cX4_isName 72 = .ok (.invokestatic 34, 3) := by decide +kernel
theorem dX4_isName_75 : decode cX4_isName 75 = .ok (.ifCond .ne 16, 3) := by decide +kernel
theorem dX4_isName_78 : decode cX4_isName 78 = .ok (.aload_n 0, 1) := by decide +kernel
theorem dX4_isName_79 : decode cX4_isName 79 = .ok (.getfield 19, 3) := by decide +kernel
theorem dX4_isName_82 : decode cX4_isName 82 = .ok (.iload_n 2, 1) := by decide +kernel
theorem dX4_isName_83 : decode cX4_isName 83 = .ok (.iaload, 1) := by decide +kernel
theorem dX4_isName_84 : decode cX4_isName 84 = .ok (.bipush 95, 2) := by decide +kernel
theorem dX4_isName_86 : decode cX4_isName 86 = .ok (.if_icmp .eq 5, 3) := by decide +kernel
theorem dX4_isName_89 : decode cX4_isName 89 = .ok (.iconst 0, 1) := by decide +kernel
theorem dX4_isName_90 : decode cX4_isName 90 = .ok (.ireturn, 1) := by decide +kernel
theorem dX4_isName_91 : decode cX4_isName 91 = .ok (.iinc 2 1, 3) := by decide +kernel
theorem dX4_isName_94 : decode cX4_isName 94 = .ok (.goto (-53), 3) := by decide +kernel
theorem dX4_isName_97 : decode cX4_isName 97 = .ok (.iload_n 1, 1) := by decide +kernel
theorem dX4_isName_98 : decode cX4_isName 98 = .ok (.ireturn, 1) := by decide +kernel
theorem dX4_isWord_0 : decode cX4_isWord 0 = .ok (.aload_n 0, 1) := by decide +kernel
theorem dX4_isWord_1 : decode cX4_isWord 1 = .ok (.getfield 15, 3) := by decide +kernel
theorem dX4_isWord_4 : decode cX4_isWord 4 = .ok (.ifCond .ne 19, 3) := by decide +kernel
theorem dX4_isWord_7 : decode cX4_isWord 7 = .ok (.aload_n 0, 1) := by decide +kernel
theorem dX4_isWord_8 : decode cX4_isWord 8 = .ok (.getfield 9, 3) := by decide +kernel
theorem dX4_isWord_11 : decode cX4_isWord 11 = .ok (.ifCond .eq 12, 3) := by decide +kernel
theorem dX4_isWord_14 : decode cX4_isWord 14 = .ok (.aload_n 0, 1) := by decide +kernel
theorem dX4_isWord_15 : decode cX4_isWord 15 = .ok (.getfield 9, 3) := by decide +kernel
theorem dX4_isWord_18 : decode cX4_isWord 18 = .ok (.bipush 12, 2) := by decide +kernel
theorem dX4_isWord_20 : decode cX4_isWord 20 = .ok (.if_icmp .le 5, 3) := by decide +kernel
theorem dX4_isWord_23 : decode cX4_isWord 23 = .ok (.iconst 0, 1) := by decide +kernel
theorem dX4_isWord_24 : decode cX4_isWord 24 = .ok (.ireturn, 1) := by decide +kernel
theorem dX4_isWord_25 : decode cX4_isWord 25 = .ok (.iconst 0, 1) := by decide +kernel
theorem dX4_isWord_26 : decode cX4_isWord 26 = .ok (.istore_n 1, 1) := by decide +kernel
theorem dX4_isWord_27 : decode cX4_isWord 27 = .ok (.iload_n 1, 1) := by decide +kernel
theorem dX4_isWord_28 : decode cX4_isWord 28 = .ok (.aload_n 0, 1) := by decide +kernel
theorem dX4_isWord_29 : decode cX4_isWord 29 = .ok (.getfield 9, 3) := by decide +kernel
theorem dX4_isWord_32 : decode cX4_isWord 32 = .ok (.if_icmp .ge 23, 3) := by decide +kernel
theorem dX4_isWord_35 : decode cX4_isWord 35 = .ok (.aload_n 0, 1) := by decide +kernel
theorem dX4_isWord_36 : decode cX4_isWord 36 = .ok (.getfield 19, 3) := by decide +kernel
theorem dX4_isWord_39 : decode cX4_isWord 39 = .ok (.iload_n 1, 1) := by decide +kernel
theorem dX4_isWord_40 : decode cX4_isWord 40 = .ok (.iaload, 1) := by decide +kernel
theorem dX4_isWord_41 : decode cX4_isWord 41 = .ok (.invokestatic 40, 3) := by decide +kernel
theorem dX4_isWord_44 : decode cX4_isWord 44 = .ok (.ifCond .ne 5, 3) := by decide +kernel
theorem dX4_isWord_47 : decode cX4_isWord 47 = .ok (.iconst 0, 1) := by decide +kernel
theorem dX4_isWord_48 : decode cX4_isWord 48 = .ok (.ireturn, 1) := by decide +kernel
theorem dX4_isWord_49 : decode cX4_isWord 49 = .ok (.iinc 1 1, 3) := by decide +kernel
theorem dX4_isWord_52 : decode cX4_isWord 52 = .ok (.goto (-25), 3) := by decide +kernel
theorem dX4_isWord_55 : decode cX4_isWord 55 = .ok (.iconst 1, 1) := by decide +kernel
theorem dX4_isWord_56 : decode cX4_isWord 56 = .ok (.ireturn, 1) := by decide +kernel
theorem dX4_style_0 : decode cX4_style 0 = .ok (.iconst 0, 1) := by decide +kernel
theorem dX4_style_1 : decode cX4_style 1 = .ok (.istore_n 1, 1) := by decide +kernel
theorem dX4_style_2 : decode cX4_style 2 = .ok (.iconst 0, 1) := by decide +kernel
theorem dX4_style_3 : decode cX4_style 3 = .ok (.istore_n 2, 1) := by decide +kernel
theorem dX4_style_4 : decode cX4_style 4 = .ok (.iconst 0, 1) := by decide +kernel
theorem dX4_style_5 : decode cX4_style 5 = .ok (.istore_n 3, 1) := by decide +kernel
theorem dX4_style_6 : decode cX4_style 6 = .ok (.iconst 0, 1) := by decide +kernel
theorem dX4_style_7 : decode cX4_style 7 = .ok (.istore 4, 2) := by decide +kernel
theorem dX4_style_9 : decode cX4_style 9 = .ok (.iconst 0, 1) := by decide +kernel
theorem dX4_style_10 : decode cX4_style 10 = .ok (.istore 5, 2) := by decide +kernel
theorem dX4_style_12 : decode cX4_style 12 = .ok (.iload 5, 2) := by decide +kernel
theorem dX4_style_14 : decode cX4_style 14 = .ok (.aload_n 0, 1) := by decide +kernel
theorem dX4_style_15 : decode cX4_style 15 = .ok (.getfield 9, 3) := by decide +kernel
theorem dX4_style_18 : decode cX4_style 18 = .ok (.if_icmp .ge 95, 3) := by decide +kernel
theorem dX4_style_21 : decode cX4_style 21 = .ok (.aload_n 0, 1) := by decide +kernel
theorem dX4_style_22 : decode cX4_style 22 = .ok (.getfield 19, 3) := by decide +kernel
theorem dX4_style_25 : decode cX4_style 25 = .ok (.iload 5, 2) := by decide +kernel
theorem dX4_style_27 : decode cX4_style 27 = .ok (.iaload, 1) := by decide +kernel
theorem dX4_style_28 : decode cX4_style 28 = .ok (.istore 6, 2) := by decide +kernel
theorem dX4_style_30 : decode cX4_style 30 = .ok (.iload 4, 2) := by decide +kernel
theorem dX4_style_32 : decode cX4_style 32 = .ok (.ifCond .ne 15, 3) := by decide +kernel
theorem dX4_style_35 : decode cX4_style 35 = .ok (.iload 6, 2) := by decide +kernel
theorem dX4_style_37 : decode cX4_style 37 = .ok (.invokestatic 43, 3) := by decide +kernel
theorem dX4_style_40 : decode cX4_style 40 = .ok (.ifCond .eq 11, 3) := by decide +kernel
theorem dX4_style_43 : decode cX4_style 43 = .ok (.iload_n 3, 1) := by decide +kernel
theorem dX4_style_44 : decode cX4_style 44 = .ok (.ifCond .ne 7, 3) := by decide +kernel
theorem dX4_style_47 : decode cX4_style 47 = .ok (.iconst 1, 1) := by decide +kernel
theorem dX4_style_48 : decode cX4_style 48 = .ok (.goto 4, 3) := by decide +kernel
theorem dX4_style_51 : decode cX4_style 51 = .ok (.iconst 0, 1) := by decide +kernel
theorem dX4_style_52 : decode cX4_style 52 = .ok (.istore 4, 2) := by decide +kernel
theorem dX4_style_54 : decode cX4_style 54 = .ok (.iload_n 1, 1) := by decide +kernel
theorem dX4_style_55 : decode cX4_style 55 = .ok (.ifCond .ne 10, 3) := by decide +kernel
theorem dX4_style_58 : decode cX4_style 58 = .ok (.iload 6, 2) := by decide +kernel
theorem dX4_style_60 : decode cX4_style 60 = .ok (.bipush 95, 2) := by decide +kernel
theorem dX4_style_62 : decode cX4_style 62 = .ok (.if_icmp .ne 7, 3) := by decide +kernel
theorem dX4_style_65 : decode cX4_style 65 = .ok (.iconst 1, 1) := by decide +kernel
theorem dX4_style_66 : decode cX4_style 66 = .ok (.goto 4, 3) := by decide +kernel
theorem dX4_style_69 : decode cX4_style 69 = .ok (.iconst 0, 1) := by decide +kernel
theorem dX4_style_70 : decode cX4_style 70 = .ok (.istore_n 1, 1) := by decide +kernel
theorem dX4_style_71 : decode cX4_style 71 = .ok (.iload_n 2, 1) := by decide +kernel
theorem dX4_style_72 : decode cX4_style 72 = .ok (.ifCond .ne 11, 3) := by decide +kernel
theorem dX4_style_75 : decode cX4_style 75 = .ok (.iload 6, 2) := by decide +kernel
theorem dX4_style_77 : decode cX4_style 77 = .ok (.invokestatic 43, 3) := by decide +kernel
theorem dX4_style_80 : decode cX4_style 80 = .ok (.ifCond .eq 7, 3) := by decide +kernel
theorem dX4_style_83 : decode cX4_style 83 = .ok (.iconst 1, 1) := by decide +kernel
theorem dX4_style_84 : decode cX4_style 84 = .ok (.goto 4, 3) := by decide +kernel
theorem dX4_style_87 : decode cX4_style 87 = .ok (.iconst 0, 1) := by decide +kernel
theorem dX4_style_88 : decode cX4_style 88 = .ok (.istore_n 2, 1) := by decide +kernel
theorem dX4_style_89 : decode cX4_style 89 = .ok (.iload_n 3, 1) := by decide +kernel
theorem dX4_style_90 : decode cX4_style 90 = .ok (.ifCond .ne 11, 3) := by decide +kernel
theorem dX4_style_93 : decode cX4_style 93 = .ok (.iload 6, 2) := by decide +kernel
theorem dX4_style_95 : decode cX4_style 95 = .ok (.invokestatic 40, 3) := by decide +kernel
theorem dX4_style_98 : decode cX4_style 98 = .ok (.ifCond .eq 7, 3) := by decide +kernel
theorem dX4_style_101 : decode cX4_style 101 = .ok (.iconst 1, 1) := by decide +kernel
theorem dX4_style_102 : decode cX4_style 102 = .ok (.goto 4, 3) := by decide +kernel
theorem dX4_style_105 : decode cX4_style 105 = .ok (.iconst 0, 1) := by decide +kernel
theorem dX4_style_106 : decode cX4_style 106 = .ok (.istore_n 3, 1) := by decide +kernel
theorem dX4_style_107 : decode cX4_style 107 = .ok (.iinc 5 1, 3) := by decide +kernel
theorem dX4_style_110 : decode cX4_style 110 = .ok (.goto (-98), 3) := by decide +kernel
theorem dX4_style_113 : decode cX4_style 113 = .ok (.iload_n 1, 1) := by decide +kernel
theorem dX4_style_114 : decode cX4_style 114 = .ok (.ifCond .eq 9, 3) := by decide +kernel
theorem dX4_style_117 : decode cX4_style 117 = .ok (.iload_n 2, 1) := by decide +kernel
theorem dX4_style_118 : decode cX4_style 118 = .ok (.ifCond .ne 5, 3) := by decide +kernel
theorem dX4_style_121 : decode cX4_style 121 = .ok (.iconst 2, 1) := by decide +kernel
theorem dX4_style_122 : decode cX4_style 122 = .ok (.ireturn, 1) := by decide +kernel
theorem dX4_style_123 : decode cX4_style 123 = .ok (.iload_n 1, 1) := by decide +kernel
theorem dX4_style_124 : decode cX4_style 124 = .ok (.ifCond .eq 9, 3) := by decide +kernel
theorem dX4_style_127 : decode cX4_style 127 = .ok (.iload_n 3, 1) := by decide +kernel
theorem dX4_style_128 : decode cX4_style 128 = .ok (.ifCond .ne 5, 3) := by decide +kernel
theorem dX4_style_131 : decode cX4_style 131 = .ok (.iconst 3, 1) := by decide +kernel
theorem dX4_style_132 : decode cX4_style 132 = .ok (.ireturn, 1) := by decide +kernel
theorem dX4_style_133 : decode cX4_style 133 = .ok (.iload 4, 2) := by decide +kernel
theorem dX4_style_135 : decode cX4_style 135 = .ok (.ifCond .eq 7, 3) := by decide +kernel
theorem dX4_style_138 : decode cX4_style 138 = .ok (.iconst 1, 1) := by decide +kernel
theorem dX4_style_139 : decode cX4_style 139 = .ok (.goto 4, 3) := by decide +kernel
theorem dX4_style_142 : decode cX4_style 142 = .ok (.iconst 0, 1) := by decide +kernel
theorem dX4_style_143 : decode cX4_style 143 = .ok (.ireturn, 1) := by decide +kernel
theorem dX5_init_0 : decode cX5_init 0 = .ok (.aload_n 0, 1) := by decide +kernel
theorem dX5_init_1 : decode cX5_init 1 = .ok (.invokespecial 3, 3) := by decide +kernel
theorem dX5_init_4 : decode cX5_init 4 = .ok (.aload_n 0, 1) := by decide +kernel
theorem dX5_init_5 : decode cX5_init 5 = .ok (.bipush 80, 2) := by decide +kernel
theorem dX5_init_7 : decode cX5_init 7 = .ok (.newarray .int, 2) := by decide +kernel
theorem dX5_init_9 : decode cX5_init 9 = .ok (.putfield 9, 3) := by decide +kernel
theorem dX5_init_12 : decode cX5_init 12 = .ok (.aload_n 0, 1) := by decide +kernel
theorem dX5_init_13 : decode cX5_init 13 = .ok (.bipush 80, 2) := by decide +kernel
theorem dX5_init_15 : decode cX5_init 15 = .ok (.newarray .int, 2) := by decide +kernel
theorem dX5_init_17 : decode cX5_init 17 = .ok (.putfield 15, 3) := by decide +kernel
theorem dX5_init_20 : decode cX5_init 20 = .ok (.aload_n 0, 1) := by decide +kernel
theorem dX5_init_21 : decode cX5_init 21 = .ok (.bipush 80, 2) := by decide +kernel
theorem dX5_init_23 : decode cX5_init 23 = .ok (.anewarray 18, 3) := by decide +kernel
theorem dX5_init_26 : decode cX5_init 26 = .ok (.putfield 20, 3) := by decide +kernel
theorem dX5_init_29 : decode cX5_init 29 = .ok (.aload_n 0, 1) := by decide +kernel
theorem dX5_init_30 : decode cX5_init 30 = .ok (.iconst 0, 1) := by decide +kernel
theorem dX5_init_31 : decode cX5_init 31 = .ok (.putfield 24, 3) := by decide +kernel
theorem dX5_init_34 : decode cX5_init 34 = .ok (.iconst 0, 1) := by decide +kernel
theorem dX5_init_35 : decode cX5_init 35 = .ok (.istore_n 1, 1) := by decide +kernel
theorem dX5_init_36 : decode cX5_init 36 = .ok (.iload_n 1, 1) := by decide +kernel
theorem dX5_init_37 : decode cX5_init 37 = .ok (.bipush 80, 2) := by decide +kernel
theorem dX5_init_39 : decode cX5_init 39 = .ok (.if_icmp .ge 24, 3) := by decide +kernel
theorem dX5_init_42 : decode cX5_init 42 = .ok (.aload_n 0, 1) := by decide +kernel
theorem dX5_init_43 : decode cX5_init 43 = .ok (.getfield 20, 3) := by decide +kernel
theorem dX5_init_46 : decode cX5_init 46 = .ok (.iload_n 1, 1) := by decide +kernel
theorem dX5_init_47 : decode cX5_init 47 = .ok (.new 18, 3) := by decide +kernel
theorem dX5_init_50 : decode cX5_init 50 = .ok (.dup, 1) := by decide +kernel
theorem dX5_init_51 : decode cX5_init 51 = .ok (.bipush 24, 2) := by decide +kernel
theorem dX5_init_53 : decode cX5_init 53 = .ok (.invokespecial 28, 3) := by decide +kernel
theorem dX5_init_56 : decode cX5_init 56 = .ok (.aastore, 1) := by decide +kernel
theorem dX5_init_57 : decode cX5_init 57 = .ok (.iinc 1 1, 3) := by decide +kernel
theorem dX5_init_60 : decode cX5_init 60 = .ok (.goto (-24), 3) := by decide +kernel
theorem dX5_init_63 : decode cX5_init 63 = .ok (.return_, 1) := by decide +kernel
theorem dX5_size_0 : decode cX5_size 0 = .ok (.aload_n 0, 1) := by decide +kernel
theorem dX5_size_1 : decode cX5_size 1 = .ok (.getfield 24, 3) := by decide +kernel
theorem dX5_size_4 : decode cX5_size 4 = .ok (.ireturn, 1) := by decide +kernel
theorem dX5_isFull_0 : decode cX5_isFull 0 = .ok (.aload_n 0, 1) := by decide +kernel
theorem dX5_isFull_1 : decode cX5_isFull 1 = .ok (.getfield 24, 3) := by decide +kernel
theorem dX5_isFull_4 : decode cX5_isFull 4 = .ok (.bipush 80, 2) := by decide +kernel
theorem dX5_isFull_6 : decode cX5_isFull 6 = .ok (.if_icmp .lt 7, 3) := by decide +kernel
theorem dX5_isFull_9 : decode cX5_isFull 9 = .ok (.iconst 1, 1) := by decide +kernel
theorem dX5_isFull_10 : decode cX5_isFull 10 = .ok (.goto 4, 3) := by decide +kernel
theorem dX5_isFull_13 : decode cX5_isFull 13 = .ok (.iconst 0, 1) := by decide +kernel
theorem dX5_isFull_14 : decode cX5_isFull 14 = .ok (.ireturn, 1) := by decide +kernel
theorem dX5_has_0 : decode cX5_has 0 = .ok (.iload_n 1, 1) := by decide +kernel
theorem dX5_has_1 : decode cX5_has 1 = .ok (.ifCond .lt 15, 3) := by decide +kernel
theorem dX5_has_4 : decode cX5_has 4 = .ok (.iload_n 1, 1) := by decide +kernel
theorem dX5_has_5 : decode cX5_has 5 = .ok (.aload_n 0, 1) := by decide +kernel
theorem dX5_has_6 : decode cX5_has 6 = .ok (.getfield 24, 3) := by decide +kernel
theorem dX5_has_9 : decode cX5_has 9 = .ok (.if_icmp .ge 7, 3) := by decide +kernel
theorem dX5_has_12 : decode cX5_has 12 = .ok (.iconst 1, 1) := by decide +kernel
theorem dX5_has_13 : decode cX5_has 13 = .ok (.goto 4, 3) := by decide +kernel
theorem dX5_has_16 : decode cX5_has 16 = .ok (.iconst 0, 1) := by decide +kernel
theorem dX5_has_17 : decode cX5_has 17 = .ok (.ireturn, 1) := by decide +kernel
theorem dX5_add_0 : decode cX5_add 0 = .ok (.aload_n 0, 1) := by decide +kernel
theorem dX5_add_1 : decode cX5_add 1 = .ok (.invokevirtual 31, 3) := by decide +kernel
theorem dX5_add_4 : decode cX5_add 4 = .ok (.ifCond .eq 5, 3) := by decide +kernel
theorem dX5_add_7 : decode cX5_add 7 = .ok (.iconst (-1), 1) := by decide +kernel
theorem dX5_add_8 : decode cX5_add 8 = .ok (.ireturn, 1) := by decide +kernel
theorem dX5_add_9 : decode cX5_add 9 = .ok (.aload_n 0, 1) := by decide +kernel
theorem dX5_add_10 : decode cX5_add 10 = .ok (.getfield 24, 3) := by decide +kernel
theorem dX5_add_13 : decode cX5_add 13 = .ok (.istore 4, 2) := by decide +kernel
theorem dX5_add_15 : decode cX5_add 15 = .ok (.aload_n 0, 1) := by decide +kernel
theorem dX5_add_16 : decode cX5_add 16 = .ok (.getfield 9, 3) := by decide +kernel
theorem dX5_add_19 : decode cX5_add 19 = .ok (.iload 4, 2) := by decide +kernel
theorem dX5_add_21 : decode cX5_add 21 = .ok (.iload_n 1, 1) := by decide +kernel
theorem dX5_add_22 : decode cX5_add 22 = .ok (.iastore, 1) := by decide +kernel
theorem dX5_add_23 : decode cX5_add 23 = .ok (.aload_n 0, 1) := by decide +kernel
theorem dX5_add_24 : decode cX5_add 24 = .ok (.getfield 15, 3) := by decide +kernel
theorem dX5_add_27 : decode cX5_add 27 = .ok (.iload 4, 2) := by decide +kernel
theorem dX5_add_29 : decode cX5_add 29 = .ok (.iload_n 2, 1) := by decide +kernel
theorem dX5_add_30 : decode cX5_add 30 = .ok (.iastore, 1) := by decide +kernel
theorem dX5_add_31 : decode cX5_add 31 = .ok (.aload_n 0, 1) := by decide +kernel
theorem dX5_add_32 : decode cX5_add 32 = .ok (.getfield 20, 3) := by decide +kernel
theorem dX5_add_35 : decode cX5_add 35 = .ok (.iload 4, 2) := by decide +kernel
theorem dX5_add_37 : decode cX5_add 37 = .ok (.aaload, 1) := by decide +kernel
theorem dX5_add_38 : decode cX5_add 38 = .ok (.aload_n 3, 1) := by decide +kernel
theorem dX5_add_39 : decode cX5_add 39 = .ok (.invokevirtual 35, 3) := by decide +kernel
theorem dX5_add_42 : decode cX5_add 42 = .ok (.aload_n 0, 1) := by decide +kernel
theorem dX5_add_43 : decode cX5_add 43 = .ok (.dup, 1) := by decide +kernel
theorem dX5_add_44 : decode cX5_add 44 = .ok (.getfield 24, 3) := by decide +kernel
theorem dX5_add_47 : decode cX5_add 47 = .ok (.iconst 1, 1) := by decide +kernel
theorem dX5_add_48 : decode cX5_add 48 = .ok (.iadd, 1) := by decide +kernel
theorem dX5_add_49 : decode cX5_add 49 = .ok (.putfield 24, 3) := by decide +kernel
theorem dX5_add_52 : decode cX5_add 52 = .ok (.iload 4, 2) := by decide +kernel
theorem dX5_add_54 : decode cX5_add 54 = .ok (.ireturn, 1) := by decide +kernel
theorem dX5_scopeOf_0 : decode cX5_scopeOf 0 = .ok (.aload_n 0, 1) := by decide +kernel
theorem dX5_scopeOf_1 : decode cX5_scopeOf 1 = .ok (.iload_n 1, 1) := by decide +kernel
theorem dX5_scopeOf_2 : decode cX5_scopeOf 2 = .ok (.invokevirtual 39, 3) := by decide +kernel
theorem dX5_scopeOf_5 : decode cX5_scopeOf 5 = .ok (.ifCond .eq 12, 3) := by decide +kernel
theorem dX5_scopeOf_8 : decode cX5_scopeOf 8 = .ok (.aload_n 0, 1) := by decide +kernel
theorem dX5_scopeOf_9 : decode cX5_scopeOf 9 = .ok (.getfield 9, 3) := by decide +kernel
theorem dX5_scopeOf_12 : decode cX5_scopeOf 12 = .ok (.iload_n 1, 1) := by decide +kernel
theorem dX5_scopeOf_13 : decode cX5_scopeOf 13 = .ok (.iaload, 1) := by decide +kernel
theorem dX5_scopeOf_14 : decode cX5_scopeOf 14 = .ok (.goto 4, 3) := by decide +kernel
theorem dX5_scopeOf_17 : decode cX5_scopeOf 17 = .ok (.iconst (-1), 1) := by decide +kernel
theorem dX5_scopeOf_18 : decode cX5_scopeOf 18 = .ok (.ireturn, 1) := by decide +kernel
theorem dX5_kindOf_0 : decode cX5_kindOf 0 = .ok (.aload_n 0, 1) := by decide +kernel
theorem dX5_kindOf_1 : decode cX5_kindOf 1 = .ok (.iload_n 1, 1) := by decide +kernel
theorem dX5_kindOf_2 : decode cX5_kindOf 2 = .ok (.invokevirtual 39, 3) := by decide +kernel
theorem dX5_kindOf_5 : decode cX5_kindOf 5 = .ok (.ifCond .eq 12, 3) := by decide +kernel
theorem dX5_kindOf_8 : decode cX5_kindOf 8 = .ok (.aload_n 0, 1) := by decide +kernel
theorem dX5_kindOf_9 : decode cX5_kindOf 9 = .ok (.getfield 15, 3) := by decide +kernel
theorem dX5_kindOf_12 : decode cX5_kindOf 12 = .ok (.iload_n 1, 1) := by decide +kernel
theorem dX5_kindOf_13 : decode cX5_kindOf 13 = .ok (.iaload, 1) := by decide +kernel
theorem dX5_kindOf_14 : decode cX5_kindOf 14 = .ok (.goto 4, 3) := by decide +kernel
theorem dX5_kindOf_17 : decode cX5_kindOf 17 = .ok (.iconst (-1), 1) := by decide +kernel
theorem dX5_kindOf_18 : decode cX5_kindOf 18 = .ok (.ireturn, 1) := by decide +kernel
theorem dX5_nameOf_0 : decode cX5_nameOf 0 = .ok (.aload_n 0, 1) := by decide +kernel
theorem dX5_nameOf_1 : decode cX5_nameOf 1 = .ok (.getfield 20, 3) := by decide +kernel
theorem dX5_nameOf_4 : decode cX5_nameOf 4 = .ok (.aload_n 0, 1) := by decide +kernel
theorem dX5_nameOf_5 : decode cX5_nameOf 5 = .ok (.iload_n 1, 1) := by decide +kernel
theorem dX5_nameOf_6 : decode cX5_nameOf 6 = .ok (.invokevirtual 39, 3) := by decide +kernel
theorem dX5_nameOf_9 : decode cX5_nameOf 9 = .ok (.ifCond .eq 7, 3) := by decide +kernel
theorem dX5_nameOf_12 : decode cX5_nameOf 12 = .ok (.iload_n 1, 1) := by decide +kernel
theorem dX5_nameOf_13 : decode cX5_nameOf 13 = .ok (.goto 4, 3) := by decide +kernel
theorem dX5_nameOf_16 : decode cX5_nameOf 16 = .ok (.iconst 0, 1) := by decide +kernel
theorem dX5_nameOf_17 : decode cX5_nameOf 17 = .ok (.aaload, 1) := by decide +kernel
theorem dX5_nameOf_18 : decode cX5_nameOf 18 = .ok (.areturn, 1) := by decide +kernel
theorem dX6_init_0 : decode cX6_init 0 = .ok (.aload_n 0, 1) := by decide +kernel
theorem dX6_init_1 : decode cX6_init 1 = .ok (.invokespecial 3, 3) := by decide +kernel
theorem dX6_init_4 : decode cX6_init 4 = .ok (.aload_n 0, 1) := by decide +kernel
theorem dX6_init_5 : decode cX6_init 5 = .ok (.sipush 150, 3) := by decide +kernel
theorem dX6_init_8 : decode cX6_init 8 = .ok (.newarray .int, 2) := by decide +kernel
theorem dX6_init_10 : decode cX6_init 10 = .ok (.putfield 9, 3) := by decide +kernel
theorem dX6_init_13 : decode cX6_init 13 = .ok (.aload_n 0, 1) := by decide +kernel
theorem dX6_init_14 : decode cX6_init 14 = .ok (.sipush 150, 3) := by decide +kernel
theorem dX6_init_17 : decode cX6_init 17 = .ok (.newarray .int, 2) := by decide +kernel
theorem dX6_init_19 : decode cX6_init 19 = .ok (.putfield 15, 3) := by decide +kernel
theorem dX6_init_22 : decode cX6_init 22 = .ok (.aload_n 0, 1) := by decide +kernel
theorem dX6_init_23 : decode cX6_init 23 = .ok (.iconst 0, 1) := by decide +kernel
theorem dX6_init_24 : decode cX6_init 24 = .ok (.putfield 18, 3) := by decide +kernel
theorem dX6_init_27 : decode cX6_init 27 = .ok (.return_, 1) := by decide +kernel
theorem dX6_size_0 : decode cX6_size 0 = .ok (.aload_n 0, 1) := by decide +kernel
theorem dX6_size_1 : decode cX6_size 1 = .ok (.getfield 18, 3) := by decide +kernel
theorem dX6_size_4 : decode cX6_size 4 = .ok (.ireturn, 1) := by decide +kernel
theorem dX6_isFull_0 : decode cX6_isFull 0 = .ok (.aload_n 0, 1) := by decide +kernel
theorem dX6_isFull_1 : decode cX6_isFull 1 = .ok (.getfield 18, 3) := by decide +kernel
theorem dX6_isFull_4 : decode cX6_isFull 4 = .ok (.sipush 150, 3) := by decide +kernel
theorem dX6_isFull_7 : decode cX6_isFull 7 = .ok (.if_icmp .lt 7, 3) := by decide +kernel
theorem dX6_isFull_10 : decode cX6_isFull 10 = .ok (.iconst 1, 1) := by decide +kernel
theorem dX6_isFull_11 : decode cX6_isFull 11 = .ok (.goto 4, 3) := by decide +kernel
theorem dX6_isFull_14 : decode cX6_isFull 14 = .ok (.iconst 0, 1) := by decide +kernel
theorem dX6_isFull_15 : decode cX6_isFull 15 = .ok (.ireturn, 1) := by decide +kernel
theorem dX6_has_0 : decode cX6_has 0 = .ok (.iload_n 1, 1) := by decide +kernel
theorem dX6_has_1 : decode cX6_has 1 = .ok (.ifCond .lt 15, 3) := by decide +kernel
theorem dX6_has_4 : decode cX6_has 4 = .ok (.iload_n 1, 1) := by decide +kernel
theorem dX6_has_5 : decode cX6_has 5 = .ok (.aload_n 0, 1) := by decide +kernel
theorem dX6_has_6 : decode cX6_has 6 = .ok (.getfield 18, 3) := by decide +kernel
theorem dX6_has_9 : decode cX6_has 9 = .ok (.if_icmp .ge 7, 3) := by decide +kernel
theorem dX6_has_12 : decode cX6_has 12 = .ok (.iconst 1, 1) := by decide +kernel
theorem dX6_has_13 : decode cX6_has 13 = .ok (.goto 4, 3) := by decide +kernel
theorem dX6_has_16 : decode cX6_has 16 = .ok (.iconst 0, 1) := by decide +kernel
theorem dX6_has_17 : decode cX6_has 17 = .ok (.ireturn, 1) := by decide +kernel
theorem dX6_add_0 : decode cX6_add 0 = .ok (.aload_n 0, 1) := by decide +kernel
theorem dX6_add_1 : decode cX6_add 1 = .ok (.invokevirtual 22, 3) := by decide +kernel
theorem dX6_add_4 : decode cX6_add 4 = .ok (.ifCond .eq 5, 3) := by decide +kernel
theorem dX6_add_7 : decode cX6_add 7 = .ok (.iconst (-1), 1) := by decide +kernel
theorem dX6_add_8 : decode cX6_add 8 = .ok (.ireturn, 1) := by decide +kernel
theorem dX6_add_9 : decode cX6_add 9 = .ok (.aload_n 0, 1) := by decide +kernel
theorem dX6_add_10 : decode cX6_add 10 = .ok (.getfield 18, 3) := by decide +kernel
theorem dX6_add_13 : decode cX6_add 13 = .ok (.istore_n 3, 1) := by decide +kernel
theorem dX6_add_14 : decode cX6_add 14 = .ok (.aload_n 0, 1) := by decide +kernel
theorem dX6_add_15 : decode cX6_add 15 = .ok (.getfield 9, 3) := by decide +kernel
theorem dX6_add_18 : decode cX6_add 18 = .ok (.iload_n 3, 1) := by decide +kernel
theorem dX6_add_19 : decode cX6_add 19 = .ok (.iload_n 1, 1) := by decide +kernel
theorem dX6_add_20 : decode cX6_add 20 = .ok (.iastore, 1) := by decide +kernel
theorem dX6_add_21 : decode cX6_add 21 = .ok (.aload_n 0, 1) := by decide +kernel
theorem dX6_add_22 : decode cX6_add 22 = .ok (.getfield 15, 3) := by decide +kernel
theorem dX6_add_25 : decode cX6_add 25 = .ok (.iload_n 3, 1) := by decide +kernel
theorem dX6_add_26 : decode cX6_add 26 = .ok (.iload_n 2, 1) := by decide +kernel
theorem dX6_add_27 : decode cX6_add 27 = .ok (.iastore, 1) := by decide +kernel
theorem dX6_add_28 : decode cX6_add 28 = .ok (.aload_n 0, 1) := by decide +kernel
theorem dX6_add_29 : decode cX6_add 29 = .ok (.dup, 1) := by decide +kernel
theorem dX6_add_30 : decode cX6_add 30 = .ok (.getfield 18, 3) := by decide +kernel
theorem dX6_add_33 : decode cX6_add 33 = .ok (.iconst 1, 1) := by decide +kernel
theorem dX6_add_34 : decode cX6_add 34 = .ok (.iadd, 1) := by decide +kernel
theorem dX6_add_35 : decode cX6_add 35 = .ok (.putfield 18, 3) := by decide +kernel
theorem dX6_add_38 : decode cX6_add 38 = .ok (.iload_n 3, 1) := by decide +kernel
theorem dX6_add_39 : decode cX6_add 39 = .ok (.ireturn, 1) := by decide +kernel
theorem dX6_scopeOf_0 : decode cX6_scopeOf 0 = .ok (.aload_n 0, 1) := by decide +kernel
theorem dX6_scopeOf_1 : decode cX6_scopeOf 1 = .ok (.iload_n 1, 1) := by decide +kernel
theorem dX6_scopeOf_2 : decode cX6_scopeOf 2 = .ok (.invokevirtual 26, 3) := by decide +kernel
theorem dX6_scopeOf_5 : decode cX6_scopeOf 5 = .ok (.ifCond .eq 12, 3) := by decide +kernel
theorem dX6_scopeOf_8 : decode cX6_scopeOf 8 = .ok (.aload_n 0, 1) := by decide +kernel
theorem dX6_scopeOf_9 : decode cX6_scopeOf 9 = .ok (.getfield 9, 3) := by decide +kernel
theorem dX6_scopeOf_12 : decode cX6_scopeOf 12 = .ok (.iload_n 1, 1) := by decide +kernel
theorem dX6_scopeOf_13 : decode cX6_scopeOf 13 = .ok (.iaload, 1) := by decide +kernel
theorem dX6_scopeOf_14 : decode cX6_scopeOf 14 = .ok (.goto 4, 3) := by decide +kernel
theorem dX6_scopeOf_17 : decode cX6_scopeOf 17 = .ok (.iconst (-1), 1) := by decide +kernel
theorem dX6_scopeOf_18 : decode cX6_scopeOf 18 = .ok (.ireturn, 1) := by decide +kernel
theorem dX6_thingOf_0 : decode cX6_thingOf 0 = .ok (.aload_n 0, 1) := by decide +kernel
theorem dX6_thingOf_1 : decode cX6_thingOf 1 = .ok (.iload_n 1, 1) := by decide +kernel
theorem dX6_thingOf_2 : decode cX6_thingOf 2 = .ok (.invokevirtual 26, 3) := by decide +kernel
theorem dX6_thingOf_5 : decode cX6_thingOf 5 = .ok (.ifCond .eq 12, 3) := by decide +kernel
theorem dX6_thingOf_8 : decode cX6_thingOf 8 = .ok (.aload_n 0, 1) := by decide +kernel
theorem dX6_thingOf_9 : decode cX6_thingOf 9 = .ok (.getfield 15, 3) := by decide +kernel
theorem dX6_thingOf_12 : decode cX6_thingOf 12 = .ok (.iload_n 1, 1) := by decide +kernel
theorem dX6_thingOf_13 : decode cX6_thingOf 13 = .ok (.iaload, 1) := by decide +kernel
theorem dX6_thingOf_14 : decode cX6_thingOf 14 = .ok (.goto 4, 3) := by decide +kernel
theorem dX6_thingOf_17 : decode cX6_thingOf 17 = .ok (.iconst (-1), 1) := by decide +kernel
theorem dX6_thingOf_18 : decode cX6_thingOf 18 = .ok (.ireturn, 1) := by decide +kernel
theorem dX6_howManyMean_0 : decode cX6_howManyMean 0 = .ok (.iconst 0, 1) := by decide +kernel
theorem dX6_howManyMean_1 : decode cX6_howManyMean 1 = .ok (.istore_n 2, 1) := by decide +kernel
theorem dX6_howManyMean_2 : decode cX6_howManyMean 2 = .ok (.iconst 0, 1) := by decide +kernel
theorem dX6_howManyMean_3 : decode cX6_howManyMean 3 = .ok (.istore_n 3, 1) := by decide +kernel
theorem dX6_howManyMean_4 : decode cX6_howManyMean 4 = .ok (.iload_n 3, 1) := by decide +kernel
theorem dX6_howManyMean_5 : decode cX6_howManyMean 5 = .ok (.aload_n 0, 1) := by decide +kernel
theorem dX6_howManyMean_6 : decode cX6_howManyMean 6 = .ok (.getfield 18, 3) := by decide +kernel
theorem dX6_howManyMean_9 : decode cX6_howManyMean 9 = .ok (.if_icmp .ge 22, 3) := by decide +kernel
theorem dX6_howManyMean_12 : decode cX6_howManyMean 12 = .ok (.aload_n 0, 1) := by decide +kernel
theorem dX6_howManyMean_13 : decode cX6_howManyMean 13 = .ok (.getfield 15, 3) := by decide +kernel
theorem dX6_howManyMean_16 : decode cX6_howManyMean 16 = .ok (.iload_n 3, 1) := by decide +kernel
theorem dX6_howManyMean_17 : decode cX6_howManyMean 17 = .ok (.iaload, 1) := by decide +kernel
theorem dX6_howManyMean_18 : decode cX6_howManyMean 18 = .ok (.iload_n 1, 1) := by decide +kernel
theorem dX6_howManyMean_19 : decode cX6_howManyMean 19 = .ok (.if_icmp .ne 6, 3) := by decide +kernel
theorem dX6_howManyMean_22 : decode cX6_howManyMean 22 = .ok (.iinc 2 1, 3) := by decide +kernel
theorem dX6_howManyMean_25 : decode cX6_howManyMean 25 = .ok (.iinc 3 1, 3) := by decide +kernel
theorem dX6_howManyMean_28 : decode cX6_howManyMean 28 = .ok (.goto (-24), 3) := by decide +kernel
theorem dX6_howManyMean_31 : decode cX6_howManyMean 31 = .ok (.iload_n 2, 1) := by decide +kernel
theorem dX6_howManyMean_32 : decode cX6_howManyMean 32 = .ok (.ireturn, 1) := by decide +kernel
theorem dJ9_min_7cf53_0 : decode cJ9_min_7cf53 0 = .ok (.iload_n 0, 1) := by decide +kernel
theorem dJ9_min_7cf53_1 : decode cJ9_min_7cf53 1 = .ok (.iload_n 1, 1) := by decide +kernel
theorem dJ9_min_7cf53_2 : decode cJ9_min_7cf53 2 = .ok (.if_icmp .gt 7, 3) := by decide +kernel
theorem dJ9_min_7cf53_5 : decode cJ9_min_7cf53 5 = .ok (.iload_n 0, 1) := by decide +kernel
theorem dJ9_min_7cf53_6 : decode cJ9_min_7cf53 6 = .ok (.goto 4, 3) := by decide +kernel
theorem dJ9_min_7cf53_9 : decode cJ9_min_7cf53 9 = .ok (.iload_n 1, 1) := by decide +kernel
theorem dJ9_min_7cf53_10 : decode cJ9_min_7cf53 10 = .ok (.ireturn, 1) := by decide +kernel
