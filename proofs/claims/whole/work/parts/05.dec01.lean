theorem dX0_init_0 : decode cX0_init 0 = .ok (.aload_n 0, 1) := by decide +kernel
theorem dX0_init_1 : decode cX0_init 1 = .ok (.invokespecial 3, 3) := by decide +kernel
theorem dX0_init_4 : decode cX0_init 4 = .ok (.aload_n 0, 1) := by decide +kernel
theorem dX0_init_5 : decode cX0_init 5 = .ok (.iload_n 1, 1) := by decide +kernel
theorem dX0_init_6 : decode cX0_init 6 = .ok (.newarray .long, 2) := by decide +kernel
theorem dX0_init_8 : decode cX0_init 8 = .ok (.putfield 9, 3) := by decide +kernel
theorem dX0_init_11 : decode cX0_init 11 = .ok (.aload_n 0, 1) := by decide +kernel
theorem dX0_init_12 : decode cX0_init 12 = .ok (.bipush 6, 2) := by decide +kernel
theorem dX0_init_14 : decode cX0_init 14 = .ok (.putfield 15, 3) := by decide +kernel
theorem dX0_init_17 : decode cX0_init 17 = .ok (.aload_n 0, 1) := by decide +kernel
theorem dX0_init_18 : decode cX0_init 18 = .ok (.iconst 0, 1) := by decide +kernel
theorem dX0_init_19 : decode cX0_init 19 = .ok (.putfield 19, 3) := by decide +kernel
theorem dX0_init_22 : decode cX0_init 22 = .ok (.return_, 1) := by decide +kernel
theorem dX0_become_0 : decode cX0_become 0 = .ok (.aload_n 0, 1) := by decide +kernel
theorem dX0_become_1 : decode cX0_become 1 = .ok (.iload_n 1, 1) := by decide +kernel
theorem dX0_become_2 : decode cX0_become 2 = .ok (.putfield 15, 3) := by decide +kernel
theorem dX0_become_5 : decode cX0_become 5 = .ok (.aload_n 0, 1) := by decide +kernel
theorem dX0_become_6 : decode cX0_become 6 = .ok (.iload_n 2, 1) := by decide +kernel
theorem dX0_become_7 : decode cX0_become 7 = .ok (.putfield 19, 3) := by decide +kernel
theorem dX0_become_10 : decode cX0_become 10 = .ok (.aload_n 0, 1) := by decide +kernel
theorem dX0_become_11 : decode cX0_become 11 = .ok (.iconst 0, 1) := by decide +kernel
theorem dX0_become_12 : decode cX0_become 12 = .ok (.iload_n 2, 1) := by decide +kernel
theorem dX0_become_13 : decode cX0_become 13 = .ok (.invokevirtual 22, 3) := by decide +kernel
theorem dX0_become_16 : decode cX0_become 16 = .ok (.return_, 1) := by decide +kernel
theorem dX0_isNothing_0 : decode cX0_isNothing 0 = .ok (.aload_n 0, 1) := by decide +kernel
theorem dX0_isNothing_1 : decode cX0_isNothing 1 = .ok (.getfield 15, 3) := by decide +kernel
theorem dX0_isNothing_4 : decode cX0_isNothing 4 = .ok (.bipush 6, 2) := by decide +kernel
theorem dX0_isNothing_6 : decode cX0_isNothing 6 = .ok (.if_icmp .ne 7, 3) := by decide +kernel
theorem dX0_isNothing_9 : decode cX0_isNothing 9 = .ok (.iconst 1, 1) := by decide +kernel
theorem dX0_isNothing_10 : decode cX0_isNothing 10 = .ok (.goto 4, 3) := by decide +kernel
theorem dX0_isNothing_13 : decode cX0_isNothing 13 = .ok (.iconst 0, 1) := by decide +kernel
theorem dX0_isNothing_14 : decode cX0_isNothing 14 = .ok (.ireturn, 1) := by decide +kernel
theorem dX0_isRow_0 : decode cX0_isRow 0 = .ok (.aload_n 0, 1) := by decide +kernel
theorem dX0_isRow_1 : decode cX0_isRow 1 = .ok (.getfield 15, 3) := by decide +kernel
theorem dX0_isRow_4 : decode cX0_isRow 4 = .ok (.iconst 4, 1) := by decide +kernel
theorem dX0_isRow_5 : decode cX0_isRow 5 = .ok (.if_icmp .gt 7, 3) := by decide +kernel
theorem dX0_isRow_8 : decode cX0_isRow 8 = .ok (.iconst 1, 1) := by decide +kernel
theorem dX0_isRow_9 : decode cX0_isRow 9 = .ok (.goto 4, 3) := by decide +kernel
theorem dX0_isRow_12 : decode cX0_isRow 12 = .ok (.iconst 0, 1) := by decide +kernel
theorem dX0_isRow_13 : decode cX0_isRow 13 = .ok (.ireturn, 1) := by decide +kernel
theorem dX0_isRoster_0 : decode cX0_isRoster 0 = .ok (.aload_n 0, 1) := by decide +kernel
theorem dX0_isRoster_1 : decode cX0_isRoster 1 = .ok (.getfield 15, 3) := by decide +kernel
theorem dX0_isRoster_4 : decode cX0_isRoster 4 = .ok (.iconst 2, 1) := by decide +kernel
theorem dX0_isRoster_5 : decode cX0_isRoster 5 = .ok (.if_icmp .gt 7, 3) := by decide +kernel
theorem dX0_isRoster_8 : decode cX0_isRoster 8 = .ok (.iconst 1, 1) := by decide +kernel
theorem dX0_isRoster_9 : decode cX0_isRoster 9 = .ok (.goto 4, 3) := by decide +kernel
theorem dX0_isRoster_12 : decode cX0_isRoster 12 = .ok (.iconst 0, 1) := by decide +kernel
theorem dX0_isRoster_13 : decode cX0_isRoster 13 = .ok (.ireturn, 1) := by decide +kernel
theorem dX0_family_0 : decode cX0_family 0 = .ok (.aload_n 0, 1) := by decide +kernel
theorem dX0_family_1 : decode cX0_family 1 = .ok (.invokevirtual 26, 3) := by decide +kernel
theorem dX0_family_4 : decode cX0_family 4 = .ok (.ifCond .eq 7, 3) := by decide +kernel
theorem dX0_family_7 : decode cX0_family 7 = .ok (.iconst 0, 1) := by decide +kernel
theorem dX0_family_8 : decode cX0_family 8 = .ok (.goto 7, 3) := by decide +kernel
theorem dX0_family_11 : decode cX0_family 11 = .ok (.aload_n 0, 1) := by decide +kernel
theorem dX0_family_12 : decode cX0_family 12 = .ok (.getfield 15, 3) := by decide +kernel
theorem dX0_family_15 : decode cX0_family 15 = .ok (.ireturn, 1) := by decide +kernel
theorem dX0_hasPlace_0 : decode cX0_hasPlace 0 = .ok (.iload_n 1, 1) := by decide +kernel
theorem dX0_hasPlace_1 : decode cX0_hasPlace 1 = .ok (.ifCond .lt 15, 3) := by decide +kernel
theorem dX0_hasPlace_4 : decode cX0_hasPlace 4 = .ok (.iload_n 1, 1) := by decide +kernel
theorem dX0_hasPlace_5 : decode cX0_hasPlace 5 = .ok (.aload_n 0, 1) := by decide +kernel
theorem dX0_hasPlace_6 : decode cX0_hasPlace 6 = .ok (.getfield 19, 3) := by decide +kernel
theorem dX0_hasPlace_9 : decode cX0_hasPlace 9 = .ok (.if_icmp .ge 7, 3) := by decide +kernel
theorem dX0_hasPlace_12 : decode cX0_hasPlace 12 = .ok (.iconst 1, 1) := by decide +kernel
theorem dX0_hasPlace_13 : decode cX0_hasPlace 13 = .ok (.goto 4, 3) := by decide +kernel
theorem dX0_hasPlace_16 : decode cX0_hasPlace 16 = .ok (.iconst 0, 1) := by decide +kernel
theorem dX0_hasPlace_17 : decode cX0_hasPlace 17 = .ok (.ireturn, 1) := by decide +kernel
theorem dX0_hasSpan_0 : decode cX0_hasSpan 0 = .ok (.iload_n 1, 1) := by decide +kernel
theorem dX0_hasSpan_1 : decode cX0_hasSpan 1 = .ok (.ifCond .lt 25, 3) := by decide +kernel
theorem dX0_hasSpan_4 : decode cX0_hasSpan 4 = .ok (.iload_n 2, 1) := by decide +kernel
theorem dX0_hasSpan_5 : decode cX0_hasSpan 5 = .ok (.ifCond .lt 21, 3) := by decide +kernel
theorem dX0_hasSpan_8 : decode cX0_hasSpan 8 = .ok (.iload_n 1, 1) := by decide +kernel
theorem dX0_hasSpan_9 : decode cX0_hasSpan 9 = .ok (.i2l, 1) := by decide +kernel
theorem dX0_hasSpan_10 : decode cX0_hasSpan 10 = .ok (.iload_n 2, 1) := by decide +kernel
theorem dX0_hasSpan_11 : decode cX0_hasSpan 11 = .ok (.i2l, 1) := by decide +kernel
theorem dX0_hasSpan_12 : decode cX0_hasSpan 12 = .ok (.ladd, 1) := by decide +kernel
theorem dX0_hasSpan_13 : decode cX0_hasSpan 13 = .ok (.aload_n 0, 1) := by decide +kernel
theorem dX0_hasSpan_14 : decode cX0_hasSpan 14 = .ok (.getfield 19, 3) := by decide +kernel
theorem dX0_hasSpan_17 : decode cX0_hasSpan 17 = .ok (.i2l, 1) := by decide +kernel
theorem dX0_hasSpan_18 : decode cX0_hasSpan 18 = .ok (.lcmp, 1) := by decide +kernel
theorem dX0_hasSpan_19 : decode cX0_hasSpan 19 = .ok (.ifCond .gt 7, 3) := by decide +kernel
theorem dX0_hasSpan_22 : decode cX0_hasSpan 22 = .ok (.iconst 1, 1) := by decide +kernel
theorem dX0_hasSpan_23 : decode cX0_hasSpan 23 = .ok (.goto 4, 3) := by decide +kernel
theorem dX0_hasSpan_26 : decode cX0_hasSpan 26 = .ok (.iconst 0, 1) := by decide +kernel
theorem dX0_hasSpan_27 : decode cX0_hasSpan 27 = .ok (.ireturn, 1) := by decide +kernel
theorem dX0_blank_0 : decode cX0_blank 0 = .ok (.aload_n 0, 1) := by decide +kernel
theorem dX0_blank_1 : decode cX0_blank 1 = .ok (.invokevirtual 26, 3) := by decide +kernel
theorem dX0_blank_4 : decode cX0_blank 4 = .ok (.ifCond .eq 9, 3) := by decide +kernel
theorem dX0_blank_7 : decode cX0_blank 7 = .ok (.ldc2_w 30, 3) := by decide +kernel
theorem dX0_blank_10 : decode cX0_blank 10 = .ok (.goto 4, 3) := by decide +kernel
theorem dX0_blank_13 : decode cX0_blank 13 = .ok (.lconst 0, 1) := by decide +kernel
theorem dX0_blank_14 : decode cX0_blank 14 = .ok (.lstore_n 3, 1) := by decide +kernel
theorem dX0_blank_15 : decode cX0_blank 15 = .ok (.iload_n 1, 1) := by decide +kernel
theorem dX0_blank_16 : decode cX0_blank 16 = .ok (.istore 5, 2) := by decide +kernel
theorem dX0_blank_18 : decode cX0_blank 18 = .ok (.iload 5, 2) := by decide +kernel
theorem dX0_blank_20 : decode cX0_blank 20 = .ok (.iload_n 2, 1) := by decide +kernel
theorem dX0_blank_21 : decode cX0_blank 21 = .ok (.if_icmp .ge 17, 3) := by decide +kernel
theorem dX0_blank_24 : decode cX0_blank 24 = .ok (.aload_n 0, 1) := by decide +kernel
theorem dX0_blank_25 : decode cX0_blank 25 = .ok (.getfield 9, 3) := by decide +kernel
theorem dX0_blank_28 : decode cX0_blank 28 = .ok (.iload 5, 2) := by decide +kernel
theorem dX0_blank_30 : decode cX0_blank 30 = .ok (.lload_n 3, 1) := by decide +kernel
theorem dX0_blank_31 : decode cX0_blank 31 = .ok (.lastore, 1) := by decide +kernel
theorem dX0_blank_32 : decode cX0_blank 32 = .ok (.iinc 5 1, 3) := by decide +kernel
theorem dX0_blank_35 : decode cX0_blank 35 = .ok (.goto (-17), 3) := by decide +kernel
theorem dX0_blank_38 : decode cX0_blank 38 = .ok (.return_, 1) := by decide +kernel
theorem dX1_init_0 : decode cX1_init 0 = .ok (.aload_n 0, 1) := by decide +kernel
theorem dX1_init_1 : decode cX1_init 1 = .ok (.invokespecial 1, 3) := by decide +kernel
theorem dX1_init_4 : decode cX1_init 4 = .ok (.aload_n 0, 1) := by decide +kernel
theorem dX1_init_5 : decode cX1_init 5 = .ok (.new 7, 3) := by decide +kernel
theorem dX1_init_8 : decode cX1_init 8 = .ok (.dup, 1) := by decide +kernel
theorem dX1_init_9 : decode cX1_init 9 = .ok (.iconst 0, 1) := by decide +kernel
theorem dX1_init_10 : decode cX1_init 10 = .ok (.invokespecial 9, 3) := by decide +kernel
theorem dX1_init_13 : decode cX1_init 13 = .ok (.putfield 12, 3) := by decide +kernel
theorem dX1_init_16 : decode cX1_init 16 = .ok (.aload_n 0, 1) := by decide +kernel
theorem dX1_init_17 : decode cX1_init 17 = .ok (.bipush 8, 2) := by decide +kernel
theorem dX1_init_19 : decode cX1_init 19 = .ok (.anewarray 7, 3) := by decide +kernel
theorem dX1_init_22 : decode cX1_init 22 = .ok (.putfield 18, 3) := by decide +kernel
theorem dX1_init_25 : decode cX1_init 25 = .ok (.iconst 0, 1) := by decide +kernel
theorem dX1_init_26 : decode cX1_init 26 = .ok (.istore_n 1, 1) := by decide +kernel
theorem dX1_init_27 : decode cX1_init 27 = .ok (.iload_n 1, 1) := by decide +kernel
theorem dX1_init_28 : decode cX1_init 28 = .ok (.bipush 8, 2) := by decide +kernel
theorem dX1_init_30 : decode cX1_init 30 = .ok (.if_icmp .ge 19, 3) := by decide +kernel
theorem dX1_init_33 : decode cX1_init 33 = .ok (.aload_n 0, 1) := by decide +kernel
theorem dX1_init_34 : decode cX1_init 34 = .ok (.getfield 18, 3) := by decide +kernel
theorem dX1_init_37 : decode cX1_init 37 = .ok (.iload_n 1, 1) := by decide +kernel
theorem dX1_init_38 : decode cX1_init 38 = .ok (.aload_n 0, 1) := by decide +kernel
theorem dX1_init_39 : decode cX1_init 39 = .ok (.getfield 12, 3) := by decide +kernel
theorem dX1_init_42 : decode cX1_init 42 = .ok (.aastore, 1) := by decide +kernel
theorem dX1_init_43 : decode cX1_init 43 = .ok (.iinc 1 1, 3) := by decide +kernel
theorem dX1_init_46 : decode cX1_init 46 = .ok (.goto (-19), 3) := by decide +kernel
theorem dX1_init_49 : decode cX1_init 49 = .ok (.aload_n 0, 1) := by decide +kernel
theorem dX1_init_50 : decode cX1_init 50 = .ok (.bipush 9, 2) := by decide +kernel
theorem dX1_init_52 : decode cX1_init 52 = .ok (.anewarray 7, 3) := by decide +kernel
theorem dX1_init_55 : decode cX1_init 55 = .ok (.putfield 22, 3) := by decide +kernel
theorem dX1_init_58 : decode cX1_init 58 = .ok (.iconst 0, 1) := by decide +kernel
theorem dX1_init_59 : decode cX1_init 59 = .ok (.istore_n 1, 1) := by decide +kernel
theorem dX1_init_60 : decode cX1_init 60 = .ok (.iload_n 1, 1) := by decide +kernel
theorem dX1_init_61 : decode cX1_init 61 = .ok (.bipush 8, 2) := by decide +kernel
theorem dX1_init_63 : decode cX1_init 63 = .ok (.if_icmp .gt 24, 3) := by decide +kernel
theorem dX1_init_66 : decode cX1_init 66 = .ok (.aload_n 0, 1) := by decide +kernel
theorem dX1_init_67 : decode cX1_init 67 = .ok (.getfield 22, 3) := by decide +kernel
theorem dX1_init_70 : decode cX1_init 70 = .ok (.iload_n 1, 1) := by decide +kernel
theorem dX1_init_71 : decode cX1_init 71 = .ok (.new 7, 3) := by decide +kernel
theorem dX1_init_74 : decode cX1_init 74 = .ok (.dup, 1) := by decide +kernel
theorem dX1_init_75 : decode cX1_init 75 = .ok (.bipush 40, 2) := by decide +kernel
theorem dX1_init_77 : decode cX1_init 77 = .ok (.invokespecial 9, 3) := by decide +kernel
theorem dX1_init_80 : decode cX1_init 80 = .ok (.aastore, 1) := by decide +kernel
theorem dX1_init_81 : decode cX1_init 81 = .ok (.iinc 1 1, 3) := by decide +kernel
theorem dX1_init_84 : decode cX1_init 84 = .ok (.goto (-24), 3) := by decide +kernel
theorem dX1_init_87 : decode cX1_init 87 = .ok (.aload_n 0, 1) := by decide +kernel
theorem dX1_init_88 : decode cX1_init 88 = .ok (.bipush 40, 2) := by decide +kernel
theorem dX1_init_90 : decode cX1_init 90 = .ok (.newarray .long, 2) := by decide +kernel
theorem dX1_init_92 : decode cX1_init 92 = .ok (.putfield 25, 3) := by decide +kernel
theorem dX1_init_95 : decode cX1_init 95 = .ok (.aload_n 0, 1) := by decide +kernel
theorem dX1_init_96 : decode cX1_init 96 = .ok (.bipush 60, 2) := by decide +kernel
theorem dX1_init_98 : decode cX1_init 98 = .ok (.newarray .int, 2) := by decide +kernel
theorem dX1_init_100 : decode cX1_init 100 = .ok (.putfield 29, 3) := by decide +kernel
theorem dX1_init_103 : decode cX1_init 103 = .ok (.aload_n 0, 1) := by decide +kernel
theorem dX1_init_104 : decode cX1_init 104 = .ok (.bipush 60, 2) := by decide +kernel
theorem dX1_init_106 : decode cX1_init 106 = .ok (.newarray .long, 2) := by decide +kernel
theorem dX1_init_108 : decode cX1_init 108 = .ok (.putfield 33, 3) := by decide +kernel
theorem dX1_init_111 : decode cX1_init 111 = .ok (.aload_n 0, 1) := by decide +kernel
theorem dX1_init_112 : decode cX1_init 112 = .ok (.iconst 0, 1) := by decide +kernel
theorem dX1_init_113 : decode cX1_init 113 = .ok (.putfield 36, 3) := by decide +kernel
theorem dX1_init_116 : decode cX1_init 116 = .ok (.return_, 1) := by decide +kernel
theorem dX1_hang_0 : decode cX1_hang 0 = .ok (.iload_n 1, 1) := by decide +kernel
theorem dX1_hang_1 : decode cX1_hang 1 = .ok (.invokestatic 40, 3) := by decide +kernel
theorem dX1_hang_4 : decode cX1_hang 4 = .ok (.iload_n 2, 1) := by decide +kernel
theorem dX1_hang_5 : decode cX1_hang 5 = .ok (.invokestatic 43, 3) := by decide +kernel
theorem dX1_hang_8 : decode cX1_hang 8 = .ok (.iload_n 3, 1) := by decide +kernel
theorem dX1_hang_9 : decode cX1_hang 9 = .ok (.bipush 40, 2) := by decide +kernel
theorem dX1_hang_11 : decode cX1_hang 11 = .ok (.if_icmp .le 13, 3) := by decide +kernel
theorem dX1_hang_14 : decode cX1_hang 14 = .ok (.new 46, 3) := by decide +kernel
theorem dX1_hang_17 : decode cX1_hang 17 = .ok (.dup, 1) := by decide +kernel
theorem dX1_hang_18 : decode cX1_hang 18 = .ok (.ldc 48, 2) := by decide +kernel
theorem dX1_hang_20 : decode cX1_hang 20 = .ok (.invokespecial 50, 3) := by decide +kernel
theorem dX1_hang_23 : decode cX1_hang 23 = .ok (.athrow, 1) := by decide +kernel
theorem dX1_hang_24 : decode cX1_hang 24 = .ok (.iload_n 2, 1) := by decide +kernel
theorem dX1_hang_25 : decode cX1_hang 25 = .ok (.bipush 6, 2) := by decide +kernel
theorem dX1_hang_27 : decode cX1_hang 27 = .ok (.if_icmp .ne 15, 3) := by decide +kernel
theorem dX1_hang_30 : decode cX1_hang 30 = .ok (.aload_n 0, 1) := by decide +kernel
theorem dX1_hang_31 : decode cX1_hang 31 = .ok (.getfield 18, 3) := by decide +kernel
theorem dX1_hang_34 : decode cX1_hang 34 = .ok (.iload_n 1, 1) := by decide +kernel
theorem dX1_hang_35 : decode cX1_hang 35 = .ok (.aload_n 0, 1) := by decide +kernel
theorem dX1_hang_36 : decode cX1_hang 36 = .ok (.getfield 12, 3) := by decide +kernel
theorem dX1_hang_39 : decode cX1_hang 39 = .ok (.aastore, 1) := by decide +kernel
theorem dX1_hang_40 : decode cX1_hang 40 = .ok (.iconst 0, 1) := by decide +kernel
theorem dX1_hang_41 : decode cX1_hang 41 = .ok (.ireturn, 1) := by decide +kernel
theorem dX1_hang_42 : decode cX1_hang 42 = .ok (.iload_n 2, 1) := by decide +kernel
theorem dX1_hang_43 : decode cX1_hang 43 = .ok (.iconst 4, 1) := by decide +kernel
theorem dX1_hang_44 : decode cX1_hang 44 = .ok (.if_icmp .gt 7, 3) := by decide +kernel
theorem dX1_hang_47 : decode cX1_hang 47 = .ok (.iconst 1, 1) := by decide +kernel
theorem dX1_hang_48 : decode cX1_hang 48 = .ok (.goto 4, 3) := by decide +kernel
theorem dX1_hang_51 : decode cX1_hang 51 = .ok (.iconst 0, 1) := by decide +kernel
theorem dX1_hang_52 : decode cX1_hang 52 = .ok (.istore 4, 2) := by decide +kernel
theorem dX1_hang_54 : decode cX1_hang 54 = .ok (.iload 4, 2) := by decide +kernel
theorem dX1_hang_56 : decode cX1_hang 56 = .ok (.ifCond .eq 9, 3) := by decide +kernel
theorem dX1_hang_59 : decode cX1_hang 59 = .ok (.iload_n 3, 1) := by decide +kernel
theorem dX1_hang_60 : decode cX1_hang 60 = .ok (.ifCond .ge 5, 3) := by decide +kernel
theorem dX1_hang_63 : decode cX1_hang 63 = .ok (.iconst 4, 1) := by decide +kernel
theorem dX1_hang_64 : decode cX1_hang 64 = .ok (.ireturn, 1) := by decide +kernel
theorem dX1_hang_65 : decode cX1_hang 65 = .ok (.aload_n 0, 1) := by decide +kernel
theorem dX1_hang_66 : decode cX1_hang 66 = .ok (.invokevirtual 53, 3) := by decide +kernel
theorem dX1_hang_69 : decode cX1_hang 69 = .ok (.astore 5, 2) := by decide +kernel
theorem dX1_hang_71 : decode cX1_hang 71 = .ok (.aload 5, 2) := by decide +kernel
theorem dX1_hang_73 : decode cX1_hang 73 = .ok (.iload_n 2, 1) := by decide +kernel
theorem dX1_hang_74 : decode cX1_hang 74 = .ok (.iload 4, 2) := by decide +kernel
theorem dX1_hang_76 : decode cX1_hang 76 = .ok (.ifCond .eq 7, 3) := by decide +kernel
theorem dX1_hang_79 : decode cX1_hang 79 = .ok (.iload_n 3, 1) := by decide +kernel
theorem dX1_hang_80 : decode cX1_hang 80 = .ok (.goto 4, 3) := by decide +kernel
theorem dX1_hang_83 : decode cX1_hang 83 = .ok (.iconst 0, 1) := by decide +kernel
theorem dX1_hang_84 : decode cX1_hang 84 = .ok (.invokevirtual 57, 3) := by decide +kernel
theorem dX1_hang_87 : decode cX1_hang 87 = .ok (.aload_n 0, 1) := by decide +kernel
theorem dX1_hang_88 : decode cX1_hang 88 = .ok (.getfield 18, 3) := by decide +kernel
theorem dX1_hang_91 : decode cX1_hang 91 = .ok (.iload_n 1, 1) := by decide +kernel
theorem dX1_hang_92 : decode cX1_hang 92 = .ok (.aload 5, 2) := by decide +kernel
theorem dX1_hang_94 : decode cX1_hang 94 = .ok (.aastore, 1) := by decide +kernel
theorem dX1_hang_95 : decode cX1_hang 95 = .ok (.iconst 0, 1) := by decide +kernel
theorem dX1_hang_96 : decode cX1_hang 96 = .ok (.ireturn, 1) := by decide +kernel
theorem dX1_share_0 : decode cX1_share 0 = .ok (.iload_n 1, 1) := by decide +kernel
theorem dX1_share_1 : decode cX1_share 1 = .ok (.invokestatic 40, 3) := by decide +kernel
theorem dX1_share_4 : decode cX1_share 4 = .ok (.iload_n 2, 1) := by decide +kernel
theorem dX1_share_5 : decode cX1_share 5 = .ok (.invokestatic 40, 3) := by decide +kernel
theorem dX1_share_8 : decode cX1_share 8 = .ok (.aload_n 0, 1) := by decide +kernel
theorem dX1_share_9 : decode cX1_share 9 = .ok (.getfield 18, 3) := by decide +kernel
theorem dX1_share_12 : decode cX1_share 12 = .ok (.iload_n 2, 1) := by decide +kernel
theorem dX1_share_13 : decode cX1_share 13 = .ok (.aload_n 0, 1) := by decide +kernel
theorem dX1_share_14 : decode cX1_share 14 = .ok (.getfield 18, 3) := by decide +kernel
theorem dX1_share_17 : decode cX1_share 17 = .ok (.iload_n 1, 1) := by decide +kernel
theorem dX1_share_18 : decode cX1_share 18 = .ok (.aaload, 1) := by decide +kernel
theorem dX1_share_19 : decode cX1_share 19 = .ok (.aastore, 1) := by decide +kernel
theorem dX1_share_20 : decode cX1_share 20 = .ok (.aload_n 0, 1) := by decide +kernel
theorem dX1_share_21 : decode cX1_share 21 = .ok (.getfield 18, 3) := by decide +kernel
theorem dX1_share_24 : decode cX1_share 24 = .ok (.iload_n 2, 1) := by decide +kernel
theorem dX1_share_25 : decode cX1_share 25 = .ok (.aaload, 1) := by decide +kernel
theorem dX1_share_26 : decode cX1_share 26 = .ok (.getfield 61, 3) := by decide +kernel
theorem dX1_share_29 : decode cX1_share 29 = .ok (.ireturn, 1) := by decide +kernel
theorem dX1_hire_0 : decode cX1_hire 0 = .ok (.iload_n 1, 1) := by decide +kernel
theorem dX1_hire_1 : decode cX1_hire 1 = .ok (.ifCond .lt 17, 3) := by decide +kernel
theorem dX1_hire_4 : decode cX1_hire 4 = .ok (.iload_n 1, 1) := by decide +kernel
theorem dX1_hire_5 : decode cX1_hire 5 = .ok (.iconst 2, 1) := by decide +kernel
theorem dX1_hire_6 : decode cX1_hire 6 = .ok (.if_icmp .gt 12, 3) := by decide +kernel
theorem dX1_hire_9 : decode cX1_hire 9 = .ok (.aload_n 0, 1) := by decide +kernel
theorem dX1_hire_10 : decode cX1_hire 10 = .ok (.getfield 36, 3) := by decide +kernel
theorem dX1_hire_13 : decode cX1_hire 13 = .ok (.bipush 60, 2) := by decide +kernel
theorem dX1_hire_15 : decode cX1_hire 15 = .ok (.if_icmp .lt 5, 3) := by decide +kernel
theorem dX1_hire_18 : decode cX1_hire 18 = .ok (.iconst (-1), 1) := by decide +kernel
theorem dX1_hire_19 : decode cX1_hire 19 = .ok (.ireturn, 1) := by decide +kernel
theorem dX1_hire_20 : decode cX1_hire 20 = .ok (.aload_n 0, 1) := by decide +kernel
theorem dX1_hire_21 : decode cX1_hire 21 = .ok (.getfield 36, 3) := by decide +kernel
theorem dX1_hire_24 : decode cX1_hire 24 = .ok (.istore_n 2, 1) := by decide +kernel
theorem dX1_hire_25 : decode cX1_hire 25 = .ok (.aload_n 0, 1) := by decide +kernel
theorem dX1_hire_26 : decode cX1_hire 26 = .ok (.getfield 29, 3) := by decide +kernel
theorem dX1_hire_29 : decode cX1_hire 29 = .ok (.iload_n 2, 1) := by decide +kernel
theorem dX1_hire_30 : decode cX1_hire 30 = .ok (.iload_n 1, 1) := by decide +kernel
theorem dX1_hire_31 : decode cX1_hire 31 = .ok (.iastore, 1) := by decide +kernel
theorem dX1_hire_32 : decode cX1_hire 32 = .ok (.aload_n 0, 1) := by decide +kernel
theorem dX1_hire_33 : decode cX1_hire 33 = .ok (.iload_n 2, 1) := by decide +kernel
theorem dX1_hire_34 : decode cX1_hire 34 = .ok (.iconst 1, 1) := by decide +kernel
theorem dX1_hire_35 : decode cX1_hire 35 = .ok (.iadd, 1) := by decide +kernel
theorem dX1_hire_36 : decode cX1_hire 36 = .ok (.putfield 36, 3) := by decide +kernel
theorem dX1_hire_39 : decode cX1_hire 39 = .ok (.iload_n 2, 1) := by decide +kernel
theorem dX1_hire_40 : decode cX1_hire 40 = .ok (.ireturn, 1) := by decide +kernel
theorem dX1_put_0 : decode cX1_put 0 = .ok (.iload_n 1, 1) := by decide +kernel
theorem dX1_put_1 : decode cX1_put 1 = .ok (.invokestatic 40, 3) := by decide +kernel
theorem dX1_put_4 : decode cX1_put 4 = .ok (.iload_n 3, 1) := by decide +kernel
theorem dX1_put_5 : decode cX1_put 5 = .ok (.iconst (-1), 1) := by decide +kernel
theorem dX1_put_6 : decode cX1_put 6 = .ok (.if_icmp .eq 8, 3) := by decide +kernel
theorem dX1_put_9 : decode cX1_put 9 = .ok (.aload_n 0, 1) := by decide +kernel
theorem dX1_put_10 : decode cX1_put 10 = .ok (.iload_n 3, 1) := by decide +kernel
theorem dX1_put_11 : decode cX1_put 11 = .ok (.invokevirtual 64, 3) := by decide +kernel
theorem dX1_put_14 : decode cX1_put 14 = .ok (.aload_n 0, 1) := by decide +kernel
theorem dX1_put_15 : decode cX1_put 15 = .ok (.getfield 18, 3) := by decide +kernel
theorem dX1_put_18 : decode cX1_put 18 = .ok (.iload_n 1, 1) := by decide +kernel
theorem dX1_put_19 : decode cX1_put 19 = .ok (.aaload, 1) := by decide +kernel
theorem dX1_put_20 : decode cX1_put 20 = .ok (.astore 4, 2) := by decide +kernel
theorem dX1_put_22 : decode cX1_put 22 = .ok (.aload 4, 2) := by decide +kernel
theorem dX1_put_24 : decode cX1_put 24 = .ok (.invokevirtual 67, 3) := by decide +kernel
theorem dX1_put_27 : decode cX1_put 27 = .ok (.ifCond .eq 5, 3) := by decide +kernel
theorem dX1_put_30 : decode cX1_put 30 = .ok (.iconst 1, 1) := by decide +kernel
theorem dX1_put_31 : decode cX1_put 31 = .ok (.ireturn, 1) := by decide +kernel
theorem dX1_put_32 : decode cX1_put 32 = .ok (.aload 4, 2) := by decide +kernel
theorem dX1_put_34 : decode cX1_put 34 = .ok (.invokevirtual 71, 3) := by decide +kernel
theorem dX1_put_37 : decode cX1_put 37 = .ok (.ifCond .ne 5, 3) := by decide +kernel
theorem dX1_put_40 : decode cX1_put 40 = .ok (.iconst 2, 1) := by decide +kernel
theorem dX1_put_41 : decode cX1_put 41 = .ok (.ireturn, 1) := by decide +kernel
theorem dX1_put_42 : decode cX1_put 42 = .ok (.aload 4, 2) := by decide +kernel
theorem dX1_put_44 : decode cX1_put 44 = .ok (.iload_n 2, 1) := by decide +kernel
theorem dX1_put_45 : decode cX1_put 45 = .ok (.invokevirtual 74, 3) := by decide +kernel
theorem dX1_put_48 : decode cX1_put 48 = .ok (.ifCond .ne 5, 3) := by decide +kernel
theorem dX1_put_51 : decode cX1_put 51 = .ok (.iconst 3, 1) := by decide +kernel
theorem dX1_put_52 : decode cX1_put 52 = .ok (.ireturn, 1) := by decide +kernel
theorem dX1_put_53 : decode cX1_put 53 = .ok (.aload_n 0, 1) := by decide +kernel
theorem dX1_put_54 : decode cX1_put 54 = .ok (.aload 4, 2) := by decide +kernel
theorem dX1_put_56 : decode cX1_put 56 = .ok (.iload_n 3, 1) := by decide +kernel
theorem dX1_put_57 : decode cX1_put 57 = .ok (.i2l, 1) := by decide +kernel
theorem dX1_put_58 : decode cX1_put 58 = .ok (.invokevirtual 78, 3) := by decide +kernel
theorem dX1_put_61 : decode cX1_put 61 = .ok (.ifCond .ne 5, 3) := by decide +kernel
theorem dX1_put_64 : decode cX1_put 64 = .ok (.iconst 2, 1) := by decide +kernel
theorem dX1_put_65 : decode cX1_put 65 = .ok (.ireturn, 1) := by decide +kernel
theorem dX1_put_66 : decode cX1_put 66 = .ok (.aload 4, 2) := by decide +kernel
theorem dX1_put_68 : decode cX1_put 68 = .ok (.getfield 82, 3) := by decide +kernel
theorem dX1_put_71 : decode cX1_put 71 = .ok (.iload_n 2, 1) := by decide +kernel
theorem dX1_put_72 : decode cX1_put 72 = .ok (.iload_n 3, 1) := by decide +kernel
theorem dX1_put_73 : decode cX1_put 73 = .ok (.i2l, 1) := by decide +kernel
theorem dX1_put_74 : decode cX1_put 74 = .ok (.lastore, 1) := by decide +kernel
theorem dX1_put_75 : decode cX1_put 75 = .ok (.iconst 0, 1) := by decide +kernel
theorem dX1_put_76 : decode cX1_put 76 = .ok (.ireturn, 1) := by decide +kernel
theorem dX1_note_0 : decode cX1_note 0 = .ok (.iload_n 1, 1) := by decide +kernel
theorem dX1_note_1 : decode cX1_note 1 = .ok (.invokestatic 40, 3) := by decide +kernel
theorem dX1_note_4 : decode cX1_note 4 = .ok (.aload_n 0, 1) := by decide +kernel
theorem dX1_note_5 : decode cX1_note 5 = .ok (.getfield 18, 3) := by decide +kernel
theorem dX1_note_8 : decode cX1_note 8 = .ok (.iload_n 1, 1) := by decide +kernel
theorem dX1_note_9 : decode cX1_note 9 = .ok (.aaload, 1) := by decide +kernel
theorem dX1_note_10 : decode cX1_note 10 = .ok (.astore 5, 2) := by decide +kernel
theorem dX1_note_12 : decode cX1_note 12 = .ok (.aload 5, 2) := by decide +kernel
theorem dX1_note_14 : decode cX1_note 14 = .ok (.invokevirtual 67, 3) := by decide +kernel
theorem dX1_note_17 : decode cX1_note 17 = .ok (.ifCond .eq 5, 3) := by decide +kernel
theorem dX1_note_20 : decode cX1_note 20 = .ok (.iconst 1, 1) := by decide +kernel
theorem dX1_note_21 : decode cX1_note 21 = .ok (.ireturn, 1) := by decide +kernel
theorem dX1_note_22 : decode cX1_note 22 = .ok (.aload 5, 2) := by decide +kernel
theorem dX1_note_24 : decode cX1_note 24 = .ok (.getfield 61, 3) := by decide +kernel
theorem dX1_note_27 : decode cX1_note 27 = .ok (.iconst 3, 1) := by decide +kernel
theorem dX1_note_28 : decode cX1_note 28 = .ok (.if_icmp .eq 14, 3) := by decide +kernel
theorem dX1_note_31 : decode cX1_note 31 = .ok (.aload 5, 2) := by decide +kernel
theorem dX1_note_33 : decode cX1_note 33 = .ok (.getfield 61, 3) := by decide +kernel
theorem dX1_note_36 : decode cX1_note 36 = .ok (.iconst 4, 1) := by decide +kernel
theorem dX1_note_37 : decode cX1_note 37 = .ok (.if_icmp .eq 5, 3) := by decide +kernel
theorem dX1_note_40 : decode cX1_note 40 = .ok (.iconst 2, 1) := by decide +kernel
theorem dX1_note_41 : decode cX1_note 41 = .ok (.ireturn, 1) := by decide +kernel
theorem dX1_note_42 : decode cX1_note 42 = .ok (.aload 5, 2) := by decide +kernel
theorem dX1_note_44 : decode cX1_note 44 = .ok (.iload_n 2, 1) := by decide +kernel
theorem dX1_note_45 : decode cX1_note 45 = .ok (.invokevirtual 74, 3) := by decide +kernel
theorem dX1_note_48 : decode cX1_note 48 = .ok (.ifCond .ne 5, 3) := by decide +kernel
theorem dX1_note_51 : decode cX1_note 51 = .ok (.iconst 3, 1) := by decide +kernel
theorem dX1_note_52 : decode cX1_note 52 = .ok (.ireturn, 1) := by decide +kernel
theorem dX1_note_53 : decode cX1_note 53 = .ok (.aload 5, 2) := by decide +kernel
theorem dX1_note_55 : decode cX1_note 55 = .ok (.getfield 82, 3) := by decide +kernel
theorem dX1_note_58 : decode cX1_note 58 = .ok (.iload_n 2, 1) := by decide +kernel
theorem dX1_note_59 : decode cX1_note 59 = .ok (.aload 5, 2) := by decide +kernel
theorem dX1_note_61 : decode cX1_note 61 = .ok (.getfield 61, 3) := by decide +kernel
theorem dX1_note_64 : decode cX1_note 64 = .ok (.iconst 3, 1) := by decide +kernel
theorem dX1_note_65 : decode cX1_note 65 = .ok (.if_icmp .ne 9, 3) := by decide +kernel
theorem dX1_note_68 : decode cX1_note 68 = .ok (.lload_n 3, 1) := by decide +kernel
theorem dX1_note_69 : decode cX1_note 69 = .ok (.l2i, 1) := by decide +kernel
theorem dX1_note_70 : decode cX1_note 70 = .ok (.i2l, 1) := by decide +kernel
theorem dX1_note_71 : decode cX1_note 71 = .ok (.goto 4, 3) := by decide +kernel
theorem dX1_note_74 : decode cX1_note 74 = .ok (.lload_n 3, 1) := by decide +kernel
theorem dX1_note_75 : decode cX1_note 75 = .ok (.lastore, 1) := by decide +kernel
theorem dX1_note_76 : decode cX1_note 76 = .ok (.iconst 0, 1) := by decide +kernel
theorem dX1_note_77 : decode cX1_note 77 = .ok (.ireturn, 1) := by decide +kernel
theorem dX1_copy_0 : decode cX1_copy 0 = .ok (.iload_n 1, 1) := by decide +kernel
theorem dX1_copy_1 : decode cX1_copy 1 = .ok (.invokestatic 40, 3) := by decide +kernel
theorem dX1_copy_4 : decode cX1_copy 4 = .ok (.iload_n 3, 1) := by decide +kernel
theorem dX1_copy_5 : decode cX1_copy 5 = .ok (.invokestatic 40, 3) := by decide +kernel
theorem dX1_copy_8 : decode cX1_copy 8 = .ok (.aload_n 0, 1) := by decide +kernel
theorem dX1_copy_9 : decode cX1_copy 9 = .ok (.aload_n 0, 1) := by decide +kernel
theorem dX1_copy_10 : decode cX1_copy 10 = .ok (.getfield 18, 3) := by decide +kernel
theorem dX1_copy_13 : decode cX1_copy 13 = .ok (.iload_n 1, 1) := by decide +kernel
theorem dX1_copy_14 : decode cX1_copy 14 = .ok (.aaload, 1) := by decide +kernel
theorem dX1_copy_15 : decode cX1_copy 15 = .ok (.iload_n 2, 1) := by decide +kernel
theorem dX1_copy_16 : decode cX1_copy 16 = .ok (.aload_n 0, 1) := by decide +kernel
theorem dX1_copy_17 : decode cX1_copy 17 = .ok (.getfield 18, 3) := by decide +kernel
theorem dX1_copy_20 : decode cX1_copy 20 = .ok (.iload_n 3, 1) := by decide +kernel
theorem dX1_copy_21 : decode cX1_copy 21 = .ok (.aaload, 1) := by decide +kernel
theorem dX1_copy_22 : decode cX1_copy 22 = .ok (.iload 4, 2) := by decide +kernel
theorem dX1_copy_24 : decode cX1_copy 24 = .ok (.iload 5, 2) := by decide +kernel
theorem dX1_copy_26 : decode cX1_copy 26 = .ok (.invokevirtual 85, 3) := by decide +kernel
theorem dX1_copy_29 : decode cX1_copy 29 = .ok (.ireturn, 1) := by decide +kernel
theorem dX1_slide_0 : decode cX1_slide 0 = .ok (.iload_n 1, 1) := by decide +kernel
theorem dX1_slide_1 : decode cX1_slide 1 = .ok (.invokestatic 40, 3) := by decide +kernel
theorem dX1_slide_4 : decode cX1_slide 4 = .ok (.aload_n 0, 1) := by decide +kernel
theorem dX1_slide_5 : decode cX1_slide 5 = .ok (.getfield 18, 3) := by decide +kernel
theorem dX1_slide_8 : decode cX1_slide 8 = .ok (.iload_n 1, 1) := by decide +kernel
theorem dX1_slide_9 : decode cX1_slide 9 = .ok (.aaload, 1) := by decide +kernel
theorem dX1_slide_10 : decode cX1_slide 10 = .ok (.astore 4, 2) := by decide +kernel
theorem dX1_slide_12 : decode cX1_slide 12 = .ok (.aload 4, 2) := by decide +kernel
theorem dX1_slide_14 : decode cX1_slide 14 = .ok (.invokevirtual 67, 3) := by decide +kernel
theorem dX1_slide_17 : decode cX1_slide 17 = .ok (.ifCond .eq 5, 3) := by decide +kernel
theorem dX1_slide_20 : decode cX1_slide 20 = .ok (.iconst 1, 1) := by decide +kernel
theorem dX1_slide_21 : decode cX1_slide 21 = .ok (.ireturn, 1) := by decide +kernel
theorem dX1_slide_22 : decode cX1_slide 22 = .ok (.aload 4, 2) := by decide +kernel
theorem dX1_slide_24 : decode cX1_slide 24 = .ok (.invokevirtual 89, 3) := by decide +kernel
theorem dX1_slide_27 : decode cX1_slide 27 = .ok (.ifCond .ne 5, 3) := by decide +kernel
theorem dX1_slide_30 : decode cX1_slide 30 = .ok (.iconst 2, 1) := by decide +kernel
theorem dX1_slide_31 : decode cX1_slide 31 = .ok (.ireturn, 1) := by decide +kernel
theorem dX1_slide_32 : decode cX1_slide 32 = .ok (.iload_n 2, 1) := by decide +kernel
theorem dX1_slide_33 : decode cX1_slide 33 = .ok (.i2l, 1) := by decide +kernel
theorem dX1_slide_34 : decode cX1_slide 34 = .ok (.iload_n 3, 1) := by decide +kernel
theorem dX1_slide_35 : decode cX1_slide 35 = .ok (.i2l, 1) := by decide +kernel
theorem dX1_slide_36 : decode cX1_slide 36 = .ok (.ladd, 1) := by decide +kernel
theorem dX1_slide_37 : decode cX1_slide 37 = .ok (.lstore 5, 2) := by decide +kernel
theorem dX1_slide_39 : decode cX1_slide 39 = .ok (.iload_n 2, 1) := by decide +kernel
theorem dX1_slide_40 : decode cX1_slide 40 = .ok (.ifCond .lt 31, 3) := by decide +kernel
theorem dX1_slide_43 : decode cX1_slide 43 = .ok (.iload_n 2, 1) := by decide +kernel
theorem dX1_slide_44 : decode cX1_slide 44 = .ok (.aload 4, 2) := by decide +kernel
theorem dX1_slide_46 : decode cX1_slide 46 = .ok (.getfield 92, 3) := by decide +kernel
theorem dX1_slide_49 : decode cX1_slide 49 = .ok (.if_icmp .gt 22, 3) := by decide +kernel
theorem dX1_slide_52 : decode cX1_slide 52 = .ok (.lload 5, 2) := by decide +kernel
theorem dX1_slide_54 : decode cX1_slide 54 = .ok (.lconst 0, 1) := by decide +kernel
theorem dX1_slide_55 : decode cX1_slide 55 = .ok (.lcmp, 1) := by decide +kernel
theorem dX1_slide_56 : decode cX1_slide 56 = .ok (.ifCond .lt 15, 3) := by decide +kernel
theorem dX1_slide_59 : decode cX1_slide 59 = .ok (.lload 5, 2) := by decide +kernel
theorem dX1_slide_61 : decode cX1_slide 61 = .ok (.aload 4, 2) := by decide +kernel
theorem dX1_slide_63 : decode cX1_slide 63 = .ok (.getfield 92, 3) := by decide +kernel
theorem dX1_slide_66 : decode cX1_slide 66 = .ok (.i2l, 1) := by decide +kernel
theorem dX1_slide_67 : decode cX1_slide 67 = .ok (.lcmp, 1) := by decide +kernel
theorem dX1_slide_68 : decode cX1_slide 68 = .ok (.ifCond .le 5, 3) := by decide +kernel
theorem dX1_slide_71 : decode cX1_slide 71 = .ok (.iconst 3, 1) := by decide +kernel
theorem dX1_slide_72 : decode cX1_slide 72 = .ok (.ireturn, 1) := by decide +kernel
theorem dX1_slide_73 : decode cX1_slide 73 = .ok (.iload_n 3, 1) := by decide +kernel
theorem dX1_slide_74 : decode cX1_slide 74 = .ok (.ifCond .lt 13, 3) := by decide +kernel
theorem dX1_slide_77 : decode cX1_slide 77 = .ok (.aload 4, 2) := by decide +kernel
theorem dX1_slide_79 : decode cX1_slide 79 = .ok (.iload_n 2, 1) := by decide +kernel
theorem dX1_slide_80 : decode cX1_slide 80 = .ok (.iload_n 3, 1) := by decide +kernel
theorem dX1_slide_81 : decode cX1_slide 81 = .ok (.invokestatic 95, 3) := by decide +kernel
theorem dX1_slide_84 : decode cX1_slide 84 = .ok (.goto 11, 3) := by decide +kernel
theorem dX1_slide_87 : decode cX1_slide 87 = .ok (.aload 4, 2) := by decide +kernel
theorem dX1_slide_89 : decode cX1_slide 89 = .ok (.iload_n 2, 1) := by decide +kernel
theorem dX1_slide_90 : decode cX1_slide 90 = .ok (.iload_n 3, 1) := by decide +kernel
theorem dX1_slide_91 : decode cX1_slide 91 = .ok (.ineg, 1) := by decide +kernel
theorem dX1_slide_92 : decode cX1_slide 92 = .ok (.invokestatic 99, 3) := by decide +kernel
theorem dX1_slide_95 : decode cX1_slide 95 = .ok (.iconst 0, 1) := by decide +kernel
theorem dX1_slide_96 : decode cX1_slide 96 = .ok (.ireturn, 1) := by decide +kernel
theorem dX1_turn_0 : decode cX1_turn 0 = .ok (.iload_n 1, 1) := by decide +kernel
theorem dX1_turn_1 : decode cX1_turn 1 = .ok (.invokestatic 40, 3) := by decide +kernel
theorem dX1_turn_4 : decode cX1_turn 4 = .ok (.aload_n 0, 1) := by decide +kernel
theorem dX1_turn_5 : decode cX1_turn 5 = .ok (.getfield 18, 3) := by decide +kernel
theorem dX1_turn_8 : decode cX1_turn 8 = .ok (.iload_n 1, 1) := by decide +kernel
theorem dX1_turn_9 : decode cX1_turn 9 = .ok (.aaload, 1) := by decide +kernel
theorem dX1_turn_10 : decode cX1_turn 10 = .ok (.astore_n 3, 1) := by decide +kernel
theorem dX1_turn_11 : decode cX1_turn 11 = .ok (.aload_n 3, 1) := by decide +kernel
theorem dX1_turn_12 : decode cX1_turn 12 = .ok (.invokevirtual 67, 3) := by decide +kernel
theorem dX1_turn_15 : decode cX1_turn 15 = .ok (.ifCond .eq 5, 3) := by decide +kernel
theorem dX1_turn_18 : decode cX1_turn 18 = .ok (.iconst 1, 1) := by decide +kernel
theorem dX1_turn_19 : decode cX1_turn 19 = .ok (.ireturn, 1) := by decide +kernel
theorem dX1_turn_20 : decode cX1_turn 20 = .ok (.aload_n 3, 1) := by decide +kernel
theorem dX1_turn_21 : decode cX1_turn 21 = .ok (.invokevirtual 89, 3) := by decide +kernel
theorem dX1_turn_24 : decode cX1_turn 24 = .ok (.ifCond .ne 5, 3) := by decide +kernel
theorem dX1_turn_27 : decode cX1_turn 27 = .ok (.iconst 2, 1) := by decide +kernel
theorem dX1_turn_28 : decode cX1_turn 28 = .ok (.ireturn, 1) := by decide +kernel
theorem dX1_turn_29 : decode cX1_turn 29 = .ok (.iload_n 2, 1) := by decide +kernel
theorem dX1_turn_30 : decode cX1_turn 30 = .ok (.ifCond .lt 11, 3) := by decide +kernel
theorem dX1_turn_33 : decode cX1_turn 33 = .ok (.iload_n 2, 1) := by decide +kernel
theorem dX1_turn_34 : decode cX1_turn 34 = .ok (.aload_n 3, 1) := by decide +kernel
theorem dX1_turn_35 : decode cX1_turn 35 = .ok (.getfield 92, 3) := by decide +kernel
theorem dX1_turn_38 : decode cX1_turn 38 = .ok (.if_icmp .le 5, 3) := by decide +kernel
theorem dX1_turn_41 : decode cX1_turn 41 = .ok (.iconst 3, 1) := by decide +kernel
theorem dX1_turn_42 : decode cX1_turn 42 = .ok (.ireturn, 1) := by decide +kernel
theorem dX1_turn_43 : decode cX1_turn 43 = .ok (.aload_n 3, 1) := by decide +kernel
theorem dX1_turn_44 : decode cX1_turn 44 = .ok (.getfield 92, 3) := by decide +kernel
theorem dX1_turn_47 : decode cX1_turn 47 = .ok (.iload_n 2, 1) := by decide +kernel
theorem dX1_turn_48 : decode cX1_turn 48 = .ok (.isub, 1) := by decide +kernel
theorem dX1_turn_49 : decode cX1_turn 49 = .ok (.istore 4, 2) := by decide +kernel
theorem dX1_turn_51 : decode cX1_turn 51 = .ok (.aload_n 3, 1) := by decide +kernel
theorem dX1_turn_52 : decode cX1_turn 52 = .ok (.getfield 82, 3) := by decide +kernel
theorem dX1_turn_55 : decode cX1_turn 55 = .ok (.iconst 0, 1) := by decide +kernel
theorem dX1_turn_56 : decode cX1_turn 56 = .ok (.aload_n 0, 1) := by decide +kernel
theorem dX1_turn_57 : decode cX1_turn 57 = .ok (.getfield 25, 3) := by decide +kernel
theorem dX1_turn_60 : decode cX1_turn 60 = .ok (.iconst 0, 1) := by decide +kernel
theorem dX1_turn_61 : decode cX1_turn 61 = .ok (.iload_n 2, 1) := by decide +kernel
theorem dX1_turn_62 : decode cX1_turn 62 = .ok (.invokestatic 102, 3) := by decide +kernel
theorem dX1_turn_65 : decode cX1_turn 65 = .ok (.aload_n 3, 1) := by decide +kernel
theorem dX1_turn_66 : decode cX1_turn 66 = .ok (.getfield 82, 3) := by decide +kernel
theorem dX1_turn_69 : decode cX1_turn 69 = .ok (.iload_n 2, 1) := by decide +kernel
theorem dX1_turn_70 : decode cX1_turn 70 = .ok (.aload_n 3, 1) := by decide +kernel
theorem dX1_turn_71 : decode cX1_turn 71 = .ok (.getfield 82, 3) := by decide +kernel
theorem dX1_turn_74 : decode cX1_turn 74 = .ok (.iconst 0, 1) := by decide +kernel
theorem dX1_turn_75 : decode cX1_turn 75 = .ok (.iload 4, 2) := by decide +kernel
theorem dX1_turn_77 : decode cX1_turn 77 = .ok (.invokestatic 102, 3) := by decide +kernel
theorem dX1_turn_80 : decode cX1_turn 80 = .ok (.aload_n 0, 1) := by decide +kernel
theorem dX1_turn_81 : decode cX1_turn 81 = .ok (.getfield 25, 3) := by decide +kernel
theorem dX1_turn_84 : decode cX1_turn 84 = .ok (.iconst 0, 1) := by decide +kernel
theorem dX1_turn_85 : decode cX1_turn 85 = .ok (.aload_n 3, 1) := by decide +kernel
theorem dX1_turn_86 : decode cX1_turn 86 = .ok (.getfield 82, 3) := by decide +kernel
theorem dX1_turn_89 : decode cX1_turn 89 = .ok (.iload 4, 2) := by decide +kernel
theorem dX1_turn_91 : decode cX1_turn 91 = .ok (.iload_n 2, 1) := by decide +kernel
theorem dX1_turn_92 : decode cX1_turn 92 = .ok (.invokestatic 102, 3) := by decide +kernel
theorem dX1_turn_95 : decode cX1_turn 95 = .ok (.iconst 0, 1) := by decide +kernel
theorem dX1_turn_96 : decode cX1_turn 96 = .ok (.ireturn, 1) := by decide +kernel
theorem dX1_join_0 : decode cX1_join 0 = .ok (.iload_n 1, 1) := by decide +kernel
theorem dX1_join_1 : decode cX1_join 1 = .ok (.invokestatic 40, 3) := by decide +kernel
theorem dX1_join_4 : decode cX1_join 4 = .ok (.iload_n 2, 1) := by decide +kernel
theorem dX1_join_5 : decode cX1_join 5 = .ok (.invokestatic 40, 3) := by decide +kernel
theorem dX1_join_8 : decode cX1_join 8 = .ok (.iload_n 3, 1) := by decide +kernel
theorem dX1_join_9 : decode cX1_join 9 = .ok (.invokestatic 40, 3) := by decide +kernel
theorem dX1_join_12 : decode cX1_join 12 = .ok (.aload_n 0, 1) := by decide +kernel
theorem dX1_join_13 : decode cX1_join 13 = .ok (.getfield 18, 3) := by decide +kernel
theorem dX1_join_16 : decode cX1_join 16 = .ok (.iload_n 1, 1) := by decide +kernel
theorem dX1_join_17 : decode cX1_join 17 = .ok (.aaload, 1) := by decide +kernel
theorem dX1_join_18 : decode cX1_join 18 = .ok (.astore 4, 2) := by decide +kernel
theorem dX1_join_20 : decode cX1_join 20 = .ok (.aload_n 0, 1) := by decide +kernel
theorem dX1_join_21 : decode cX1_join 21 = .ok (.getfield 18, 3) := by decide +kernel
theorem dX1_join_24 : decode cX1_join 24 = .ok (.iload_n 2, 1) := by decide +kernel
theorem dX1_join_25 : decode cX1_join 25 = .ok (.aaload, 1) := by decide +kernel
theorem dX1_join_26 : decode cX1_join 26 = .ok (.astore 5, 2) := by decide +kernel
theorem dX1_join_28 : decode cX1_join 28 = .ok (.aload_n 0, 1) := by decide +kernel
theorem dX1_join_29 : decode cX1_join 29 = .ok (.getfield 18, 3) := by decide +kernel
theorem dX1_join_32 : decode cX1_join 32 = .ok (.iload_n 3, 1) := by decide +kernel
theorem dX1_join_33 : decode cX1_join 33 = .ok (.aaload, 1) := by decide +kernel
theorem dX1_join_34 : decode cX1_join 34 = .ok (.astore 6, 2) := by decide +kernel
theorem dX1_join_36 : decode cX1_join 36 = .ok (.aload_n 0, 1) := by decide +kernel
theorem dX1_join_37 : decode cX1_join 37 = .ok (.aload 4, 2) := by decide +kernel
theorem dX1_join_39 : decode cX1_join 39 = .ok (.iconst 0, 1) := by decide +kernel
theorem dX1_join_40 : decode cX1_join 40 = .ok (.aload 6, 2) := by decide +kernel
theorem dX1_join_42 : decode cX1_join 42 = .ok (.iconst 0, 1) := by decide +kernel
theorem dX1_join_43 : decode cX1_join 43 = .ok (.aload 4, 2) := by decide +kernel
theorem dX1_join_45 : decode cX1_join 45 = .ok (.getfield 92, 3) := by decide +kernel
theorem dX1_join_48 : decode cX1_join 48 = .ok (.invokevirtual 85, 3) := by decide +kernel
theorem dX1_join_51 : decode cX1_join 51 = .ok (.istore 7, 2) := by decide +kernel
theorem dX1_join_53 : decode cX1_join 53 = .ok (.iload 7, 2) := by decide +kernel
theorem dX1_join_55 : decode cX1_join 55 = .ok (.ifCond .eq 6, 3) := by decide +kernel
theorem dX1_join_58 : decode cX1_join 58 = .ok (.iload 7, 2) := by decide +kernel
theorem dX1_join_60 : decode cX1_join 60 = .ok (.ireturn, 1) := by decide +kernel
theorem dX1_join_61 : decode cX1_join 61 = .ok (.aload_n 0, 1) := by decide +kernel
theorem dX1_join_62 : decode cX1_join 62 = .ok (.aload 5, 2) := by decide +kernel
theorem dX1_join_64 : decode cX1_join 64 = .ok (.iconst 0, 1) := by decide +kernel
theorem dX1_join_65 : decode cX1_join 65 = .ok (.aload 6, 2) := by decide +kernel
theorem dX1_join_67 : decode cX1_join 67 = .ok (.aload 4, 2) := by decide +kernel
theorem dX1_join_69 : decode cX1_join 69 = .ok (.getfield 92, 3) := by decide +kernel
theorem dX1_join_72 : decode cX1_join 72 = .ok (.aload 5, 2) := by decide +kernel
theorem dX1_join_74 : decode cX1_join 74 = .ok (.getfield 92, 3) := by decide +kernel
theorem dX1_join_77 : decode cX1_join 77 = .ok (.invokevirtual 85, 3) := by decide +kernel
theorem dX1_join_80 : decode cX1_join 80 = .ok (.ireturn, 1) := by decide +kernel
theorem dX1_pay_0 : decode cX1_pay 0 = .ok (.iload_n 1, 1) := by decide +kernel
theorem dX1_pay_1 : decode cX1_pay 1 = .ok (.invokestatic 40, 3) := by decide +kernel
theorem dX1_pay_4 : decode cX1_pay 4 = .ok (.iload_n 2, 1) := by decide +kernel
theorem dX1_pay_5 : decode cX1_pay 5 = .ok (.invokestatic 40, 3) := by decide +kernel
theorem dX1_pay_8 : decode cX1_pay 8 = .ok (.iload_n 3, 1) := by decide +kernel
theorem dX1_pay_9 : decode cX1_pay 9 = .ok (.invokestatic 40, 3) := by decide +kernel
theorem dX1_pay_12 : decode cX1_pay 12 = .ok (.aload_n 0, 1) := by decide +kernel
theorem dX1_pay_13 : decode cX1_pay 13 = .ok (.getfield 18, 3) := by decide +kernel
theorem dX1_pay_16 : decode cX1_pay 16 = .ok (.iload_n 1, 1) := by decide +kernel
theorem dX1_pay_17 : decode cX1_pay 17 = .ok (.aaload, 1) := by decide +kernel
theorem dX1_pay_18 : decode cX1_pay 18 = .ok (.astore 4, 2) := by decide +kernel
theorem dX1_pay_20 : decode cX1_pay 20 = .ok (.aload_n 0, 1) := by decide +kernel
theorem dX1_pay_21 : decode cX1_pay 21 = .ok (.getfield 18, 3) := by decide +kernel
theorem dX1_pay_24 : decode cX1_pay 24 = .ok (.iload_n 2, 1) := by decide +kernel
theorem dX1_pay_25 : decode cX1_pay 25 = .ok (.aaload, 1) := by decide +kernel
theorem dX1_pay_26 : decode cX1_pay 26 = .ok (.astore 5, 2) := by decide +kernel
theorem dX1_pay_28 : decode cX1_pay 28 = .ok (.aload_n 0, 1) := by decide +kernel
theorem dX1_pay_29 : decode cX1_pay 29 = .ok (.getfield 18, 3) := by decide +kernel
theorem dX1_pay_32 : decode cX1_pay 32 = .ok (.iload_n 3, 1) := by decide +kernel
theorem dX1_pay_33 : decode cX1_pay 33 = .ok (.aaload, 1) := by decide +kernel
theorem dX1_pay_34 : decode cX1_pay 34 = .ok (.astore 6, 2) := by decide +kernel
theorem dX1_pay_36 : decode cX1_pay 36 = .ok (.aload 4, 2) := by decide +kernel
theorem dX1_pay_38 : decode cX1_pay 38 = .ok (.iconst 0, 1) := by decide +kernel
theorem dX1_pay_39 : decode cX1_pay 39 = .ok (.invokestatic 108, 3) := by decide +kernel
theorem dX1_pay_42 : decode cX1_pay 42 = .ok (.ifCond .ne 21, 3) := by decide +kernel
theorem dX1_pay_45 : decode cX1_pay 45 = .ok (.aload 5, 2) := by decide +kernel
theorem dX1_pay_47 : decode cX1_pay 47 = .ok (.iconst 3, 1) := by decide +kernel
theorem dX1_pay_48 : decode cX1_pay 48 = .ok (.invokestatic 108, 3) := by decide +kernel
theorem dX1_pay_51 : decode cX1_pay 51 = .ok (.ifCond .ne 12, 3) := by decide +kernel
theorem dX1_pay_54 : decode cX1_pay 54 = .ok (.aload 6, 2) := by decide +kernel
theorem dX1_pay_56 : decode cX1_pay 56 = .ok (.iconst 4, 1) := by decide +kernel
theorem dX1_pay_57 : decode cX1_pay 57 = .ok (.invokestatic 108, 3) := by decide +kernel
theorem dX1_pay_60 : decode cX1_pay 60 = .ok (.ifCond .eq 5, 3) := by decide +kernel
theorem dX1_pay_63 : decode cX1_pay 63 = .ok (.iconst 2, 1) := by decide +kernel
theorem dX1_pay_64 : decode cX1_pay 64 = .ok (.ireturn, 1) := by decide +kernel
theorem dX1_pay_65 : decode cX1_pay 65 = .ok (.aload 4, 2) := by decide +kernel
theorem dX1_pay_67 : decode cX1_pay 67 = .ok (.invokevirtual 67, 3) := by decide +kernel
theorem dX1_pay_70 : decode cX1_pay 70 = .ok (.ifCond .ne 19, 3) := by decide +kernel
theorem dX1_pay_73 : decode cX1_pay 73 = .ok (.aload 5, 2) := by decide +kernel
theorem dX1_pay_75 : decode cX1_pay 75 = .ok (.invokevirtual 67, 3) := by decide +kernel
theorem dX1_pay_78 : decode cX1_pay 78 = .ok (.ifCond .ne 11, 3) := by decide +kernel
theorem dX1_pay_81 : decode cX1_pay 81 = .ok (.aload 6, 2) := by decide +kernel
theorem dX1_pay_83 : decode cX1_pay 83 = .ok (.invokevirtual 67, 3) := by decide +kernel
theorem dX1_pay_86 : decode cX1_pay 86 = .ok (.ifCond .eq 5, 3) := by decide +kernel
theorem dX1_pay_89 : decode cX1_pay 89 = .ok (.iconst 1, 1) := by decide +kernel
theorem dX1_pay_90 : decode cX1_pay 90 = .ok (.ireturn, 1) := by decide +kernel
theorem dX1_pay_91 : decode cX1_pay 91 = .ok (.iconst 0, 1) := by decide +kernel
theorem dX1_pay_92 : decode cX1_pay 92 = .ok (.istore 7, 2) := by decide +kernel
theorem dX1_pay_94 : decode cX1_pay 94 = .ok (.iload 7, 2) := by decide +kernel
theorem dX1_pay_96 : decode cX1_pay 96 = .ok (.aload 4, 2) := by decide +kernel
theorem dX1_pay_98 : decode cX1_pay 98 = .ok (.getfield 92, 3) := by decide +kernel
theorem dX1_pay_101 : decode cX1_pay 101 = .ok (.if_icmp .ge 59, 3) := by decide +kernel
theorem dX1_pay_104 : decode cX1_pay 104 = .ok (.aload 5, 2) := by decide +kernel
theorem dX1_pay_106 : decode cX1_pay 106 = .ok (.iload 7, 2) := by decide +kernel
theorem dX1_pay_108 : decode cX1_pay 108 = .ok (.invokevirtual 74, 3) := by decide +kernel
theorem dX1_pay_111 : decode cX1_pay 111 = .ok (.ifCond .eq 13, 3) := by decide +kernel
theorem dX1_pay_114 : decode cX1_pay 114 = .ok (.aload 6, 2) := by decide +kernel
theorem dX1_pay_116 : decode cX1_pay 116 = .ok (.iload 7, 2) := by decide +kernel
theorem dX1_pay_118 : decode cX1_pay 118 = .ok (.invokevirtual 74, 3) := by decide +kernel
theorem dX1_pay_121 : decode cX1_pay 121 = .ok (.ifCond .ne 5, 3) := by decide +kernel
theorem dX1_pay_124 : decode cX1_pay 124 = .ok (.iconst 3, 1) := by decide +kernel
theorem dX1_pay_125 : decode cX1_pay 125 = .ok (.ireturn, 1) := by decide +kernel
theorem dX1_pay_126 : decode cX1_pay 126 = .ok (.aload_n 0, 1) := by decide +kernel
theorem dX1_pay_127 : decode cX1_pay 127 = .ok (.aload 4, 2) := by decide +kernel
theorem dX1_pay_129 : decode cX1_pay 129 = .ok (.getfield 82, 3) := by decide +kernel
theorem dX1_pay_132 : decode cX1_pay 132 = .ok (.iload 7, 2) := by decide +kernel
theorem dX1_pay_134 : decode cX1_pay 134 = .ok (.laload, 1) := by decide +kernel
theorem dX1_pay_135 : decode cX1_pay 135 = .ok (.aload 5, 2) := by decide +kernel
theorem dX1_pay_137 : decode cX1_pay 137 = .ok (.getfield 82, 3) := by decide +kernel
theorem dX1_pay_140 : decode cX1_pay 140 = .ok (.iload 7, 2) := by decide +kernel
theorem dX1_pay_142 : decode cX1_pay 142 = .ok (.laload, 1) := by decide +kernel
theorem dX1_pay_143 : decode cX1_pay 143 = .ok (.aload 6, 2) := by decide +kernel
theorem dX1_pay_145 : decode cX1_pay 145 = .ok (.getfield 82, 3) := by decide +kernel
theorem dX1_pay_148 : decode cX1_pay 148 = .ok (.iload 7, 2) := by decide +kernel
theorem dX1_pay_150 : decode cX1_pay 150 = .ok (.laload, 1) := by decide +kernel
theorem dX1_pay_151 : decode cX1_pay 151 = .ok (.invokevirtual 112, 3) := by decide +kernel
theorem dX1_pay_154 : decode cX1_pay 154 = .ok (.iinc 7 1, 3) := by decide +kernel
theorem dX1_pay_157 : decode cX1_pay 157 = .ok (.goto (-63), 3) := by decide +kernel
theorem dX1_pay_160 : decode cX1_pay 160 = .ok (.iconst 0, 1) := by decide +kernel
theorem dX1_pay_161 : decode cX1_pay 161 = .ok (.ireturn, 1) := by decide +kernel
theorem dX1_look_0 : decode cX1_look 0 = .ok (.iload_n 1, 1) := by decide +kernel
theorem dX1_look_1 : decode cX1_look 1 = .ok (.invokestatic 40, 3) := by decide +kernel
theorem dX1_look_4 : decode cX1_look 4 = .ok (.aload_n 0, 1) := by decide +kernel
theorem dX1_look_5 : decode cX1_look 5 = .ok (.getfield 18, 3) := by decide +kernel
theorem dX1_look_8 : decode cX1_look 8 = .ok (.iload_n 1, 1) := by decide +kernel
theorem dX1_look_9 : decode cX1_look 9 = .ok (.aaload, 1) := by decide +kernel
theorem dX1_look_10 : decode cX1_look 10 = .ok (.astore_n 3, 1) := by decide +kernel
theorem dX1_look_11 : decode cX1_look 11 = .ok (.iload_n 2, 1) := by decide +kernel
theorem dX1_look_12 : decode cX1_look 12 = .ok (.tableswitch 66 0 2 #[28, 33, 49], 28) := by decide +kernel
theorem dX1_look_40 : decode cX1_look 40 = .ok (.aload_n 3, 1) := by decide +kernel
theorem dX1_look_41 : decode cX1_look 41 = .ok (.getfield 61, 3) := by decide +kernel
theorem dX1_look_44 : decode cX1_look 44 = .ok (.ireturn, 1) := by decide +kernel
theorem dX1_look_45 : decode cX1_look 45 = .ok (.aload_n 3, 1) := by decide +kernel
theorem dX1_look_46 : decode cX1_look 46 = .ok (.invokevirtual 89, 3) := by decide +kernel
theorem dX1_look_49 : decode cX1_look 49 = .ok (.ifCond .eq 10, 3) := by decide +kernel
theorem dX1_look_52 : decode cX1_look 52 = .ok (.aload_n 3, 1) := by decide +kernel
theorem dX1_look_53 : decode cX1_look 53 = .ok (.getfield 92, 3) := by decide +kernel
theorem dX1_look_56 : decode cX1_look 56 = .ok (.goto 4, 3) := by decide +kernel
theorem dX1_look_59 : decode cX1_look 59 = .ok (.iconst (-1), 1) := by decide +kernel
theorem dX1_look_60 : decode cX1_look 60 = .ok (.ireturn, 1) := by decide +kernel
theorem dX1_look_61 : decode cX1_look 61 = .ok (.aload_n 3, 1) := by decide +kernel
theorem dX1_look_62 : decode cX1_look 62 = .ok (.invokevirtual 67, 3) := by decide +kernel
theorem dX1_look_65 : decode cX1_look 65 = .ok (.ifCond .eq 7, 3) := by decide +kernel
theorem dX1_look_68 : decode cX1_look 68 = .ok (.iconst (-1), 1) := by decide +kernel
theorem dX1_look_69 : decode cX1_look 69 = .ok (.goto 8, 3) := by decide +kernel
theorem dX1_look_72 : decode cX1_look 72 = .ok (.aload_n 0, 1) := by decide +kernel
theorem dX1_look_73 : decode cX1_look 73 = .ok (.aload_n 3, 1) := by decide +kernel
theorem dX1_look_74 : decode cX1_look 74 = .ok (.invokevirtual 116, 3) := by decide +kernel
theorem dX1_look_77 : decode cX1_look 77 = .ok (.ireturn, 1) := by decide +kernel
theorem dX1_look_78 : decode cX1_look 78 = .ok (.iconst (-1), 1) := by decide +kernel
theorem dX1_look_79 : decode cX1_look 79 = .ok (.ireturn, 1) := by decide +kernel
theorem dX1_at_0 : decode cX1_at 0 = .ok (.iload_n 1, 1) := by decide +kernel
theorem dX1_at_1 : decode cX1_at 1 = .ok (.invokestatic 40, 3) := by decide +kernel
theorem dX1_at_4 : decode cX1_at 4 = .ok (.aload_n 0, 1) := by decide +kernel
theorem dX1_at_5 : decode cX1_at 5 = .ok (.getfield 18, 3) := by decide +kernel
theorem dX1_at_8 : decode cX1_at 8 = .ok (.iload_n 1, 1) := by decide +kernel
theorem dX1_at_9 : decode cX1_at 9 = .ok (.aaload, 1) := by decide +kernel
theorem dX1_at_10 : decode cX1_at 10 = .ok (.astore_n 3, 1) := by decide +kernel
theorem dX1_at_11 : decode cX1_at 11 = .ok (.aload_n 3, 1) := by decide +kernel
theorem dX1_at_12 : decode cX1_at 12 = .ok (.invokevirtual 89, 3) := by decide +kernel
theorem dX1_at_15 : decode cX1_at 15 = .ok (.ifCond .eq 11, 3) := by decide +kernel
theorem dX1_at_18 : decode cX1_at 18 = .ok (.aload_n 3, 1) := by decide +kernel
theorem dX1_at_19 : decode cX1_at 19 = .ok (.iload_n 2, 1) := by decide +kernel
theorem dX1_at_20 : decode cX1_at 20 = .ok (.invokevirtual 74, 3) := by decide +kernel
theorem dX1_at_23 : decode cX1_at 23 = .ok (.ifCond .ne 13, 3) := by decide +kernel
theorem dX1_at_26 : decode cX1_at 26 = .ok (.new 120, 3) := by decide +kernel
theorem dX1_at_29 : decode cX1_at 29 = .ok (.dup, 1) := by decide +kernel
theorem dX1_at_30 : decode cX1_at 30 = .ok (.ldc 122, 2) := by decide +kernel
theorem dX1_at_32 : decode cX1_at 32 = .ok (.invokespecial 124, 3) := by decide +kernel
theorem dX1_at_35 : decode cX1_at 35 = .ok (.athrow, 1) := by decide +kernel
theorem dX1_at_36 : decode cX1_at 36 = .ok (.aload_n 3, 1) := by decide +kernel
theorem dX1_at_37 : decode cX1_at 37 = .ok (.getfield 82, 3) := by decide +kernel
theorem dX1_at_40 : decode cX1_at 40 = .ok (.iload_n 2, 1) := by decide +kernel
theorem dX1_at_41 : decode cX1_at 41 = .ok (.laload, 1) := by decide +kernel
theorem dX1_at_42 : decode cX1_at 42 = .ok (.lreturn, 1) := by decide +kernel
theorem dX1_person_0 : decode cX1_person 0 = .ok (.aload_n 0, 1) := by decide +kernel
theorem dX1_person_1 : decode cX1_person 1 = .ok (.iload_n 1, 1) := by decide +kernel
theorem dX1_person_2 : decode cX1_person 2 = .ok (.invokevirtual 64, 3) := by decide +kernel
theorem dX1_person_5 : decode cX1_person 5 = .ok (.iload_n 2, 1) := by decide +kernel
theorem dX1_person_6 : decode cX1_person 6 = .ok (.tableswitch 48 0 2 #[26, 34, 41], 26) := by decide +kernel
theorem dX1_person_32 : decode cX1_person 32 = .ok (.aload_n 0, 1) := by decide +kernel
theorem dX1_person_33 : decode cX1_person 33 = .ok (.getfield 29, 3) := by decide +kernel
theorem dX1_person_36 : decode cX1_person 36 = .ok (.iload_n 1, 1) := by decide +kernel
theorem dX1_person_37 : decode cX1_person 37 = .ok (.iaload, 1) := by decide +kernel
theorem dX1_person_38 : decode cX1_person 38 = .ok (.i2l, 1) := by decide +kernel
theorem dX1_person_39 : decode cX1_person 39 = .ok (.lreturn, 1) := by decide +kernel
theorem dX1_person_40 : decode cX1_person 40 = .ok (.aload_n 0, 1) := by decide +kernel
theorem dX1_person_41 : decode cX1_person 41 = .ok (.getfield 33, 3) := by decide +kernel
theorem dX1_person_44 : decode cX1_person 44 = .ok (.iload_n 1, 1) := by decide +kernel
theorem dX1_person_45 : decode cX1_person 45 = .ok (.laload, 1) := by decide +kernel
theorem dX1_person_46 : decode cX1_person 46 = .ok (.lreturn, 1) := by decide +kernel
theorem dX1_person_47 : decode cX1_person 47 = .ok (.aload_n 0, 1) := by decide +kernel
theorem dX1_person_48 : decode cX1_person 48 = .ok (.iload_n 1, 1) := by decide +kernel
theorem dX1_person_49 : decode cX1_person 49 = .ok (.invokevirtual 125, 3) := by decide +kernel
theorem dX1_person_52 : decode cX1_person 52 = .ok (.i2l, 1) := by decide +kernel
theorem dX1_person_53 : decode cX1_person 53 = .ok (.lreturn, 1) := by decide +kernel
theorem dX1_person_54 : decode cX1_person 54 = .ok (.ldc2_w 129, 3) := by decide +kernel
theorem dX1_person_57 : decode cX1_person 57 = .ok (.lreturn, 1) := by decide +kernel
theorem dX1_count_0 : decode cX1_count 0 = .ok (.aload_n 0, 1) := by decide +kernel
theorem dX1_count_1 : decode cX1_count 1 = .ok (.getfield 36, 3) := by decide +kernel
theorem dX1_count_4 : decode cX1_count 4 = .ok (.ireturn, 1) := by decide +kernel
theorem dX1_requireHook_0 : decode cX1_requireHook 0 = .ok (.iload_n 0, 1) := by decide +kernel
theorem dX1_requireHook_1 : decode cX1_requireHook 1 = .ok (.ifCond .lt 9, 3) := by decide +kernel
theorem dX1_requireHook_4 : decode cX1_requireHook 4 = .ok (.iload_n 0, 1) := by decide +kernel
theorem dX1_requireHook_5 : decode cX1_requireHook 5 = .ok (.bipush 8, 2) := by decide +kernel
theorem dX1_requireHook_7 : decode cX1_requireHook 7 = .ok (.if_icmp .lt 13, 3) := by decide +kernel
theorem dX1_requireHook_10 : decode cX1_requireHook 10 = .ok (.new 46, 3) := by decide +kernel
theorem dX1_requireHook_13 : decode cX1_requireHook 13 = .ok (.dup, 1) := by decide +kernel
theorem dX1_requireHook_14 : decode cX1_requireHook 14 = .ok (.ldc 131, 2) := by decide +kernel
theorem dX1_requireHook_16 : decode cX1_requireHook 16 = .ok (.invokespecial 50, 3) := by decide +kernel
theorem dX1_requireHook_19 : decode cX1_requireHook 19 = .ok (.athrow, 1) := by decide +kernel
theorem dX1_requireHook_20 : decode cX1_requireHook 20 = .ok (.return_, 1) := by decide +kernel
theorem dX1_requireMake_0 : decode cX1_requireMake 0 = .ok (.iload_n 0, 1) := by decide +kernel
theorem dX1_requireMake_1 : decode cX1_requireMake 1 = .ok (.ifCond .lt 9, 3) := by decide +kernel
theorem dX1_requireMake_4 : decode cX1_requireMake 4 = .ok (.iload_n 0, 1) := by decide +kernel
theorem dX1_requireMake_5 : decode cX1_requireMake 5 = .ok (.bipush 6, 2) := by decide +kernel
theorem dX1_requireMake_7 : decode cX1_requireMake 7 = .ok (.if_icmp .le 13, 3) := by decide +kernel
theorem dX1_requireMake_10 : decode cX1_requireMake 10 = .ok (.new 46, 3) := by decide +kernel
theorem dX1_requireMake_13 : decode cX1_requireMake 13 = .ok (.dup, 1) := by decide +kernel
theorem dX1_requireMake_14 : decode cX1_requireMake 14 = .ok (.ldc 133, 2) := by decide +kernel
theorem dX1_requireMake_16 : decode cX1_requireMake 16 = .ok (.invokespecial 50, 3) := by decide +kernel
theorem dX1_requireMake_19 : decode cX1_requireMake 19 = .ok (.athrow, 1) := by decide +kernel
theorem dX1_requireMake_20 : decode cX1_requireMake 20 = .ok (.return_, 1) := by decide +kernel
theorem dX1_requirePerson_0 : decode cX1_requirePerson 0 = .ok (.aload_n 0, 1) := by decide +kernel
theorem dX1_requirePerson_1 : decode cX1_requirePerson 1 = .ok (.iload_n 1, 1) := by decide +kernel
theorem dX1_requirePerson_2 : decode cX1_requirePerson 2 = .ok (.i2l, 1) := by decide +kernel
theorem dX1_requirePerson_3 : decode cX1_requirePerson 3 = .ok (.invokevirtual 135, 3) := by decide +kernel
theorem dX1_requirePerson_6 : decode cX1_requirePerson 6 = .ok (.ifCond .ne 13, 3) := by decide +kernel
theorem dX1_requirePerson_9 : decode cX1_requirePerson 9 = .ok (.new 120, 3) := by decide +kernel
theorem dX1_requirePerson_12 : decode cX1_requirePerson 12 = .ok (.dup, 1) := by decide +kernel
theorem dX1_requirePerson_13 : decode cX1_requirePerson 13 = .ok (.ldc 139, 2) := by decide +kernel
theorem dX1_requirePerson_15 : decode cX1_requirePerson 15 = .ok (.invokespecial 124, 3) := by decide +kernel
theorem dX1_requirePerson_18 : decode cX1_requirePerson 18 = .ok (.athrow, 1) := by decide +kernel
theorem dX1_requirePerson_19 : decode cX1_requirePerson 19 = .ok (.return_, 1) := by decide +kernel
theorem dX1_isHired_0 : decode cX1_isHired 0 = .ok (.lload_n 1, 1) := by decide +kernel
theorem dX1_isHired_1 : decode cX1_isHired 1 = .ok (.lconst 0, 1) := by decide +kernel
theorem dX1_isHired_2 : decode cX1_isHired 2 = .ok (.lcmp, 1) := by decide +kernel
theorem dX1_isHired_3 : decode cX1_isHired 3 = .ok (.ifCond .lt 17, 3) := by decide +kernel
theorem dX1_isHired_6 : decode cX1_isHired 6 = .ok (.lload_n 1, 1) := by decide +kernel
theorem dX1_isHired_7 : decode cX1_isHired 7 = .ok (.aload_n 0, 1) := by decide +kernel
theorem dX1_isHired_8 : decode cX1_isHired 8 = .ok (.getfield 36, 3) := by decide +kernel
theorem dX1_isHired_11 : decode cX1_isHired 11 = .ok (.i2l, 1) := by decide +kernel
theorem dX1_isHired_12 : decode cX1_isHired 12 = .ok (.lcmp, 1) := by decide +kernel
theorem dX1_isHired_13 : decode cX1_isHired 13 = .ok (.ifCond .ge 7, 3) := by decide +kernel
theorem dX1_isHired_16 : decode cX1_isHired 16 = .ok (.iconst 1, 1) := by decide +kernel
theorem dX1_isHired_17 : decode cX1_isHired 17 = .ok (.goto 4, 3) := by decide +kernel
theorem dX1_isHired_20 : decode cX1_isHired 20 = .ok (.iconst 0, 1) := by decide +kernel
theorem dX1_isHired_21 : decode cX1_isHired 21 = .ok (.ireturn, 1) := by decide +kernel
theorem dX1_idleSheet_0 : decode cX1_idleSheet 0 = .ok (.iconst 0, 1) := by decide +kernel
theorem dX1_idleSheet_1 : decode cX1_idleSheet 1 = .ok (.istore_n 1, 1) := by decide +kernel
theorem dX1_idleSheet_2 : decode cX1_idleSheet 2 = .ok (.iload_n 1, 1) := by decide +kernel
theorem dX1_idleSheet_3 : decode cX1_idleSheet 3 = .ok (.bipush 8, 2) := by decide +kernel
theorem dX1_idleSheet_5 : decode cX1_idleSheet 5 = .ok (.if_icmp .ge 30, 3) := by decide +kernel
theorem dX1_idleSheet_8 : decode cX1_idleSheet 8 = .ok (.aload_n 0, 1) := by decide +kernel
theorem dX1_idleSheet_9 : decode cX1_idleSheet 9 = .ok (.aload_n 0, 1) := by decide +kernel
theorem dX1_idleSheet_10 : decode cX1_idleSheet 10 = .ok (.getfield 22, 3) := by decide +kernel
theorem dX1_idleSheet_13 : decode cX1_idleSheet 13 = .ok (.iload_n 1, 1) := by decide +kernel
theorem dX1_idleSheet_14 : decode cX1_idleSheet 14 = .ok (.aaload, 1) := by decide +kernel
theorem dX1_idleSheet_15 : decode cX1_idleSheet 15 = .ok (.invokevirtual 116, 3) := by decide +kernel
theorem dX1_idleSheet_18 : decode cX1_idleSheet 18 = .ok (.iconst (-1), 1) := by decide +kernel
theorem dX1_idleSheet_19 : decode cX1_idleSheet 19 = .ok (.if_icmp .ne 10, 3) := by decide +kernel
theorem dX1_idleSheet_22 : decode cX1_idleSheet 22 = .ok (.aload_n 0, 1) := by decide +kernel
theorem dX1_idleSheet_23 : decode cX1_idleSheet 23 = .ok (.getfield 22, 3) := by decide +kernel
theorem dX1_idleSheet_26 : decode cX1_idleSheet 26 = .ok (.iload_n 1, 1) := by decide +kernel
theorem dX1_idleSheet_27 : decode cX1_idleSheet 27 = .ok (.aaload, 1) := by decide +kernel
theorem dX1_idleSheet_28 : decode cX1_idleSheet 28 = .ok (.areturn, 1) := by decide +kernel
theorem dX1_idleSheet_29 : decode cX1_idleSheet 29 = .ok (.iinc 1 1, 3) := by decide +kernel
theorem dX1_idleSheet_32 : decode cX1_idleSheet 32 = .ok (.goto (-30), 3) := by decide +kernel
theorem dX1_idleSheet_35 : decode cX1_idleSheet 35 = .ok (.aload_n 0, 1) := by decide +kernel
theorem dX1_idleSheet_36 : decode cX1_idleSheet 36 = .ok (.getfield 22, 3) := by decide +kernel
theorem dX1_idleSheet_39 : decode cX1_idleSheet 39 = .ok (.bipush 8, 2) := by decide +kernel
theorem dX1_idleSheet_41 : decode cX1_idleSheet 41 = .ok (.aaload, 1) := by decide +kernel
theorem dX1_idleSheet_42 : decode cX1_idleSheet 42 = .ok (.areturn, 1) := by decide +kernel
theorem dX1_leastHookWith_0 : decode cX1_leastHookWith 0 = .ok (.iconst 0, 1) := by decide +kernel
theorem dX1_leastHookWith_1 : decode cX1_leastHookWith 1 = .ok (.istore_n 2, 1) := by decide +kernel
theorem dX1_leastHookWith_2 : decode cX1_leastHookWith 2 = .ok (.iload_n 2, 1) := by decide +kernel
theorem dX1_leastHookWith_3 : decode cX1_leastHookWith 3 = .ok (.bipush 8, 2) := by decide +kernel
theorem dX1_leastHookWith_5 : decode cX1_leastHookWith 5 = .ok (.if_icmp .ge 21, 3) := by decide +kernel
theorem dX1_leastHookWith_8 : decode cX1_leastHookWith 8 = .ok (.aload_n 0, 1) := by decide +kernel
theorem dX1_leastHookWith_9 : decode cX1_leastHookWith 9 = .ok (.getfield 18, 3) := by decide +kernel
theorem dX1_leastHookWith_12 : decode cX1_leastHookWith 12 = .ok (.iload_n 2, 1) := by decide +kernel
theorem dX1_leastHookWith_13 : decode cX1_leastHookWith 13 = .ok (.aaload, 1) := by decide +kernel
theorem dX1_leastHookWith_14 : decode cX1_leastHookWith 14 = .ok (.aload_n 1, 1) := by decide +kernel
theorem dX1_leastHookWith_15 : decode cX1_leastHookWith 15 = .ok (.if_acmp .ne 5, 3) := by decide +kernel
theorem dX1_leastHookWith_18 : decode cX1_leastHookWith 18 = .ok (.iload_n 2, 1) := by decide +kernel
theorem dX1_leastHookWith_19 : decode cX1_leastHookWith 19 = .ok (.ireturn, 1) := by decide +kernel
theorem dX1_leastHookWith_20 : decode cX1_leastHookWith 20 = .ok (.iinc 2 1, 3) := by decide +kernel
theorem dX1_leastHookWith_23 : decode cX1_leastHookWith 23 = .ok (.goto (-21), 3) := by decide +kernel
theorem dX1_leastHookWith_26 : decode cX1_leastHookWith 26 = .ok (.iconst (-1), 1) := by decide +kernel
theorem dX1_leastHookWith_27 : decode cX1_leastHookWith 27 = .ok (.ireturn, 1) := by decide +kernel
theorem dX1_takes_0 : decode cX1_takes 0 = .ok (.aload_n 1, 1) := by decide +kernel
theorem dX1_takes_1 : decode cX1_takes 1 = .ok (.getfield 61, 3) := by decide +kernel
theorem dX1_takes_4 : decode cX1_takes 4 = .ok (.ifCond .eq 18, 3) := by decide +kernel
theorem dX1_takes_7 : decode cX1_takes 7 = .ok (.aload_n 1, 1) := by decide +kernel
theorem dX1_takes_8 : decode cX1_takes 8 = .ok (.invokevirtual 71, 3) := by decide +kernel
theorem dX1_takes_11 : decode cX1_takes 11 = .ok (.ifCond .eq 11, 3) := by decide +kernel
theorem dX1_takes_14 : decode cX1_takes 14 = .ok (.aload_n 0, 1) := by decide +kernel
theorem dX1_takes_15 : decode cX1_takes 15 = .ok (.lload_n 2, 1) := by decide +kernel
theorem dX1_takes_16 : decode cX1_takes 16 = .ok (.invokevirtual 135, 3) := by decide +kernel
theorem dX1_takes_19 : decode cX1_takes 19 = .ok (.ifCond .ne 5, 3) := by decide +kernel
theorem dX1_takes_22 : decode cX1_takes 22 = .ok (.iconst 1, 1) := by decide +kernel
theorem dX1_takes_23 : decode cX1_takes 23 = .ok (.ireturn, 1) := by decide +kernel
theorem dX1_takes_24 : decode cX1_takes 24 = .ok (.aload_n 0, 1) := by decide +kernel
theorem dX1_takes_25 : decode cX1_takes 25 = .ok (.getfield 29, 3) := by decide +kernel
theorem dX1_takes_28 : decode cX1_takes 28 = .ok (.lload_n 2, 1) := by decide +kernel
theorem dX1_takes_29 : decode cX1_takes 29 = .ok (.l2i, 1) := by decide +kernel
theorem dX1_takes_30 : decode cX1_takes 30 = .ok (.iaload, 1) := by decide +kernel
theorem dX1_takes_31 : decode cX1_takes 31 = .ok (.aload_n 1, 1) := by decide +kernel
theorem dX1_takes_32 : decode cX1_takes 32 = .ok (.getfield 61, 3) := by decide +kernel
theorem dX1_takes_35 : decode cX1_takes 35 = .ok (.iconst 1, 1) := by decide +kernel
theorem dX1_takes_36 : decode cX1_takes 36 = .ok (.isub, 1) := by decide +kernel
theorem dX1_takes_37 : decode cX1_takes 37 = .ok (.if_icmp .ne 7, 3) := by decide +kernel
theorem dX1_takes_40 : decode cX1_takes 40 = .ok (.iconst 1, 1) := by decide +kernel
theorem dX1_takes_41 : decode cX1_takes 41 = .ok (.goto 4, 3) := by decide +kernel
theorem dX1_takes_44 : decode cX1_takes 44 = .ok (.iconst 0, 1) := by decide +kernel
theorem dX1_takes_45 : decode cX1_takes 45 = .ok (.ireturn, 1) := by decide +kernel
theorem dX1_areAlike_0 : decode cX1_areAlike 0 = .ok (.aload_n 0, 1) := by decide +kernel
theorem dX1_areAlike_1 : decode cX1_areAlike 1 = .ok (.invokevirtual 89, 3) := by decide +kernel
theorem dX1_areAlike_4 : decode cX1_areAlike 4 = .ok (.ifCond .eq 25, 3) := by decide +kernel
theorem dX1_areAlike_7 : decode cX1_areAlike 7 = .ok (.aload_n 1, 1) := by decide +kernel
theorem dX1_areAlike_8 : decode cX1_areAlike 8 = .ok (.invokevirtual 89, 3) := by decide +kernel
theorem dX1_areAlike_11 : decode cX1_areAlike 11 = .ok (.ifCond .eq 18, 3) := by decide +kernel
theorem dX1_areAlike_14 : decode cX1_areAlike 14 = .ok (.aload_n 0, 1) := by decide +kernel
theorem dX1_areAlike_15 : decode cX1_areAlike 15 = .ok (.invokevirtual 141, 3) := by decide +kernel
theorem dX1_areAlike_18 : decode cX1_areAlike 18 = .ok (.aload_n 1, 1) := by decide +kernel
theorem dX1_areAlike_19 : decode cX1_areAlike 19 = .ok (.invokevirtual 141, 3) := by decide +kernel
theorem dX1_areAlike_22 : decode cX1_areAlike 22 = .ok (.if_icmp .ne 7, 3) := by decide +kernel
theorem dX1_areAlike_25 : decode cX1_areAlike 25 = .ok (.iconst 1, 1) := by decide +kernel
theorem dX1_areAlike_26 : decode cX1_areAlike 26 = .ok (.goto 4, 3) := by decide +kernel
theorem dX1_areAlike_29 : decode cX1_areAlike 29 = .ok (.iconst 0, 1) := by decide +kernel
theorem dX1_areAlike_30 : decode cX1_areAlike 30 = .ok (.ireturn, 1) := by decide +kernel
theorem dX1_isForeign_0 : decode cX1_isForeign 0 = .ok (.aload_n 0, 1) := by decide +kernel
theorem dX1_isForeign_1 : decode cX1_isForeign 1 = .ok (.invokevirtual 67, 3) := by decide +kernel
theorem dX1_isForeign_4 : decode cX1_isForeign 4 = .ok (.ifCond .ne 15, 3) := by decide +kernel
theorem dX1_isForeign_7 : decode cX1_isForeign 7 = .ok (.aload_n 0, 1) := by decide +kernel
theorem dX1_isForeign_8 : decode cX1_isForeign 8 = .ok (.invokevirtual 141, 3) := by decide +kernel
theorem dX1_isForeign_11 : decode cX1_isForeign 11 = .ok (.iload_n 1, 1) := by decide +kernel
theorem dX1_isForeign_12 : decode cX1_isForeign 12 = .ok (.if_icmp .eq 7, 3) := by decide +kernel
theorem dX1_isForeign_15 : decode cX1_isForeign 15 = .ok (.iconst 1, 1) := by decide +kernel
theorem dX1_isForeign_16 : decode cX1_isForeign 16 = .ok (.goto 4, 3) := by decide +kernel
theorem dX1_isForeign_19 : decode cX1_isForeign 19 = .ok (.iconst 0, 1) := by decide +kernel
theorem dX1_isForeign_20 : decode cX1_isForeign 20 = .ok (.ireturn, 1) := by decide +kernel
theorem dX1_copySpan_0 : decode cX1_copySpan 0 = .ok (.aload_n 1, 1) := by decide +kernel
theorem dX1_copySpan_1 : decode cX1_copySpan 1 = .ok (.invokevirtual 67, 3) := by decide +kernel
theorem dX1_copySpan_4 : decode cX1_copySpan 4 = .ok (.ifCond .ne 10, 3) := by decide +kernel
theorem dX1_copySpan_7 : decode cX1_copySpan 7 = .ok (.aload_n 3, 1) := by decide +kernel
theorem dX1_copySpan_8 : decode cX1_copySpan 8 = .ok (.invokevirtual 67, 3) := by decide +kernel
theorem dX1_copySpan_11 : decode cX1_copySpan 11 = .ok (.ifCond .eq 5, 3) := by decide +kernel
theorem dX1_copySpan_14 : decode cX1_copySpan 14 = .ok (.iconst 1, 1) := by decide +kernel
theorem dX1_copySpan_15 : decode cX1_copySpan 15 = .ok (.ireturn, 1) := by decide +kernel
theorem dX1_copySpan_16 : decode cX1_copySpan 16 = .ok (.aload_n 1, 1) := by decide +kernel
theorem dX1_copySpan_17 : decode cX1_copySpan 17 = .ok (.aload_n 3, 1) := by decide +kernel
theorem dX1_copySpan_18 : decode cX1_copySpan 18 = .ok (.invokestatic 145, 3) := by decide +kernel
theorem dX1_copySpan_21 : decode cX1_copySpan 21 = .ok (.ifCond .ne 5, 3) := by decide +kernel
theorem dX1_copySpan_24 : decode cX1_copySpan 24 = .ok (.iconst 2, 1) := by decide +kernel
theorem dX1_copySpan_25 : decode cX1_copySpan 25 = .ok (.ireturn, 1) := by decide +kernel
theorem dX1_copySpan_26 : decode cX1_copySpan 26 = .ok (.aload_n 1, 1) := by decide +kernel
theorem dX1_copySpan_27 : decode cX1_copySpan 27 = .ok (.iload_n 2, 1) := by decide +kernel
theorem dX1_copySpan_28 : decode cX1_copySpan 28 = .ok (.iload 5, 2) := by decide +kernel
theorem dX1_copySpan_30 : decode cX1_copySpan 30 = .ok (.invokevirtual 149, 3) := by decide +kernel
theorem dX1_copySpan_33 : decode cX1_copySpan 33 = .ok (.ifCond .eq 14, 3) := by decide +kernel
theorem dX1_copySpan_36 : decode cX1_copySpan 36 = .ok (.aload_n 3, 1) := by decide +kernel
theorem dX1_copySpan_37 : decode cX1_copySpan 37 = .ok (.iload 4, 2) := by decide +kernel
theorem dX1_copySpan_39 : decode cX1_copySpan 39 = .ok (.iload 5, 2) := by decide +kernel
theorem dX1_copySpan_41 : decode cX1_copySpan 41 = .ok (.invokevirtual 149, 3) := by decide +kernel
theorem dX1_copySpan_44 : decode cX1_copySpan 44 = .ok (.ifCond .ne 5, 3) := by decide +kernel
theorem dX1_copySpan_47 : decode cX1_copySpan 47 = .ok (.iconst 3, 1) := by decide +kernel
theorem dX1_copySpan_48 : decode cX1_copySpan 48 = .ok (.ireturn, 1) := by decide +kernel
theorem dX1_copySpan_49 : decode cX1_copySpan 49 = .ok (.aload_n 1, 1) := by decide +kernel
theorem dX1_copySpan_50 : decode cX1_copySpan 50 = .ok (.getfield 82, 3) := by decide +kernel
theorem dX1_copySpan_53 : decode cX1_copySpan 53 = .ok (.iload_n 2, 1) := by decide +kernel
theorem dX1_copySpan_54 : decode cX1_copySpan 54 = .ok (.aload_n 0, 1) := by decide +kernel
theorem dX1_copySpan_55 : decode cX1_copySpan 55 = .ok (.getfield 25, 3) := by decide +kernel
theorem dX1_copySpan_58 : decode cX1_copySpan 58 = .ok (.iconst 0, 1) := by decide +kernel
theorem dX1_copySpan_59 : decode cX1_copySpan 59 = .ok (.iload 5, 2) := by decide +kernel
theorem dX1_copySpan_61 : decode cX1_copySpan 61 = .ok (.invokestatic 102, 3) := by decide +kernel
theorem dX1_copySpan_64 : decode cX1_copySpan 64 = .ok (.iconst 0, 1) := by decide +kernel
theorem dX1_copySpan_65 : decode cX1_copySpan 65 = .ok (.istore 6, 2) := by decide +kernel
theorem dX1_copySpan_67 : decode cX1_copySpan 67 = .ok (.iload 6, 2) := by decide +kernel
theorem dX1_copySpan_69 : decode cX1_copySpan 69 = .ok (.iload 5, 2) := by decide +kernel
theorem dX1_copySpan_71 : decode cX1_copySpan 71 = .ok (.if_icmp .ge 43, 3) := by decide +kernel
theorem dX1_copySpan_74 : decode cX1_copySpan 74 = .ok (.aload_n 0, 1) := by decide +kernel
theorem dX1_copySpan_75 : decode cX1_copySpan 75 = .ok (.aload_n 3, 1) := by decide +kernel
theorem dX1_copySpan_76 : decode cX1_copySpan 76 = .ok (.aload_n 0, 1) := by decide +kernel
theorem dX1_copySpan_77 : decode cX1_copySpan 77 = .ok (.getfield 25, 3) := by decide +kernel
theorem dX1_copySpan_80 : decode cX1_copySpan 80 = .ok (.iload 6, 2) := by decide +kernel
theorem dX1_copySpan_82 : decode cX1_copySpan 82 = .ok (.laload, 1) := by decide +kernel
theorem dX1_copySpan_83 : decode cX1_copySpan 83 = .ok (.invokevirtual 78, 3) := by decide +kernel
theorem dX1_copySpan_86 : decode cX1_copySpan 86 = .ok (.ifCond .ne 5, 3) := by decide +kernel
theorem dX1_copySpan_89 : decode cX1_copySpan 89 = .ok (.iconst 2, 1) := by decide +kernel
theorem dX1_copySpan_90 : decode cX1_copySpan 90 = .ok (.ireturn, 1) := by decide +kernel
theorem dX1_copySpan_91 : decode cX1_copySpan 91 = .ok (.aload_n 3, 1) := by decide +kernel
theorem dX1_copySpan_92 : decode cX1_copySpan 92 = .ok (.getfield 82, 3) := by decide +kernel
theorem dX1_copySpan_95 : decode cX1_copySpan 95 = .ok (.iload 4, 2) := by decide +kernel
theorem dX1_copySpan_97 : decode cX1_copySpan 97 = .ok (.iload 6, 2) := by decide +kernel
theorem dX1_copySpan_99 : decode cX1_copySpan 99 = .ok (.iadd, 1) := by decide +kernel
theorem dX1_copySpan_100 : decode cX1_copySpan 100 = .ok (.aload_n 0, 1) := by decide +kernel
theorem dX1_copySpan_101 : decode cX1_copySpan 101 = .ok (.getfield 25, 3) := by decide +kernel
theorem dX1_copySpan_104 : decode cX1_copySpan 104 = .ok (.iload 6, 2) := by decide +kernel
theorem dX1_copySpan_106 : decode cX1_copySpan 106 = .ok (.laload, 1) := by decide +kernel
theorem dX1_copySpan_107 : decode cX1_copySpan 107 = .ok (.lastore, 1) := by decide +kernel
theorem dX1_copySpan_108 : decode cX1_copySpan 108 = .ok (.iinc 6 1, 3) := by decide +kernel
theorem dX1_copySpan_111 : decode cX1_copySpan 111 = .ok (.goto (-44), 3) := by decide +kernel
theorem dX1_copySpan_114 : decode cX1_copySpan 114 = .ok (.iconst 0, 1) := by decide +kernel
theorem dX1_copySpan_115 : decode cX1_copySpan 115 = .ok (.ireturn, 1) := by decide +kernel
theorem dX1_slideLater_0 : decode cX1_slideLater 0 = .ok (.aload_n 0, 1) := by decide +kernel
theorem dX1_slideLater_1 : decode cX1_slideLater 1 = .ok (.getfield 82, 3) := by decide +kernel
theorem dX1_slideLater_4 : decode cX1_slideLater 4 = .ok (.iload_n 1, 1) := by decide +kernel
theorem dX1_slideLater_5 : decode cX1_slideLater 5 = .ok (.aload_n 0, 1) := by decide +kernel
theorem dX1_slideLater_6 : decode cX1_slideLater 6 = .ok (.getfield 82, 3) := by decide +kernel
theorem dX1_slideLater_9 : decode cX1_slideLater 9 = .ok (.iload_n 1, 1) := by decide +kernel
theorem dX1_slideLater_10 : decode cX1_slideLater 10 = .ok (.iload_n 2, 1) := by decide +kernel
theorem dX1_slideLater_11 : decode cX1_slideLater 11 = .ok (.iadd, 1) := by decide +kernel
theorem dX1_slideLater_12 : decode cX1_slideLater 12 = .ok (.aload_n 0, 1) := by decide +kernel
theorem dX1_slideLater_13 : decode cX1_slideLater 13 = .ok (.getfield 92, 3) := by decide +kernel
theorem dX1_slideLater_16 : decode cX1_slideLater 16 = .ok (.iload_n 1, 1) := by decide +kernel
theorem dX1_slideLater_17 : decode cX1_slideLater 17 = .ok (.isub, 1) := by decide +kernel
theorem dX1_slideLater_18 : decode cX1_slideLater 18 = .ok (.iload_n 2, 1) := by decide +kernel
theorem dX1_slideLater_19 : decode cX1_slideLater 19 = .ok (.isub, 1) := by decide +kernel
theorem dX1_slideLater_20 : decode cX1_slideLater 20 = .ok (.invokestatic 102, 3) := by decide +kernel
theorem dX1_slideLater_23 : decode cX1_slideLater 23 = .ok (.aload_n 0, 1) := by decide +kernel
theorem dX1_slideLater_24 : decode cX1_slideLater 24 = .ok (.iload_n 1, 1) := by decide +kernel
theorem dX1_slideLater_25 : decode cX1_slideLater 25 = .ok (.iload_n 1, 1) := by decide +kernel
theorem dX1_slideLater_26 : decode cX1_slideLater 26 = .ok (.iload_n 2, 1) := by decide +kernel
theorem dX1_slideLater_27 : decode cX1_slideLater 27 = .ok (.iadd, 1) := by decide +kernel
theorem dX1_slideLater_28 : decode cX1_slideLater 28 = .ok (.invokevirtual 153, 3) := by decide +kernel
theorem dX1_slideLater_31 : decode cX1_slideLater 31 = .ok (.return_, 1) := by decide +kernel
theorem dX1_slideEarlier_0 : decode cX1_slideEarlier 0 = .ok (.aload_n 0, 1) := by decide +kernel
theorem dX1_slideEarlier_1 : decode cX1_slideEarlier 1 = .ok (.getfield 82, 3) := by decide +kernel
theorem dX1_slideEarlier_4 : decode cX1_slideEarlier 4 = .ok (.iload_n 1, 1) := by decide +kernel
theorem dX1_slideEarlier_5 : decode cX1_slideEarlier 5 = .ok (.aload_n 0, 1) := by decide +kernel
theorem dX1_slideEarlier_6 : decode cX1_slideEarlier 6 = .ok (.getfield 82, 3) := by decide +kernel
theorem dX1_slideEarlier_9 : decode cX1_slideEarlier 9 = .ok (.iload_n 1, 1) := by decide +kernel
theorem dX1_slideEarlier_10 : decode cX1_slideEarlier 10 = .ok (.iload_n 2, 1) := by decide +kernel
theorem dX1_slideEarlier_11 : decode cX1_slideEarlier 11 = .ok (.isub, 1) := by decide +kernel
theorem dX1_slideEarlier_12 : decode cX1_slideEarlier 12 = .ok (.aload_n 0, 1) := by decide +kernel
theorem dX1_slideEarlier_13 : decode cX1_slideEarlier 13 = .ok (.getfield 92, 3) := by decide +kernel
theorem dX1_slideEarlier_16 : decode cX1_slideEarlier 16 = .ok (.iload_n 1, 1) := by decide +kernel
theorem dX1_slideEarlier_17 : decode cX1_slideEarlier 17 = .ok (.isub, 1) := by decide +kernel
theorem dX1_slideEarlier_18 : decode cX1_slideEarlier 18 = .ok (.invokestatic 102, 3) := by decide +kernel
theorem dX1_slideEarlier_21 : decode cX1_slideEarlier 21 = .ok (.aload_n 0, 1) := by decide +kernel
theorem dX1_slideEarlier_22 : decode cX1_slideEarlier 22 = .ok (.aload_n 0, 1) := by decide +kernel
theorem dX1_slideEarlier_23 : decode cX1_slideEarlier 23 = .ok (.getfield 92, 3) := by decide +kernel
theorem dX1_slideEarlier_26 : decode cX1_slideEarlier 26 = .ok (.iload_n 2, 1) := by decide +kernel
theorem dX1_slideEarlier_27 : decode cX1_slideEarlier 27 = .ok (.isub, 1) := by decide +kernel
theorem dX1_slideEarlier_28 : decode cX1_slideEarlier 28 = .ok (.aload_n 0, 1) := by decide +kernel
theorem dX1_slideEarlier_29 : decode cX1_slideEarlier 29 = .ok (.getfield 92, 3) := by decide +kernel
theorem dX1_slideEarlier_32 : decode cX1_slideEarlier 32 = .ok (.invokevirtual 153, 3) := by decide +kernel
theorem dX1_slideEarlier_35 : decode cX1_slideEarlier 35 = .ok (.return_, 1) := by decide +kernel
theorem dX1_fillPurse_0 : decode cX1_fillPurse 0 = .ok (.aload_n 0, 1) := by decide +kernel
theorem dX1_fillPurse_1 : decode cX1_fillPurse 1 = .ok (.lload_n 1, 1) := by decide +kernel
theorem dX1_fillPurse_2 : decode cX1_fillPurse 2 = .ok (.invokevirtual 135, 3) := by decide +kernel
theorem dX1_fillPurse_5 : decode cX1_fillPurse 5 = .ok (.ifCond .eq 34, 3) := by decide +kernel
theorem dX1_fillPurse_8 : decode cX1_fillPurse 8 = .ok (.lload_n 1, 1) := by decide +kernel
theorem dX1_fillPurse_9 : decode cX1_fillPurse 9 = .ok (.l2i, 1) := by decide +kernel
theorem dX1_fillPurse_10 : decode cX1_fillPurse 10 = .ok (.istore 7, 2) := by decide +kernel
theorem dX1_fillPurse_12 : decode cX1_fillPurse 12 = .ok (.aload_n 0, 1) := by decide +kernel
theorem dX1_fillPurse_13 : decode cX1_fillPurse 13 = .ok (.getfield 33, 3) := by decide +kernel
theorem dX1_fillPurse_16 : decode cX1_fillPurse 16 = .ok (.iload 7, 2) := by decide +kernel
theorem dX1_fillPurse_18 : decode cX1_fillPurse 18 = .ok (.dup2, 1) := by decide +kernel
theorem dX1_fillPurse_19 : decode cX1_fillPurse 19 = .ok (.laload, 1) := by decide +kernel
theorem dX1_fillPurse_20 : decode cX1_fillPurse 20 = .ok (.lload_n 3, 1) := by decide +kernel
theorem dX1_fillPurse_21 : decode cX1_fillPurse 21 = .ok (.getstatic 156, 3) := by decide +kernel
theorem dX1_fillPurse_24 : decode cX1_fillPurse 24 = .ok (.aload_n 0, 1) := by decide +kernel
theorem dX1_fillPurse_25 : decode cX1_fillPurse 25 = .ok (.getfield 29, 3) := by decide +kernel
theorem dX1_fillPurse_28 : decode cX1_fillPurse 28 = .ok (.iload 7, 2) := by decide +kernel
theorem dX1_fillPurse_30 : decode cX1_fillPurse 30 = .ok (.iaload, 1) := by decide +kernel
theorem dX1_fillPurse_31 : decode cX1_fillPurse 31 = .ok (.iaload, 1) := by decide +kernel
theorem dX1_fillPurse_32 : decode cX1_fillPurse 32 = .ok (.i2l, 1) := by decide +kernel
theorem dX1_fillPurse_33 : decode cX1_fillPurse 33 = .ok (.lmul, 1) := by decide +kernel
theorem dX1_fillPurse_34 : decode cX1_fillPurse 34 = .ok (.lload 5, 2) := by decide +kernel
theorem dX1_fillPurse_36 : decode cX1_fillPurse 36 = .ok (.ladd, 1) := by decide +kernel
theorem dX1_fillPurse_37 : decode cX1_fillPurse 37 = .ok (.ladd, 1) := by decide +kernel
theorem dX1_fillPurse_38 : decode cX1_fillPurse 38 = .ok (.lastore, 1) := by decide +kernel
theorem dX1_fillPurse_39 : decode cX1_fillPurse 39 = .ok (.return_, 1) := by decide +kernel
theorem dX1_placesOnWall_0 : decode cX1_placesOnWall 0 = .ok (.iconst 0, 1) := by decide +kernel
theorem dX1_placesOnWall_1 : decode cX1_placesOnWall 1 = .ok (.istore_n 2, 1) := by decide +kernel
theorem dX1_placesOnWall_2 : decode cX1_placesOnWall 2 = .ok (.iconst 0, 1) := by decide +kernel
theorem dX1_placesOnWall_3 : decode cX1_placesOnWall 3 = .ok (.istore_n 3, 1) := by decide +kernel
theorem dX1_placesOnWall_4 : decode cX1_placesOnWall 4 = .ok (.iload_n 3, 1) := by decide +kernel
theorem dX1_placesOnWall_5 : decode cX1_placesOnWall 5 = .ok (.bipush 8, 2) := by decide +kernel
theorem dX1_placesOnWall_7 : decode cX1_placesOnWall 7 = .ok (.if_icmp .ge 44, 3) := by decide +kernel
theorem dX1_placesOnWall_10 : decode cX1_placesOnWall 10 = .ok (.aload_n 0, 1) := by decide +kernel
theorem dX1_placesOnWall_11 : decode cX1_placesOnWall 11 = .ok (.getfield 18, 3) := by decide +kernel
theorem dX1_placesOnWall_14 : decode cX1_placesOnWall 14 = .ok (.iload_n 3, 1) := by decide +kernel
theorem dX1_placesOnWall_15 : decode cX1_placesOnWall 15 = .ok (.aaload, 1) := by decide +kernel
theorem dX1_placesOnWall_16 : decode cX1_placesOnWall 16 = .ok (.astore 4, 2) := by decide +kernel
theorem dX1_placesOnWall_18 : decode cX1_placesOnWall 18 = .ok (.aload 4, 2) := by decide +kernel
theorem dX1_placesOnWall_20 : decode cX1_placesOnWall 20 = .ok (.invokevirtual 71, 3) := by decide +kernel
theorem dX1_placesOnWall_23 : decode cX1_placesOnWall 23 = .ok (.ifCond .eq 22, 3) := by decide +kernel
theorem dX1_placesOnWall_26 : decode cX1_placesOnWall 26 = .ok (.aload_n 0, 1) := by decide +kernel
theorem dX1_placesOnWall_27 : decode cX1_placesOnWall 27 = .ok (.aload 4, 2) := by decide +kernel
theorem dX1_placesOnWall_29 : decode cX1_placesOnWall 29 = .ok (.invokevirtual 116, 3) := by decide +kernel
theorem dX1_placesOnWall_32 : decode cX1_placesOnWall 32 = .ok (.iload_n 3, 1) := by decide +kernel
theorem dX1_placesOnWall_33 : decode cX1_placesOnWall 33 = .ok (.if_icmp .ne 12, 3) := by decide +kernel
theorem dX1_placesOnWall_36 : decode cX1_placesOnWall 36 = .ok (.iload_n 2, 1) := by decide +kernel
theorem dX1_placesOnWall_37 : decode cX1_placesOnWall 37 = .ok (.aload 4, 2) := by decide +kernel
theorem dX1_placesOnWall_39 : decode cX1_placesOnWall 39 = .ok (.iload_n 1, 1) := by decide +kernel
theorem dX1_placesOnWall_40 : decode cX1_placesOnWall 40 = .ok (.invokestatic 159, 3) := by decide +kernel
theorem dX1_placesOnWall_43 : decode cX1_placesOnWall 43 = .ok (.iadd, 1) := by decide +kernel
theorem dX1_placesOnWall_44 : decode cX1_placesOnWall 44 = .ok (.istore_n 2, 1) := by decide +kernel
theorem dX1_placesOnWall_45 : decode cX1_placesOnWall 45 = .ok (.iinc 3 1, 3) := by decide +kernel
theorem dX1_placesOnWall_48 : decode cX1_placesOnWall 48 = .ok (.goto (-44), 3) := by decide +kernel
theorem dX1_placesOnWall_51 : decode cX1_placesOnWall 51 = .ok (.iload_n 2, 1) := by decide +kernel
theorem dX1_placesOnWall_52 : decode cX1_placesOnWall 52 = .ok (.ireturn, 1) := by decide +kernel
theorem dX1_placesWith_0 : decode cX1_placesWith 0 = .ok (.iconst 0, 1) := by decide +kernel
theorem dX1_placesWith_1 : decode cX1_placesWith 1 = .ok (.istore_n 2, 1) := by decide +kernel
theorem dX1_placesWith_2 : decode cX1_placesWith 2 = .ok (.iconst 0, 1) := by decide +kernel
theorem dX1_placesWith_3 : decode cX1_placesWith 3 = .ok (.istore_n 3, 1) := by decide +kernel
theorem dX1_placesWith_4 : decode cX1_placesWith 4 = .ok (.iload_n 3, 1) := by decide +kernel
theorem dX1_placesWith_5 : decode cX1_placesWith 5 = .ok (.aload_n 0, 1) := by decide +kernel
theorem dX1_placesWith_6 : decode cX1_placesWith 6 = .ok (.getfield 92, 3) := by decide +kernel
theorem dX1_placesWith_9 : decode cX1_placesWith 9 = .ok (.if_icmp .ge 24, 3) := by decide +kernel
theorem dX1_placesWith_12 : decode cX1_placesWith 12 = .ok (.aload_n 0, 1) := by decide +kernel
theorem dX1_placesWith_13 : decode cX1_placesWith 13 = .ok (.getfield 82, 3) := by decide +kernel
theorem dX1_placesWith_16 : decode cX1_placesWith 16 = .ok (.iload_n 3, 1) := by decide +kernel
theorem dX1_placesWith_17 : decode cX1_placesWith 17 = .ok (.laload, 1) := by decide +kernel
theorem dX1_placesWith_18 : decode cX1_placesWith 18 = .ok (.iload_n 1, 1) := by decide +kernel
theorem dX1_placesWith_19 : decode cX1_placesWith 19 = .ok (.i2l, 1) := by decide +kernel
theorem dX1_placesWith_20 : decode cX1_placesWith 20 = .ok (.lcmp, 1) := by decide +kernel
theorem dX1_placesWith_21 : decode cX1_placesWith 21 = .ok (.ifCond .ne 6, 3) := by decide +kernel
theorem dX1_placesWith_24 : decode cX1_placesWith 24 = .ok (.iinc 2 1, 3) := by decide +kernel
theorem dX1_placesWith_27 : decode cX1_placesWith 27 = .ok (.iinc 3 1, 3) := by decide +kernel
theorem dX1_placesWith_30 : decode cX1_placesWith 30 = .ok (.goto (-26), 3) := by decide +kernel
theorem dX1_placesWith_33 : decode cX1_placesWith 33 = .ok (.iload_n 2, 1) := by decide +kernel
theorem dX1_placesWith_34 : decode cX1_placesWith 34 = .ok (.ireturn, 1) := by decide +kernel
