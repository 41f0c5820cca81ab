theorem dX2_init_0 : decode cX2_init 0 = .ok (.aload_n 0, 1) := by decide +kernel
theorem dX2_init_1 : decode cX2_init 1 = .ok (.invokespecial 1, 3) := by decide +kernel
theorem dX2_init_4 : decode cX2_init 4 = .ok (.aload_n 0, 1) := by decide +kernel
theorem dX2_init_5 : decode cX2_init 5 = .ok (.bipush 8, 2) := by decide +kernel
theorem dX2_init_7 : decode cX2_init 7 = .ok (.newarray .int, 2) := by decide +kernel
theorem dX2_init_9 : decode cX2_init 9 = .ok (.dup, 1) := by decide +kernel
theorem dX2_init_10 : decode cX2_init 10 = .ok (.iconst 0, 1) := by decide +kernel
theorem dX2_init_11 : decode cX2_init 11 = .ok (.iconst (-1), 1) := by decide +kernel
theorem dX2_init_12 : decode cX2_init 12 = .ok (.iastore, 1) := by decide +kernel
theorem dX2_init_13 : decode cX2_init 13 = .ok (.dup, 1) := by decide +kernel
theorem dX2_init_14 : decode cX2_init 14 = .ok (.iconst 1, 1) := by decide +kernel
theorem dX2_init_15 : decode cX2_init 15 = .ok (.iconst (-1), 1) := by decide +kernel
theorem dX2_init_16 : decode cX2_init 16 = .ok (.iastore, 1) := by decide +kernel
theorem dX2_init_17 : decode cX2_init 17 = .ok (.dup, 1) := by decide +kernel
theorem dX2_init_18 : decode cX2_init 18 = .ok (.iconst 2, 1) := by decide +kernel
theorem dX2_init_19 : decode cX2_init 19 = .ok (.iconst (-1), 1) := by decide +kernel
theorem dX2_init_20 : decode cX2_init 20 = .ok (.iastore, 1) := by decide +kernel
theorem dX2_init_21 : decode cX2_init 21 = .ok (.dup, 1) := by decide +kernel
theorem dX2_init_22 : decode cX2_init 22 = .ok (.iconst 3, 1) := by decide +kernel
theorem dX2_init_23 : decode cX2_init 23 = .ok (.iconst (-1), 1) := by decide +kernel
theorem dX2_init_24 : decode cX2_init 24 = .ok (.iastore, 1) := by decide +kernel
theorem dX2_init_25 : decode cX2_init 25 = .ok (.dup, 1) := by decide +kernel
theorem dX2_init_26 : decode cX2_init 26 = .ok (.iconst 4, 1) := by decide +kernel
theorem dX2_init_27 : decode cX2_init 27 = .ok (.iconst (-1), 1) := by decide +kernel
theorem dX2_init_28 : decode cX2_init 28 = .ok (.iastore, 1) := by decide +kernel
theorem dX2_init_29 : decode cX2_init 29 = .ok (.dup, 1) := by decide +kernel
theorem dX2_init_30 : decode cX2_init 30 = .ok (.iconst 5, 1) := by decide +kernel
theorem dX2_init_31 : decode cX2_init 31 = .ok (.iconst (-1), 1) := by decide +kernel
theorem dX2_init_32 : decode cX2_init 32 = .ok (.iastore, 1) := by decide +kernel
theorem dX2_init_33 : decode cX2_init 33 = .ok (.dup, 1) := by decide +kernel
theorem dX2_init_34 : decode cX2_init 34 = .ok (.bipush 6, 2) := by decide +kernel
theorem dX2_init_36 : decode cX2_init 36 = .ok (.iconst (-1), 1) := by decide +kernel
theorem dX2_init_37 : decode cX2_init 37 = .ok (.iastore, 1) := by decide +kernel
theorem dX2_init_38 : decode cX2_init 38 = .ok (.dup, 1) := by decide +kernel
theorem dX2_init_39 : decode cX2_init 39 = .ok (.bipush 7, 2) := by decide +kernel
theorem dX2_init_41 : decode cX2_init 41 = .ok (.iconst (-1), 1) := by decide +kernel
theorem dX2_init_42 : decode cX2_init 42 = .ok (.iastore, 1) := by decide +kernel
theorem dX2_init_43 : decode cX2_init 43 = .ok (.putfield 9, 3) := by decide +kernel
theorem dX2_init_46 : decode cX2_init 46 = .ok (.aload_n 0, 1) := by decide +kernel
theorem dX2_init_47 : decode cX2_init 47 = .ok (.bipush 9, 2) := by decide +kernel
theorem dX2_init_49 : decode cX2_init 49 = .ok (.newarray .int, 2) := by decide +kernel
theorem dX2_init_51 : decode cX2_init 51 = .ok (.putfield 13, 3) := by decide +kernel
theorem dX2_init_54 : decode cX2_init 54 = .ok (.aload_n 0, 1) := by decide +kernel
theorem dX2_init_55 : decode cX2_init 55 = .ok (.bipush 9, 2) := by decide +kernel
theorem dX2_init_57 : decode cX2_init 57 = .ok (.newarray .int, 2) := by decide +kernel
theorem dX2_init_59 : decode cX2_init 59 = .ok (.putfield 16, 3) := by decide +kernel
theorem dX2_init_62 : decode cX2_init 62 = .ok (.aload_n 0, 1) := by decide +kernel
theorem dX2_init_63 : decode cX2_init 63 = .ok (.sipush 360, 3) := by decide +kernel
theorem dX2_init_66 : decode cX2_init 66 = .ok (.newarray .long, 2) := by decide +kernel
theorem dX2_init_68 : decode cX2_init 68 = .ok (.putfield 19, 3) := by decide +kernel
theorem dX2_init_71 : decode cX2_init 71 = .ok (.aload_n 0, 1) := by decide +kernel
theorem dX2_init_72 : decode cX2_init 72 = .ok (.bipush 40, 2) := by decide +kernel
theorem dX2_init_74 : decode cX2_init 74 = .ok (.newarray .long, 2) := by decide +kernel
theorem dX2_init_76 : decode cX2_init 76 = .ok (.putfield 23, 3) := by decide +kernel
theorem dX2_init_79 : decode cX2_init 79 = .ok (.aload_n 0, 1) := by decide +kernel
theorem dX2_init_80 : decode cX2_init 80 = .ok (.bipush 60, 2) := by decide +kernel
theorem dX2_init_82 : decode cX2_init 82 = .ok (.newarray .int, 2) := by decide +kernel
theorem dX2_init_84 : decode cX2_init 84 = .ok (.putfield 26, 3) := by decide +kernel
theorem dX2_init_87 : decode cX2_init 87 = .ok (.aload_n 0, 1) := by decide +kernel
theorem dX2_init_88 : decode cX2_init 88 = .ok (.bipush 60, 2) := by decide +kernel
theorem dX2_init_90 : decode cX2_init 90 = .ok (.newarray .long, 2) := by decide +kernel
theorem dX2_init_92 : decode cX2_init 92 = .ok (.putfield 29, 3) := by decide +kernel
theorem dX2_init_95 : decode cX2_init 95 = .ok (.return_, 1) := by decide +kernel
theorem dX2_thrown_0 : decode cX2_thrown 0 = .ok (.aload_n 0, 1) := by decide +kernel
theorem dX2_thrown_1 : decode cX2_thrown 1 = .ok (.getfield 32, 3) := by decide +kernel
theorem dX2_thrown_4 : decode cX2_thrown 4 = .ok (.ireturn, 1) := by decide +kernel
theorem dX2_fails_0 : decode cX2_fails 0 = .ok (.aload_n 0, 1) := by decide +kernel
theorem dX2_fails_1 : decode cX2_fails 1 = .ok (.iload_n 1, 1) := by decide +kernel
theorem dX2_fails_2 : decode cX2_fails 2 = .ok (.ifCond .eq 7, 3) := by decide +kernel
theorem dX2_fails_5 : decode cX2_fails 5 = .ok (.iconst 1, 1) := by decide +kernel
theorem dX2_fails_6 : decode cX2_fails 6 = .ok (.goto 12, 3) := by decide +kernel
theorem dX2_fails_9 : decode cX2_fails 9 = .ok (.iload_n 2, 1) := by decide +kernel
theorem dX2_fails_10 : decode cX2_fails 10 = .ok (.ifCond .eq 7, 3) := by decide +kernel
theorem dX2_fails_13 : decode cX2_fails 13 = .ok (.iconst 2, 1) := by decide +kernel
theorem dX2_fails_14 : decode cX2_fails 14 = .ok (.goto 4, 3) := by decide +kernel
theorem dX2_fails_17 : decode cX2_fails 17 = .ok (.iconst 0, 1) := by decide +kernel
theorem dX2_fails_18 : decode cX2_fails 18 = .ok (.putfield 32, 3) := by decide +kernel
theorem dX2_fails_21 : decode cX2_fails 21 = .ok (.iload_n 1, 1) := by decide +kernel
theorem dX2_fails_22 : decode cX2_fails 22 = .ok (.ifCond .ne 7, 3) := by decide +kernel
theorem dX2_fails_25 : decode cX2_fails 25 = .ok (.iload_n 2, 1) := by decide +kernel
theorem dX2_fails_26 : decode cX2_fails 26 = .ok (.ifCond .eq 7, 3) := by decide +kernel
theorem dX2_fails_29 : decode cX2_fails 29 = .ok (.iconst 1, 1) := by decide +kernel
theorem dX2_fails_30 : decode cX2_fails 30 = .ok (.goto 4, 3) := by decide +kernel
theorem dX2_fails_33 : decode cX2_fails 33 = .ok (.iconst 0, 1) := by decide +kernel
theorem dX2_fails_34 : decode cX2_fails 34 = .ok (.ireturn, 1) := by decide +kernel
theorem dX2_outside_0 : decode cX2_outside 0 = .ok (.iload_n 0, 1) := by decide +kernel
theorem dX2_outside_1 : decode cX2_outside 1 = .ok (.iload_n 1, 1) := by decide +kernel
theorem dX2_outside_2 : decode cX2_outside 2 = .ok (.if_icmp .lt 8, 3) := by decide +kernel
theorem dX2_outside_5 : decode cX2_outside 5 = .ok (.iload_n 0, 1) := by decide +kernel
theorem dX2_outside_6 : decode cX2_outside 6 = .ok (.iload_n 2, 1) := by decide +kernel
theorem dX2_outside_7 : decode cX2_outside 7 = .ok (.if_icmp .le 7, 3) := by decide +kernel
theorem dX2_outside_10 : decode cX2_outside 10 = .ok (.iconst 1, 1) := by decide +kernel
theorem dX2_outside_11 : decode cX2_outside 11 = .ok (.goto 4, 3) := by decide +kernel
theorem dX2_outside_14 : decode cX2_outside 14 = .ok (.iconst 0, 1) := by decide +kernel
theorem dX2_outside_15 : decode cX2_outside 15 = .ok (.ireturn, 1) := by decide +kernel
theorem dX2_noHook_0 : decode cX2_noHook 0 = .ok (.iload_n 0, 1) := by decide +kernel
theorem dX2_noHook_1 : decode cX2_noHook 1 = .ok (.iconst 0, 1) := by decide +kernel
theorem dX2_noHook_2 : decode cX2_noHook 2 = .ok (.bipush 7, 2) := by decide +kernel
theorem dX2_noHook_4 : decode cX2_noHook 4 = .ok (.invokestatic 36, 3) := by decide +kernel
theorem dX2_noHook_7 : decode cX2_noHook 7 = .ok (.ireturn, 1) := by decide +kernel
theorem dX2_noPerson_0 : decode cX2_noPerson 0 = .ok (.iload_n 1, 1) := by decide +kernel
theorem dX2_noPerson_1 : decode cX2_noPerson 1 = .ok (.iconst 0, 1) := by decide +kernel
theorem dX2_noPerson_2 : decode cX2_noPerson 2 = .ok (.aload_n 0, 1) := by decide +kernel
theorem dX2_noPerson_3 : decode cX2_noPerson 3 = .ok (.getfield 40, 3) := by decide +kernel
theorem dX2_noPerson_6 : decode cX2_noPerson 6 = .ok (.iconst 1, 1) := by decide +kernel
theorem dX2_noPerson_7 : decode cX2_noPerson 7 = .ok (.isub, 1) := by decide +kernel
theorem dX2_noPerson_8 : decode cX2_noPerson 8 = .ok (.invokestatic 36, 3) := by decide +kernel
theorem dX2_noPerson_11 : decode cX2_noPerson 11 = .ok (.ireturn, 1) := by decide +kernel
theorem dX2_makeOf_0 : decode cX2_makeOf 0 = .ok (.aload_n 0, 1) := by decide +kernel
theorem dX2_makeOf_1 : decode cX2_makeOf 1 = .ok (.getfield 9, 3) := by decide +kernel
theorem dX2_makeOf_4 : decode cX2_makeOf 4 = .ok (.iload_n 1, 1) := by decide +kernel
theorem dX2_makeOf_5 : decode cX2_makeOf 5 = .ok (.iaload, 1) := by decide +kernel
theorem dX2_makeOf_6 : decode cX2_makeOf 6 = .ok (.iconst (-1), 1) := by decide +kernel
theorem dX2_makeOf_7 : decode cX2_makeOf 7 = .ok (.if_icmp .ne 8, 3) := by decide +kernel
theorem dX2_makeOf_10 : decode cX2_makeOf 10 = .ok (.bipush 6, 2) := by decide +kernel
theorem dX2_makeOf_12 : decode cX2_makeOf 12 = .ok (.goto 14, 3) := by decide +kernel
theorem dX2_makeOf_15 : decode cX2_makeOf 15 = .ok (.aload_n 0, 1) := by decide +kernel
theorem dX2_makeOf_16 : decode cX2_makeOf 16 = .ok (.getfield 13, 3) := by decide +kernel
theorem dX2_makeOf_19 : decode cX2_makeOf 19 = .ok (.aload_n 0, 1) := by decide +kernel
theorem dX2_makeOf_20 : decode cX2_makeOf 20 = .ok (.getfield 9, 3) := by decide +kernel
theorem dX2_makeOf_23 : decode cX2_makeOf 23 = .ok (.iload_n 1, 1) := by decide +kernel
theorem dX2_makeOf_24 : decode cX2_makeOf 24 = .ok (.iaload, 1) := by decide +kernel
theorem dX2_makeOf_25 : decode cX2_makeOf 25 = .ok (.iaload, 1) := by decide +kernel
theorem dX2_makeOf_26 : decode cX2_makeOf 26 = .ok (.ireturn, 1) := by decide +kernel
theorem dX2_isRow_0 : decode cX2_isRow 0 = .ok (.iload_n 0, 1) := by decide +kernel
theorem dX2_isRow_1 : decode cX2_isRow 1 = .ok (.iconst 4, 1) := by decide +kernel
theorem dX2_isRow_2 : decode cX2_isRow 2 = .ok (.if_icmp .gt 7, 3) := by decide +kernel
theorem dX2_isRow_5 : decode cX2_isRow 5 = .ok (.iconst 1, 1) := by decide +kernel
theorem dX2_isRow_6 : decode cX2_isRow 6 = .ok (.goto 4, 3) := by decide +kernel
theorem dX2_isRow_9 : decode cX2_isRow 9 = .ok (.iconst 0, 1) := by decide +kernel
theorem dX2_isRow_10 : decode cX2_isRow 10 = .ok (.ireturn, 1) := by decide +kernel
theorem dX2_isRoster_0 : decode cX2_isRoster 0 = .ok (.iload_n 0, 1) := by decide +kernel
theorem dX2_isRoster_1 : decode cX2_isRoster 1 = .ok (.iconst 2, 1) := by decide +kernel
theorem dX2_isRoster_2 : decode cX2_isRoster 2 = .ok (.if_icmp .gt 7, 3) := by decide +kernel
theorem dX2_isRoster_5 : decode cX2_isRoster 5 = .ok (.iconst 1, 1) := by decide +kernel
theorem dX2_isRoster_6 : decode cX2_isRoster 6 = .ok (.goto 4, 3) := by decide +kernel
theorem dX2_isRoster_9 : decode cX2_isRoster 9 = .ok (.iconst 0, 1) := by decide +kernel
theorem dX2_isRoster_10 : decode cX2_isRoster 10 = .ok (.ireturn, 1) := by decide +kernel
theorem dX2_sizeOf_0 : decode cX2_sizeOf 0 = .ok (.aload_n 0, 1) := by decide +kernel
theorem dX2_sizeOf_1 : decode cX2_sizeOf 1 = .ok (.iload_n 1, 1) := by decide +kernel
theorem dX2_sizeOf_2 : decode cX2_sizeOf 2 = .ok (.invokevirtual 43, 3) := by decide +kernel
theorem dX2_sizeOf_5 : decode cX2_sizeOf 5 = .ok (.invokestatic 47, 3) := by decide +kernel
theorem dX2_sizeOf_8 : decode cX2_sizeOf 8 = .ok (.ifCond .eq 17, 3) := by decide +kernel
theorem dX2_sizeOf_11 : decode cX2_sizeOf 11 = .ok (.aload_n 0, 1) := by decide +kernel
theorem dX2_sizeOf_12 : decode cX2_sizeOf 12 = .ok (.getfield 16, 3) := by decide +kernel
theorem dX2_sizeOf_15 : decode cX2_sizeOf 15 = .ok (.aload_n 0, 1) := by decide +kernel
theorem dX2_sizeOf_16 : decode cX2_sizeOf 16 = .ok (.getfield 9, 3) := by decide +kernel
theorem dX2_sizeOf_19 : decode cX2_sizeOf 19 = .ok (.iload_n 1, 1) := by decide +kernel
theorem dX2_sizeOf_20 : decode cX2_sizeOf 20 = .ok (.iaload, 1) := by decide +kernel
theorem dX2_sizeOf_21 : decode cX2_sizeOf 21 = .ok (.iaload, 1) := by decide +kernel
theorem dX2_sizeOf_22 : decode cX2_sizeOf 22 = .ok (.goto 4, 3) := by decide +kernel
theorem dX2_sizeOf_25 : decode cX2_sizeOf 25 = .ok (.iconst 0, 1) := by decide +kernel
theorem dX2_sizeOf_26 : decode cX2_sizeOf 26 = .ok (.ireturn, 1) := by decide +kernel
theorem dX2_areAlike_0 : decode cX2_areAlike 0 = .ok (.iload_n 0, 1) := by decide +kernel
theorem dX2_areAlike_1 : decode cX2_areAlike 1 = .ok (.invokestatic 51, 3) := by decide +kernel
theorem dX2_areAlike_4 : decode cX2_areAlike 4 = .ok (.ifCond .eq 10, 3) := by decide +kernel
theorem dX2_areAlike_7 : decode cX2_areAlike 7 = .ok (.iload_n 1, 1) := by decide +kernel
theorem dX2_areAlike_8 : decode cX2_areAlike 8 = .ok (.invokestatic 51, 3) := by decide +kernel
theorem dX2_areAlike_11 : decode cX2_areAlike 11 = .ok (.ifCond .ne 8, 3) := by decide +kernel
theorem dX2_areAlike_14 : decode cX2_areAlike 14 = .ok (.iload_n 0, 1) := by decide +kernel
theorem dX2_areAlike_15 : decode cX2_areAlike 15 = .ok (.iload_n 1, 1) := by decide +kernel
theorem dX2_areAlike_16 : decode cX2_areAlike 16 = .ok (.if_icmp .ne 7, 3) := by decide +kernel
theorem dX2_areAlike_19 : decode cX2_areAlike 19 = .ok (.iconst 1, 1) := by decide +kernel
theorem dX2_areAlike_20 : decode cX2_areAlike 20 = .ok (.goto 4, 3) := by decide +kernel
theorem dX2_areAlike_23 : decode cX2_areAlike 23 = .ok (.iconst 0, 1) := by decide +kernel
theorem dX2_areAlike_24 : decode cX2_areAlike 24 = .ok (.ireturn, 1) := by decide +kernel
theorem dX2_blank_0 : decode cX2_blank 0 = .ok (.iload_n 0, 1) := by decide +kernel
theorem dX2_blank_1 : decode cX2_blank 1 = .ok (.invokestatic 51, 3) := by decide +kernel
theorem dX2_blank_4 : decode cX2_blank 4 = .ok (.ifCond .eq 9, 3) := by decide +kernel
theorem dX2_blank_7 : decode cX2_blank 7 = .ok (.ldc2_w 54, 3) := by decide +kernel
theorem dX2_blank_10 : decode cX2_blank 10 = .ok (.goto 4, 3) := by decide +kernel
theorem dX2_blank_13 : decode cX2_blank 13 = .ok (.lconst 0, 1) := by decide +kernel
theorem dX2_blank_14 : decode cX2_blank 14 = .ok (.lreturn, 1) := by decide +kernel
theorem dX2_takes_0 : decode cX2_takes 0 = .ok (.iload_n 0, 1) := by decide +kernel
theorem dX2_takes_1 : decode cX2_takes 1 = .ok (.iconst 1, 1) := by decide +kernel
theorem dX2_takes_2 : decode cX2_takes 2 = .ok (.if_icmp .ne 13, 3) := by decide +kernel
theorem dX2_takes_5 : decode cX2_takes 5 = .ok (.iload_n 1, 1) := by decide +kernel
theorem dX2_takes_6 : decode cX2_takes 6 = .ok (.ifCond .ne 7, 3) := by decide +kernel
theorem dX2_takes_9 : decode cX2_takes 9 = .ok (.iconst 1, 1) := by decide +kernel
theorem dX2_takes_10 : decode cX2_takes 10 = .ok (.goto 4, 3) := by decide +kernel
theorem dX2_takes_13 : decode cX2_takes 13 = .ok (.iconst 0, 1) := by decide +kernel
theorem dX2_takes_14 : decode cX2_takes 14 = .ok (.ireturn, 1) := by decide +kernel
theorem dX2_takes_15 : decode cX2_takes 15 = .ok (.iload_n 0, 1) := by decide +kernel
theorem dX2_takes_16 : decode cX2_takes 16 = .ok (.iconst 2, 1) := by decide +kernel
theorem dX2_takes_17 : decode cX2_takes 17 = .ok (.if_icmp .ne 14, 3) := by decide +kernel
theorem dX2_takes_20 : decode cX2_takes 20 = .ok (.iload_n 1, 1) := by decide +kernel
theorem dX2_takes_21 : decode cX2_takes 21 = .ok (.iconst 1, 1) := by decide +kernel
theorem dX2_takes_22 : decode cX2_takes 22 = .ok (.if_icmp .ne 7, 3) := by decide +kernel
theorem dX2_takes_25 : decode cX2_takes 25 = .ok (.iconst 1, 1) := by decide +kernel
theorem dX2_takes_26 : decode cX2_takes 26 = .ok (.goto 4, 3) := by decide +kernel
theorem dX2_takes_29 : decode cX2_takes 29 = .ok (.iconst 0, 1) := by decide +kernel
theorem dX2_takes_30 : decode cX2_takes 30 = .ok (.ireturn, 1) := by decide +kernel
theorem dX2_takes_31 : decode cX2_takes 31 = .ok (.iconst 1, 1) := by decide +kernel
theorem dX2_takes_32 : decode cX2_takes 32 = .ok (.ireturn, 1) := by decide +kernel
theorem dX2_mayStand_0 : decode cX2_mayStand 0 = .ok (.iload_n 1, 1) := by decide +kernel
theorem dX2_mayStand_1 : decode cX2_mayStand 1 = .ok (.invokestatic 51, 3) := by decide +kernel
theorem dX2_mayStand_4 : decode cX2_mayStand 4 = .ok (.ifCond .eq 9, 3) := by decide +kernel
theorem dX2_mayStand_7 : decode cX2_mayStand 7 = .ok (.lload_n 2, 1) := by decide +kernel
theorem dX2_mayStand_8 : decode cX2_mayStand 8 = .ok (.lconst 0, 1) := by decide +kernel
theorem dX2_mayStand_9 : decode cX2_mayStand 9 = .ok (.lcmp, 1) := by decide +kernel
theorem dX2_mayStand_10 : decode cX2_mayStand 10 = .ok (.ifCond .ge 5, 3) := by decide +kernel
theorem dX2_mayStand_13 : decode cX2_mayStand 13 = .ok (.iconst 1, 1) := by decide +kernel
theorem dX2_mayStand_14 : decode cX2_mayStand 14 = .ok (.ireturn, 1) := by decide +kernel
theorem dX2_mayStand_15 : decode cX2_mayStand 15 = .ok (.iload_n 1, 1) := by decide +kernel
theorem dX2_mayStand_16 : decode cX2_mayStand 16 = .ok (.aload_n 0, 1) := by decide +kernel
theorem dX2_mayStand_17 : decode cX2_mayStand 17 = .ok (.getfield 26, 3) := by decide +kernel
theorem dX2_mayStand_20 : decode cX2_mayStand 20 = .ok (.lload_n 2, 1) := by decide +kernel
theorem dX2_mayStand_21 : decode cX2_mayStand 21 = .ok (.l2i, 1) := by decide +kernel
theorem dX2_mayStand_22 : decode cX2_mayStand 22 = .ok (.iaload, 1) := by decide +kernel
theorem dX2_mayStand_23 : decode cX2_mayStand 23 = .ok (.invokestatic 56, 3) := by decide +kernel
theorem dX2_mayStand_26 : decode cX2_mayStand 26 = .ok (.ireturn, 1) := by decide +kernel
theorem dX2_fresh_0 : decode cX2_fresh 0 = .ok (.iconst (-1), 1) := by decide +kernel
theorem dX2_fresh_1 : decode cX2_fresh 1 = .ok (.istore_n 1, 1) := by decide +kernel
theorem dX2_fresh_2 : decode cX2_fresh 2 = .ok (.bipush 8, 2) := by decide +kernel
theorem dX2_fresh_4 : decode cX2_fresh 4 = .ok (.istore_n 2, 1) := by decide +kernel
theorem dX2_fresh_5 : decode cX2_fresh 5 = .ok (.iload_n 2, 1) := by decide +kernel
theorem dX2_fresh_6 : decode cX2_fresh 6 = .ok (.ifCond .lt 58, 3) := by decide +kernel
theorem dX2_fresh_9 : decode cX2_fresh 9 = .ok (.iconst 1, 1) := by decide +kernel
theorem dX2_fresh_10 : decode cX2_fresh 10 = .ok (.istore_n 3, 1) := by decide +kernel
theorem dX2_fresh_11 : decode cX2_fresh 11 = .ok (.iconst 0, 1) := by decide +kernel
theorem dX2_fresh_12 : decode cX2_fresh 12 = .ok (.istore 4, 2) := by decide +kernel
theorem dX2_fresh_14 : decode cX2_fresh 14 = .ok (.iload 4, 2) := by decide +kernel
theorem dX2_fresh_16 : decode cX2_fresh 16 = .ok (.bipush 8, 2) := by decide +kernel
theorem dX2_fresh_18 : decode cX2_fresh 18 = .ok (.if_icmp .ge 30, 3) := by decide +kernel
theorem dX2_fresh_21 : decode cX2_fresh 21 = .ok (.iload_n 3, 1) := by decide +kernel
theorem dX2_fresh_22 : decode cX2_fresh 22 = .ok (.ifCond .eq 18, 3) := by decide +kernel
theorem dX2_fresh_25 : decode cX2_fresh 25 = .ok (.aload_n 0, 1) := by decide +kernel
theorem dX2_fresh_26 : decode cX2_fresh 26 = .ok (.getfield 9, 3) := by decide +kernel
theorem dX2_fresh_29 : decode cX2_fresh 29 = .ok (.iload 4, 2) := by decide +kernel
theorem dX2_fresh_31 : decode cX2_fresh 31 = .ok (.iaload, 1) := by decide +kernel
theorem dX2_fresh_32 : decode cX2_fresh 32 = .ok (.iload_n 2, 1) := by decide +kernel
theorem dX2_fresh_33 : decode cX2_fresh 33 = .ok (.if_icmp .eq 7, 3) := by decide +kernel
theorem dX2_fresh_36 : decode cX2_fresh 36 = .ok (.iconst 1, 1) := by decide +kernel
theorem dX2_fresh_37 : decode cX2_fresh 37 = .ok (.goto 4, 3) := by decide +kernel
theorem dX2_fresh_40 : decode cX2_fresh 40 = .ok (.iconst 0, 1) := by decide +kernel
theorem dX2_fresh_41 : decode cX2_fresh 41 = .ok (.istore_n 3, 1) := by decide +kernel
theorem dX2_fresh_42 : decode cX2_fresh 42 = .ok (.iinc 4 1, 3) := by decide +kernel
theorem dX2_fresh_45 : decode cX2_fresh 45 = .ok (.goto (-31), 3) := by decide +kernel
theorem dX2_fresh_48 : decode cX2_fresh 48 = .ok (.iload_n 3, 1) := by decide +kernel
theorem dX2_fresh_49 : decode cX2_fresh 49 = .ok (.ifCond .eq 7, 3) := by decide +kernel
theorem dX2_fresh_52 : decode cX2_fresh 52 = .ok (.iload_n 2, 1) := by decide +kernel
theorem dX2_fresh_53 : decode cX2_fresh 53 = .ok (.goto 4, 3) := by decide +kernel
theorem dX2_fresh_56 : decode cX2_fresh 56 = .ok (.iload_n 1, 1) := by decide +kernel
theorem dX2_fresh_57 : decode cX2_fresh 57 = .ok (.istore_n 1, 1) := by decide +kernel
theorem dX2_fresh_58 : decode cX2_fresh 58 = .ok (.iinc 2 (-1), 3) := by decide +kernel
theorem dX2_fresh_61 : decode cX2_fresh 61 = .ok (.goto (-56), 3) := by decide +kernel
theorem dX2_fresh_64 : decode cX2_fresh 64 = .ok (.iload_n 1, 1) := by decide +kernel
theorem dX2_fresh_65 : decode cX2_fresh 65 = .ok (.ireturn, 1) := by decide +kernel
theorem dX2_hang_0 : decode cX2_hang 0 = .ok (.aload_n 0, 1) := by decide +kernel
theorem dX2_hang_1 : decode cX2_hang 1 = .ok (.iload_n 1, 1) := by decide +kernel
theorem dX2_hang_2 : decode cX2_hang 2 = .ok (.invokestatic 60, 3) := by decide +kernel
theorem dX2_hang_5 : decode cX2_hang 5 = .ok (.ifCond .ne 19, 3) := by decide +kernel
theorem dX2_hang_8 : decode cX2_hang 8 = .ok (.iload_n 2, 1) := by decide +kernel
theorem dX2_hang_9 : decode cX2_hang 9 = .ok (.iconst 0, 1) := by decide +kernel
theorem dX2_hang_10 : decode cX2_hang 10 = .ok (.bipush 6, 2) := by decide +kernel
theorem dX2_hang_12 : decode cX2_hang 12 = .ok (.invokestatic 36, 3) := by decide +kernel
theorem dX2_hang_15 : decode cX2_hang 15 = .ok (.ifCond .ne 9, 3) := by decide +kernel
theorem dX2_hang_18 : decode cX2_hang 18 = .ok (.iload_n 3, 1) := by decide +kernel
theorem dX2_hang_19 : decode cX2_hang 19 = .ok (.bipush 40, 2) := by decide +kernel
theorem dX2_hang_21 : decode cX2_hang 21 = .ok (.if_icmp .le 7, 3) := by decide +kernel
theorem dX2_hang_24 : decode cX2_hang 24 = .ok (.iconst 1, 1) := by decide +kernel
theorem dX2_hang_25 : decode cX2_hang 25 = .ok (.goto 4, 3) := by decide +kernel
theorem dX2_hang_28 : decode cX2_hang 28 = .ok (.iconst 0, 1) := by decide +kernel
theorem dX2_hang_29 : decode cX2_hang 29 = .ok (.iconst 0, 1) := by decide +kernel
theorem dX2_hang_30 : decode cX2_hang 30 = .ok (.invokevirtual 63, 3) := by decide +kernel
theorem dX2_hang_33 : decode cX2_hang 33 = .ok (.ifCond .eq 5, 3) := by decide +kernel
theorem dX2_hang_36 : decode cX2_hang 36 = .ok (.iconst 0, 1) := by decide +kernel
theorem dX2_hang_37 : decode cX2_hang 37 = .ok (.ireturn, 1) := by decide +kernel
theorem dX2_hang_38 : decode cX2_hang 38 = .ok (.iload_n 2, 1) := by decide +kernel
theorem dX2_hang_39 : decode cX2_hang 39 = .ok (.invokestatic 47, 3) := by decide +kernel
theorem dX2_hang_42 : decode cX2_hang 42 = .ok (.ifCond .eq 9, 3) := by decide +kernel
theorem dX2_hang_45 : decode cX2_hang 45 = .ok (.iload_n 3, 1) := by decide +kernel
theorem dX2_hang_46 : decode cX2_hang 46 = .ok (.ifCond .ge 5, 3) := by decide +kernel
theorem dX2_hang_49 : decode cX2_hang 49 = .ok (.iconst 4, 1) := by decide +kernel
theorem dX2_hang_50 : decode cX2_hang 50 = .ok (.ireturn, 1) := by decide +kernel
theorem dX2_hang_51 : decode cX2_hang 51 = .ok (.aload_n 0, 1) := by decide +kernel
theorem dX2_hang_52 : decode cX2_hang 52 = .ok (.getfield 9, 3) := by decide +kernel
theorem dX2_hang_55 : decode cX2_hang 55 = .ok (.iload_n 1, 1) := by decide +kernel
theorem dX2_hang_56 : decode cX2_hang 56 = .ok (.iconst (-1), 1) := by decide +kernel
theorem dX2_hang_57 : decode cX2_hang 57 = .ok (.iastore, 1) := by decide +kernel
theorem dX2_hang_58 : decode cX2_hang 58 = .ok (.iload_n 2, 1) := by decide +kernel
theorem dX2_hang_59 : decode cX2_hang 59 = .ok (.bipush 6, 2) := by decide +kernel
theorem dX2_hang_61 : decode cX2_hang 61 = .ok (.if_icmp .ne 5, 3) := by decide +kernel
theorem dX2_hang_64 : decode cX2_hang 64 = .ok (.iconst 0, 1) := by decide +kernel
theorem dX2_hang_65 : decode cX2_hang 65 = .ok (.ireturn, 1) := by decide +kernel
theorem dX2_hang_66 : decode cX2_hang 66 = .ok (.aload_n 0, 1) := by decide +kernel
theorem dX2_hang_67 : decode cX2_hang 67 = .ok (.invokevirtual 67, 3) := by decide +kernel
theorem dX2_hang_70 : decode cX2_hang 70 = .ok (.istore 4, 2) := by decide +kernel
theorem dX2_hang_72 : decode cX2_hang 72 = .ok (.aload_n 0, 1) := by decide +kernel
theorem dX2_hang_73 : decode cX2_hang 73 = .ok (.getfield 9, 3) := by decide +kernel
theorem dX2_hang_76 : decode cX2_hang 76 = .ok (.iload_n 1, 1) := by decide +kernel
theorem dX2_hang_77 : decode cX2_hang 77 = .ok (.iload 4, 2) := by decide +kernel
theorem dX2_hang_79 : decode cX2_hang 79 = .ok (.iastore, 1) := by decide +kernel
theorem dX2_hang_80 : decode cX2_hang 80 = .ok (.aload_n 0, 1) := by decide +kernel
theorem dX2_hang_81 : decode cX2_hang 81 = .ok (.getfield 13, 3) := by decide +kernel
theorem dX2_hang_84 : decode cX2_hang 84 = .ok (.iload 4, 2) := by decide +kernel
theorem dX2_hang_86 : decode cX2_hang 86 = .ok (.iload_n 2, 1) := by decide +kernel
theorem dX2_hang_87 : decode cX2_hang 87 = .ok (.iastore, 1) := by decide +kernel
theorem dX2_hang_88 : decode cX2_hang 88 = .ok (.aload_n 0, 1) := by decide +kernel
theorem dX2_hang_89 : decode cX2_hang 89 = .ok (.getfield 16, 3) := by decide +kernel
theorem dX2_hang_92 : decode cX2_hang 92 = .ok (.iload 4, 2) := by decide +kernel
theorem dX2_hang_94 : decode cX2_hang 94 = .ok (.iload_n 2, 1) := by decide +kernel
theorem dX2_hang_95 : decode cX2_hang 95 = .ok (.invokestatic 47, 3) := by decide +kernel
theorem dX2_hang_98 : decode cX2_hang 98 = .ok (.ifCond .eq 7, 3) := by decide +kernel
theorem dX2_hang_101 : decode cX2_hang 101 = .ok (.iload_n 3, 1) := by decide +kernel
theorem dX2_hang_102 : decode cX2_hang 102 = .ok (.goto 4, 3) := by decide +kernel
theorem dX2_hang_105 : decode cX2_hang 105 = .ok (.iconst 0, 1) := by decide +kernel
theorem dX2_hang_106 : decode cX2_hang 106 = .ok (.iastore, 1) := by decide +kernel
theorem dX2_hang_107 : decode cX2_hang 107 = .ok (.iconst 0, 1) := by decide +kernel
theorem dX2_hang_108 : decode cX2_hang 108 = .ok (.istore 5, 2) := by decide +kernel
theorem dX2_hang_110 : decode cX2_hang 110 = .ok (.iload 5, 2) := by decide +kernel
theorem dX2_hang_112 : decode cX2_hang 112 = .ok (.aload_n 0, 1) := by decide +kernel
theorem dX2_hang_113 : decode cX2_hang 113 = .ok (.getfield 16, 3) := by decide +kernel
theorem dX2_hang_116 : decode cX2_hang 116 = .ok (.iload 4, 2) := by decide +kernel
theorem dX2_hang_118 : decode cX2_hang 118 = .ok (.iaload, 1) := by decide +kernel
theorem dX2_hang_119 : decode cX2_hang 119 = .ok (.if_icmp .ge 26, 3) := by decide +kernel
theorem dX2_hang_122 : decode cX2_hang 122 = .ok (.aload_n 0, 1) := by decide +kernel
theorem dX2_hang_123 : decode cX2_hang 123 = .ok (.getfield 19, 3) := by decide +kernel
theorem dX2_hang_126 : decode cX2_hang 126 = .ok (.bipush 40, 2) := by decide +kernel
theorem dX2_hang_128 : decode cX2_hang 128 = .ok (.iload 4, 2) := by decide +kernel
theorem dX2_hang_130 : decode cX2_hang 130 = .ok (.imul, 1) := by decide +kernel
theorem dX2_hang_131 : decode cX2_hang 131 = .ok (.iload 5, 2) := by decide +kernel
theorem dX2_hang_133 : decode cX2_hang 133 = .ok (.iadd, 1) := by decide +kernel
theorem dX2_hang_134 : decode cX2_hang 134 = .ok (.iload_n 2, 1) := by decide +kernel
theorem dX2_hang_135 : decode cX2_hang 135 = .ok (.invokestatic 71, 3) := by decide +kernel
theorem dX2_hang_138 : decode cX2_hang 138 = .ok (.lastore, 1) := by decide +kernel
theorem dX2_hang_139 : decode cX2_hang 139 = .ok (.iinc 5 1, 3) := by decide +kernel
theorem dX2_hang_142 : decode cX2_hang 142 = .ok (.goto (-32), 3) := by decide +kernel
theorem dX2_hang_145 : decode cX2_hang 145 = .ok (.iconst 0, 1) := by decide +kernel
theorem dX2_hang_146 : decode cX2_hang 146 = .ok (.ireturn, 1) := by decide +kernel
theorem dX2_share_0 : decode cX2_share 0 = .ok (.aload_n 0, 1) := by decide +kernel
theorem dX2_share_1 : decode cX2_share 1 = .ok (.iload_n 1, 1) := by decide +kernel
theorem dX2_share_2 : decode cX2_share 2 = .ok (.invokestatic 60, 3) := by decide +kernel
theorem dX2_share_5 : decode cX2_share 5 = .ok (.ifCond .ne 10, 3) := by decide +kernel
theorem dX2_share_8 : decode cX2_share 8 = .ok (.iload_n 2, 1) := by decide +kernel
theorem dX2_share_9 : decode cX2_share 9 = .ok (.invokestatic 60, 3) := by decide +kernel
theorem dX2_share_12 : decode cX2_share 12 = .ok (.ifCond .eq 7, 3) := by decide +kernel
theorem dX2_share_15 : decode cX2_share 15 = .ok (.iconst 1, 1) := by decide +kernel
theorem dX2_share_16 : decode cX2_share 16 = .ok (.goto 4, 3) := by decide +kernel
theorem dX2_share_19 : decode cX2_share 19 = .ok (.iconst 0, 1) := by decide +kernel
theorem dX2_share_20 : decode cX2_share 20 = .ok (.iconst 0, 1) := by decide +kernel
theorem dX2_share_21 : decode cX2_share 21 = .ok (.invokevirtual 63, 3) := by decide +kernel
theorem dX2_share_24 : decode cX2_share 24 = .ok (.ifCond .eq 5, 3) := by decide +kernel
theorem dX2_share_27 : decode cX2_share 27 = .ok (.iconst 0, 1) := by decide +kernel
theorem dX2_share_28 : decode cX2_share 28 = .ok (.ireturn, 1) := by decide +kernel
theorem dX2_share_29 : decode cX2_share 29 = .ok (.aload_n 0, 1) := by decide +kernel
theorem dX2_share_30 : decode cX2_share 30 = .ok (.getfield 9, 3) := by decide +kernel
theorem dX2_share_33 : decode cX2_share 33 = .ok (.iload_n 2, 1) := by decide +kernel
theorem dX2_share_34 : decode cX2_share 34 = .ok (.aload_n 0, 1) := by decide +kernel
theorem dX2_share_35 : decode cX2_share 35 = .ok (.getfield 9, 3) := by decide +kernel
theorem dX2_share_38 : decode cX2_share 38 = .ok (.iload_n 1, 1) := by decide +kernel
theorem dX2_share_39 : decode cX2_share 39 = .ok (.iaload, 1) := by decide +kernel
theorem dX2_share_40 : decode cX2_share 40 = .ok (.iastore, 1) := by decide +kernel
theorem dX2_share_41 : decode cX2_share 41 = .ok (.aload_n 0, 1) := by decide +kernel
theorem dX2_share_42 : decode cX2_share 42 = .ok (.iload_n 2, 1) := by decide +kernel
theorem dX2_share_43 : decode cX2_share 43 = .ok (.invokevirtual 43, 3) := by decide +kernel
theorem dX2_share_46 : decode cX2_share 46 = .ok (.ireturn, 1) := by decide +kernel
theorem dX2_hire_0 : decode cX2_hire 0 = .ok (.aload_n 0, 1) := by decide +kernel
theorem dX2_hire_1 : decode cX2_hire 1 = .ok (.iconst 0, 1) := by decide +kernel
theorem dX2_hire_2 : decode cX2_hire 2 = .ok (.putfield 32, 3) := by decide +kernel
theorem dX2_hire_5 : decode cX2_hire 5 = .ok (.iload_n 1, 1) := by decide +kernel
theorem dX2_hire_6 : decode cX2_hire 6 = .ok (.iconst 0, 1) := by decide +kernel
theorem dX2_hire_7 : decode cX2_hire 7 = .ok (.iconst 2, 1) := by decide +kernel
theorem dX2_hire_8 : decode cX2_hire 8 = .ok (.invokestatic 36, 3) := by decide +kernel
theorem dX2_hire_11 : decode cX2_hire 11 = .ok (.ifCond .ne 12, 3) := by decide +kernel
theorem dX2_hire_14 : decode cX2_hire 14 = .ok (.aload_n 0, 1) := by decide +kernel
theorem dX2_hire_15 : decode cX2_hire 15 = .ok (.getfield 40, 3) := by decide +kernel
theorem dX2_hire_18 : decode cX2_hire 18 = .ok (.bipush 60, 2) := by decide +kernel
theorem dX2_hire_20 : decode cX2_hire 20 = .ok (.if_icmp .ne 5, 3) := by decide +kernel
theorem dX2_hire_23 : decode cX2_hire 23 = .ok (.iconst (-1), 1) := by decide +kernel
theorem dX2_hire_24 : decode cX2_hire 24 = .ok (.ireturn, 1) := by decide +kernel
theorem dX2_hire_25 : decode cX2_hire 25 = .ok (.aload_n 0, 1) := by decide +kernel
theorem dX2_hire_26 : decode cX2_hire 26 = .ok (.getfield 26, 3) := by decide +kernel
theorem dX2_hire_29 : decode cX2_hire 29 = .ok (.aload_n 0, 1) := by decide +kernel
theorem dX2_hire_30 : decode cX2_hire 30 = .ok (.getfield 40, 3) := by decide +kernel
theorem dX2_hire_33 : decode cX2_hire 33 = .ok (.iload_n 1, 1) := by decide +kernel
theorem dX2_hire_34 : decode cX2_hire 34 = .ok (.iastore, 1) := by decide +kernel
theorem dX2_hire_35 : decode cX2_hire 35 = .ok (.aload_n 0, 1) := by decide +kernel
theorem dX2_hire_36 : decode cX2_hire 36 = .ok (.getfield 29, 3) := by decide +kernel
theorem dX2_hire_39 : decode cX2_hire 39 = .ok (.aload_n 0, 1) := by decide +kernel
theorem dX2_hire_40 : decode cX2_hire 40 = .ok (.getfield 40, 3) := by decide +kernel
theorem dX2_hire_43 : decode cX2_hire 43 = .ok (.lconst 0, 1) := by decide +kernel
theorem dX2_hire_44 : decode cX2_hire 44 = .ok (.lastore, 1) := by decide +kernel
theorem dX2_hire_45 : decode cX2_hire 45 = .ok (.aload_n 0, 1) := by decide +kernel
theorem dX2_hire_46 : decode cX2_hire 46 = .ok (.dup, 1) := by decide +kernel
theorem dX2_hire_47 : decode cX2_hire 47 = .ok (.getfield 40, 3) := by decide +kernel
theorem dX2_hire_50 : decode cX2_hire 50 = .ok (.iconst 1, 1) := by decide +kernel
theorem dX2_hire_51 : decode cX2_hire 51 = .ok (.iadd, 1) := by decide +kernel
theorem dX2_hire_52 : decode cX2_hire 52 = .ok (.putfield 40, 3) := by decide +kernel
theorem dX2_hire_55 : decode cX2_hire 55 = .ok (.aload_n 0, 1) := by decide +kernel
theorem dX2_hire_56 : decode cX2_hire 56 = .ok (.getfield 40, 3) := by decide +kernel
theorem dX2_hire_59 : decode cX2_hire 59 = .ok (.iconst 1, 1) := by decide +kernel
theorem dX2_hire_60 : decode cX2_hire 60 = .ok (.isub, 1) := by decide +kernel
theorem dX2_hire_61 : decode cX2_hire 61 = .ok (.ireturn, 1) := by decide +kernel
theorem dX2_rate_0 : decode cX2_rate 0 = .ok (.iload_n 0, 1) := by decide +kernel
theorem dX2_rate_1 : decode cX2_rate 1 = .ok (.ifCond .ne 7, 3) := by decide +kernel
theorem dX2_rate_4 : decode cX2_rate 4 = .ok (.iconst 3, 1) := by decide +kernel
theorem dX2_rate_5 : decode cX2_rate 5 = .ok (.goto 13, 3) := by decide +kernel
theorem dX2_rate_8 : decode cX2_rate 8 = .ok (.iload_n 0, 1) := by decide +kernel
theorem dX2_rate_9 : decode cX2_rate 9 = .ok (.iconst 1, 1) := by decide +kernel
theorem dX2_rate_10 : decode cX2_rate 10 = .ok (.if_icmp .ne 7, 3) := by decide +kernel
theorem dX2_rate_13 : decode cX2_rate 13 = .ok (.iconst 2, 1) := by decide +kernel
theorem dX2_rate_14 : decode cX2_rate 14 = .ok (.goto 4, 3) := by decide +kernel
theorem dX2_rate_17 : decode cX2_rate 17 = .ok (.iconst 1, 1) := by decide +kernel
theorem dX2_rate_18 : decode cX2_rate 18 = .ok (.ireturn, 1) := by decide +kernel
theorem dX2_put_0 : decode cX2_put 0 = .ok (.aload_n 0, 1) := by decide +kernel
theorem dX2_put_1 : decode cX2_put 1 = .ok (.iload_n 1, 1) := by decide +kernel
theorem dX2_put_2 : decode cX2_put 2 = .ok (.invokestatic 60, 3) := by decide +kernel
theorem dX2_put_5 : decode cX2_put 5 = .ok (.iload_n 3, 1) := by decide +kernel
theorem dX2_put_6 : decode cX2_put 6 = .ok (.iconst (-1), 1) := by decide +kernel
theorem dX2_put_7 : decode cX2_put 7 = .ok (.if_icmp .eq 15, 3) := by decide +kernel
theorem dX2_put_10 : decode cX2_put 10 = .ok (.aload_n 0, 1) := by decide +kernel
theorem dX2_put_11 : decode cX2_put 11 = .ok (.iload_n 3, 1) := by decide +kernel
theorem dX2_put_12 : decode cX2_put 12 = .ok (.invokevirtual 75, 3) := by decide +kernel
theorem dX2_put_15 : decode cX2_put 15 = .ok (.ifCond .eq 7, 3) := by decide +kernel
theorem dX2_put_18 : decode cX2_put 18 = .ok (.iconst 1, 1) := by decide +kernel
theorem dX2_put_19 : decode cX2_put 19 = .ok (.goto 4, 3) := by decide +kernel
theorem dX2_put_22 : decode cX2_put 22 = .ok (.iconst 0, 1) := by decide +kernel
theorem dX2_put_23 : decode cX2_put 23 = .ok (.invokevirtual 63, 3) := by decide +kernel
theorem dX2_put_26 : decode cX2_put 26 = .ok (.ifCond .eq 5, 3) := by decide +kernel
theorem dX2_put_29 : decode cX2_put 29 = .ok (.iconst 0, 1) := by decide +kernel
theorem dX2_put_30 : decode cX2_put 30 = .ok (.ireturn, 1) := by decide +kernel
theorem dX2_put_31 : decode cX2_put 31 = .ok (.aload_n 0, 1) := by decide +kernel
theorem dX2_put_32 : decode cX2_put 32 = .ok (.iload_n 1, 1) := by decide +kernel
theorem dX2_put_33 : decode cX2_put 33 = .ok (.invokevirtual 43, 3) := by decide +kernel
theorem dX2_put_36 : decode cX2_put 36 = .ok (.istore 4, 2) := by decide +kernel
theorem dX2_put_38 : decode cX2_put 38 = .ok (.iload 4, 2) := by decide +kernel
theorem dX2_put_40 : decode cX2_put 40 = .ok (.bipush 6, 2) := by decide +kernel
theorem dX2_put_42 : decode cX2_put 42 = .ok (.if_icmp .ne 5, 3) := by decide +kernel
theorem dX2_put_45 : decode cX2_put 45 = .ok (.iconst 1, 1) := by decide +kernel
theorem dX2_put_46 : decode cX2_put 46 = .ok (.ireturn, 1) := by decide +kernel
theorem dX2_put_47 : decode cX2_put 47 = .ok (.iload 4, 2) := by decide +kernel
theorem dX2_put_49 : decode cX2_put 49 = .ok (.invokestatic 51, 3) := by decide +kernel
theorem dX2_put_52 : decode cX2_put 52 = .ok (.ifCond .ne 5, 3) := by decide +kernel
theorem dX2_put_55 : decode cX2_put 55 = .ok (.iconst 2, 1) := by decide +kernel
theorem dX2_put_56 : decode cX2_put 56 = .ok (.ireturn, 1) := by decide +kernel
theorem dX2_put_57 : decode cX2_put 57 = .ok (.iload_n 2, 1) := by decide +kernel
theorem dX2_put_58 : decode cX2_put 58 = .ok (.iconst 0, 1) := by decide +kernel
theorem dX2_put_59 : decode cX2_put 59 = .ok (.aload_n 0, 1) := by decide +kernel
theorem dX2_put_60 : decode cX2_put 60 = .ok (.iload_n 1, 1) := by decide +kernel
theorem dX2_put_61 : decode cX2_put 61 = .ok (.invokevirtual 78, 3) := by decide +kernel
theorem dX2_put_64 : decode cX2_put 64 = .ok (.iconst 1, 1) := by decide +kernel
theorem dX2_put_65 : decode cX2_put 65 = .ok (.isub, 1) := by decide +kernel
theorem dX2_put_66 : decode cX2_put 66 = .ok (.invokestatic 36, 3) := by decide +kernel
theorem dX2_put_69 : decode cX2_put 69 = .ok (.ifCond .eq 5, 3) := by decide +kernel
theorem dX2_put_72 : decode cX2_put 72 = .ok (.iconst 3, 1) := by decide +kernel
theorem dX2_put_73 : decode cX2_put 73 = .ok (.ireturn, 1) := by decide +kernel
theorem dX2_put_74 : decode cX2_put 74 = .ok (.iload_n 3, 1) := by decide +kernel
theorem dX2_put_75 : decode cX2_put 75 = .ok (.iconst (-1), 1) := by decide +kernel
theorem dX2_put_76 : decode cX2_put 76 = .ok (.if_icmp .eq 19, 3) := by decide +kernel
theorem dX2_put_79 : decode cX2_put 79 = .ok (.iload 4, 2) := by decide +kernel
theorem dX2_put_81 : decode cX2_put 81 = .ok (.aload_n 0, 1) := by decide +kernel
theorem dX2_put_82 : decode cX2_put 82 = .ok (.getfield 26, 3) := by decide +kernel
theorem dX2_put_85 : decode cX2_put 85 = .ok (.iload_n 3, 1) := by decide +kernel
theorem dX2_put_86 : decode cX2_put 86 = .ok (.iaload, 1) := by decide +kernel
theorem dX2_put_87 : decode cX2_put 87 = .ok (.invokestatic 56, 3) := by decide +kernel
theorem dX2_put_90 : decode cX2_put 90 = .ok (.ifCond .ne 5, 3) := by decide +kernel
theorem dX2_put_93 : decode cX2_put 93 = .ok (.iconst 2, 1) := by decide +kernel
theorem dX2_put_94 : decode cX2_put 94 = .ok (.ireturn, 1) := by decide +kernel
theorem dX2_put_95 : decode cX2_put 95 = .ok (.aload_n 0, 1) := by decide +kernel
theorem dX2_put_96 : decode cX2_put 96 = .ok (.getfield 19, 3) := by decide +kernel
theorem dX2_put_99 : decode cX2_put 99 = .ok (.bipush 40, 2) := by decide +kernel
theorem dX2_put_101 : decode cX2_put 101 = .ok (.aload_n 0, 1) := by decide +kernel
theorem dX2_put_102 : decode cX2_put 102 = .ok (.getfield 9, 3) := by decide +kernel
theorem dX2_put_105 : decode cX2_put 105 = .ok (.iload_n 1, 1) := by decide +kernel
theorem dX2_put_106 : decode cX2_put 106 = .ok (.iaload, 1) := by decide +kernel
theorem dX2_put_107 : decode cX2_put 107 = .ok (.imul, 1) := by decide +kernel
theorem dX2_put_108 : decode cX2_put 108 = .ok (.iload_n 2, 1) := by decide +kernel
theorem dX2_put_109 : decode cX2_put 109 = .ok (.iadd, 1) := by decide +kernel
theorem dX2_put_110 : decode cX2_put 110 = .ok (.iload_n 3, 1) := by decide +kernel
theorem dX2_put_111 : decode cX2_put 111 = .ok (.i2l, 1) := by decide +kernel
theorem dX2_put_112 : decode cX2_put 112 = .ok (.lastore, 1) := by decide +kernel
theorem dX2_put_113 : decode cX2_put 113 = .ok (.iconst 0, 1) := by decide +kernel
theorem dX2_put_114 : decode cX2_put 114 = .ok (.ireturn, 1) := by decide +kernel
theorem dX2_note_0 : decode cX2_note 0 = .ok (.aload_n 0, 1) := by decide +kernel
theorem dX2_note_1 : decode cX2_note 1 = .ok (.iload_n 1, 1) := by decide +kernel
theorem dX2_note_2 : decode cX2_note 2 = .ok (.invokestatic 60, 3) := by decide +kernel
theorem dX2_note_5 : decode cX2_note 5 = .ok (.iconst 0, 1) := by decide +kernel
theorem dX2_note_6 : decode cX2_note 6 = .ok (.invokevirtual 63, 3) := by decide +kernel
theorem dX2_note_9 : decode cX2_note 9 = .ok (.ifCond .eq 5, 3) := by decide +kernel
theorem dX2_note_12 : decode cX2_note 12 = .ok (.iconst 0, 1) := by decide +kernel
theorem dX2_note_13 : decode cX2_note 13 = .ok (.ireturn, 1) := by decide +kernel
theorem dX2_note_14 : decode cX2_note 14 = .ok (.aload_n 0, 1) := by decide +kernel
theorem dX2_note_15 : decode cX2_note 15 = .ok (.iload_n 1, 1) := by decide +kernel
theorem dX2_note_16 : decode cX2_note 16 = .ok (.invokevirtual 43, 3) := by decide +kernel
theorem dX2_note_19 : decode cX2_note 19 = .ok (.istore 5, 2) := by decide +kernel
theorem dX2_note_21 : decode cX2_note 21 = .ok (.iload 5, 2) := by decide +kernel
theorem dX2_note_23 : decode cX2_note 23 = .ok (.bipush 6, 2) := by decide +kernel
theorem dX2_note_25 : decode cX2_note 25 = .ok (.if_icmp .ne 5, 3) := by decide +kernel
theorem dX2_note_28 : decode cX2_note 28 = .ok (.iconst 1, 1) := by decide +kernel
theorem dX2_note_29 : decode cX2_note 29 = .ok (.ireturn, 1) := by decide +kernel
theorem dX2_note_30 : decode cX2_note 30 = .ok (.iload 5, 2) := by decide +kernel
theorem dX2_note_32 : decode cX2_note 32 = .ok (.iconst 3, 1) := by decide +kernel
theorem dX2_note_33 : decode cX2_note 33 = .ok (.if_icmp .eq 11, 3) := by decide +kernel
theorem dX2_note_36 : decode cX2_note 36 = .ok (.iload 5, 2) := by decide +kernel
theorem dX2_note_38 : decode cX2_note 38 = .ok (.iconst 4, 1) := by decide +kernel
theorem dX2_note_39 : decode cX2_note 39 = .ok (.if_icmp .eq 5, 3) := by decide +kernel
theorem dX2_note_42 : decode cX2_note 42 = .ok (.iconst 2, 1) := by decide +kernel
theorem dX2_note_43 : decode cX2_note 43 = .ok (.ireturn, 1) := by decide +kernel
theorem dX2_note_44 : decode cX2_note 44 = .ok (.iload_n 2, 1) := by decide +kernel
theorem dX2_note_45 : decode cX2_note 45 = .ok (.iconst 0, 1) := by decide +kernel
theorem dX2_note_46 : decode cX2_note 46 = .ok (.aload_n 0, 1) := by decide +kernel
theorem dX2_note_47 : decode cX2_note 47 = .ok (.iload_n 1, 1) := by decide +kernel
theorem dX2_note_48 : decode cX2_note 48 = .ok (.invokevirtual 78, 3) := by decide +kernel
theorem dX2_note_51 : decode cX2_note 51 = .ok (.iconst 1, 1) := by decide +kernel
theorem dX2_note_52 : decode cX2_note 52 = .ok (.isub, 1) := by decide +kernel
theorem dX2_note_53 : decode cX2_note 53 = .ok (.invokestatic 36, 3) := by decide +kernel
theorem dX2_note_56 : decode cX2_note 56 = .ok (.ifCond .eq 5, 3) := by decide +kernel
theorem dX2_note_59 : decode cX2_note 59 = .ok (.iconst 3, 1) := by decide +kernel
theorem dX2_note_60 : decode cX2_note 60 = .ok (.ireturn, 1) := by decide +kernel
theorem dX2_note_61 : decode cX2_note 61 = .ok (.aload_n 0, 1) := by decide +kernel
theorem dX2_note_62 : decode cX2_note 62 = .ok (.getfield 19, 3) := by decide +kernel
theorem dX2_note_65 : decode cX2_note 65 = .ok (.bipush 40, 2) := by decide +kernel
theorem dX2_note_67 : decode cX2_note 67 = .ok (.aload_n 0, 1) := by decide +kernel
theorem dX2_note_68 : decode cX2_note 68 = .ok (.getfield 9, 3) := by decide +kernel
theorem dX2_note_71 : decode cX2_note 71 = .ok (.iload_n 1, 1) := by decide +kernel
theorem dX2_note_72 : decode cX2_note 72 = .ok (.iaload, 1) := by decide +kernel
theorem dX2_note_73 : decode cX2_note 73 = .ok (.imul, 1) := by decide +kernel
theorem dX2_note_74 : decode cX2_note 74 = .ok (.iload_n 2, 1) := by decide +kernel
theorem dX2_note_75 : decode cX2_note 75 = .ok (.iadd, 1) := by decide +kernel
theorem dX2_note_76 : decode cX2_note 76 = .ok (.iload 5, 2) := by decide +kernel
theorem dX2_note_78 : decode cX2_note 78 = .ok (.iconst 3, 1) := by decide +kernel
theorem dX2_note_79 : decode cX2_note 79 = .ok (.if_icmp .ne 9, 3) := by decide +kernel
theorem dX2_note_82 : decode cX2_note 82 = .ok (.lload_n 3, 1) := by decide +kernel
theorem dX2_note_83 : decode cX2_note 83 = .ok (.l2i, 1) := by decide +kernel
theorem dX2_note_84 : decode cX2_note 84 = .ok (.i2l, 1) := by decide +kernel
theorem dX2_note_85 : decode cX2_note 85 = .ok (.goto 4, 3) := by decide +kernel
theorem dX2_note_88 : decode cX2_note 88 = .ok (.lload_n 3, 1) := by decide +kernel
theorem dX2_note_89 : decode cX2_note 89 = .ok (.lastore, 1) := by decide +kernel
theorem dX2_note_90 : decode cX2_note 90 = .ok (.iconst 0, 1) := by decide +kernel
theorem dX2_note_91 : decode cX2_note 91 = .ok (.ireturn, 1) := by decide +kernel
theorem dX2_refused_0 : decode cX2_refused 0 = .ok (.aload_n 0, 1) := by decide +kernel
theorem dX2_refused_1 : decode cX2_refused 1 = .ok (.iload_n 1, 1) := by decide +kernel
theorem dX2_refused_2 : decode cX2_refused 2 = .ok (.invokevirtual 43, 3) := by decide +kernel
theorem dX2_refused_5 : decode cX2_refused 5 = .ok (.istore 6, 2) := by decide +kernel
theorem dX2_refused_7 : decode cX2_refused 7 = .ok (.aload_n 0, 1) := by decide +kernel
theorem dX2_refused_8 : decode cX2_refused 8 = .ok (.iload_n 3, 1) := by decide +kernel
theorem dX2_refused_9 : decode cX2_refused 9 = .ok (.invokevirtual 43, 3) := by decide +kernel
theorem dX2_refused_12 : decode cX2_refused 12 = .ok (.istore 7, 2) := by decide +kernel
theorem dX2_refused_14 : decode cX2_refused 14 = .ok (.iload 6, 2) := by decide +kernel
theorem dX2_refused_16 : decode cX2_refused 16 = .ok (.bipush 6, 2) := by decide +kernel
theorem dX2_refused_18 : decode cX2_refused 18 = .ok (.if_icmp .eq 10, 3) := by decide +kernel
theorem dX2_refused_21 : decode cX2_refused 21 = .ok (.iload 7, 2) := by decide +kernel
theorem dX2_refused_23 : decode cX2_refused 23 = .ok (.bipush 6, 2) := by decide +kernel
theorem dX2_refused_25 : decode cX2_refused 25 = .ok (.if_icmp .ne 5, 3) := by decide +kernel
theorem dX2_refused_28 : decode cX2_refused 28 = .ok (.iconst 1, 1) := by decide +kernel
theorem dX2_refused_29 : decode cX2_refused 29 = .ok (.ireturn, 1) := by decide +kernel
theorem dX2_refused_30 : decode cX2_refused 30 = .ok (.iload 6, 2) := by decide +kernel
theorem dX2_refused_32 : decode cX2_refused 32 = .ok (.invokestatic 47, 3) := by decide +kernel
theorem dX2_refused_35 : decode cX2_refused 35 = .ok (.ifCond .eq 21, 3) := by decide +kernel
theorem dX2_refused_38 : decode cX2_refused 38 = .ok (.iload 7, 2) := by decide +kernel
theorem dX2_refused_40 : decode cX2_refused 40 = .ok (.invokestatic 47, 3) := by decide +kernel
theorem dX2_refused_43 : decode cX2_refused 43 = .ok (.ifCond .eq 13, 3) := by decide +kernel
theorem dX2_refused_46 : decode cX2_refused 46 = .ok (.iload 6, 2) := by decide +kernel
theorem dX2_refused_48 : decode cX2_refused 48 = .ok (.iload 7, 2) := by decide +kernel
theorem dX2_refused_50 : decode cX2_refused 50 = .ok (.invokestatic 81, 3) := by decide +kernel
theorem dX2_refused_53 : decode cX2_refused 53 = .ok (.ifCond .ne 5, 3) := by decide +kernel
theorem dX2_refused_56 : decode cX2_refused 56 = .ok (.iconst 2, 1) := by decide +kernel
theorem dX2_refused_57 : decode cX2_refused 57 = .ok (.ireturn, 1) := by decide +kernel
theorem dX2_refused_58 : decode cX2_refused 58 = .ok (.iload_n 2, 1) := by decide +kernel
theorem dX2_refused_59 : decode cX2_refused 59 = .ok (.ifCond .lt 13, 3) := by decide +kernel
theorem dX2_refused_62 : decode cX2_refused 62 = .ok (.iload 4, 2) := by decide +kernel
theorem dX2_refused_64 : decode cX2_refused 64 = .ok (.ifCond .lt 8, 3) := by decide +kernel
theorem dX2_refused_67 : decode cX2_refused 67 = .ok (.iload 5, 2) := by decide +kernel
theorem dX2_refused_69 : decode cX2_refused 69 = .ok (.ifCond .ge 7, 3) := by decide +kernel
theorem dX2_refused_72 : decode cX2_refused 72 = .ok (.iconst 1, 1) := by decide +kernel
theorem dX2_refused_73 : decode cX2_refused 73 = .ok (.goto 4, 3) := by decide +kernel
theorem dX2_refused_76 : decode cX2_refused 76 = .ok (.iconst 0, 1) := by decide +kernel
theorem dX2_refused_77 : decode cX2_refused 77 = .ok (.istore 8, 2) := by decide +kernel
theorem dX2_refused_79 : decode cX2_refused 79 = .ok (.iload_n 2, 1) := by decide +kernel
theorem dX2_refused_80 : decode cX2_refused 80 = .ok (.i2l, 1) := by decide +kernel
theorem dX2_refused_81 : decode cX2_refused 81 = .ok (.iload 5, 2) := by decide +kernel
theorem dX2_refused_83 : decode cX2_refused 83 = .ok (.i2l, 1) := by decide +kernel
theorem dX2_refused_84 : decode cX2_refused 84 = .ok (.ladd, 1) := by decide +kernel
theorem dX2_refused_85 : decode cX2_refused 85 = .ok (.aload_n 0, 1) := by decide +kernel
theorem dX2_refused_86 : decode cX2_refused 86 = .ok (.iload_n 1, 1) := by decide +kernel
theorem dX2_refused_87 : decode cX2_refused 87 = .ok (.invokevirtual 78, 3) := by decide +kernel
theorem dX2_refused_90 : decode cX2_refused 90 = .ok (.i2l, 1) := by decide +kernel
theorem dX2_refused_91 : decode cX2_refused 91 = .ok (.lcmp, 1) := by decide +kernel
theorem dX2_refused_92 : decode cX2_refused 92 = .ok (.ifCond .gt 20, 3) := by decide +kernel
theorem dX2_refused_95 : decode cX2_refused 95 = .ok (.iload 4, 2) := by decide +kernel
theorem dX2_refused_97 : decode cX2_refused 97 = .ok (.i2l, 1) := by decide +kernel
theorem dX2_refused_98 : decode cX2_refused 98 = .ok (.iload 5, 2) := by decide +kernel
theorem dX2_refused_100 : decode cX2_refused 100 = .ok (.i2l, 1) := by decide +kernel
theorem dX2_refused_101 : decode cX2_refused 101 = .ok (.ladd, 1) := by decide +kernel
theorem dX2_refused_102 : decode cX2_refused 102 = .ok (.aload_n 0, 1) := by decide +kernel
theorem dX2_refused_103 : decode cX2_refused 103 = .ok (.iload_n 3, 1) := by decide +kernel
theorem dX2_refused_104 : decode cX2_refused 104 = .ok (.invokevirtual 78, 3) := by decide +kernel
theorem dX2_refused_107 : decode cX2_refused 107 = .ok (.i2l, 1) := by decide +kernel
theorem dX2_refused_108 : decode cX2_refused 108 = .ok (.lcmp, 1) := by decide +kernel
theorem dX2_refused_109 : decode cX2_refused 109 = .ok (.ifCond .le 7, 3) := by decide +kernel
theorem dX2_refused_112 : decode cX2_refused 112 = .ok (.iconst 1, 1) := by decide +kernel
theorem dX2_refused_113 : decode cX2_refused 113 = .ok (.goto 4, 3) := by decide +kernel
theorem dX2_refused_116 : decode cX2_refused 116 = .ok (.iconst 0, 1) := by decide +kernel
theorem dX2_refused_117 : decode cX2_refused 117 = .ok (.istore 9, 2) := by decide +kernel
theorem dX2_refused_119 : decode cX2_refused 119 = .ok (.iload 8, 2) := by decide +kernel
theorem dX2_refused_121 : decode cX2_refused 121 = .ok (.ifCond .ne 8, 3) := by decide +kernel
theorem dX2_refused_124 : decode cX2_refused 124 = .ok (.iload 9, 2) := by decide +kernel
theorem dX2_refused_126 : decode cX2_refused 126 = .ok (.ifCond .eq 7, 3) := by decide +kernel
theorem dX2_refused_129 : decode cX2_refused 129 = .ok (.iconst 3, 1) := by decide +kernel
theorem dX2_refused_130 : decode cX2_refused 130 = .ok (.goto 4, 3) := by decide +kernel
theorem dX2_refused_133 : decode cX2_refused 133 = .ok (.iconst 0, 1) := by decide +kernel
theorem dX2_refused_134 : decode cX2_refused 134 = .ok (.ireturn, 1) := by decide +kernel
theorem dX2_copies_0 : decode cX2_copies 0 = .ok (.aload_n 0, 1) := by decide +kernel
theorem dX2_copies_1 : decode cX2_copies 1 = .ok (.iload_n 1, 1) := by decide +kernel
theorem dX2_copies_2 : decode cX2_copies 2 = .ok (.iload_n 2, 1) := by decide +kernel
theorem dX2_copies_3 : decode cX2_copies 3 = .ok (.iload_n 3, 1) := by decide +kernel
theorem dX2_copies_4 : decode cX2_copies 4 = .ok (.iload 4, 2) := by decide +kernel
theorem dX2_copies_6 : decode cX2_copies 6 = .ok (.iload 5, 2) := by decide +kernel
theorem dX2_copies_8 : decode cX2_copies 8 = .ok (.invokevirtual 84, 3) := by decide +kernel
theorem dX2_copies_11 : decode cX2_copies 11 = .ok (.istore 6, 2) := by decide +kernel
theorem dX2_copies_13 : decode cX2_copies 13 = .ok (.iload 6, 2) := by decide +kernel
theorem dX2_copies_15 : decode cX2_copies 15 = .ok (.ifCond .eq 6, 3) := by decide +kernel
theorem dX2_copies_18 : decode cX2_copies 18 = .ok (.iload 6, 2) := by decide +kernel
theorem dX2_copies_20 : decode cX2_copies 20 = .ok (.ireturn, 1) := by decide +kernel
theorem dX2_copies_21 : decode cX2_copies 21 = .ok (.aload_n 0, 1) := by decide +kernel
theorem dX2_copies_22 : decode cX2_copies 22 = .ok (.iload_n 3, 1) := by decide +kernel
theorem dX2_copies_23 : decode cX2_copies 23 = .ok (.invokevirtual 43, 3) := by decide +kernel
theorem dX2_copies_26 : decode cX2_copies 26 = .ok (.istore 7, 2) := by decide +kernel
theorem dX2_copies_28 : decode cX2_copies 28 = .ok (.bipush 40, 2) := by decide +kernel
theorem dX2_copies_30 : decode cX2_copies 30 = .ok (.aload_n 0, 1) := by decide +kernel
theorem dX2_copies_31 : decode cX2_copies 31 = .ok (.getfield 9, 3) := by decide +kernel
theorem dX2_copies_34 : decode cX2_copies 34 = .ok (.iload_n 1, 1) := by decide +kernel
theorem dX2_copies_35 : decode cX2_copies 35 = .ok (.iaload, 1) := by decide +kernel
theorem dX2_copies_36 : decode cX2_copies 36 = .ok (.imul, 1) := by decide +kernel
theorem dX2_copies_37 : decode cX2_copies 37 = .ok (.iload_n 2, 1) := by decide +kernel
theorem dX2_copies_38 : decode cX2_copies 38 = .ok (.iadd, 1) := by decide +kernel
theorem dX2_copies_39 : decode cX2_copies 39 = .ok (.istore 8, 2) := by decide +kernel
theorem dX2_copies_41 : decode cX2_copies 41 = .ok (.bipush 40, 2) := by decide +kernel
theorem dX2_copies_43 : decode cX2_copies 43 = .ok (.aload_n 0, 1) := by decide +kernel
theorem dX2_copies_44 : decode cX2_copies 44 = .ok (.getfield 9, 3) := by decide +kernel
theorem dX2_copies_47 : decode cX2_copies 47 = .ok (.iload_n 3, 1) := by decide +kernel
theorem dX2_copies_48 : decode cX2_copies 48 = .ok (.iaload, 1) := by decide +kernel
theorem dX2_copies_49 : decode cX2_copies 49 = .ok (.imul, 1) := by decide +kernel
theorem dX2_copies_50 : decode cX2_copies 50 = .ok (.iload 4, 2) := by decide +kernel
theorem dX2_copies_52 : decode cX2_copies 52 = .ok (.iadd, 1) := by decide +kernel
theorem dX2_copies_53 : decode cX2_copies 53 = .ok (.istore 9, 2) := by decide +kernel
theorem dX2_copies_55 : decode cX2_copies 55 = .ok (.iconst 0, 1) := by decide +kernel
theorem dX2_copies_56 : decode cX2_copies 56 = .ok (.istore 10, 2) := by decide +kernel
theorem dX2_copies_58 : decode cX2_copies 58 = .ok (.iload 10, 2) := by decide +kernel
theorem dX2_copies_60 : decode cX2_copies 60 = .ok (.iload 5, 2) := by decide +kernel
theorem dX2_copies_62 : decode cX2_copies 62 = .ok (.if_icmp .ge 26, 3) := by decide +kernel
theorem dX2_copies_65 : decode cX2_copies 65 = .ok (.aload_n 0, 1) := by decide +kernel
theorem dX2_copies_66 : decode cX2_copies 66 = .ok (.getfield 23, 3) := by decide +kernel
theorem dX2_copies_69 : decode cX2_copies 69 = .ok (.iload 10, 2) := by decide +kernel
theorem dX2_copies_71 : decode cX2_copies 71 = .ok (.aload_n 0, 1) := by decide +kernel
theorem dX2_copies_72 : decode cX2_copies 72 = .ok (.getfield 19, 3) := by decide +kernel
theorem dX2_copies_75 : decode cX2_copies 75 = .ok (.iload 8, 2) := by decide +kernel
theorem dX2_copies_77 : decode cX2_copies 77 = .ok (.iload 10, 2) := by decide +kernel
theorem dX2_copies_79 : decode cX2_copies 79 = .ok (.iadd, 1) := by decide +kernel
theorem dX2_copies_80 : decode cX2_copies 80 = .ok (.laload, 1) := by decide +kernel
theorem dX2_copies_81 : decode cX2_copies 81 = .ok (.lastore, 1) := by decide +kernel
theorem dX2_copies_82 : decode cX2_copies 82 = .ok (.iinc 10 1, 3) := by decide +kernel
theorem dX2_copies_85 : decode cX2_copies 85 = .ok (.goto (-27), 3) := by decide +kernel
theorem dX2_copies_88 : decode cX2_copies 88 = .ok (.iconst 0, 1) := by decide +kernel
theorem dX2_copies_89 : decode cX2_copies 89 = .ok (.istore 10, 2) := by decide +kernel
theorem dX2_copies_91 : decode cX2_copies 91 = .ok (.iload 10, 2) := by decide +kernel
theorem dX2_copies_93 : decode cX2_copies 93 = .ok (.iload 5, 2) := by decide +kernel
theorem dX2_copies_95 : decode cX2_copies 95 = .ok (.if_icmp .ge 44, 3) := by decide +kernel
theorem dX2_copies_98 : decode cX2_copies 98 = .ok (.aload_n 0, 1) := by decide +kernel
theorem dX2_copies_99 : decode cX2_copies 99 = .ok (.iload 7, 2) := by decide +kernel
theorem dX2_copies_101 : decode cX2_copies 101 = .ok (.aload_n 0, 1) := by decide +kernel
theorem dX2_copies_102 : decode cX2_copies 102 = .ok (.getfield 23, 3) := by decide +kernel
theorem dX2_copies_105 : decode cX2_copies 105 = .ok (.iload 10, 2) := by decide +kernel
theorem dX2_copies_107 : decode cX2_copies 107 = .ok (.laload, 1) := by decide +kernel
theorem dX2_copies_108 : decode cX2_copies 108 = .ok (.invokevirtual 88, 3) := by decide +kernel
theorem dX2_copies_111 : decode cX2_copies 111 = .ok (.ifCond .ne 5, 3) := by decide +kernel
theorem dX2_copies_114 : decode cX2_copies 114 = .ok (.iconst 2, 1) := by decide +kernel
theorem dX2_copies_115 : decode cX2_copies 115 = .ok (.ireturn, 1) := by decide +kernel
theorem dX2_copies_116 : decode cX2_copies 116 = .ok (.aload_n 0, 1) := by decide +kernel
theorem dX2_copies_117 : decode cX2_copies 117 = .ok (.getfield 19, 3) := by decide +kernel
theorem dX2_copies_120 : decode cX2_copies 120 = .ok (.iload 9, 2) := by decide +kernel
theorem dX2_copies_122 : decode cX2_copies 122 = .ok (.iload 10, 2) := by decide +kernel
theorem dX2_copies_124 : decode cX2_copies 124 = .ok (.iadd, 1) := by decide +kernel
theorem dX2_copies_125 : decode cX2_copies 125 = .ok (.aload_n 0, 1) := by decide +kernel
theorem dX2_copies_126 : decode cX2_copies 126 = .ok (.getfield 23, 3) := by decide +kernel
theorem dX2_copies_129 : decode cX2_copies 129 = .ok (.iload 10, 2) := by decide +kernel
theorem dX2_copies_131 : decode cX2_copies 131 = .ok (.laload, 1) := by decide +kernel
theorem dX2_copies_132 : decode cX2_copies 132 = .ok (.lastore, 1) := by decide +kernel
theorem dX2_copies_133 : decode cX2_copies 133 = .ok (.iinc 10 1, 3) := by decide +kernel
theorem dX2_copies_136 : decode cX2_copies 136 = .ok (.goto (-45), 3) := by decide +kernel
theorem dX2_copies_139 : decode cX2_copies 139 = .ok (.iconst 0, 1) := by decide +kernel
theorem dX2_copies_140 : decode cX2_copies 140 = .ok (.ireturn, 1) := by decide +kernel
theorem dX2_copy_0 : decode cX2_copy 0 = .ok (.aload_n 0, 1) := by decide +kernel
theorem dX2_copy_1 : decode cX2_copy 1 = .ok (.iload_n 1, 1) := by decide +kernel
theorem dX2_copy_2 : decode cX2_copy 2 = .ok (.invokestatic 60, 3) := by decide +kernel
theorem dX2_copy_5 : decode cX2_copy 5 = .ok (.ifCond .ne 10, 3) := by decide +kernel
theorem dX2_copy_8 : decode cX2_copy 8 = .ok (.iload_n 3, 1) := by decide +kernel
theorem dX2_copy_9 : decode cX2_copy 9 = .ok (.invokestatic 60, 3) := by decide +kernel
theorem dX2_copy_12 : decode cX2_copy 12 = .ok (.ifCond .eq 7, 3) := by decide +kernel
theorem dX2_copy_15 : decode cX2_copy 15 = .ok (.iconst 1, 1) := by decide +kernel
theorem dX2_copy_16 : decode cX2_copy 16 = .ok (.goto 4, 3) := by decide +kernel
theorem dX2_copy_19 : decode cX2_copy 19 = .ok (.iconst 0, 1) := by decide +kernel
theorem dX2_copy_20 : decode cX2_copy 20 = .ok (.iconst 0, 1) := by decide +kernel
theorem dX2_copy_21 : decode cX2_copy 21 = .ok (.invokevirtual 63, 3) := by decide +kernel
theorem dX2_copy_24 : decode cX2_copy 24 = .ok (.ifCond .eq 5, 3) := by decide +kernel
theorem dX2_copy_27 : decode cX2_copy 27 = .ok (.iconst 0, 1) := by decide +kernel
theorem dX2_copy_28 : decode cX2_copy 28 = .ok (.ireturn, 1) := by decide +kernel
theorem dX2_copy_29 : decode cX2_copy 29 = .ok (.aload_n 0, 1) := by decide +kernel
theorem dX2_copy_30 : decode cX2_copy 30 = .ok (.iload_n 1, 1) := by decide +kernel
theorem dX2_copy_31 : decode cX2_copy 31 = .ok (.iload_n 2, 1) := by decide +kernel
theorem dX2_copy_32 : decode cX2_copy 32 = .ok (.iload_n 3, 1) := by decide +kernel
theorem dX2_copy_33 : decode cX2_copy 33 = .ok (.iload 4, 2) := by decide +kernel
theorem dX2_copy_35 : decode cX2_copy 35 = .ok (.iload 5, 2) := by decide +kernel
theorem dX2_copy_37 : decode cX2_copy 37 = .ok (.invokevirtual 92, 3) := by decide +kernel
theorem dX2_copy_40 : decode cX2_copy 40 = .ok (.ireturn, 1) := by decide +kernel
theorem dX2_join_0 : decode cX2_join 0 = .ok (.aload_n 0, 1) := by decide +kernel
theorem dX2_join_1 : decode cX2_join 1 = .ok (.iload_n 1, 1) := by decide +kernel
theorem dX2_join_2 : decode cX2_join 2 = .ok (.invokestatic 60, 3) := by decide +kernel
theorem dX2_join_5 : decode cX2_join 5 = .ok (.ifCond .ne 17, 3) := by decide +kernel
theorem dX2_join_8 : decode cX2_join 8 = .ok (.iload_n 2, 1) := by decide +kernel
theorem dX2_join_9 : decode cX2_join 9 = .ok (.invokestatic 60, 3) := by decide +kernel
theorem dX2_join_12 : decode cX2_join 12 = .ok (.ifCond .ne 10, 3) := by decide +kernel
theorem dX2_join_15 : decode cX2_join 15 = .ok (.iload_n 3, 1) := by decide +kernel
theorem dX2_join_16 : decode cX2_join 16 = .ok (.invokestatic 60, 3) := by decide +kernel
theorem dX2_join_19 : decode cX2_join 19 = .ok (.ifCond .eq 7, 3) := by decide +kernel
theorem dX2_join_22 : decode cX2_join 22 = .ok (.iconst 1, 1) := by decide +kernel
theorem dX2_join_23 : decode cX2_join 23 = .ok (.goto 4, 3) := by decide +kernel
theorem dX2_join_26 : decode cX2_join 26 = .ok (.iconst 0, 1) := by decide +kernel
theorem dX2_join_27 : decode cX2_join 27 = .ok (.iconst 0, 1) := by decide +kernel
theorem dX2_join_28 : decode cX2_join 28 = .ok (.invokevirtual 63, 3) := by decide +kernel
theorem dX2_join_31 : decode cX2_join 31 = .ok (.ifCond .eq 5, 3) := by decide +kernel
theorem dX2_join_34 : decode cX2_join 34 = .ok (.iconst 0, 1) := by decide +kernel
theorem dX2_join_35 : decode cX2_join 35 = .ok (.ireturn, 1) := by decide +kernel
theorem dX2_join_36 : decode cX2_join 36 = .ok (.aload_n 0, 1) := by decide +kernel
theorem dX2_join_37 : decode cX2_join 37 = .ok (.iload_n 1, 1) := by decide +kernel
theorem dX2_join_38 : decode cX2_join 38 = .ok (.invokevirtual 78, 3) := by decide +kernel
theorem dX2_join_41 : decode cX2_join 41 = .ok (.istore 4, 2) := by decide +kernel
theorem dX2_join_43 : decode cX2_join 43 = .ok (.aload_n 0, 1) := by decide +kernel
theorem dX2_join_44 : decode cX2_join 44 = .ok (.iload_n 1, 1) := by decide +kernel
theorem dX2_join_45 : decode cX2_join 45 = .ok (.iconst 0, 1) := by decide +kernel
theorem dX2_join_46 : decode cX2_join 46 = .ok (.iload_n 3, 1) := by decide +kernel
theorem dX2_join_47 : decode cX2_join 47 = .ok (.iconst 0, 1) := by decide +kernel
theorem dX2_join_48 : decode cX2_join 48 = .ok (.iload 4, 2) := by decide +kernel
theorem dX2_join_50 : decode cX2_join 50 = .ok (.invokevirtual 92, 3) := by decide +kernel
theorem dX2_join_53 : decode cX2_join 53 = .ok (.istore 5, 2) := by decide +kernel
theorem dX2_join_55 : decode cX2_join 55 = .ok (.iload 5, 2) := by decide +kernel
theorem dX2_join_57 : decode cX2_join 57 = .ok (.ifCond .eq 8, 3) := by decide +kernel
theorem dX2_join_60 : decode cX2_join 60 = .ok (.iload 5, 2) := by decide +kernel
theorem dX2_join_62 : decode cX2_join 62 = .ok (.goto 17, 3) := by decide +kernel
theorem dX2_join_65 : decode cX2_join 65 = .ok (.aload_n 0, 1) := by decide +kernel
theorem dX2_join_66 : decode cX2_join 66 = .ok (.iload_n 2, 1) := by decide +kernel
theorem dX2_join_67 : decode cX2_join 67 = .ok (.iconst 0, 1) := by decide +kernel
theorem dX2_join_68 : decode cX2_join 68 = .ok (.iload_n 3, 1) := by decide +kernel
theorem dX2_join_69 : decode cX2_join 69 = .ok (.iload 4, 2) := by decide +kernel
theorem dX2_join_71 : decode cX2_join 71 = .ok (.aload_n 0, 1) := by decide +kernel
theorem dX2_join_72 : decode cX2_join 72 = .ok (.iload_n 2, 1) := by decide +kernel
theorem dX2_join_73 : decode cX2_join 73 = .ok (.invokevirtual 78, 3) := by decide +kernel
theorem dX2_join_76 : decode cX2_join 76 = .ok (.invokevirtual 92, 3) := by decide +kernel
theorem dX2_join_79 : decode cX2_join 79 = .ok (.ireturn, 1) := by decide +kernel
theorem dX2_noRow_0 : decode cX2_noRow 0 = .ok (.aload_n 0, 1) := by decide +kernel
theorem dX2_noRow_1 : decode cX2_noRow 1 = .ok (.iload_n 1, 1) := by decide +kernel
theorem dX2_noRow_2 : decode cX2_noRow 2 = .ok (.invokevirtual 43, 3) := by decide +kernel
theorem dX2_noRow_5 : decode cX2_noRow 5 = .ok (.istore_n 2, 1) := by decide +kernel
theorem dX2_noRow_6 : decode cX2_noRow 6 = .ok (.iload_n 2, 1) := by decide +kernel
theorem dX2_noRow_7 : decode cX2_noRow 7 = .ok (.bipush 6, 2) := by decide +kernel
theorem dX2_noRow_9 : decode cX2_noRow 9 = .ok (.if_icmp .ne 7, 3) := by decide +kernel
theorem dX2_noRow_12 : decode cX2_noRow 12 = .ok (.iconst 1, 1) := by decide +kernel
theorem dX2_noRow_13 : decode cX2_noRow 13 = .ok (.goto 15, 3) := by decide +kernel
theorem dX2_noRow_16 : decode cX2_noRow 16 = .ok (.iload_n 2, 1) := by decide +kernel
theorem dX2_noRow_17 : decode cX2_noRow 17 = .ok (.invokestatic 47, 3) := by decide +kernel
theorem dX2_noRow_20 : decode cX2_noRow 20 = .ok (.ifCond .eq 7, 3) := by decide +kernel
theorem dX2_noRow_23 : decode cX2_noRow 23 = .ok (.iconst 0, 1) := by decide +kernel
theorem dX2_noRow_24 : decode cX2_noRow 24 = .ok (.goto 4, 3) := by decide +kernel
theorem dX2_noRow_27 : decode cX2_noRow 27 = .ok (.iconst 2, 1) := by decide +kernel
theorem dX2_noRow_28 : decode cX2_noRow 28 = .ok (.ireturn, 1) := by decide +kernel
theorem dX2_slide_0 : decode cX2_slide 0 = .ok (.aload_n 0, 1) := by decide +kernel
theorem dX2_slide_1 : decode cX2_slide 1 = .ok (.iload_n 1, 1) := by decide +kernel
theorem dX2_slide_2 : decode cX2_slide 2 = .ok (.invokestatic 60, 3) := by decide +kernel
theorem dX2_slide_5 : decode cX2_slide 5 = .ok (.iconst 0, 1) := by decide +kernel
theorem dX2_slide_6 : decode cX2_slide 6 = .ok (.invokevirtual 63, 3) := by decide +kernel
theorem dX2_slide_9 : decode cX2_slide 9 = .ok (.ifCond .eq 5, 3) := by decide +kernel
theorem dX2_slide_12 : decode cX2_slide 12 = .ok (.iconst 0, 1) := by decide +kernel
theorem dX2_slide_13 : decode cX2_slide 13 = .ok (.ireturn, 1) := by decide +kernel
theorem dX2_slide_14 : decode cX2_slide 14 = .ok (.aload_n 0, 1) := by decide +kernel
theorem dX2_slide_15 : decode cX2_slide 15 = .ok (.iload_n 1, 1) := by decide +kernel
theorem dX2_slide_16 : decode cX2_slide 16 = .ok (.invokevirtual 95, 3) := by decide +kernel
theorem dX2_slide_19 : decode cX2_slide 19 = .ok (.istore 4, 2) := by decide +kernel
theorem dX2_slide_21 : decode cX2_slide 21 = .ok (.iload 4, 2) := by decide +kernel
theorem dX2_slide_23 : decode cX2_slide 23 = .ok (.ifCond .eq 6, 3) := by decide +kernel
theorem dX2_slide_26 : decode cX2_slide 26 = .ok (.iload 4, 2) := by decide +kernel
theorem dX2_slide_28 : decode cX2_slide 28 = .ok (.ireturn, 1) := by decide +kernel
theorem dX2_slide_29 : decode cX2_slide 29 = .ok (.aload_n 0, 1) := by decide +kernel
theorem dX2_slide_30 : decode cX2_slide 30 = .ok (.iload_n 1, 1) := by decide +kernel
theorem dX2_slide_31 : decode cX2_slide 31 = .ok (.invokevirtual 78, 3) := by decide +kernel
theorem dX2_slide_34 : decode cX2_slide 34 = .ok (.istore 5, 2) := by decide +kernel
theorem dX2_slide_36 : decode cX2_slide 36 = .ok (.iload_n 2, 1) := by decide +kernel
theorem dX2_slide_37 : decode cX2_slide 37 = .ok (.i2l, 1) := by decide +kernel
theorem dX2_slide_38 : decode cX2_slide 38 = .ok (.iload_n 3, 1) := by decide +kernel
theorem dX2_slide_39 : decode cX2_slide 39 = .ok (.i2l, 1) := by decide +kernel
theorem dX2_slide_40 : decode cX2_slide 40 = .ok (.ladd, 1) := by decide +kernel
theorem dX2_slide_41 : decode cX2_slide 41 = .ok (.lstore 6, 2) := by decide +kernel
theorem dX2_slide_43 : decode cX2_slide 43 = .ok (.iload_n 2, 1) := by decide +kernel
theorem dX2_slide_44 : decode cX2_slide 44 = .ok (.iconst 0, 1) := by decide +kernel
theorem dX2_slide_45 : decode cX2_slide 45 = .ok (.iload 5, 2) := by decide +kernel
theorem dX2_slide_47 : decode cX2_slide 47 = .ok (.invokestatic 36, 3) := by decide +kernel
theorem dX2_slide_50 : decode cX2_slide 50 = .ok (.ifCond .ne 19, 3) := by decide +kernel
theorem dX2_slide_53 : decode cX2_slide 53 = .ok (.lload 6, 2) := by decide +kernel
theorem dX2_slide_55 : decode cX2_slide 55 = .ok (.lconst 0, 1) := by decide +kernel
theorem dX2_slide_56 : decode cX2_slide 56 = .ok (.lcmp, 1) := by decide +kernel
theorem dX2_slide_57 : decode cX2_slide 57 = .ok (.ifCond .lt 12, 3) := by decide +kernel
theorem dX2_slide_60 : decode cX2_slide 60 = .ok (.lload 6, 2) := by decide +kernel
theorem dX2_slide_62 : decode cX2_slide 62 = .ok (.iload 5, 2) := by decide +kernel
theorem dX2_slide_64 : decode cX2_slide 64 = .ok (.i2l, 1) := by decide +kernel
theorem dX2_slide_65 : decode cX2_slide 65 = .ok (.lcmp, 1) := by decide +kernel
theorem dX2_slide_66 : decode cX2_slide 66 = .ok (.ifCond .le 5, 3) := by decide +kernel
theorem dX2_slide_69 : decode cX2_slide 69 = .ok (.iconst 3, 1) := by decide +kernel
theorem dX2_slide_70 : decode cX2_slide 70 = .ok (.ireturn, 1) := by decide +kernel
theorem dX2_slide_71 : decode cX2_slide 71 = .ok (.bipush 40, 2) := by decide +kernel
theorem dX2_slide_73 : decode cX2_slide 73 = .ok (.aload_n 0, 1) := by decide +kernel
theorem dX2_slide_74 : decode cX2_slide 74 = .ok (.getfield 9, 3) := by decide +kernel
theorem dX2_slide_77 : decode cX2_slide 77 = .ok (.iload_n 1, 1) := by decide +kernel
theorem dX2_slide_78 : decode cX2_slide 78 = .ok (.iaload, 1) := by decide +kernel
theorem dX2_slide_79 : decode cX2_slide 79 = .ok (.imul, 1) := by decide +kernel
theorem dX2_slide_80 : decode cX2_slide 80 = .ok (.istore 8, 2) := by decide +kernel
theorem dX2_slide_82 : decode cX2_slide 82 = .ok (.iconst 0, 1) := by decide +kernel
theorem dX2_slide_83 : decode cX2_slide 83 = .ok (.istore 9, 2) := by decide +kernel
theorem dX2_slide_85 : decode cX2_slide 85 = .ok (.iload 9, 2) := by decide +kernel
theorem dX2_slide_87 : decode cX2_slide 87 = .ok (.iload 5, 2) := by decide +kernel
theorem dX2_slide_89 : decode cX2_slide 89 = .ok (.if_icmp .ge 26, 3) := by decide +kernel
theorem dX2_slide_92 : decode cX2_slide 92 = .ok (.aload_n 0, 1) := by decide +kernel
theorem dX2_slide_93 : decode cX2_slide 93 = .ok (.getfield 23, 3) := by decide +kernel
theorem dX2_slide_96 : decode cX2_slide 96 = .ok (.iload 9, 2) := by decide +kernel
theorem dX2_slide_98 : decode cX2_slide 98 = .ok (.aload_n 0, 1) := by decide +kernel
theorem dX2_slide_99 : decode cX2_slide 99 = .ok (.getfield 19, 3) := by decide +kernel
theorem dX2_slide_102 : decode cX2_slide 102 = .ok (.iload 8, 2) := by decide +kernel
theorem dX2_slide_104 : decode cX2_slide 104 = .ok (.iload 9, 2) := by decide +kernel
theorem dX2_slide_106 : decode cX2_slide 106 = .ok (.iadd, 1) := by decide +kernel
theorem dX2_slide_107 : decode cX2_slide 107 = .ok (.laload, 1) := by decide +kernel
theorem dX2_slide_108 : decode cX2_slide 108 = .ok (.lastore, 1) := by decide +kernel
theorem dX2_slide_109 : decode cX2_slide 109 = .ok (.iinc 9 1, 3) := by decide +kernel
theorem dX2_slide_112 : decode cX2_slide 112 = .ok (.goto (-27), 3) := by decide +kernel
theorem dX2_slide_115 : decode cX2_slide 115 = .ok (.iload_n 3, 1) := by decide +kernel
theorem dX2_slide_116 : decode cX2_slide 116 = .ok (.ifCond .ge 9, 3) := by decide +kernel
theorem dX2_slide_119 : decode cX2_slide 119 = .ok (.lload 6, 2) := by decide +kernel
theorem dX2_slide_121 : decode cX2_slide 121 = .ok (.l2i, 1) := by decide +kernel
theorem dX2_slide_122 : decode cX2_slide 122 = .ok (.goto 4, 3) := by decide +kernel
theorem dX2_slide_125 : decode cX2_slide 125 = .ok (.iload_n 2, 1) := by decide +kernel
theorem dX2_slide_126 : decode cX2_slide 126 = .ok (.istore 9, 2) := by decide +kernel
theorem dX2_slide_128 : decode cX2_slide 128 = .ok (.iload 9, 2) := by decide +kernel
theorem dX2_slide_130 : decode cX2_slide 130 = .ok (.istore 10, 2) := by decide +kernel
theorem dX2_slide_132 : decode cX2_slide 132 = .ok (.iload 10, 2) := by decide +kernel
theorem dX2_slide_134 : decode cX2_slide 134 = .ok (.iload 5, 2) := by decide +kernel
theorem dX2_slide_136 : decode cX2_slide 136 = .ok (.if_icmp .ge 62, 3) := by decide +kernel
theorem dX2_slide_139 : decode cX2_slide 139 = .ok (.iload 10, 2) := by decide +kernel
theorem dX2_slide_141 : decode cX2_slide 141 = .ok (.iload_n 3, 1) := by decide +kernel
theorem dX2_slide_142 : decode cX2_slide 142 = .ok (.isub, 1) := by decide +kernel
theorem dX2_slide_143 : decode cX2_slide 143 = .ok (.istore 11, 2) := by decide +kernel
theorem dX2_slide_145 : decode cX2_slide 145 = .ok (.aload_n 0, 1) := by decide +kernel
theorem dX2_slide_146 : decode cX2_slide 146 = .ok (.getfield 19, 3) := by decide +kernel
theorem dX2_slide_149 : decode cX2_slide 149 = .ok (.iload 8, 2) := by decide +kernel
theorem dX2_slide_151 : decode cX2_slide 151 = .ok (.iload 10, 2) := by decide +kernel
theorem dX2_slide_153 : decode cX2_slide 153 = .ok (.iadd, 1) := by decide +kernel
theorem dX2_slide_154 : decode cX2_slide 154 = .ok (.iload 11, 2) := by decide +kernel
theorem dX2_slide_156 : decode cX2_slide 156 = .ok (.iload_n 2, 1) := by decide +kernel
theorem dX2_slide_157 : decode cX2_slide 157 = .ok (.if_icmp .lt 20, 3) := by decide +kernel
theorem dX2_slide_160 : decode cX2_slide 160 = .ok (.iload 11, 2) := by decide +kernel
theorem dX2_slide_162 : decode cX2_slide 162 = .ok (.iload 5, 2) := by decide +kernel
theorem dX2_slide_164 : decode cX2_slide 164 = .ok (.if_icmp .ge 13, 3) := by decide +kernel
theorem dX2_slide_167 : decode cX2_slide 167 = .ok (.aload_n 0, 1) := by decide +kernel
theorem dX2_slide_168 : decode cX2_slide 168 = .ok (.getfield 23, 3) := by decide +kernel
theorem dX2_slide_171 : decode cX2_slide 171 = .ok (.iload 11, 2) := by decide +kernel
theorem dX2_slide_173 : decode cX2_slide 173 = .ok (.laload, 1) := by decide +kernel
theorem dX2_slide_174 : decode cX2_slide 174 = .ok (.goto 17, 3) := by decide +kernel
theorem dX2_slide_177 : decode cX2_slide 177 = .ok (.aload_n 0, 1) := by decide +kernel
theorem dX2_slide_178 : decode cX2_slide 178 = .ok (.getfield 13, 3) := by decide +kernel
theorem dX2_slide_181 : decode cX2_slide 181 = .ok (.aload_n 0, 1) := by decide +kernel
theorem dX2_slide_182 : decode cX2_slide 182 = .ok (.getfield 9, 3) := by decide +kernel
theorem dX2_slide_185 : decode cX2_slide 185 = .ok (.iload_n 1, 1) := by decide +kernel
theorem dX2_slide_186 : decode cX2_slide 186 = .ok (.iaload, 1) := by decide +kernel
theorem dX2_slide_187 : decode cX2_slide 187 = .ok (.iaload, 1) := by decide +kernel
theorem dX2_slide_188 : decode cX2_slide 188 = .ok (.invokestatic 71, 3) := by decide +kernel
theorem dX2_slide_191 : decode cX2_slide 191 = .ok (.lastore, 1) := by decide +kernel
theorem dX2_slide_192 : decode cX2_slide 192 = .ok (.iinc 10 1, 3) := by decide +kernel
theorem dX2_slide_195 : decode cX2_slide 195 = .ok (.goto (-63), 3) := by decide +kernel
theorem dX2_slide_198 : decode cX2_slide 198 = .ok (.iconst 0, 1) := by decide +kernel
theorem dX2_slide_199 : decode cX2_slide 199 = .ok (.ireturn, 1) := by decide +kernel
theorem dX2_turn_0 : decode cX2_turn 0 = .ok (.aload_n 0, 1) := by decide +kernel
theorem dX2_turn_1 : decode cX2_turn 1 = .ok (.iload_n 1, 1) := by decide +kernel
theorem dX2_turn_2 : decode cX2_turn 2 = .ok (.invokestatic 60, 3) := by decide +kernel
theorem dX2_turn_5 : decode cX2_turn 5 = .ok (.iconst 0, 1) := by decide +kernel
theorem dX2_turn_6 : decode cX2_turn 6 = .ok (.invokevirtual 63, 3) := by decide +kernel
theorem dX2_turn_9 : decode cX2_turn 9 = .ok (.ifCond .eq 5, 3) := by decide +kernel
theorem dX2_turn_12 : decode cX2_turn 12 = .ok (.iconst 0, 1) := by decide +kernel
theorem dX2_turn_13 : decode cX2_turn 13 = .ok (.ireturn, 1) := by decide +kernel
theorem dX2_turn_14 : decode cX2_turn 14 = .ok (.aload_n 0, 1) := by decide +kernel
theorem dX2_turn_15 : decode cX2_turn 15 = .ok (.iload_n 1, 1) := by decide +kernel
theorem dX2_turn_16 : decode cX2_turn 16 = .ok (.invokevirtual 95, 3) := by decide +kernel
theorem dX2_turn_19 : decode cX2_turn 19 = .ok (.istore_n 3, 1) := by decide +kernel
theorem dX2_turn_20 : decode cX2_turn 20 = .ok (.iload_n 3, 1) := by decide +kernel
theorem dX2_turn_21 : decode cX2_turn 21 = .ok (.ifCond .eq 5, 3) := by decide +kernel
theorem dX2_turn_24 : decode cX2_turn 24 = .ok (.iload_n 3, 1) := by decide +kernel
theorem dX2_turn_25 : decode cX2_turn 25 = .ok (.ireturn, 1) := by decide +kernel
theorem dX2_turn_26 : decode cX2_turn 26 = .ok (.aload_n 0, 1) := by decide +kernel
theorem dX2_turn_27 : decode cX2_turn 27 = .ok (.iload_n 1, 1) := by decide +kernel
theorem dX2_turn_28 : decode cX2_turn 28 = .ok (.invokevirtual 78, 3) := by decide +kernel
theorem dX2_turn_31 : decode cX2_turn 31 = .ok (.istore 4, 2) := by decide +kernel
theorem dX2_turn_33 : decode cX2_turn 33 = .ok (.iload_n 2, 1) := by decide +kernel
theorem dX2_turn_34 : decode cX2_turn 34 = .ok (.iconst 0, 1) := by decide +kernel
theorem dX2_turn_35 : decode cX2_turn 35 = .ok (.iload 4, 2) := by decide +kernel
theorem dX2_turn_37 : decode cX2_turn 37 = .ok (.invokestatic 36, 3) := by decide +kernel
theorem dX2_turn_40 : decode cX2_turn 40 = .ok (.ifCond .eq 5, 3) := by decide +kernel
theorem dX2_turn_43 : decode cX2_turn 43 = .ok (.iconst 3, 1) := by decide +kernel
theorem dX2_turn_44 : decode cX2_turn 44 = .ok (.ireturn, 1) := by decide +kernel
theorem dX2_turn_45 : decode cX2_turn 45 = .ok (.bipush 40, 2) := by decide +kernel
theorem dX2_turn_47 : decode cX2_turn 47 = .ok (.aload_n 0, 1) := by decide +kernel
theorem dX2_turn_48 : decode cX2_turn 48 = .ok (.getfield 9, 3) := by decide +kernel
theorem dX2_turn_51 : decode cX2_turn 51 = .ok (.iload_n 1, 1) := by decide +kernel
theorem dX2_turn_52 : decode cX2_turn 52 = .ok (.iaload, 1) := by decide +kernel
theorem dX2_turn_53 : decode cX2_turn 53 = .ok (.imul, 1) := by decide +kernel
theorem dX2_turn_54 : decode cX2_turn 54 = .ok (.istore 5, 2) := by decide +kernel
theorem dX2_turn_56 : decode cX2_turn 56 = .ok (.iconst 0, 1) := by decide +kernel
theorem dX2_turn_57 : decode cX2_turn 57 = .ok (.istore 6, 2) := by decide +kernel
theorem dX2_turn_59 : decode cX2_turn 59 = .ok (.iload 6, 2) := by decide +kernel
theorem dX2_turn_61 : decode cX2_turn 61 = .ok (.iload 4, 2) := by decide +kernel
theorem dX2_turn_63 : decode cX2_turn 63 = .ok (.if_icmp .ge 26, 3) := by decide +kernel
theorem dX2_turn_66 : decode cX2_turn 66 = .ok (.aload_n 0, 1) := by decide +kernel
theorem dX2_turn_67 : decode cX2_turn 67 = .ok (.getfield 23, 3) := by decide +kernel
theorem dX2_turn_70 : decode cX2_turn 70 = .ok (.iload 6, 2) := by decide +kernel
theorem dX2_turn_72 : decode cX2_turn 72 = .ok (.aload_n 0, 1) := by decide +kernel
theorem dX2_turn_73 : decode cX2_turn 73 = .ok (.getfield 19, 3) := by decide +kernel
theorem dX2_turn_76 : decode cX2_turn 76 = .ok (.iload 5, 2) := by decide +kernel
theorem dX2_turn_78 : decode cX2_turn 78 = .ok (.iload 6, 2) := by decide +kernel
theorem dX2_turn_80 : decode cX2_turn 80 = .ok (.iadd, 1) := by decide +kernel
theorem dX2_turn_81 : decode cX2_turn 81 = .ok (.laload, 1) := by decide +kernel
theorem dX2_turn_82 : decode cX2_turn 82 = .ok (.lastore, 1) := by decide +kernel
theorem dX2_turn_83 : decode cX2_turn 83 = .ok (.iinc 6 1, 3) := by decide +kernel
theorem dX2_turn_86 : decode cX2_turn 86 = .ok (.goto (-27), 3) := by decide +kernel
theorem dX2_turn_89 : decode cX2_turn 89 = .ok (.iconst 0, 1) := by decide +kernel
theorem dX2_turn_90 : decode cX2_turn 90 = .ok (.istore 6, 2) := by decide +kernel
theorem dX2_turn_92 : decode cX2_turn 92 = .ok (.iload 6, 2) := by decide +kernel
theorem dX2_turn_94 : decode cX2_turn 94 = .ok (.iload 4, 2) := by decide +kernel
theorem dX2_turn_96 : decode cX2_turn 96 = .ok (.if_icmp .ge 47, 3) := by decide +kernel
theorem dX2_turn_99 : decode cX2_turn 99 = .ok (.aload_n 0, 1) := by decide +kernel
theorem dX2_turn_100 : decode cX2_turn 100 = .ok (.getfield 19, 3) := by decide +kernel
theorem dX2_turn_103 : decode cX2_turn 103 = .ok (.iload 5, 2) := by decide +kernel
theorem dX2_turn_105 : decode cX2_turn 105 = .ok (.iload 6, 2) := by decide +kernel
theorem dX2_turn_107 : decode cX2_turn 107 = .ok (.iadd, 1) := by decide +kernel
theorem dX2_turn_108 : decode cX2_turn 108 = .ok (.aload_n 0, 1) := by decide +kernel
theorem dX2_turn_109 : decode cX2_turn 109 = .ok (.getfield 23, 3) := by decide +kernel
theorem dX2_turn_112 : decode cX2_turn 112 = .ok (.iload 6, 2) := by decide +kernel
theorem dX2_turn_114 : decode cX2_turn 114 = .ok (.iload_n 2, 1) := by decide +kernel
theorem dX2_turn_115 : decode cX2_turn 115 = .ok (.iadd, 1) := by decide +kernel
theorem dX2_turn_116 : decode cX2_turn 116 = .ok (.iload 4, 2) := by decide +kernel
theorem dX2_turn_118 : decode cX2_turn 118 = .ok (.if_icmp .ge 10, 3) := by decide +kernel
theorem dX2_turn_121 : decode cX2_turn 121 = .ok (.iload 6, 2) := by decide +kernel
theorem dX2_turn_123 : decode cX2_turn 123 = .ok (.iload_n 2, 1) := by decide +kernel
theorem dX2_turn_124 : decode cX2_turn 124 = .ok (.iadd, 1) := by decide +kernel
theorem dX2_turn_125 : decode cX2_turn 125 = .ok (.goto 10, 3) := by decide +kernel
theorem dX2_turn_128 : decode cX2_turn 128 = .ok (.iload 6, 2) := by decide +kernel
theorem dX2_turn_130 : decode cX2_turn 130 = .ok (.iload_n 2, 1) := by decide +kernel
theorem dX2_turn_131 : decode cX2_turn 131 = .ok (.iadd, 1) := by decide +kernel
theorem dX2_turn_132 : decode cX2_turn 132 = .ok (.iload 4, 2) := by decide +kernel
theorem dX2_turn_134 : decode cX2_turn 134 = .ok (.isub, 1) := by decide +kernel
theorem dX2_turn_135 : decode cX2_turn 135 = .ok (.laload, 1) := by decide +kernel
theorem dX2_turn_136 : decode cX2_turn 136 = .ok (.lastore, 1) := by decide +kernel
theorem dX2_turn_137 : decode cX2_turn 137 = .ok (.iinc 6 1, 3) := by decide +kernel
theorem dX2_turn_140 : decode cX2_turn 140 = .ok (.goto (-48), 3) := by decide +kernel
theorem dX2_turn_143 : decode cX2_turn 143 = .ok (.iconst 0, 1) := by decide +kernel
theorem dX2_turn_144 : decode cX2_turn 144 = .ok (.ireturn, 1) := by decide +kernel
theorem dX2_isWrong_0 : decode cX2_isWrong 0 = .ok (.aload_n 0, 1) := by decide +kernel
theorem dX2_isWrong_1 : decode cX2_isWrong 1 = .ok (.iload_n 1, 1) := by decide +kernel
theorem dX2_isWrong_2 : decode cX2_isWrong 2 = .ok (.invokevirtual 43, 3) := by decide +kernel
theorem dX2_isWrong_5 : decode cX2_isWrong 5 = .ok (.bipush 6, 2) := by decide +kernel
theorem dX2_isWrong_7 : decode cX2_isWrong 7 = .ok (.if_icmp .eq 11, 3) := by decide +kernel
theorem dX2_isWrong_10 : decode cX2_isWrong 10 = .ok (.iload_n 2, 1) := by decide +kernel
theorem dX2_isWrong_11 : decode cX2_isWrong 11 = .ok (.ifCond .ne 7, 3) := by decide +kernel
theorem dX2_isWrong_14 : decode cX2_isWrong 14 = .ok (.iconst 1, 1) := by decide +kernel
theorem dX2_isWrong_15 : decode cX2_isWrong 15 = .ok (.goto 4, 3) := by decide +kernel
theorem dX2_isWrong_18 : decode cX2_isWrong 18 = .ok (.iconst 0, 1) := by decide +kernel
theorem dX2_isWrong_19 : decode cX2_isWrong 19 = .ok (.ireturn, 1) := by decide +kernel
theorem dX2_pay_0 : decode cX2_pay 0 = .ok (.aload_n 0, 1) := by decide +kernel
theorem dX2_pay_1 : decode cX2_pay 1 = .ok (.iload_n 1, 1) := by decide +kernel
theorem dX2_pay_2 : decode cX2_pay 2 = .ok (.invokestatic 60, 3) := by decide +kernel
theorem dX2_pay_5 : decode cX2_pay 5 = .ok (.ifCond .ne 17, 3) := by decide +kernel
theorem dX2_pay_8 : decode cX2_pay 8 = .ok (.iload_n 2, 1) := by decide +kernel
theorem dX2_pay_9 : decode cX2_pay 9 = .ok (.invokestatic 60, 3) := by decide +kernel
theorem dX2_pay_12 : decode cX2_pay 12 = .ok (.ifCond .ne 10, 3) := by decide +kernel
theorem dX2_pay_15 : decode cX2_pay 15 = .ok (.iload_n 3, 1) := by decide +kernel
theorem dX2_pay_16 : decode cX2_pay 16 = .ok (.invokestatic 60, 3) := by decide +kernel
theorem dX2_pay_19 : decode cX2_pay 19 = .ok (.ifCond .eq 7, 3) := by decide +kernel
theorem dX2_pay_22 : decode cX2_pay 22 = .ok (.iconst 1, 1) := by decide +kernel
theorem dX2_pay_23 : decode cX2_pay 23 = .ok (.goto 4, 3) := by decide +kernel
theorem dX2_pay_26 : decode cX2_pay 26 = .ok (.iconst 0, 1) := by decide +kernel
theorem dX2_pay_27 : decode cX2_pay 27 = .ok (.iconst 0, 1) := by decide +kernel
theorem dX2_pay_28 : decode cX2_pay 28 = .ok (.invokevirtual 63, 3) := by decide +kernel
theorem dX2_pay_31 : decode cX2_pay 31 = .ok (.ifCond .eq 5, 3) := by decide +kernel
theorem dX2_pay_34 : decode cX2_pay 34 = .ok (.iconst 0, 1) := by decide +kernel
theorem dX2_pay_35 : decode cX2_pay 35 = .ok (.ireturn, 1) := by decide +kernel
theorem dX2_pay_36 : decode cX2_pay 36 = .ok (.aload_n 0, 1) := by decide +kernel
theorem dX2_pay_37 : decode cX2_pay 37 = .ok (.iload_n 1, 1) := by decide +kernel
theorem dX2_pay_38 : decode cX2_pay 38 = .ok (.aload_n 0, 1) := by decide +kernel
theorem dX2_pay_39 : decode cX2_pay 39 = .ok (.iload_n 1, 1) := by decide +kernel
theorem dX2_pay_40 : decode cX2_pay 40 = .ok (.invokevirtual 43, 3) := by decide +kernel
theorem dX2_pay_43 : decode cX2_pay 43 = .ok (.invokestatic 51, 3) := by decide +kernel
theorem dX2_pay_46 : decode cX2_pay 46 = .ok (.invokevirtual 98, 3) := by decide +kernel
theorem dX2_pay_49 : decode cX2_pay 49 = .ok (.ifCond .ne 47, 3) := by decide +kernel
theorem dX2_pay_52 : decode cX2_pay 52 = .ok (.aload_n 0, 1) := by decide +kernel
theorem dX2_pay_53 : decode cX2_pay 53 = .ok (.iload_n 2, 1) := by decide +kernel
theorem dX2_pay_54 : decode cX2_pay 54 = .ok (.aload_n 0, 1) := by decide +kernel
theorem dX2_pay_55 : decode cX2_pay 55 = .ok (.iload_n 2, 1) := by decide +kernel
theorem dX2_pay_56 : decode cX2_pay 56 = .ok (.invokevirtual 43, 3) := by decide +kernel
theorem dX2_pay_59 : decode cX2_pay 59 = .ok (.iconst 3, 1) := by decide +kernel
theorem dX2_pay_60 : decode cX2_pay 60 = .ok (.if_icmp .ne 7, 3) := by decide +kernel
theorem dX2_pay_63 : decode cX2_pay 63 = .ok (.iconst 1, 1) := by decide +kernel
theorem dX2_pay_64 : decode cX2_pay 64 = .ok (.goto 4, 3) := by decide +kernel
theorem dX2_pay_67 : decode cX2_pay 67 = .ok (.iconst 0, 1) := by decide +kernel
theorem dX2_pay_68 : decode cX2_pay 68 = .ok (.invokevirtual 98, 3) := by decide +kernel
theorem dX2_pay_71 : decode cX2_pay 71 = .ok (.ifCond .ne 25, 3) := by decide +kernel
theorem dX2_pay_74 : decode cX2_pay 74 = .ok (.aload_n 0, 1) := by decide +kernel
theorem dX2_pay_75 : decode cX2_pay 75 = .ok (.iload_n 3, 1) := by decide +kernel
theorem dX2_pay_76 : decode cX2_pay 76 = .ok (.aload_n 0, 1) := by decide +kernel
theorem dX2_pay_77 : decode cX2_pay 77 = .ok (.iload_n 3, 1) := by decide +kernel
theorem dX2_pay_78 : decode cX2_pay 78 = .ok (.invokevirtual 43, 3) := by decide +kernel
theorem dX2_pay_81 : decode cX2_pay 81 = .ok (.iconst 4, 1) := by decide +kernel
theorem dX2_pay_82 : decode cX2_pay 82 = .ok (.if_icmp .ne 7, 3) := by decide +kernel
theorem dX2_pay_85 : decode cX2_pay 85 = .ok (.iconst 1, 1) := by decide +kernel
theorem dX2_pay_86 : decode cX2_pay 86 = .ok (.goto 4, 3) := by decide +kernel
theorem dX2_pay_89 : decode cX2_pay 89 = .ok (.iconst 0, 1) := by decide +kernel
theorem dX2_pay_90 : decode cX2_pay 90 = .ok (.invokevirtual 98, 3) := by decide +kernel
theorem dX2_pay_93 : decode cX2_pay 93 = .ok (.ifCond .eq 7, 3) := by decide +kernel
theorem dX2_pay_96 : decode cX2_pay 96 = .ok (.iconst 1, 1) := by decide +kernel
theorem dX2_pay_97 : decode cX2_pay 97 = .ok (.goto 4, 3) := by decide +kernel
theorem dX2_pay_100 : decode cX2_pay 100 = .ok (.iconst 0, 1) := by decide +kernel
theorem dX2_pay_101 : decode cX2_pay 101 = .ok (.istore 4, 2) := by decide +kernel
theorem dX2_pay_103 : decode cX2_pay 103 = .ok (.iload 4, 2) := by decide +kernel
theorem dX2_pay_105 : decode cX2_pay 105 = .ok (.ifCond .eq 5, 3) := by decide +kernel
theorem dX2_pay_108 : decode cX2_pay 108 = .ok (.iconst 2, 1) := by decide +kernel
theorem dX2_pay_109 : decode cX2_pay 109 = .ok (.ireturn, 1) := by decide +kernel
theorem dX2_pay_110 : decode cX2_pay 110 = .ok (.aload_n 0, 1) := by decide +kernel
theorem dX2_pay_111 : decode cX2_pay 111 = .ok (.getfield 9, 3) := by decide +kernel
theorem dX2_pay_114 : decode cX2_pay 114 = .ok (.iload_n 1, 1) := by decide +kernel
theorem dX2_pay_115 : decode cX2_pay 115 = .ok (.iaload, 1) := by decide +kernel
theorem dX2_pay_116 : decode cX2_pay 116 = .ok (.iconst (-1), 1) := by decide +kernel
theorem dX2_pay_117 : decode cX2_pay 117 = .ok (.if_icmp .eq 23, 3) := by decide +kernel
theorem dX2_pay_120 : decode cX2_pay 120 = .ok (.aload_n 0, 1) := by decide +kernel
theorem dX2_pay_121 : decode cX2_pay 121 = .ok (.getfield 9, 3) := by decide +kernel
theorem dX2_pay_124 : decode cX2_pay 124 = .ok (.iload_n 2, 1) := by decide +kernel
theorem dX2_pay_125 : decode cX2_pay 125 = .ok (.iaload, 1) := by decide +kernel
theorem dX2_pay_126 : decode cX2_pay 126 = .ok (.iconst (-1), 1) := by decide +kernel
theorem dX2_pay_127 : decode cX2_pay 127 = .ok (.if_icmp .eq 13, 3) := by decide +kernel
theorem dX2_pay_130 : decode cX2_pay 130 = .ok (.aload_n 0, 1) := by decide +kernel
theorem dX2_pay_131 : decode cX2_pay 131 = .ok (.getfield 9, 3) := by decide +kernel
theorem dX2_pay_134 : decode cX2_pay 134 = .ok (.iload_n 3, 1) := by decide +kernel
theorem dX2_pay_135 : decode cX2_pay 135 = .ok (.iaload, 1) := by decide +kernel
theorem dX2_pay_136 : decode cX2_pay 136 = .ok (.iconst (-1), 1) := by decide +kernel
theorem dX2_pay_137 : decode cX2_pay 137 = .ok (.if_icmp .ne 5, 3) := by decide +kernel
theorem dX2_pay_140 : decode cX2_pay 140 = .ok (.iconst 1, 1) := by decide +kernel
theorem dX2_pay_141 : decode cX2_pay 141 = .ok (.ireturn, 1) := by decide +kernel
theorem dX2_pay_142 : decode cX2_pay 142 = .ok (.iconst 0, 1) := by decide +kernel
theorem dX2_pay_143 : decode cX2_pay 143 = .ok (.istore 5, 2) := by decide +kernel
theorem dX2_pay_145 : decode cX2_pay 145 = .ok (.iload 5, 2) := by decide +kernel
theorem dX2_pay_147 : decode cX2_pay 147 = .ok (.aload_n 0, 1) := by decide +kernel
theorem dX2_pay_148 : decode cX2_pay 148 = .ok (.iload_n 1, 1) := by decide +kernel
theorem dX2_pay_149 : decode cX2_pay 149 = .ok (.invokevirtual 78, 3) := by decide +kernel
theorem dX2_pay_152 : decode cX2_pay 152 = .ok (.if_icmp .ge 123, 3) := by decide +kernel
theorem dX2_pay_155 : decode cX2_pay 155 = .ok (.iload 5, 2) := by decide +kernel
theorem dX2_pay_157 : decode cX2_pay 157 = .ok (.aload_n 0, 1) := by decide +kernel
theorem dX2_pay_158 : decode cX2_pay 158 = .ok (.iload_n 2, 1) := by decide +kernel
theorem dX2_pay_159 : decode cX2_pay 159 = .ok (.invokevirtual 78, 3) := by decide +kernel
theorem dX2_pay_162 : decode cX2_pay 162 = .ok (.if_icmp .ge 13, 3) := by decide +kernel
theorem dX2_pay_165 : decode cX2_pay 165 = .ok (.iload 5, 2) := by decide +kernel
theorem dX2_pay_167 : decode cX2_pay 167 = .ok (.aload_n 0, 1) := by decide +kernel
theorem dX2_pay_168 : decode cX2_pay 168 = .ok (.iload_n 3, 1) := by decide +kernel
theorem dX2_pay_169 : decode cX2_pay 169 = .ok (.invokevirtual 78, 3) := by decide +kernel
theorem dX2_pay_172 : decode cX2_pay 172 = .ok (.if_icmp .lt 5, 3) := by decide +kernel
theorem dX2_pay_175 : decode cX2_pay 175 = .ok (.iconst 3, 1) := by decide +kernel
theorem dX2_pay_176 : decode cX2_pay 176 = .ok (.ireturn, 1) := by decide +kernel
theorem dX2_pay_177 : decode cX2_pay 177 = .ok (.aload_n 0, 1) := by decide +kernel
theorem dX2_pay_178 : decode cX2_pay 178 = .ok (.getfield 19, 3) := by decide +kernel
theorem dX2_pay_181 : decode cX2_pay 181 = .ok (.bipush 40, 2) := by decide +kernel
theorem dX2_pay_183 : decode cX2_pay 183 = .ok (.aload_n 0, 1) := by decide +kernel
theorem dX2_pay_184 : decode cX2_pay 184 = .ok (.getfield 9, 3) := by decide +kernel
theorem dX2_pay_187 : decode cX2_pay 187 = .ok (.iload_n 1, 1) := by decide +kernel
theorem dX2_pay_188 : decode cX2_pay 188 = .ok (.iaload, 1) := by decide +kernel
theorem dX2_pay_189 : decode cX2_pay 189 = .ok (.imul, 1) := by decide +kernel
theorem dX2_pay_190 : decode cX2_pay 190 = .ok (.iload 5, 2) := by decide +kernel
theorem dX2_pay_192 : decode cX2_pay 192 = .ok (.iadd, 1) := by decide +kernel
theorem dX2_pay_193 : decode cX2_pay 193 = .ok (.laload, 1) := by decide +kernel
theorem dX2_pay_194 : decode cX2_pay 194 = .ok (.l2i, 1) := by decide +kernel
theorem dX2_pay_195 : decode cX2_pay 195 = .ok (.istore 6, 2) := by decide +kernel
theorem dX2_pay_197 : decode cX2_pay 197 = .ok (.iload 6, 2) := by decide +kernel
theorem dX2_pay_199 : decode cX2_pay 199 = .ok (.iconst (-1), 1) := by decide +kernel
theorem dX2_pay_200 : decode cX2_pay 200 = .ok (.if_icmp .eq 69, 3) := by decide +kernel
theorem dX2_pay_203 : decode cX2_pay 203 = .ok (.aload_n 0, 1) := by decide +kernel
theorem dX2_pay_204 : decode cX2_pay 204 = .ok (.getfield 19, 3) := by decide +kernel
theorem dX2_pay_207 : decode cX2_pay 207 = .ok (.bipush 40, 2) := by decide +kernel
theorem dX2_pay_209 : decode cX2_pay 209 = .ok (.aload_n 0, 1) := by decide +kernel
theorem dX2_pay_210 : decode cX2_pay 210 = .ok (.getfield 9, 3) := by decide +kernel
theorem dX2_pay_213 : decode cX2_pay 213 = .ok (.iload_n 2, 1) := by decide +kernel
theorem dX2_pay_214 : decode cX2_pay 214 = .ok (.iaload, 1) := by decide +kernel
theorem dX2_pay_215 : decode cX2_pay 215 = .ok (.imul, 1) := by decide +kernel
theorem dX2_pay_216 : decode cX2_pay 216 = .ok (.iload 5, 2) := by decide +kernel
theorem dX2_pay_218 : decode cX2_pay 218 = .ok (.iadd, 1) := by decide +kernel
theorem dX2_pay_219 : decode cX2_pay 219 = .ok (.laload, 1) := by decide +kernel
theorem dX2_pay_220 : decode cX2_pay 220 = .ok (.aload_n 0, 1) := by decide +kernel
theorem dX2_pay_221 : decode cX2_pay 221 = .ok (.getfield 26, 3) := by decide +kernel
theorem dX2_pay_224 : decode cX2_pay 224 = .ok (.iload 6, 2) := by decide +kernel
theorem dX2_pay_226 : decode cX2_pay 226 = .ok (.iaload, 1) := by decide +kernel
theorem dX2_pay_227 : decode cX2_pay 227 = .ok (.invokestatic 102, 3) := by decide +kernel
theorem dX2_pay_230 : decode cX2_pay 230 = .ok (.i2l, 1) := by decide +kernel
theorem dX2_pay_231 : decode cX2_pay 231 = .ok (.lmul, 1) := by decide +kernel
theorem dX2_pay_232 : decode cX2_pay 232 = .ok (.lstore 7, 2) := by decide +kernel
theorem dX2_pay_234 : decode cX2_pay 234 = .ok (.aload_n 0, 1) := by decide +kernel
theorem dX2_pay_235 : decode cX2_pay 235 = .ok (.getfield 29, 3) := by decide +kernel
theorem dX2_pay_238 : decode cX2_pay 238 = .ok (.iload 6, 2) := by decide +kernel
theorem dX2_pay_240 : decode cX2_pay 240 = .ok (.aload_n 0, 1) := by decide +kernel
theorem dX2_pay_241 : decode cX2_pay 241 = .ok (.getfield 29, 3) := by decide +kernel
theorem dX2_pay_244 : decode cX2_pay 244 = .ok (.iload 6, 2) := by decide +kernel
theorem dX2_pay_246 : decode cX2_pay 246 = .ok (.laload, 1) := by decide +kernel
theorem dX2_pay_247 : decode cX2_pay 247 = .ok (.lload 7, 2) := by decide +kernel
theorem dX2_pay_249 : decode cX2_pay 249 = .ok (.ladd, 1) := by decide +kernel
theorem dX2_pay_250 : decode cX2_pay 250 = .ok (.aload_n 0, 1) := by decide +kernel
theorem dX2_pay_251 : decode cX2_pay 251 = .ok (.getfield 19, 3) := by decide +kernel
theorem dX2_pay_254 : decode cX2_pay 254 = .ok (.bipush 40, 2) := by decide +kernel
theorem dX2_pay_256 : decode cX2_pay 256 = .ok (.aload_n 0, 1) := by decide +kernel
theorem dX2_pay_257 : decode cX2_pay 257 = .ok (.getfield 9, 3) := by decide +kernel
theorem dX2_pay_260 : decode cX2_pay 260 = .ok (.iload_n 3, 1) := by decide +kernel
theorem dX2_pay_261 : decode cX2_pay 261 = .ok (.iaload, 1) := by decide +kernel
theorem dX2_pay_262 : decode cX2_pay 262 = .ok (.imul, 1) := by decide +kernel
theorem dX2_pay_263 : decode cX2_pay 263 = .ok (.iload 5, 2) := by decide +kernel
theorem dX2_pay_265 : decode cX2_pay 265 = .ok (.iadd, 1) := by decide +kernel
theorem dX2_pay_266 : decode cX2_pay 266 = .ok (.laload, 1) := by decide +kernel
theorem dX2_pay_267 : decode cX2_pay 267 = .ok (.ladd, 1) := by decide +kernel
theorem dX2_pay_268 : decode cX2_pay 268 = .ok (.lastore, 1) := by decide +kernel
theorem dX2_pay_269 : decode cX2_pay 269 = .ok (.iinc 5 1, 3) := by decide +kernel
theorem dX2_pay_272 : decode cX2_pay 272 = .ok (.goto (-127), 3) := by decide +kernel
theorem dX2_pay_275 : decode cX2_pay 275 = .ok (.iconst 0, 1) := by decide +kernel
theorem dX2_pay_276 : decode cX2_pay 276 = .ok (.ireturn, 1) := by decide +kernel
theorem dX2_look_0 : decode cX2_look 0 = .ok (.aload_n 0, 1) := by decide +kernel
theorem dX2_look_1 : decode cX2_look 1 = .ok (.iload_n 1, 1) := by decide +kernel
theorem dX2_look_2 : decode cX2_look 2 = .ok (.invokestatic 60, 3) := by decide +kernel
theorem dX2_look_5 : decode cX2_look 5 = .ok (.iconst 0, 1) := by decide +kernel
theorem dX2_look_6 : decode cX2_look 6 = .ok (.invokevirtual 63, 3) := by decide +kernel
theorem dX2_look_9 : decode cX2_look 9 = .ok (.ifCond .eq 5, 3) := by decide +kernel
theorem dX2_look_12 : decode cX2_look 12 = .ok (.iconst 0, 1) := by decide +kernel
theorem dX2_look_13 : decode cX2_look 13 = .ok (.ireturn, 1) := by decide +kernel
theorem dX2_look_14 : decode cX2_look 14 = .ok (.iload_n 2, 1) := by decide +kernel
theorem dX2_look_15 : decode cX2_look 15 = .ok (.ifCond .ne 9, 3) := by decide +kernel
theorem dX2_look_18 : decode cX2_look 18 = .ok (.aload_n 0, 1) := by decide +kernel
theorem dX2_look_19 : decode cX2_look 19 = .ok (.iload_n 1, 1) := by decide +kernel
theorem dX2_look_20 : decode cX2_look 20 = .ok (.invokevirtual 43, 3) := by decide +kernel
theorem dX2_look_23 : decode cX2_look 23 = .ok (.ireturn, 1) := by decide +kernel
theorem dX2_look_24 : decode cX2_look 24 = .ok (.iload_n 2, 1) := by decide +kernel
theorem dX2_look_25 : decode cX2_look 25 = .ok (.iconst 1, 1) := by decide +kernel
theorem dX2_look_26 : decode cX2_look 26 = .ok (.if_icmp .ne 24, 3) := by decide +kernel
theorem dX2_look_29 : decode cX2_look 29 = .ok (.aload_n 0, 1) := by decide +kernel
theorem dX2_look_30 : decode cX2_look 30 = .ok (.iload_n 1, 1) := by decide +kernel
theorem dX2_look_31 : decode cX2_look 31 = .ok (.invokevirtual 43, 3) := by decide +kernel
theorem dX2_look_34 : decode cX2_look 34 = .ok (.invokestatic 47, 3) := by decide +kernel
theorem dX2_look_37 : decode cX2_look 37 = .ok (.ifCond .eq 11, 3) := by decide +kernel
theorem dX2_look_40 : decode cX2_look 40 = .ok (.aload_n 0, 1) := by decide +kernel
theorem dX2_look_41 : decode cX2_look 41 = .ok (.iload_n 1, 1) := by decide +kernel
theorem dX2_look_42 : decode cX2_look 42 = .ok (.invokevirtual 78, 3) := by decide +kernel
theorem dX2_look_45 : decode cX2_look 45 = .ok (.goto 4, 3) := by decide +kernel
theorem dX2_look_48 : decode cX2_look 48 = .ok (.iconst (-1), 1) := by decide +kernel
theorem dX2_look_49 : decode cX2_look 49 = .ok (.ireturn, 1) := by decide +kernel
theorem dX2_look_50 : decode cX2_look 50 = .ok (.iload_n 2, 1) := by decide +kernel
theorem dX2_look_51 : decode cX2_look 51 = .ok (.iconst 2, 1) := by decide +kernel
theorem dX2_look_52 : decode cX2_look 52 = .ok (.if_icmp .ne 13, 3) := by decide +kernel
theorem dX2_look_55 : decode cX2_look 55 = .ok (.aload_n 0, 1) := by decide +kernel
theorem dX2_look_56 : decode cX2_look 56 = .ok (.getfield 9, 3) := by decide +kernel
theorem dX2_look_59 : decode cX2_look 59 = .ok (.iload_n 1, 1) := by decide +kernel
theorem dX2_look_60 : decode cX2_look 60 = .ok (.iaload, 1) := by decide +kernel
theorem dX2_look_61 : decode cX2_look 61 = .ok (.iconst (-1), 1) := by decide +kernel
theorem dX2_look_62 : decode cX2_look 62 = .ok (.if_icmp .ne 5, 3) := by decide +kernel
theorem dX2_look_65 : decode cX2_look 65 = .ok (.iconst (-1), 1) := by decide +kernel
theorem dX2_look_66 : decode cX2_look 66 = .ok (.ireturn, 1) := by decide +kernel
theorem dX2_look_67 : decode cX2_look 67 = .ok (.iload_n 1, 1) := by decide +kernel
theorem dX2_look_68 : decode cX2_look 68 = .ok (.istore_n 3, 1) := by decide +kernel
theorem dX2_look_69 : decode cX2_look 69 = .ok (.bipush 7, 2) := by decide +kernel
theorem dX2_look_71 : decode cX2_look 71 = .ok (.istore 4, 2) := by decide +kernel
theorem dX2_look_73 : decode cX2_look 73 = .ok (.iload 4, 2) := by decide +kernel
theorem dX2_look_75 : decode cX2_look 75 = .ok (.ifCond .lt 32, 3) := by decide +kernel
theorem dX2_look_78 : decode cX2_look 78 = .ok (.aload_n 0, 1) := by decide +kernel
theorem dX2_look_79 : decode cX2_look 79 = .ok (.getfield 9, 3) := by decide +kernel
theorem dX2_look_82 : decode cX2_look 82 = .ok (.iload 4, 2) := by decide +kernel
theorem dX2_look_84 : decode cX2_look 84 = .ok (.iaload, 1) := by decide +kernel
theorem dX2_look_85 : decode cX2_look 85 = .ok (.aload_n 0, 1) := by decide +kernel
theorem dX2_look_86 : decode cX2_look 86 = .ok (.getfield 9, 3) := by decide +kernel
theorem dX2_look_89 : decode cX2_look 89 = .ok (.iload_n 1, 1) := by decide +kernel
theorem dX2_look_90 : decode cX2_look 90 = .ok (.iaload, 1) := by decide +kernel
theorem dX2_look_91 : decode cX2_look 91 = .ok (.if_icmp .ne 8, 3) := by decide +kernel
theorem dX2_look_94 : decode cX2_look 94 = .ok (.iload 4, 2) := by decide +kernel
theorem dX2_look_96 : decode cX2_look 96 = .ok (.goto 4, 3) := by decide +kernel
theorem dX2_look_99 : decode cX2_look 99 = .ok (.iload_n 3, 1) := by decide +kernel
theorem dX2_look_100 : decode cX2_look 100 = .ok (.istore_n 3, 1) := by decide +kernel
theorem dX2_look_101 : decode cX2_look 101 = .ok (.iinc 4 (-1), 3) := by decide +kernel
theorem dX2_look_104 : decode cX2_look 104 = .ok (.goto (-31), 3) := by decide +kernel
theorem dX2_look_107 : decode cX2_look 107 = .ok (.iload_n 3, 1) := by decide +kernel
theorem dX2_look_108 : decode cX2_look 108 = .ok (.ireturn, 1) := by decide +kernel
theorem dX2_at_0 : decode cX2_at 0 = .ok (.iload_n 1, 1) := by decide +kernel
theorem dX2_at_1 : decode cX2_at 1 = .ok (.invokestatic 60, 3) := by decide +kernel
theorem dX2_at_4 : decode cX2_at 4 = .ok (.istore_n 3, 1) := by decide +kernel
theorem dX2_at_5 : decode cX2_at 5 = .ok (.aload_n 0, 1) := by decide +kernel
theorem dX2_at_6 : decode cX2_at 6 = .ok (.iload_n 3, 1) := by decide +kernel
theorem dX2_at_7 : decode cX2_at 7 = .ok (.iload_n 3, 1) := by decide +kernel
theorem dX2_at_8 : decode cX2_at 8 = .ok (.ifCond .ne 33, 3) := by decide +kernel
theorem dX2_at_11 : decode cX2_at 11 = .ok (.aload_n 0, 1) := by decide +kernel
theorem dX2_at_12 : decode cX2_at 12 = .ok (.iload_n 1, 1) := by decide +kernel
theorem dX2_at_13 : decode cX2_at 13 = .ok (.invokevirtual 43, 3) := by decide +kernel
theorem dX2_at_16 : decode cX2_at 16 = .ok (.invokestatic 47, 3) := by decide +kernel
theorem dX2_at_19 : decode cX2_at 19 = .ok (.ifCond .eq 18, 3) := by decide +kernel
theorem dX2_at_22 : decode cX2_at 22 = .ok (.iload_n 2, 1) := by decide +kernel
theorem dX2_at_23 : decode cX2_at 23 = .ok (.iconst 0, 1) := by decide +kernel
theorem dX2_at_24 : decode cX2_at 24 = .ok (.aload_n 0, 1) := by decide +kernel
theorem dX2_at_25 : decode cX2_at 25 = .ok (.iload_n 1, 1) := by decide +kernel
theorem dX2_at_26 : decode cX2_at 26 = .ok (.invokevirtual 78, 3) := by decide +kernel
theorem dX2_at_29 : decode cX2_at 29 = .ok (.iconst 1, 1) := by decide +kernel
theorem dX2_at_30 : decode cX2_at 30 = .ok (.isub, 1) := by decide +kernel
theorem dX2_at_31 : decode cX2_at 31 = .ok (.invokestatic 36, 3) := by decide +kernel
theorem dX2_at_34 : decode cX2_at 34 = .ok (.ifCond .eq 7, 3) := by decide +kernel
theorem dX2_at_37 : decode cX2_at 37 = .ok (.iconst 1, 1) := by decide +kernel
theorem dX2_at_38 : decode cX2_at 38 = .ok (.goto 4, 3) := by decide +kernel
theorem dX2_at_41 : decode cX2_at 41 = .ok (.iconst 0, 1) := by decide +kernel
theorem dX2_at_42 : decode cX2_at 42 = .ok (.invokevirtual 63, 3) := by decide +kernel
theorem dX2_at_45 : decode cX2_at 45 = .ok (.ifCond .eq 5, 3) := by decide +kernel
theorem dX2_at_48 : decode cX2_at 48 = .ok (.lconst 0, 1) := by decide +kernel
theorem dX2_at_49 : decode cX2_at 49 = .ok (.lreturn, 1) := by decide +kernel
theorem dX2_at_50 : decode cX2_at 50 = .ok (.aload_n 0, 1) := by decide +kernel
theorem dX2_at_51 : decode cX2_at 51 = .ok (.getfield 19, 3) := by decide +kernel
theorem dX2_at_54 : decode cX2_at 54 = .ok (.bipush 40, 2) := by decide +kernel
theorem dX2_at_56 : decode cX2_at 56 = .ok (.aload_n 0, 1) := by decide +kernel
theorem dX2_at_57 : decode cX2_at 57 = .ok (.getfield 9, 3) := by decide +kernel
theorem dX2_at_60 : decode cX2_at 60 = .ok (.iload_n 1, 1) := by decide +kernel
theorem dX2_at_61 : decode cX2_at 61 = .ok (.iaload, 1) := by decide +kernel
theorem dX2_at_62 : decode cX2_at 62 = .ok (.imul, 1) := by decide +kernel
theorem dX2_at_63 : decode cX2_at 63 = .ok (.iload_n 2, 1) := by decide +kernel
theorem dX2_at_64 : decode cX2_at 64 = .ok (.iadd, 1) := by decide +kernel
theorem dX2_at_65 : decode cX2_at 65 = .ok (.laload, 1) := by decide +kernel
theorem dX2_at_66 : decode cX2_at 66 = .ok (.lreturn, 1) := by decide +kernel
theorem dX2_stands_0 : decode cX2_stands 0 = .ok (.iconst 0, 1) := by decide +kernel
theorem dX2_stands_1 : decode cX2_stands 1 = .ok (.istore_n 2, 1) := by decide +kernel
theorem dX2_stands_2 : decode cX2_stands 2 = .ok (.iconst 0, 1) := by decide +kernel
theorem dX2_stands_3 : decode cX2_stands 3 = .ok (.istore_n 3, 1) := by decide +kernel
theorem dX2_stands_4 : decode cX2_stands 4 = .ok (.iload_n 3, 1) := by decide +kernel
theorem dX2_stands_5 : decode cX2_stands 5 = .ok (.bipush 9, 2) := by decide +kernel
theorem dX2_stands_7 : decode cX2_stands 7 = .ok (.if_icmp .ge 114, 3) := by decide +kernel
theorem dX2_stands_10 : decode cX2_stands 10 = .ok (.iconst 0, 1) := by decide +kernel
theorem dX2_stands_11 : decode cX2_stands 11 = .ok (.istore 4, 2) := by decide +kernel
theorem dX2_stands_13 : decode cX2_stands 13 = .ok (.iconst 0, 1) := by decide +kernel
theorem dX2_stands_14 : decode cX2_stands 14 = .ok (.istore 5, 2) := by decide +kernel
theorem dX2_stands_16 : decode cX2_stands 16 = .ok (.iload 5, 2) := by decide +kernel
theorem dX2_stands_18 : decode cX2_stands 18 = .ok (.bipush 8, 2) := by decide +kernel
theorem dX2_stands_20 : decode cX2_stands 20 = .ok (.if_icmp .ge 32, 3) := by decide +kernel
theorem dX2_stands_23 : decode cX2_stands 23 = .ok (.iload 4, 2) := by decide +kernel
theorem dX2_stands_25 : decode cX2_stands 25 = .ok (.ifCond .ne 14, 3) := by decide +kernel
theorem dX2_stands_28 : decode cX2_stands 28 = .ok (.aload_n 0, 1) := by decide +kernel
theorem dX2_stands_29 : decode cX2_stands 29 = .ok (.getfield 9, 3) := by decide +kernel
theorem dX2_stands_32 : decode cX2_stands 32 = .ok (.iload 5, 2) := by decide +kernel
theorem dX2_stands_34 : decode cX2_stands 34 = .ok (.iaload, 1) := by decide +kernel
theorem dX2_stands_35 : decode cX2_stands 35 = .ok (.iload_n 3, 1) := by decide +kernel
theorem dX2_stands_36 : decode cX2_stands 36 = .ok (.if_icmp .ne 7, 3) := by decide +kernel
theorem dX2_stands_39 : decode cX2_stands 39 = .ok (.iconst 1, 1) := by decide +kernel
theorem dX2_stands_40 : decode cX2_stands 40 = .ok (.goto 4, 3) := by decide +kernel
theorem dX2_stands_43 : decode cX2_stands 43 = .ok (.iconst 0, 1) := by decide +kernel
theorem dX2_stands_44 : decode cX2_stands 44 = .ok (.istore 4, 2) := by decide +kernel
theorem dX2_stands_46 : decode cX2_stands 46 = .ok (.iinc 5 1, 3) := by decide +kernel
theorem dX2_stands_49 : decode cX2_stands 49 = .ok (.goto (-33), 3) := by decide +kernel
theorem dX2_stands_52 : decode cX2_stands 52 = .ok (.iconst 0, 1) := by decide +kernel
theorem dX2_stands_53 : decode cX2_stands 53 = .ok (.istore 5, 2) := by decide +kernel
theorem dX2_stands_55 : decode cX2_stands 55 = .ok (.iload 5, 2) := by decide +kernel
theorem dX2_stands_57 : decode cX2_stands 57 = .ok (.aload_n 0, 1) := by decide +kernel
theorem dX2_stands_58 : decode cX2_stands 58 = .ok (.getfield 16, 3) := by decide +kernel
theorem dX2_stands_61 : decode cX2_stands 61 = .ok (.iload_n 3, 1) := by decide +kernel
theorem dX2_stands_62 : decode cX2_stands 62 = .ok (.iaload, 1) := by decide +kernel
theorem dX2_stands_63 : decode cX2_stands 63 = .ok (.if_icmp .ge 52, 3) := by decide +kernel
theorem dX2_stands_66 : decode cX2_stands 66 = .ok (.iload 4, 2) := by decide +kernel
theorem dX2_stands_68 : decode cX2_stands 68 = .ok (.ifCond .eq 47, 3) := by decide +kernel
theorem dX2_stands_71 : decode cX2_stands 71 = .ok (.aload_n 0, 1) := by decide +kernel
theorem dX2_stands_72 : decode cX2_stands 72 = .ok (.getfield 13, 3) := by decide +kernel
theorem dX2_stands_75 : decode cX2_stands 75 = .ok (.iload_n 3, 1) := by decide +kernel
theorem dX2_stands_76 : decode cX2_stands 76 = .ok (.iaload, 1) := by decide +kernel
theorem dX2_stands_77 : decode cX2_stands 77 = .ok (.invokestatic 51, 3) := by decide +kernel
theorem dX2_stands_80 : decode cX2_stands 80 = .ok (.ifCond .eq 35, 3) := by decide +kernel
theorem dX2_stands_83 : decode cX2_stands 83 = .ok (.iload_n 2, 1) := by decide +kernel
theorem dX2_stands_84 : decode cX2_stands 84 = .ok (.aload_n 0, 1) := by decide +kernel
theorem dX2_stands_85 : decode cX2_stands 85 = .ok (.getfield 19, 3) := by decide +kernel
theorem dX2_stands_88 : decode cX2_stands 88 = .ok (.bipush 40, 2) := by decide +kernel
theorem dX2_stands_90 : decode cX2_stands 90 = .ok (.iload_n 3, 1) := by decide +kernel
theorem dX2_stands_91 : decode cX2_stands 91 = .ok (.imul, 1) := by decide +kernel
theorem dX2_stands_92 : decode cX2_stands 92 = .ok (.iload 5, 2) := by decide +kernel
theorem dX2_stands_94 : decode cX2_stands 94 = .ok (.iadd, 1) := by decide +kernel
theorem dX2_stands_95 : decode cX2_stands 95 = .ok (.laload, 1) := by decide +kernel
theorem dX2_stands_96 : decode cX2_stands 96 = .ok (.iload_n 1, 1) := by decide +kernel
theorem dX2_stands_97 : decode cX2_stands 97 = .ok (.i2l, 1) := by decide +kernel
theorem dX2_stands_98 : decode cX2_stands 98 = .ok (.lcmp, 1) := by decide +kernel
theorem dX2_stands_99 : decode cX2_stands 99 = .ok (.ifCond .ne 7, 3) := by decide +kernel
theorem dX2_stands_102 : decode cX2_stands 102 = .ok (.iconst 1, 1) := by decide +kernel
theorem dX2_stands_103 : decode cX2_stands 103 = .ok (.goto 4, 3) := by decide +kernel
theorem dX2_stands_106 : decode cX2_stands 106 = .ok (.iconst 0, 1) := by decide +kernel
theorem dX2_stands_107 : decode cX2_stands 107 = .ok (.iadd, 1) := by decide +kernel
theorem dX2_stands_108 : decode cX2_stands 108 = .ok (.istore_n 2, 1) := by decide +kernel
theorem dX2_stands_109 : decode cX2_stands 109 = .ok (.iinc 5 1, 3) := by decide +kernel
theorem dX2_stands_112 : decode cX2_stands 112 = .ok (.goto (-57), 3) := by decide +kernel
theorem dX2_stands_115 : decode cX2_stands 115 = .ok (.iinc 3 1, 3) := by decide +kernel
theorem dX2_stands_118 : decode cX2_stands 118 = .ok (.goto (-114), 3) := by decide +kernel
theorem dX2_stands_121 : decode cX2_stands 121 = .ok (.iload_n 2, 1) := by decide +kernel
theorem dX2_stands_122 : decode cX2_stands 122 = .ok (.ireturn, 1) := by decide +kernel
theorem dX2_person_0 : decode cX2_person 0 = .ok (.aload_n 0, 1) := by decide +kernel
theorem dX2_person_1 : decode cX2_person 1 = .ok (.aload_n 0, 1) := by decide +kernel
theorem dX2_person_2 : decode cX2_person 2 = .ok (.iload_n 1, 1) := by decide +kernel
theorem dX2_person_3 : decode cX2_person 3 = .ok (.invokevirtual 75, 3) := by decide +kernel
theorem dX2_person_6 : decode cX2_person 6 = .ok (.iconst 0, 1) := by decide +kernel
theorem dX2_person_7 : decode cX2_person 7 = .ok (.invokevirtual 63, 3) := by decide +kernel
theorem dX2_person_10 : decode cX2_person 10 = .ok (.ifCond .eq 5, 3) := by decide +kernel
theorem dX2_person_13 : decode cX2_person 13 = .ok (.lconst 0, 1) := by decide +kernel
theorem dX2_person_14 : decode cX2_person 14 = .ok (.lreturn, 1) := by decide +kernel
theorem dX2_person_15 : decode cX2_person 15 = .ok (.iload_n 2, 1) := by decide +kernel
theorem dX2_person_16 : decode cX2_person 16 = .ok (.tableswitch 50 0 2 #[28, 36, 43], 28) := by decide +kernel
theorem dX2_person_44 : decode cX2_person 44 = .ok (.aload_n 0, 1) := by decide +kernel
theorem dX2_person_45 : decode cX2_person 45 = .ok (.getfield 26, 3) := by decide +kernel
theorem dX2_person_48 : decode cX2_person 48 = .ok (.iload_n 1, 1) := by decide +kernel
theorem dX2_person_49 : decode cX2_person 49 = .ok (.iaload, 1) := by decide +kernel
theorem dX2_person_50 : decode cX2_person 50 = .ok (.i2l, 1) := by decide +kernel
theorem dX2_person_51 : decode cX2_person 51 = .ok (.lreturn, 1) := by decide +kernel
theorem dX2_person_52 : decode cX2_person 52 = .ok (.aload_n 0, 1) := by decide +kernel
theorem dX2_person_53 : decode cX2_person 53 = .ok (.getfield 29, 3) := by decide +kernel
theorem dX2_person_56 : decode cX2_person 56 = .ok (.iload_n 1, 1) := by decide +kernel
theorem dX2_person_57 : decode cX2_person 57 = .ok (.laload, 1) := by decide +kernel
theorem dX2_person_58 : decode cX2_person 58 = .ok (.lreturn, 1) := by decide +kernel
theorem dX2_person_59 : decode cX2_person 59 = .ok (.aload_n 0, 1) := by decide +kernel
theorem dX2_person_60 : decode cX2_person 60 = .ok (.iload_n 1, 1) := by decide +kernel
theorem dX2_person_61 : decode cX2_person 61 = .ok (.invokevirtual 105, 3) := by decide +kernel
theorem dX2_person_64 : decode cX2_person 64 = .ok (.i2l, 1) := by decide +kernel
theorem dX2_person_65 : decode cX2_person 65 = .ok (.lreturn, 1) := by decide +kernel
theorem dX2_person_66 : decode cX2_person 66 = .ok (.ldc2_w 54, 3) := by decide +kernel
theorem dX2_person_69 : decode cX2_person 69 = .ok (.lreturn, 1) := by decide +kernel
theorem dX2_count_0 : decode cX2_count 0 = .ok (.aload_n 0, 1) := by decide +kernel
theorem dX2_count_1 : decode cX2_count 1 = .ok (.iconst 0, 1) := by decide +kernel
theorem dX2_count_2 : decode cX2_count 2 = .ok (.putfield 32, 3) := by decide +kernel
theorem dX2_count_5 : decode cX2_count 5 = .ok (.aload_n 0, 1) := by decide +kernel
theorem dX2_count_6 : decode cX2_count 6 = .ok (.getfield 40, 3) := by decide +kernel
theorem dX2_count_9 : decode cX2_count 9 = .ok (.ireturn, 1) := by decide +kernel
