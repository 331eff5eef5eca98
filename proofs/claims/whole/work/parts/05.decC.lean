theorem dK_init_0 : decode mK_init.2.1 0 = .ok (.aload_n 0, 1) := by decide +kernel
theorem dK_init_1 : decode mK_init.2.1 1 = .ok (.invokespecial 3, 3) := by decide +kernel
theorem dK_init_4 : decode mK_init.2.1 4 = .ok (.aload_n 0, 1) := by decide +kernel
theorem dK_init_5 : decode mK_init.2.1 5 = .ok (.bipush 10, 2) := by decide +kernel
theorem dK_init_7 : decode mK_init.2.1 7 = .ok (.newarray .boolean, 2) := by decide +kernel
theorem dK_init_9 : decode mK_init.2.1 9 = .ok (.putfield 9, 3) := by decide +kernel
theorem dK_init_12 : decode mK_init.2.1 12 = .ok (.aload_n 0, 1) := by decide +kernel
theorem dK_init_13 : decode mK_init.2.1 13 = .ok (.bipush 10, 2) := by decide +kernel
theorem dK_init_15 : decode mK_init.2.1 15 = .ok (.newarray .int, 2) := by decide +kernel
theorem dK_init_17 : decode mK_init.2.1 17 = .ok (.putfield 15, 3) := by decide +kernel
theorem dK_init_20 : decode mK_init.2.1 20 = .ok (.aload_n 0, 1) := by decide +kernel
theorem dK_init_21 : decode mK_init.2.1 21 = .ok (.bipush 10, 2) := by decide +kernel
theorem dK_init_23 : decode mK_init.2.1 23 = .ok (.newarray .int, 2) := by decide +kernel
theorem dK_init_25 : decode mK_init.2.1 25 = .ok (.putfield 19, 3) := by decide +kernel
theorem dK_init_28 : decode mK_init.2.1 28 = .ok (.aload_n 0, 1) := by decide +kernel
theorem dK_init_29 : decode mK_init.2.1 29 = .ok (.bipush 10, 2) := by decide +kernel
theorem dK_init_31 : decode mK_init.2.1 31 = .ok (.newarray .int, 2) := by decide +kernel
theorem dK_init_33 : decode mK_init.2.1 33 = .ok (.putfield 22, 3) := by decide +kernel
theorem dK_init_36 : decode mK_init.2.1 36 = .ok (.aload_n 0, 1) := by decide +kernel
theorem dK_init_37 : decode mK_init.2.1 37 = .ok (.bipush 10, 2) := by decide +kernel
theorem dK_init_39 : decode mK_init.2.1 39 = .ok (.newarray .int, 2) := by decide +kernel
theorem dK_init_41 : decode mK_init.2.1 41 = .ok (.putfield 25, 3) := by decide +kernel
theorem dK_init_44 : decode mK_init.2.1 44 = .ok (.aload_n 0, 1) := by decide +kernel
theorem dK_init_45 : decode mK_init.2.1 45 = .ok (.bipush 10, 2) := by decide +kernel
theorem dK_init_47 : decode mK_init.2.1 47 = .ok (.newarray .int, 2) := by decide +kernel
theorem dK_init_49 : decode mK_init.2.1 49 = .ok (.putfield 28, 3) := by decide +kernel
theorem dK_init_52 : decode mK_init.2.1 52 = .ok (.return_, 1) := by decide +kernel
theorem dK_enter_0 : decode mK_enter.2.1 0 = .ok (.aload_n 0, 1) := by decide +kernel
theorem dK_enter_1 : decode mK_enter.2.1 1 = .ok (.getfield 9, 3) := by decide +kernel
theorem dK_enter_4 : decode mK_enter.2.1 4 = .ok (.iload_n 1, 1) := by decide +kernel
theorem dK_enter_5 : decode mK_enter.2.1 5 = .ok (.iconst 1, 1) := by decide +kernel
theorem dK_enter_6 : decode mK_enter.2.1 6 = .ok (.bastore, 1) := by decide +kernel
theorem dK_enter_7 : decode mK_enter.2.1 7 = .ok (.aload_n 0, 1) := by decide +kernel
theorem dK_enter_8 : decode mK_enter.2.1 8 = .ok (.getfield 15, 3) := by decide +kernel
theorem dK_enter_11 : decode mK_enter.2.1 11 = .ok (.iload_n 1, 1) := by decide +kernel
theorem dK_enter_12 : decode mK_enter.2.1 12 = .ok (.iload_n 2, 1) := by decide +kernel
theorem dK_enter_13 : decode mK_enter.2.1 13 = .ok (.iastore, 1) := by decide +kernel
theorem dK_enter_14 : decode mK_enter.2.1 14 = .ok (.aload_n 0, 1) := by decide +kernel
theorem dK_enter_15 : decode mK_enter.2.1 15 = .ok (.getfield 19, 3) := by decide +kernel
theorem dK_enter_18 : decode mK_enter.2.1 18 = .ok (.iload_n 1, 1) := by decide +kernel
theorem dK_enter_19 : decode mK_enter.2.1 19 = .ok (.iload_n 3, 1) := by decide +kernel
theorem dK_enter_20 : decode mK_enter.2.1 20 = .ok (.iastore, 1) := by decide +kernel
theorem dK_enter_21 : decode mK_enter.2.1 21 = .ok (.aload_n 0, 1) := by decide +kernel
theorem dK_enter_22 : decode mK_enter.2.1 22 = .ok (.getfield 22, 3) := by decide +kernel
theorem dK_enter_25 : decode mK_enter.2.1 25 = .ok (.iload_n 1, 1) := by decide +kernel
theorem dK_enter_26 : decode mK_enter.2.1 26 = .ok (.iload 4, 2) := by decide +kernel
theorem dK_enter_28 : decode mK_enter.2.1 28 = .ok (.iastore, 1) := by decide +kernel
theorem dK_enter_29 : decode mK_enter.2.1 29 = .ok (.aload_n 0, 1) := by decide +kernel
theorem dK_enter_30 : decode mK_enter.2.1 30 = .ok (.getfield 25, 3) := by decide +kernel
theorem dK_enter_33 : decode mK_enter.2.1 33 = .ok (.iload_n 1, 1) := by decide +kernel
theorem dK_enter_34 : decode mK_enter.2.1 34 = .ok (.iload 5, 2) := by decide +kernel
theorem dK_enter_36 : decode mK_enter.2.1 36 = .ok (.iastore, 1) := by decide +kernel
theorem dK_enter_37 : decode mK_enter.2.1 37 = .ok (.return_, 1) := by decide +kernel
theorem dK_isWithin_0 : decode mK_isWithin.2.1 0 = .ok (.iload_n 2, 1) := by decide +kernel
theorem dK_isWithin_1 : decode mK_isWithin.2.1 1 = .ok (.aload_n 0, 1) := by decide +kernel
theorem dK_isWithin_2 : decode mK_isWithin.2.1 2 = .ok (.getfield 15, 3) := by decide +kernel
theorem dK_isWithin_5 : decode mK_isWithin.2.1 5 = .ok (.iload_n 1, 1) := by decide +kernel
theorem dK_isWithin_6 : decode mK_isWithin.2.1 6 = .ok (.iaload, 1) := by decide +kernel
theorem dK_isWithin_7 : decode mK_isWithin.2.1 7 = .ok (.if_icmp .lt 17, 3) := by decide +kernel
theorem dK_isWithin_10 : decode mK_isWithin.2.1 10 = .ok (.iload_n 2, 1) := by decide +kernel
theorem dK_isWithin_11 : decode mK_isWithin.2.1 11 = .ok (.aload_n 0, 1) := by decide +kernel
theorem dK_isWithin_12 : decode mK_isWithin.2.1 12 = .ok (.getfield 19, 3) := by decide +kernel
theorem dK_isWithin_15 : decode mK_isWithin.2.1 15 = .ok (.iload_n 1, 1) := by decide +kernel
theorem dK_isWithin_16 : decode mK_isWithin.2.1 16 = .ok (.iaload, 1) := by decide +kernel
theorem dK_isWithin_17 : decode mK_isWithin.2.1 17 = .ok (.if_icmp .gt 7, 3) := by decide +kernel
theorem dK_isWithin_20 : decode mK_isWithin.2.1 20 = .ok (.iconst 1, 1) := by decide +kernel
theorem dK_isWithin_21 : decode mK_isWithin.2.1 21 = .ok (.goto 4, 3) := by decide +kernel
theorem dK_isWithin_24 : decode mK_isWithin.2.1 24 = .ok (.iconst 0, 1) := by decide +kernel
theorem dK_isWithin_25 : decode mK_isWithin.2.1 25 = .ok (.ireturn, 1) := by decide +kernel
theorem dV_init_0 : decode mV_init.2.1 0 = .ok (.aload_n 0, 1) := by decide +kernel
theorem dV_init_1 : decode mV_init.2.1 1 = .ok (.invokespecial 3, 3) := by decide +kernel
theorem dV_init_4 : decode mV_init.2.1 4 = .ok (.aload_n 0, 1) := by decide +kernel
theorem dV_init_5 : decode mV_init.2.1 5 = .ok (.bipush 10, 2) := by decide +kernel
theorem dV_init_7 : decode mV_init.2.1 7 = .ok (.newarray .int, 2) := by decide +kernel
theorem dV_init_9 : decode mV_init.2.1 9 = .ok (.putfield 9, 3) := by decide +kernel
theorem dV_init_12 : decode mV_init.2.1 12 = .ok (.aload_n 0, 1) := by decide +kernel
theorem dV_init_13 : decode mV_init.2.1 13 = .ok (.bipush 10, 2) := by decide +kernel
theorem dV_init_15 : decode mV_init.2.1 15 = .ok (.newarray .int, 2) := by decide +kernel
theorem dV_init_17 : decode mV_init.2.1 17 = .ok (.putfield 15, 3) := by decide +kernel
theorem dV_init_20 : decode mV_init.2.1 20 = .ok (.aload_n 0, 1) := by decide +kernel
theorem dV_init_21 : decode mV_init.2.1 21 = .ok (.bipush 10, 2) := by decide +kernel
theorem dV_init_23 : decode mV_init.2.1 23 = .ok (.newarray .int, 2) := by decide +kernel
theorem dV_init_25 : decode mV_init.2.1 25 = .ok (.putfield 18, 3) := by decide +kernel
theorem dV_init_28 : decode mV_init.2.1 28 = .ok (.aload_n 0, 1) := by decide +kernel
theorem dV_init_29 : decode mV_init.2.1 29 = .ok (.bipush 10, 2) := by decide +kernel
theorem dV_init_31 : decode mV_init.2.1 31 = .ok (.newarray .int, 2) := by decide +kernel
theorem dV_init_33 : decode mV_init.2.1 33 = .ok (.putfield 21, 3) := by decide +kernel
theorem dV_init_36 : decode mV_init.2.1 36 = .ok (.aload_n 0, 1) := by decide +kernel
theorem dV_init_37 : decode mV_init.2.1 37 = .ok (.bipush 10, 2) := by decide +kernel
theorem dV_init_39 : decode mV_init.2.1 39 = .ok (.newarray .int, 2) := by decide +kernel
theorem dV_init_41 : decode mV_init.2.1 41 = .ok (.putfield 24, 3) := by decide +kernel
theorem dV_init_44 : decode mV_init.2.1 44 = .ok (.aload_n 0, 1) := by decide +kernel
theorem dV_init_45 : decode mV_init.2.1 45 = .ok (.iload_n 1, 1) := by decide +kernel
theorem dV_init_46 : decode mV_init.2.1 46 = .ok (.putfield 27, 3) := by decide +kernel
theorem dV_init_49 : decode mV_init.2.1 49 = .ok (.aload_n 0, 1) := by decide +kernel
theorem dV_init_50 : decode mV_init.2.1 50 = .ok (.aload_n 2, 1) := by decide +kernel
theorem dV_init_51 : decode mV_init.2.1 51 = .ok (.putfield 31, 3) := by decide +kernel
theorem dV_init_54 : decode mV_init.2.1 54 = .ok (.aload_n 0, 1) := by decide +kernel
theorem dV_init_55 : decode mV_init.2.1 55 = .ok (.iload_n 3, 1) := by decide +kernel
theorem dV_init_56 : decode mV_init.2.1 56 = .ok (.putfield 35, 3) := by decide +kernel
theorem dV_init_59 : decode mV_init.2.1 59 = .ok (.aload_n 0, 1) := by decide +kernel
theorem dV_init_60 : decode mV_init.2.1 60 = .ok (.iload 4, 2) := by decide +kernel
theorem dV_init_62 : decode mV_init.2.1 62 = .ok (.putfield 39, 3) := by decide +kernel
theorem dV_init_65 : decode mV_init.2.1 65 = .ok (.aload_n 0, 1) := by decide +kernel
theorem dV_init_66 : decode mV_init.2.1 66 = .ok (.iconst (-1), 1) := by decide +kernel
theorem dV_init_67 : decode mV_init.2.1 67 = .ok (.putfield 42, 3) := by decide +kernel
theorem dV_init_70 : decode mV_init.2.1 70 = .ok (.iconst 0, 1) := by decide +kernel
theorem dV_init_71 : decode mV_init.2.1 71 = .ok (.istore 5, 2) := by decide +kernel
theorem dV_init_73 : decode mV_init.2.1 73 = .ok (.iload 5, 2) := by decide +kernel
theorem dV_init_75 : decode mV_init.2.1 75 = .ok (.bipush 10, 2) := by decide +kernel
theorem dV_init_77 : decode mV_init.2.1 77 = .ok (.if_icmp .ge 25, 3) := by decide +kernel
theorem dV_init_80 : decode mV_init.2.1 80 = .ok (.aload_n 0, 1) := by decide +kernel
theorem dV_init_81 : decode mV_init.2.1 81 = .ok (.getfield 18, 3) := by decide +kernel
theorem dV_init_84 : decode mV_init.2.1 84 = .ok (.iload 5, 2) := by decide +kernel
theorem dV_init_86 : decode mV_init.2.1 86 = .ok (.iconst (-1), 1) := by decide +kernel
theorem dV_init_87 : decode mV_init.2.1 87 = .ok (.iastore, 1) := by decide +kernel
theorem dV_init_88 : decode mV_init.2.1 88 = .ok (.aload_n 0, 1) := by decide +kernel
theorem dV_init_89 : decode mV_init.2.1 89 = .ok (.getfield 21, 3) := by decide +kernel
theorem dV_init_92 : decode mV_init.2.1 92 = .ok (.iload 5, 2) := by decide +kernel
theorem dV_init_94 : decode mV_init.2.1 94 = .ok (.iconst (-1), 1) := by decide +kernel
theorem dV_init_95 : decode mV_init.2.1 95 = .ok (.iastore, 1) := by decide +kernel
theorem dV_init_96 : decode mV_init.2.1 96 = .ok (.iinc 5 1, 3) := by decide +kernel
theorem dV_init_99 : decode mV_init.2.1 99 = .ok (.goto (-26), 3) := by decide +kernel
theorem dV_init_102 : decode mV_init.2.1 102 = .ok (.return_, 1) := by decide +kernel
theorem dV_keepAnswer_0 : decode mV_keepAnswer.2.1 0 = .ok (.aload_n 0, 1) := by decide +kernel
theorem dV_keepAnswer_1 : decode mV_keepAnswer.2.1 1 = .ok (.getfield 15, 3) := by decide +kernel
theorem dV_keepAnswer_4 : decode mV_keepAnswer.2.1 4 = .ok (.iload_n 1, 1) := by decide +kernel
theorem dV_keepAnswer_5 : decode mV_keepAnswer.2.1 5 = .ok (.iload_n 2, 1) := by decide +kernel
theorem dV_keepAnswer_6 : decode mV_keepAnswer.2.1 6 = .ok (.iastore, 1) := by decide +kernel
theorem dV_keepAnswer_7 : decode mV_keepAnswer.2.1 7 = .ok (.aload_n 0, 1) := by decide +kernel
theorem dV_keepAnswer_8 : decode mV_keepAnswer.2.1 8 = .ok (.getfield 18, 3) := by decide +kernel
theorem dV_keepAnswer_11 : decode mV_keepAnswer.2.1 11 = .ok (.iload_n 1, 1) := by decide +kernel
theorem dV_keepAnswer_12 : decode mV_keepAnswer.2.1 12 = .ok (.iload_n 3, 1) := by decide +kernel
theorem dV_keepAnswer_13 : decode mV_keepAnswer.2.1 13 = .ok (.iastore, 1) := by decide +kernel
theorem dV_keepAnswer_14 : decode mV_keepAnswer.2.1 14 = .ok (.aload_n 0, 1) := by decide +kernel
theorem dV_keepAnswer_15 : decode mV_keepAnswer.2.1 15 = .ok (.getfield 21, 3) := by decide +kernel
theorem dV_keepAnswer_18 : decode mV_keepAnswer.2.1 18 = .ok (.iload_n 1, 1) := by decide +kernel
theorem dV_keepAnswer_19 : decode mV_keepAnswer.2.1 19 = .ok (.iload 4, 2) := by decide +kernel
theorem dV_keepAnswer_21 : decode mV_keepAnswer.2.1 21 = .ok (.iastore, 1) := by decide +kernel
theorem dV_keepAnswer_22 : decode mV_keepAnswer.2.1 22 = .ok (.aload_n 0, 1) := by decide +kernel
theorem dV_keepAnswer_23 : decode mV_keepAnswer.2.1 23 = .ok (.getfield 24, 3) := by decide +kernel
theorem dV_keepAnswer_26 : decode mV_keepAnswer.2.1 26 = .ok (.iload_n 1, 1) := by decide +kernel
theorem dV_keepAnswer_27 : decode mV_keepAnswer.2.1 27 = .ok (.aload_n 0, 1) := by decide +kernel
theorem dV_keepAnswer_28 : decode mV_keepAnswer.2.1 28 = .ok (.getfield 45, 3) := by decide +kernel
theorem dV_keepAnswer_31 : decode mV_keepAnswer.2.1 31 = .ok (.iastore, 1) := by decide +kernel
theorem dV_keepAnswer_32 : decode mV_keepAnswer.2.1 32 = .ok (.return_, 1) := by decide +kernel
theorem dV_hasFailed_0 : decode mV_hasFailed.2.1 0 = .ok (.aload_n 0, 1) := by decide +kernel
theorem dV_hasFailed_1 : decode mV_hasFailed.2.1 1 = .ok (.getfield 31, 3) := by decide +kernel
theorem dV_hasFailed_4 : decode mV_hasFailed.2.1 4 = .ok (.getfield 54, 3) := by decide +kernel
theorem dV_hasFailed_7 : decode mV_hasFailed.2.1 7 = .ok (.iload_n 1, 1) := by decide +kernel
theorem dV_hasFailed_8 : decode mV_hasFailed.2.1 8 = .ok (.baload, 1) := by decide +kernel
theorem dV_hasFailed_9 : decode mV_hasFailed.2.1 9 = .ok (.ifCond .eq 34, 3) := by decide +kernel
theorem dV_hasFailed_12 : decode mV_hasFailed.2.1 12 = .ok (.aload_n 0, 1) := by decide +kernel
theorem dV_hasFailed_13 : decode mV_hasFailed.2.1 13 = .ok (.getfield 18, 3) := by decide +kernel
theorem dV_hasFailed_16 : decode mV_hasFailed.2.1 16 = .ok (.iload_n 1, 1) := by decide +kernel
theorem dV_hasFailed_17 : decode mV_hasFailed.2.1 17 = .ok (.iaload, 1) := by decide +kernel
theorem dV_hasFailed_18 : decode mV_hasFailed.2.1 18 = .ok (.iconst (-1), 1) := by decide +kernel
theorem dV_hasFailed_19 : decode mV_hasFailed.2.1 19 = .ok (.if_icmp .eq 24, 3) := by decide +kernel
theorem dV_hasFailed_22 : decode mV_hasFailed.2.1 22 = .ok (.aload_n 0, 1) := by decide +kernel
theorem dV_hasFailed_23 : decode mV_hasFailed.2.1 23 = .ok (.getfield 31, 3) := by decide +kernel
theorem dV_hasFailed_26 : decode mV_hasFailed.2.1 26 = .ok (.iload_n 1, 1) := by decide +kernel
theorem dV_hasFailed_27 : decode mV_hasFailed.2.1 27 = .ok (.aload_n 0, 1) := by decide +kernel
theorem dV_hasFailed_28 : decode mV_hasFailed.2.1 28 = .ok (.getfield 15, 3) := by decide +kernel
theorem dV_hasFailed_31 : decode mV_hasFailed.2.1 31 = .ok (.iload_n 1, 1) := by decide +kernel
theorem dV_hasFailed_32 : decode mV_hasFailed.2.1 32 = .ok (.iaload, 1) := by decide +kernel
theorem dV_hasFailed_33 : decode mV_hasFailed.2.1 33 = .ok (.invokevirtual 60, 3) := by decide +kernel
theorem dV_hasFailed_36 : decode mV_hasFailed.2.1 36 = .ok (.ifCond .ne 7, 3) := by decide +kernel
theorem dV_hasFailed_39 : decode mV_hasFailed.2.1 39 = .ok (.iconst 1, 1) := by decide +kernel
theorem dV_hasFailed_40 : decode mV_hasFailed.2.1 40 = .ok (.goto 4, 3) := by decide +kernel
theorem dV_hasFailed_43 : decode mV_hasFailed.2.1 43 = .ok (.iconst 0, 1) := by decide +kernel
theorem dV_hasFailed_44 : decode mV_hasFailed.2.1 44 = .ok (.ireturn, 1) := by decide +kernel
theorem dV_hasSkipped_0 : decode mV_hasSkipped.2.1 0 = .ok (.aload_n 0, 1) := by decide +kernel
theorem dV_hasSkipped_1 : decode mV_hasSkipped.2.1 1 = .ok (.getfield 31, 3) := by decide +kernel
theorem dV_hasSkipped_4 : decode mV_hasSkipped.2.1 4 = .ok (.getfield 54, 3) := by decide +kernel
theorem dV_hasSkipped_7 : decode mV_hasSkipped.2.1 7 = .ok (.iload_n 1, 1) := by decide +kernel
theorem dV_hasSkipped_8 : decode mV_hasSkipped.2.1 8 = .ok (.baload, 1) := by decide +kernel
theorem dV_hasSkipped_9 : decode mV_hasSkipped.2.1 9 = .ok (.ifCond .ne 5, 3) := by decide +kernel
theorem dV_hasSkipped_12 : decode mV_hasSkipped.2.1 12 = .ok (.iconst 0, 1) := by decide +kernel
theorem dV_hasSkipped_13 : decode mV_hasSkipped.2.1 13 = .ok (.ireturn, 1) := by decide +kernel
theorem dV_hasSkipped_14 : decode mV_hasSkipped.2.1 14 = .ok (.aload_n 0, 1) := by decide +kernel
theorem dV_hasSkipped_15 : decode mV_hasSkipped.2.1 15 = .ok (.getfield 31, 3) := by decide +kernel
theorem dV_hasSkipped_18 : decode mV_hasSkipped.2.1 18 = .ok (.getfield 64, 3) := by decide +kernel
theorem dV_hasSkipped_21 : decode mV_hasSkipped.2.1 21 = .ok (.iload_n 1, 1) := by decide +kernel
theorem dV_hasSkipped_22 : decode mV_hasSkipped.2.1 22 = .ok (.iaload, 1) := by decide +kernel
theorem dV_hasSkipped_23 : decode mV_hasSkipped.2.1 23 = .ok (.ifCond .ne 22, 3) := by decide +kernel
theorem dV_hasSkipped_26 : decode mV_hasSkipped.2.1 26 = .ok (.aload_n 0, 1) := by decide +kernel
theorem dV_hasSkipped_27 : decode mV_hasSkipped.2.1 27 = .ok (.getfield 45, 3) := by decide +kernel
theorem dV_hasSkipped_30 : decode mV_hasSkipped.2.1 30 = .ok (.aload_n 0, 1) := by decide +kernel
theorem dV_hasSkipped_31 : decode mV_hasSkipped.2.1 31 = .ok (.getfield 24, 3) := by decide +kernel
theorem dV_hasSkipped_34 : decode mV_hasSkipped.2.1 34 = .ok (.iload_n 1, 1) := by decide +kernel
theorem dV_hasSkipped_35 : decode mV_hasSkipped.2.1 35 = .ok (.iaload, 1) := by decide +kernel
theorem dV_hasSkipped_36 : decode mV_hasSkipped.2.1 36 = .ok (.if_icmp .eq 7, 3) := by decide +kernel
theorem dV_hasSkipped_39 : decode mV_hasSkipped.2.1 39 = .ok (.iconst 1, 1) := by decide +kernel
theorem dV_hasSkipped_40 : decode mV_hasSkipped.2.1 40 = .ok (.goto 4, 3) := by decide +kernel
theorem dV_hasSkipped_43 : decode mV_hasSkipped.2.1 43 = .ok (.iconst 0, 1) := by decide +kernel
theorem dV_hasSkipped_44 : decode mV_hasSkipped.2.1 44 = .ok (.ireturn, 1) := by decide +kernel
theorem dV_hasSkipped_45 : decode mV_hasSkipped.2.1 45 = .ok (.aload_n 0, 1) := by decide +kernel
theorem dV_hasSkipped_46 : decode mV_hasSkipped.2.1 46 = .ok (.getfield 18, 3) := by decide +kernel
theorem dV_hasSkipped_49 : decode mV_hasSkipped.2.1 49 = .ok (.iload_n 1, 1) := by decide +kernel
theorem dV_hasSkipped_50 : decode mV_hasSkipped.2.1 50 = .ok (.iaload, 1) := by decide +kernel
theorem dV_hasSkipped_51 : decode mV_hasSkipped.2.1 51 = .ok (.iconst (-1), 1) := by decide +kernel
theorem dV_hasSkipped_52 : decode mV_hasSkipped.2.1 52 = .ok (.if_icmp .ne 10, 3) := by decide +kernel
theorem dV_hasSkipped_55 : decode mV_hasSkipped.2.1 55 = .ok (.aload_n 0, 1) := by decide +kernel
theorem dV_hasSkipped_56 : decode mV_hasSkipped.2.1 56 = .ok (.getfield 39, 3) := by decide +kernel
theorem dV_hasSkipped_59 : decode mV_hasSkipped.2.1 59 = .ok (.goto 9, 3) := by decide +kernel
theorem dV_hasSkipped_62 : decode mV_hasSkipped.2.1 62 = .ok (.aload_n 0, 1) := by decide +kernel
theorem dV_hasSkipped_63 : decode mV_hasSkipped.2.1 63 = .ok (.getfield 18, 3) := by decide +kernel
theorem dV_hasSkipped_66 : decode mV_hasSkipped.2.1 66 = .ok (.iload_n 1, 1) := by decide +kernel
theorem dV_hasSkipped_67 : decode mV_hasSkipped.2.1 67 = .ok (.iaload, 1) := by decide +kernel
theorem dV_hasSkipped_68 : decode mV_hasSkipped.2.1 68 = .ok (.istore_n 3, 1) := by decide +kernel
theorem dV_hasSkipped_69 : decode mV_hasSkipped.2.1 69 = .ok (.iload_n 2, 1) := by decide +kernel
theorem dV_hasSkipped_70 : decode mV_hasSkipped.2.1 70 = .ok (.iload_n 3, 1) := by decide +kernel
theorem dV_hasSkipped_71 : decode mV_hasSkipped.2.1 71 = .ok (.isub, 1) := by decide +kernel
theorem dV_hasSkipped_72 : decode mV_hasSkipped.2.1 72 = .ok (.aload_n 0, 1) := by decide +kernel
theorem dV_hasSkipped_73 : decode mV_hasSkipped.2.1 73 = .ok (.getfield 31, 3) := by decide +kernel
theorem dV_hasSkipped_76 : decode mV_hasSkipped.2.1 76 = .ok (.getfield 64, 3) := by decide +kernel
theorem dV_hasSkipped_79 : decode mV_hasSkipped.2.1 79 = .ok (.iload_n 1, 1) := by decide +kernel
theorem dV_hasSkipped_80 : decode mV_hasSkipped.2.1 80 = .ok (.iaload, 1) := by decide +kernel
theorem dV_hasSkipped_81 : decode mV_hasSkipped.2.1 81 = .ok (.if_icmp .lt 7, 3) := by decide +kernel
theorem dV_hasSkipped_84 : decode mV_hasSkipped.2.1 84 = .ok (.iconst 1, 1) := by decide +kernel
theorem dV_hasSkipped_85 : decode mV_hasSkipped.2.1 85 = .ok (.goto 4, 3) := by decide +kernel
theorem dV_hasSkipped_88 : decode mV_hasSkipped.2.1 88 = .ok (.iconst 0, 1) := by decide +kernel
theorem dV_hasSkipped_89 : decode mV_hasSkipped.2.1 89 = .ok (.ireturn, 1) := by decide +kernel
theorem dV_checksWeight_0 : decode mV_checksWeight.2.1 0 = .ok (.iconst 0, 1) := by decide +kernel
theorem dV_checksWeight_1 : decode mV_checksWeight.2.1 1 = .ok (.istore_n 2, 1) := by decide +kernel
theorem dV_checksWeight_2 : decode mV_checksWeight.2.1 2 = .ok (.iconst 0, 1) := by decide +kernel
theorem dV_checksWeight_3 : decode mV_checksWeight.2.1 3 = .ok (.istore_n 3, 1) := by decide +kernel
theorem dV_checksWeight_4 : decode mV_checksWeight.2.1 4 = .ok (.iload_n 3, 1) := by decide +kernel
theorem dV_checksWeight_5 : decode mV_checksWeight.2.1 5 = .ok (.bipush 10, 2) := by decide +kernel
theorem dV_checksWeight_7 : decode mV_checksWeight.2.1 7 = .ok (.if_icmp .ge 49, 3) := by decide +kernel
theorem dV_checksWeight_10 : decode mV_checksWeight.2.1 10 = .ok (.aload_n 0, 1) := by decide +kernel
theorem dV_checksWeight_11 : decode mV_checksWeight.2.1 11 = .ok (.getfield 31, 3) := by decide +kernel
theorem dV_checksWeight_14 : decode mV_checksWeight.2.1 14 = .ok (.getfield 67, 3) := by decide +kernel
theorem dV_checksWeight_17 : decode mV_checksWeight.2.1 17 = .ok (.iload_n 3, 1) := by decide +kernel
theorem dV_checksWeight_18 : decode mV_checksWeight.2.1 18 = .ok (.iaload, 1) := by decide +kernel
theorem dV_checksWeight_19 : decode mV_checksWeight.2.1 19 = .ok (.iconst 1, 1) := by decide +kernel
theorem dV_checksWeight_20 : decode mV_checksWeight.2.1 20 = .ok (.isub, 1) := by decide +kernel
theorem dV_checksWeight_21 : decode mV_checksWeight.2.1 21 = .ok (.istore 4, 2) := by decide +kernel
theorem dV_checksWeight_23 : decode mV_checksWeight.2.1 23 = .ok (.aload_n 0, 1) := by decide +kernel
theorem dV_checksWeight_24 : decode mV_checksWeight.2.1 24 = .ok (.iload_n 3, 1) := by decide +kernel
theorem dV_checksWeight_25 : decode mV_checksWeight.2.1 25 = .ok (.invokevirtual 70, 3) := by decide +kernel
theorem dV_checksWeight_28 : decode mV_checksWeight.2.1 28 = .ok (.ifCond .eq 8, 3) := by decide +kernel
theorem dV_checksWeight_31 : decode mV_checksWeight.2.1 31 = .ok (.iload_n 2, 1) := by decide +kernel
theorem dV_checksWeight_32 : decode mV_checksWeight.2.1 32 = .ok (.iload 4, 2) := by decide +kernel
theorem dV_checksWeight_34 : decode mV_checksWeight.2.1 34 = .ok (.iadd, 1) := by decide +kernel
theorem dV_checksWeight_35 : decode mV_checksWeight.2.1 35 = .ok (.istore_n 2, 1) := by decide +kernel
theorem dV_checksWeight_36 : decode mV_checksWeight.2.1 36 = .ok (.aload_n 0, 1) := by decide +kernel
theorem dV_checksWeight_37 : decode mV_checksWeight.2.1 37 = .ok (.iload_n 3, 1) := by decide +kernel
theorem dV_checksWeight_38 : decode mV_checksWeight.2.1 38 = .ok (.iload_n 1, 1) := by decide +kernel
theorem dV_checksWeight_39 : decode mV_checksWeight.2.1 39 = .ok (.invokevirtual 74, 3) := by decide +kernel
theorem dV_checksWeight_42 : decode mV_checksWeight.2.1 42 = .ok (.ifCond .eq 8, 3) := by decide +kernel
theorem dV_checksWeight_45 : decode mV_checksWeight.2.1 45 = .ok (.iload_n 2, 1) := by decide +kernel
theorem dV_checksWeight_46 : decode mV_checksWeight.2.1 46 = .ok (.iload 4, 2) := by decide +kernel
theorem dV_checksWeight_48 : decode mV_checksWeight.2.1 48 = .ok (.iadd, 1) := by decide +kernel
theorem dV_checksWeight_49 : decode mV_checksWeight.2.1 49 = .ok (.istore_n 2, 1) := by decide +kernel
theorem dV_checksWeight_50 : decode mV_checksWeight.2.1 50 = .ok (.iinc 3 1, 3) := by decide +kernel
theorem dV_checksWeight_53 : decode mV_checksWeight.2.1 53 = .ok (.goto (-49), 3) := by decide +kernel
theorem dV_checksWeight_56 : decode mV_checksWeight.2.1 56 = .ok (.iload_n 2, 1) := by decide +kernel
theorem dV_checksWeight_57 : decode mV_checksWeight.2.1 57 = .ok (.ireturn, 1) := by decide +kernel
theorem dV_keepUse_0 : decode mV_keepUse.2.1 0 = .ok (.aload_n 0, 1) := by decide +kernel
theorem dV_keepUse_1 : decode mV_keepUse.2.1 1 = .ok (.dup, 1) := by decide +kernel
theorem dV_keepUse_2 : decode mV_keepUse.2.1 2 = .ok (.getfield 45, 3) := by decide +kernel
theorem dV_keepUse_5 : decode mV_keepUse.2.1 5 = .ok (.iconst 1, 1) := by decide +kernel
theorem dV_keepUse_6 : decode mV_keepUse.2.1 6 = .ok (.iadd, 1) := by decide +kernel
theorem dV_keepUse_7 : decode mV_keepUse.2.1 7 = .ok (.putfield 45, 3) := by decide +kernel
theorem dV_keepUse_10 : decode mV_keepUse.2.1 10 = .ok (.iload_n 1, 1) := by decide +kernel
theorem dV_keepUse_11 : decode mV_keepUse.2.1 11 = .ok (.aload_n 0, 1) := by decide +kernel
theorem dV_keepUse_12 : decode mV_keepUse.2.1 12 = .ok (.getfield 48, 3) := by decide +kernel
theorem dV_keepUse_15 : decode mV_keepUse.2.1 15 = .ok (.if_icmp .ge 15, 3) := by decide +kernel
theorem dV_keepUse_18 : decode mV_keepUse.2.1 18 = .ok (.aload_n 0, 1) := by decide +kernel
theorem dV_keepUse_19 : decode mV_keepUse.2.1 19 = .ok (.dup, 1) := by decide +kernel
theorem dV_keepUse_20 : decode mV_keepUse.2.1 20 = .ok (.getfield 51, 3) := by decide +kernel
theorem dV_keepUse_23 : decode mV_keepUse.2.1 23 = .ok (.iconst 1, 1) := by decide +kernel
theorem dV_keepUse_24 : decode mV_keepUse.2.1 24 = .ok (.iadd, 1) := by decide +kernel
theorem dV_keepUse_25 : decode mV_keepUse.2.1 25 = .ok (.putfield 51, 3) := by decide +kernel
theorem dV_keepUse_28 : decode mV_keepUse.2.1 28 = .ok (.iconst 0, 1) := by decide +kernel
theorem dV_keepUse_29 : decode mV_keepUse.2.1 29 = .ok (.ireturn, 1) := by decide +kernel
theorem dV_keepUse_30 : decode mV_keepUse.2.1 30 = .ok (.aload_n 0, 1) := by decide +kernel
theorem dV_keepUse_31 : decode mV_keepUse.2.1 31 = .ok (.iload_n 1, 1) := by decide +kernel
theorem dV_keepUse_32 : decode mV_keepUse.2.1 32 = .ok (.putfield 48, 3) := by decide +kernel
theorem dV_keepUse_35 : decode mV_keepUse.2.1 35 = .ok (.iconst 1, 1) := by decide +kernel
theorem dV_keepUse_36 : decode mV_keepUse.2.1 36 = .ok (.ireturn, 1) := by decide +kernel
theorem dV_lowestLacking_0 : decode mV_lowestLacking.2.1 0 = .ok (.iconst 0, 1) := by decide +kernel
theorem dV_lowestLacking_1 : decode mV_lowestLacking.2.1 1 = .ok (.istore_n 1, 1) := by decide +kernel
theorem dV_lowestLacking_2 : decode mV_lowestLacking.2.1 2 = .ok (.iload_n 1, 1) := by decide +kernel
theorem dV_lowestLacking_3 : decode mV_lowestLacking.2.1 3 = .ok (.bipush 10, 2) := by decide +kernel
theorem dV_lowestLacking_5 : decode mV_lowestLacking.2.1 5 = .ok (.if_icmp .ge 29, 3) := by decide +kernel
theorem dV_lowestLacking_8 : decode mV_lowestLacking.2.1 8 = .ok (.aload_n 0, 1) := by decide +kernel
theorem dV_lowestLacking_9 : decode mV_lowestLacking.2.1 9 = .ok (.getfield 9, 3) := by decide +kernel
theorem dV_lowestLacking_12 : decode mV_lowestLacking.2.1 12 = .ok (.iload_n 1, 1) := by decide +kernel
theorem dV_lowestLacking_13 : decode mV_lowestLacking.2.1 13 = .ok (.iaload, 1) := by decide +kernel
theorem dV_lowestLacking_14 : decode mV_lowestLacking.2.1 14 = .ok (.aload_n 0, 1) := by decide +kernel
theorem dV_lowestLacking_15 : decode mV_lowestLacking.2.1 15 = .ok (.getfield 31, 3) := by decide +kernel
theorem dV_lowestLacking_18 : decode mV_lowestLacking.2.1 18 = .ok (.getfield 77, 3) := by decide +kernel
theorem dV_lowestLacking_21 : decode mV_lowestLacking.2.1 21 = .ok (.iload_n 1, 1) := by decide +kernel
theorem dV_lowestLacking_22 : decode mV_lowestLacking.2.1 22 = .ok (.iaload, 1) := by decide +kernel
theorem dV_lowestLacking_23 : decode mV_lowestLacking.2.1 23 = .ok (.if_icmp .ge 5, 3) := by decide +kernel
theorem dV_lowestLacking_26 : decode mV_lowestLacking.2.1 26 = .ok (.iload_n 1, 1) := by decide +kernel
theorem dV_lowestLacking_27 : decode mV_lowestLacking.2.1 27 = .ok (.ireturn, 1) := by decide +kernel
theorem dV_lowestLacking_28 : decode mV_lowestLacking.2.1 28 = .ok (.iinc 1 1, 3) := by decide +kernel
theorem dV_lowestLacking_31 : decode mV_lowestLacking.2.1 31 = .ok (.goto (-29), 3) := by decide +kernel
theorem dV_lowestLacking_34 : decode mV_lowestLacking.2.1 34 = .ok (.iconst (-1), 1) := by decide +kernel
theorem dV_lowestLacking_35 : decode mV_lowestLacking.2.1 35 = .ok (.ireturn, 1) := by decide +kernel
theorem dC_init_0 : decode mC_init.2.1 0 = .ok (.aload_n 0, 1) := by decide +kernel
theorem dC_init_1 : decode mC_init.2.1 1 = .ok (.invokespecial 1, 3) := by decide +kernel
theorem dC_init_4 : decode mC_init.2.1 4 = .ok (.aload_n 0, 1) := by decide +kernel
theorem dC_init_5 : decode mC_init.2.1 5 = .ok (.iconst 5, 1) := by decide +kernel
theorem dC_init_6 : decode mC_init.2.1 6 = .ok (.anewarray 9, 3) := by decide +kernel
theorem dC_init_9 : decode mC_init.2.1 9 = .ok (.putfield 11, 3) := by decide +kernel
theorem dC_init_12 : decode mC_init.2.1 12 = .ok (.iconst 0, 1) := by decide +kernel
theorem dC_init_13 : decode mC_init.2.1 13 = .ok (.istore_n 1, 1) := by decide +kernel
theorem dC_init_14 : decode mC_init.2.1 14 = .ok (.iload_n 1, 1) := by decide +kernel
theorem dC_init_15 : decode mC_init.2.1 15 = .ok (.iconst 5, 1) := by decide +kernel
theorem dC_init_16 : decode mC_init.2.1 16 = .ok (.if_icmp .ge 22, 3) := by decide +kernel
theorem dC_init_19 : decode mC_init.2.1 19 = .ok (.aload_n 0, 1) := by decide +kernel
theorem dC_init_20 : decode mC_init.2.1 20 = .ok (.getfield 11, 3) := by decide +kernel
theorem dC_init_23 : decode mC_init.2.1 23 = .ok (.iload_n 1, 1) := by decide +kernel
theorem dC_init_24 : decode mC_init.2.1 24 = .ok (.new 9, 3) := by decide +kernel
theorem dC_init_27 : decode mC_init.2.1 27 = .ok (.dup, 1) := by decide +kernel
theorem dC_init_28 : decode mC_init.2.1 28 = .ok (.invokespecial 15, 3) := by decide +kernel
theorem dC_init_31 : decode mC_init.2.1 31 = .ok (.aastore, 1) := by decide +kernel
theorem dC_init_32 : decode mC_init.2.1 32 = .ok (.iinc 1 1, 3) := by decide +kernel
theorem dC_init_35 : decode mC_init.2.1 35 = .ok (.goto (-21), 3) := by decide +kernel
theorem dC_init_38 : decode mC_init.2.1 38 = .ok (.aload_n 0, 1) := by decide +kernel
theorem dC_init_39 : decode mC_init.2.1 39 = .ok (.bipush 20, 2) := by decide +kernel
theorem dC_init_41 : decode mC_init.2.1 41 = .ok (.anewarray 16, 3) := by decide +kernel
theorem dC_init_44 : decode mC_init.2.1 44 = .ok (.putfield 18, 3) := by decide +kernel
theorem dC_init_47 : decode mC_init.2.1 47 = .ok (.aload_n 0, 1) := by decide +kernel
theorem dC_init_48 : decode mC_init.2.1 48 = .ok (.bipush 100, 2) := by decide +kernel
theorem dC_init_50 : decode mC_init.2.1 50 = .ok (.newarray .int, 2) := by decide +kernel
theorem dC_init_52 : decode mC_init.2.1 52 = .ok (.putfield 22, 3) := by decide +kernel
theorem dC_init_55 : decode mC_init.2.1 55 = .ok (.aload_n 0, 1) := by decide +kernel
theorem dC_init_56 : decode mC_init.2.1 56 = .ok (.bipush 100, 2) := by decide +kernel
theorem dC_init_58 : decode mC_init.2.1 58 = .ok (.newarray .int, 2) := by decide +kernel
theorem dC_init_60 : decode mC_init.2.1 60 = .ok (.putfield 26, 3) := by decide +kernel
theorem dC_init_63 : decode mC_init.2.1 63 = .ok (.aload_n 0, 1) := by decide +kernel
theorem dC_init_64 : decode mC_init.2.1 64 = .ok (.bipush 100, 2) := by decide +kernel
theorem dC_init_66 : decode mC_init.2.1 66 = .ok (.newarray .int, 2) := by decide +kernel
theorem dC_init_68 : decode mC_init.2.1 68 = .ok (.putfield 29, 3) := by decide +kernel
theorem dC_init_71 : decode mC_init.2.1 71 = .ok (.return_, 1) := by decide +kernel
theorem dC_vehicle_0 : decode mC_vehicle.2.1 0 = .ok (.aload_n 0, 1) := by decide +kernel
theorem dC_vehicle_1 : decode mC_vehicle.2.1 1 = .ok (.iload_n 1, 1) := by decide +kernel
theorem dC_vehicle_2 : decode mC_vehicle.2.1 2 = .ok (.invokevirtual 32, 3) := by decide +kernel
theorem dC_vehicle_5 : decode mC_vehicle.2.1 5 = .ok (.astore_n 3, 1) := by decide +kernel
theorem dC_vehicle_6 : decode mC_vehicle.2.1 6 = .ok (.aload_n 0, 1) := by decide +kernel
theorem dC_vehicle_7 : decode mC_vehicle.2.1 7 = .ok (.getfield 36, 3) := by decide +kernel
theorem dC_vehicle_10 : decode mC_vehicle.2.1 10 = .ok (.bipush 20, 2) := by decide +kernel
theorem dC_vehicle_12 : decode mC_vehicle.2.1 12 = .ok (.if_icmp .lt 13, 3) := by decide +kernel
theorem dC_vehicle_15 : decode mC_vehicle.2.1 15 = .ok (.new 40, 3) := by decide +kernel
theorem dC_vehicle_18 : decode mC_vehicle.2.1 18 = .ok (.dup, 1) := by decide +kernel
theorem dC_vehicle_19 : decode mC_vehicle.2.1 19 = .ok (.ldc 42, 2) := by decide +kernel
theorem dC_vehicle_21 : decode mC_vehicle.2.1 21 = .ok (.invokespecial 44, 3) := by decide +kernel
theorem dC_vehicle_24 : decode mC_vehicle.2.1 24 = .ok (.athrow, 1) := by decide +kernel
theorem dC_vehicle_25 : decode mC_vehicle.2.1 25 = .ok (.aload_n 0, 1) := by decide +kernel
theorem dC_vehicle_26 : decode mC_vehicle.2.1 26 = .ok (.getfield 36, 3) := by decide +kernel
theorem dC_vehicle_29 : decode mC_vehicle.2.1 29 = .ok (.istore 4, 2) := by decide +kernel
theorem dC_vehicle_31 : decode mC_vehicle.2.1 31 = .ok (.aload_n 0, 1) := by decide +kernel
theorem dC_vehicle_32 : decode mC_vehicle.2.1 32 = .ok (.getfield 18, 3) := by decide +kernel
theorem dC_vehicle_35 : decode mC_vehicle.2.1 35 = .ok (.iload 4, 2) := by decide +kernel
theorem dC_vehicle_37 : decode mC_vehicle.2.1 37 = .ok (.new 16, 3) := by decide +kernel
theorem dC_vehicle_40 : decode mC_vehicle.2.1 40 = .ok (.dup, 1) := by decide +kernel
theorem dC_vehicle_41 : decode mC_vehicle.2.1 41 = .ok (.iload 4, 2) := by decide +kernel
theorem dC_vehicle_43 : decode mC_vehicle.2.1 43 = .ok (.aload_n 3, 1) := by decide +kernel
theorem dC_vehicle_44 : decode mC_vehicle.2.1 44 = .ok (.iload_n 2, 1) := by decide +kernel
theorem dC_vehicle_45 : decode mC_vehicle.2.1 45 = .ok (.aload_n 0, 1) := by decide +kernel
theorem dC_vehicle_46 : decode mC_vehicle.2.1 46 = .ok (.getfield 47, 3) := by decide +kernel
theorem dC_vehicle_49 : decode mC_vehicle.2.1 49 = .ok (.invokespecial 50, 3) := by decide +kernel
theorem dC_vehicle_52 : decode mC_vehicle.2.1 52 = .ok (.aastore, 1) := by decide +kernel
theorem dC_vehicle_53 : decode mC_vehicle.2.1 53 = .ok (.aload_n 0, 1) := by decide +kernel
theorem dC_vehicle_54 : decode mC_vehicle.2.1 54 = .ok (.dup, 1) := by decide +kernel
theorem dC_vehicle_55 : decode mC_vehicle.2.1 55 = .ok (.getfield 36, 3) := by decide +kernel
theorem dC_vehicle_58 : decode mC_vehicle.2.1 58 = .ok (.iconst 1, 1) := by decide +kernel
theorem dC_vehicle_59 : decode mC_vehicle.2.1 59 = .ok (.iadd, 1) := by decide +kernel
theorem dC_vehicle_60 : decode mC_vehicle.2.1 60 = .ok (.putfield 36, 3) := by decide +kernel
theorem dC_vehicle_63 : decode mC_vehicle.2.1 63 = .ok (.iload 4, 2) := by decide +kernel
theorem dC_vehicle_65 : decode mC_vehicle.2.1 65 = .ok (.ireturn, 1) := by decide +kernel
theorem dC_knownKind_0 : decode mC_knownKind.2.1 0 = .ok (.iload_n 1, 1) := by decide +kernel
theorem dC_knownKind_1 : decode mC_knownKind.2.1 1 = .ok (.ifCond .lt 17, 3) := by decide +kernel
theorem dC_knownKind_4 : decode mC_knownKind.2.1 4 = .ok (.iload_n 1, 1) := by decide +kernel
theorem dC_knownKind_5 : decode mC_knownKind.2.1 5 = .ok (.iconst 5, 1) := by decide +kernel
theorem dC_knownKind_6 : decode mC_knownKind.2.1 6 = .ok (.if_icmp .ge 12, 3) := by decide +kernel
theorem dC_knownKind_9 : decode mC_knownKind.2.1 9 = .ok (.aload_n 0, 1) := by decide +kernel
theorem dC_knownKind_10 : decode mC_knownKind.2.1 10 = .ok (.getfield 11, 3) := by decide +kernel
theorem dC_knownKind_13 : decode mC_knownKind.2.1 13 = .ok (.iload_n 1, 1) := by decide +kernel
theorem dC_knownKind_14 : decode mC_knownKind.2.1 14 = .ok (.aaload, 1) := by decide +kernel
theorem dC_knownKind_15 : decode mC_knownKind.2.1 15 = .ok (.ifnonnull 13, 3) := by decide +kernel
theorem dC_knownKind_18 : decode mC_knownKind.2.1 18 = .ok (.new 114, 3) := by decide +kernel
theorem dC_knownKind_21 : decode mC_knownKind.2.1 21 = .ok (.dup, 1) := by decide +kernel
theorem dC_knownKind_22 : decode mC_knownKind.2.1 22 = .ok (.ldc 220, 2) := by decide +kernel
theorem dC_knownKind_24 : decode mC_knownKind.2.1 24 = .ok (.invokespecial 118, 3) := by decide +kernel
theorem dC_knownKind_27 : decode mC_knownKind.2.1 27 = .ok (.athrow, 1) := by decide +kernel
theorem dC_knownKind_28 : decode mC_knownKind.2.1 28 = .ok (.aload_n 0, 1) := by decide +kernel
theorem dC_knownKind_29 : decode mC_knownKind.2.1 29 = .ok (.getfield 11, 3) := by decide +kernel
theorem dC_knownKind_32 : decode mC_knownKind.2.1 32 = .ok (.iload_n 1, 1) := by decide +kernel
theorem dC_knownKind_33 : decode mC_knownKind.2.1 33 = .ok (.aaload, 1) := by decide +kernel
theorem dC_knownKind_34 : decode mC_knownKind.2.1 34 = .ok (.areturn, 1) := by decide +kernel
theorem dC_list_0 : decode mC_list.2.1 0 = .ok (.aload_n 0, 1) := by decide +kernel
theorem dC_list_1 : decode mC_list.2.1 1 = .ok (.iload_n 1, 1) := by decide +kernel
theorem dC_list_2 : decode mC_list.2.1 2 = .ok (.invokevirtual 32, 3) := by decide +kernel
theorem dC_list_5 : decode mC_list.2.1 5 = .ok (.astore 7, 2) := by decide +kernel
theorem dC_list_7 : decode mC_list.2.1 7 = .ok (.iload_n 2, 1) := by decide +kernel
theorem dC_list_8 : decode mC_list.2.1 8 = .ok (.invokestatic 53, 3) := by decide +kernel
theorem dC_list_11 : decode mC_list.2.1 11 = .ok (.iload_n 3, 1) := by decide +kernel
theorem dC_list_12 : decode mC_list.2.1 12 = .ok (.sipush (-9999), 3) := by decide +kernel
theorem dC_list_15 : decode mC_list.2.1 15 = .ok (.sipush 9999, 3) := by decide +kernel
theorem dC_list_18 : decode mC_list.2.1 18 = .ok (.invokestatic 57, 3) := by decide +kernel
theorem dC_list_21 : decode mC_list.2.1 21 = .ok (.iload 4, 2) := by decide +kernel
theorem dC_list_23 : decode mC_list.2.1 23 = .ok (.iload_n 3, 1) := by decide +kernel
theorem dC_list_24 : decode mC_list.2.1 24 = .ok (.sipush 9999, 3) := by decide +kernel
theorem dC_list_27 : decode mC_list.2.1 27 = .ok (.invokestatic 57, 3) := by decide +kernel
theorem dC_list_30 : decode mC_list.2.1 30 = .ok (.iload 5, 2) := by decide +kernel
theorem dC_list_32 : decode mC_list.2.1 32 = .ok (.iconst 1, 1) := by decide +kernel
theorem dC_list_33 : decode mC_list.2.1 33 = .ok (.iconst 3, 1) := by decide +kernel
theorem dC_list_34 : decode mC_list.2.1 34 = .ok (.invokestatic 57, 3) := by decide +kernel
theorem dC_list_37 : decode mC_list.2.1 37 = .ok (.iload 6, 2) := by decide +kernel
theorem dC_list_39 : decode mC_list.2.1 39 = .ok (.iconst 0, 1) := by decide +kernel
theorem dC_list_40 : decode mC_list.2.1 40 = .ok (.sipush 5000, 3) := by decide +kernel
theorem dC_list_43 : decode mC_list.2.1 43 = .ok (.invokestatic 57, 3) := by decide +kernel
theorem dC_list_46 : decode mC_list.2.1 46 = .ok (.aload 7, 2) := by decide +kernel
theorem dC_list_48 : decode mC_list.2.1 48 = .ok (.iload_n 2, 1) := by decide +kernel
theorem dC_list_49 : decode mC_list.2.1 49 = .ok (.iload_n 3, 1) := by decide +kernel
theorem dC_list_50 : decode mC_list.2.1 50 = .ok (.iload 4, 2) := by decide +kernel
theorem dC_list_52 : decode mC_list.2.1 52 = .ok (.iload 5, 2) := by decide +kernel
theorem dC_list_54 : decode mC_list.2.1 54 = .ok (.iload 6, 2) := by decide +kernel
theorem dC_list_56 : decode mC_list.2.1 56 = .ok (.invokevirtual 61, 3) := by decide +kernel
theorem dC_list_59 : decode mC_list.2.1 59 = .ok (.return_, 1) := by decide +kernel
theorem dC_checkItem_0 : decode mC_checkItem.2.1 0 = .ok (.iload_n 0, 1) := by decide +kernel
theorem dC_checkItem_1 : decode mC_checkItem.2.1 1 = .ok (.ifCond .lt 9, 3) := by decide +kernel
theorem dC_checkItem_4 : decode mC_checkItem.2.1 4 = .ok (.iload_n 0, 1) := by decide +kernel
theorem dC_checkItem_5 : decode mC_checkItem.2.1 5 = .ok (.bipush 10, 2) := by decide +kernel
theorem dC_checkItem_7 : decode mC_checkItem.2.1 7 = .ok (.if_icmp .lt 13, 3) := by decide +kernel
theorem dC_checkItem_10 : decode mC_checkItem.2.1 10 = .ok (.new 114, 3) := by decide +kernel
theorem dC_checkItem_13 : decode mC_checkItem.2.1 13 = .ok (.dup, 1) := by decide +kernel
theorem dC_checkItem_14 : decode mC_checkItem.2.1 14 = .ok (.ldc 224, 2) := by decide +kernel
theorem dC_checkItem_16 : decode mC_checkItem.2.1 16 = .ok (.invokespecial 118, 3) := by decide +kernel
theorem dC_checkItem_19 : decode mC_checkItem.2.1 19 = .ok (.athrow, 1) := by decide +kernel
theorem dC_checkItem_20 : decode mC_checkItem.2.1 20 = .ok (.return_, 1) := by decide +kernel
theorem dC_checkRange_0 : decode mC_checkRange.2.1 0 = .ok (.iload_n 0, 1) := by decide +kernel
theorem dC_checkRange_1 : decode mC_checkRange.2.1 1 = .ok (.iload_n 1, 1) := by decide +kernel
theorem dC_checkRange_2 : decode mC_checkRange.2.1 2 = .ok (.if_icmp .lt 8, 3) := by decide +kernel
theorem dC_checkRange_5 : decode mC_checkRange.2.1 5 = .ok (.iload_n 0, 1) := by decide +kernel
theorem dC_checkRange_6 : decode mC_checkRange.2.1 6 = .ok (.iload_n 2, 1) := by decide +kernel
theorem dC_checkRange_7 : decode mC_checkRange.2.1 7 = .ok (.if_icmp .le 13, 3) := by decide +kernel
theorem dC_checkRange_10 : decode mC_checkRange.2.1 10 = .ok (.new 230, 3) := by decide +kernel
theorem dC_checkRange_13 : decode mC_checkRange.2.1 13 = .ok (.dup, 1) := by decide +kernel
theorem dC_checkRange_14 : decode mC_checkRange.2.1 14 = .ok (.ldc 232, 2) := by decide +kernel
theorem dC_checkRange_16 : decode mC_checkRange.2.1 16 = .ok (.invokespecial 234, 3) := by decide +kernel
theorem dC_checkRange_19 : decode mC_checkRange.2.1 19 = .ok (.athrow, 1) := by decide +kernel
theorem dC_checkRange_20 : decode mC_checkRange.2.1 20 = .ok (.return_, 1) := by decide +kernel
theorem dC_unlist_0 : decode mC_unlist.2.1 0 = .ok (.aload_n 0, 1) := by decide +kernel
theorem dC_unlist_1 : decode mC_unlist.2.1 1 = .ok (.iload_n 1, 1) := by decide +kernel
theorem dC_unlist_2 : decode mC_unlist.2.1 2 = .ok (.invokevirtual 32, 3) := by decide +kernel
theorem dC_unlist_5 : decode mC_unlist.2.1 5 = .ok (.astore_n 3, 1) := by decide +kernel
theorem dC_unlist_6 : decode mC_unlist.2.1 6 = .ok (.iload_n 2, 1) := by decide +kernel
theorem dC_unlist_7 : decode mC_unlist.2.1 7 = .ok (.invokestatic 53, 3) := by decide +kernel
theorem dC_unlist_10 : decode mC_unlist.2.1 10 = .ok (.aload_n 3, 1) := by decide +kernel
theorem dC_unlist_11 : decode mC_unlist.2.1 11 = .ok (.iload_n 2, 1) := by decide +kernel
theorem dC_unlist_12 : decode mC_unlist.2.1 12 = .ok (.invokestatic 65, 3) := by decide +kernel
theorem dC_unlist_15 : decode mC_unlist.2.1 15 = .ok (.aload_n 3, 1) := by decide +kernel
theorem dC_unlist_16 : decode mC_unlist.2.1 16 = .ok (.getfield 69, 3) := by decide +kernel
theorem dC_unlist_19 : decode mC_unlist.2.1 19 = .ok (.iload_n 2, 1) := by decide +kernel
theorem dC_unlist_20 : decode mC_unlist.2.1 20 = .ok (.iconst 0, 1) := by decide +kernel
theorem dC_unlist_21 : decode mC_unlist.2.1 21 = .ok (.bastore, 1) := by decide +kernel
theorem dC_unlist_22 : decode mC_unlist.2.1 22 = .ok (.return_, 1) := by decide +kernel
theorem dC_checkListed_0 : decode mC_checkListed.2.1 0 = .ok (.aload_n 0, 1) := by decide +kernel
theorem dC_checkListed_1 : decode mC_checkListed.2.1 1 = .ok (.getfield 69, 3) := by decide +kernel
theorem dC_checkListed_4 : decode mC_checkListed.2.1 4 = .ok (.iload_n 1, 1) := by decide +kernel
theorem dC_checkListed_5 : decode mC_checkListed.2.1 5 = .ok (.baload, 1) := by decide +kernel
theorem dC_checkListed_6 : decode mC_checkListed.2.1 6 = .ok (.ifCond .ne 13, 3) := by decide +kernel
theorem dC_checkListed_9 : decode mC_checkListed.2.1 9 = .ok (.new 124, 3) := by decide +kernel
theorem dC_checkListed_12 : decode mC_checkListed.2.1 12 = .ok (.dup, 1) := by decide +kernel
theorem dC_checkListed_13 : decode mC_checkListed.2.1 13 = .ok (.ldc 237, 2) := by decide +kernel
theorem dC_checkListed_15 : decode mC_checkListed.2.1 15 = .ok (.invokespecial 128, 3) := by decide +kernel
theorem dC_checkListed_18 : decode mC_checkListed.2.1 18 = .ok (.athrow, 1) := by decide +kernel
theorem dC_checkListed_19 : decode mC_checkListed.2.1 19 = .ok (.return_, 1) := by decide +kernel
theorem dC_answer_0 : decode mC_answer.2.1 0 = .ok (.aload_n 0, 1) := by decide +kernel
theorem dC_answer_1 : decode mC_answer.2.1 1 = .ok (.iload_n 1, 1) := by decide +kernel
theorem dC_answer_2 : decode mC_answer.2.1 2 = .ok (.invokevirtual 73, 3) := by decide +kernel
theorem dC_answer_5 : decode mC_answer.2.1 5 = .ok (.astore 5, 2) := by decide +kernel
theorem dC_answer_7 : decode mC_answer.2.1 7 = .ok (.iload_n 2, 1) := by decide +kernel
theorem dC_answer_8 : decode mC_answer.2.1 8 = .ok (.invokestatic 53, 3) := by decide +kernel
theorem dC_answer_11 : decode mC_answer.2.1 11 = .ok (.iload 4, 2) := by decide +kernel
theorem dC_answer_13 : decode mC_answer.2.1 13 = .ok (.invokestatic 77, 3) := by decide +kernel
theorem dC_answer_16 : decode mC_answer.2.1 16 = .ok (.iload_n 3, 1) := by decide +kernel
theorem dC_answer_17 : decode mC_answer.2.1 17 = .ok (.ldc 80, 2) := by decide +kernel
theorem dC_answer_19 : decode mC_answer.2.1 19 = .ok (.ldc 81, 2) := by decide +kernel
theorem dC_answer_21 : decode mC_answer.2.1 21 = .ok (.invokestatic 57, 3) := by decide +kernel
theorem dC_answer_24 : decode mC_answer.2.1 24 = .ok (.aload 5, 2) := by decide +kernel
theorem dC_answer_26 : decode mC_answer.2.1 26 = .ok (.getfield 82, 3) := by decide +kernel
theorem dC_answer_29 : decode mC_answer.2.1 29 = .ok (.iload_n 2, 1) := by decide +kernel
theorem dC_answer_30 : decode mC_answer.2.1 30 = .ok (.invokestatic 65, 3) := by decide +kernel
theorem dC_answer_33 : decode mC_answer.2.1 33 = .ok (.aload 5, 2) := by decide +kernel
theorem dC_answer_35 : decode mC_answer.2.1 35 = .ok (.iload_n 2, 1) := by decide +kernel
theorem dC_answer_36 : decode mC_answer.2.1 36 = .ok (.iload_n 3, 1) := by decide +kernel
theorem dC_answer_37 : decode mC_answer.2.1 37 = .ok (.aload_n 0, 1) := by decide +kernel
theorem dC_answer_38 : decode mC_answer.2.1 38 = .ok (.getfield 47, 3) := by decide +kernel
theorem dC_answer_41 : decode mC_answer.2.1 41 = .ok (.iload 4, 2) := by decide +kernel
theorem dC_answer_43 : decode mC_answer.2.1 43 = .ok (.invokevirtual 86, 3) := by decide +kernel
theorem dC_answer_46 : decode mC_answer.2.1 46 = .ok (.aload 5, 2) := by decide +kernel
theorem dC_answer_48 : decode mC_answer.2.1 48 = .ok (.getfield 82, 3) := by decide +kernel
theorem dC_answer_51 : decode mC_answer.2.1 51 = .ok (.iload_n 2, 1) := by decide +kernel
theorem dC_answer_52 : decode mC_answer.2.1 52 = .ok (.iload_n 3, 1) := by decide +kernel
theorem dC_answer_53 : decode mC_answer.2.1 53 = .ok (.invokevirtual 90, 3) := by decide +kernel
theorem dC_answer_56 : decode mC_answer.2.1 56 = .ok (.ireturn, 1) := by decide +kernel
theorem dC_knownVehicle_0 : decode mC_knownVehicle.2.1 0 = .ok (.iload_n 1, 1) := by decide +kernel
theorem dC_knownVehicle_1 : decode mC_knownVehicle.2.1 1 = .ok (.ifCond .lt 18, 3) := by decide +kernel
theorem dC_knownVehicle_4 : decode mC_knownVehicle.2.1 4 = .ok (.iload_n 1, 1) := by decide +kernel
theorem dC_knownVehicle_5 : decode mC_knownVehicle.2.1 5 = .ok (.bipush 20, 2) := by decide +kernel
theorem dC_knownVehicle_7 : decode mC_knownVehicle.2.1 7 = .ok (.if_icmp .ge 12, 3) := by decide +kernel
theorem dC_knownVehicle_10 : decode mC_knownVehicle.2.1 10 = .ok (.aload_n 0, 1) := by decide +kernel
theorem dC_knownVehicle_11 : decode mC_knownVehicle.2.1 11 = .ok (.getfield 18, 3) := by decide +kernel
theorem dC_knownVehicle_14 : decode mC_knownVehicle.2.1 14 = .ok (.iload_n 1, 1) := by decide +kernel
theorem dC_knownVehicle_15 : decode mC_knownVehicle.2.1 15 = .ok (.aaload, 1) := by decide +kernel
theorem dC_knownVehicle_16 : decode mC_knownVehicle.2.1 16 = .ok (.ifnonnull 13, 3) := by decide +kernel
theorem dC_knownVehicle_19 : decode mC_knownVehicle.2.1 19 = .ok (.new 114, 3) := by decide +kernel
theorem dC_knownVehicle_22 : decode mC_knownVehicle.2.1 22 = .ok (.dup, 1) := by decide +kernel
theorem dC_knownVehicle_23 : decode mC_knownVehicle.2.1 23 = .ok (.ldc 222, 2) := by decide +kernel
theorem dC_knownVehicle_25 : decode mC_knownVehicle.2.1 25 = .ok (.invokespecial 118, 3) := by decide +kernel
theorem dC_knownVehicle_28 : decode mC_knownVehicle.2.1 28 = .ok (.athrow, 1) := by decide +kernel
theorem dC_knownVehicle_29 : decode mC_knownVehicle.2.1 29 = .ok (.aload_n 0, 1) := by decide +kernel
theorem dC_knownVehicle_30 : decode mC_knownVehicle.2.1 30 = .ok (.getfield 18, 3) := by decide +kernel
theorem dC_knownVehicle_33 : decode mC_knownVehicle.2.1 33 = .ok (.iload_n 1, 1) := by decide +kernel
theorem dC_knownVehicle_34 : decode mC_knownVehicle.2.1 34 = .ok (.aaload, 1) := by decide +kernel
theorem dC_knownVehicle_35 : decode mC_knownVehicle.2.1 35 = .ok (.areturn, 1) := by decide +kernel
theorem dC_checkPerson_0 : decode mC_checkPerson.2.1 0 = .ok (.iload_n 0, 1) := by decide +kernel
theorem dC_checkPerson_1 : decode mC_checkPerson.2.1 1 = .ok (.ifCond .lt 9, 3) := by decide +kernel
theorem dC_checkPerson_4 : decode mC_checkPerson.2.1 4 = .ok (.iload_n 0, 1) := by decide +kernel
theorem dC_checkPerson_5 : decode mC_checkPerson.2.1 5 = .ok (.bipush 40, 2) := by decide +kernel
theorem dC_checkPerson_7 : decode mC_checkPerson.2.1 7 = .ok (.if_icmp .lt 13, 3) := by decide +kernel
theorem dC_checkPerson_10 : decode mC_checkPerson.2.1 10 = .ok (.new 114, 3) := by decide +kernel
theorem dC_checkPerson_13 : decode mC_checkPerson.2.1 13 = .ok (.dup, 1) := by decide +kernel
theorem dC_checkPerson_14 : decode mC_checkPerson.2.1 14 = .ok (.ldc 228, 2) := by decide +kernel
theorem dC_checkPerson_16 : decode mC_checkPerson.2.1 16 = .ok (.invokespecial 118, 3) := by decide +kernel
theorem dC_checkPerson_19 : decode mC_checkPerson.2.1 19 = .ok (.athrow, 1) := by decide +kernel
theorem dC_checkPerson_20 : decode mC_checkPerson.2.1 20 = .ok (.return_, 1) := by decide +kernel
theorem dC_item_0 : decode mC_item.2.1 0 = .ok (.aload_n 0, 1) := by decide +kernel
theorem dC_item_1 : decode mC_item.2.1 1 = .ok (.iload_n 1, 1) := by decide +kernel
theorem dC_item_2 : decode mC_item.2.1 2 = .ok (.invokevirtual 73, 3) := by decide +kernel
theorem dC_item_5 : decode mC_item.2.1 5 = .ok (.astore 4, 2) := by decide +kernel
theorem dC_item_7 : decode mC_item.2.1 7 = .ok (.iload_n 2, 1) := by decide +kernel
theorem dC_item_8 : decode mC_item.2.1 8 = .ok (.invokestatic 53, 3) := by decide +kernel
theorem dC_item_11 : decode mC_item.2.1 11 = .ok (.iload_n 3, 1) := by decide +kernel
theorem dC_item_12 : decode mC_item.2.1 12 = .ok (.tableswitch 102 0 5 #[40, 54, 62, 70, 78, 88], 40) := by decide +kernel
theorem dC_item_52 : decode mC_item.2.1 52 = .ok (.aload 4, 2) := by decide +kernel
theorem dC_item_54 : decode mC_item.2.1 54 = .ok (.getfield 82, 3) := by decide +kernel
theorem dC_item_57 : decode mC_item.2.1 57 = .ok (.getfield 69, 3) := by decide +kernel
theorem dC_item_60 : decode mC_item.2.1 60 = .ok (.iload_n 2, 1) := by decide +kernel
theorem dC_item_61 : decode mC_item.2.1 61 = .ok (.baload, 1) := by decide +kernel
theorem dC_item_62 : decode mC_item.2.1 62 = .ok (.invokestatic 94, 3) := by decide +kernel
theorem dC_item_65 : decode mC_item.2.1 65 = .ok (.ireturn, 1) := by decide +kernel
theorem dC_item_66 : decode mC_item.2.1 66 = .ok (.aload 4, 2) := by decide +kernel
theorem dC_item_68 : decode mC_item.2.1 68 = .ok (.getfield 98, 3) := by decide +kernel
theorem dC_item_71 : decode mC_item.2.1 71 = .ok (.iload_n 2, 1) := by decide +kernel
theorem dC_item_72 : decode mC_item.2.1 72 = .ok (.iaload, 1) := by decide +kernel
theorem dC_item_73 : decode mC_item.2.1 73 = .ok (.ireturn, 1) := by decide +kernel
theorem dC_item_74 : decode mC_item.2.1 74 = .ok (.aload 4, 2) := by decide +kernel
theorem dC_item_76 : decode mC_item.2.1 76 = .ok (.getfield 101, 3) := by decide +kernel
theorem dC_item_79 : decode mC_item.2.1 79 = .ok (.iload_n 2, 1) := by decide +kernel
theorem dC_item_80 : decode mC_item.2.1 80 = .ok (.iaload, 1) := by decide +kernel
theorem dC_item_81 : decode mC_item.2.1 81 = .ok (.ireturn, 1) := by decide +kernel
theorem dC_item_82 : decode mC_item.2.1 82 = .ok (.aload 4, 2) := by decide +kernel
theorem dC_item_84 : decode mC_item.2.1 84 = .ok (.getfield 104, 3) := by decide +kernel
theorem dC_item_87 : decode mC_item.2.1 87 = .ok (.iload_n 2, 1) := by decide +kernel
theorem dC_item_88 : decode mC_item.2.1 88 = .ok (.iaload, 1) := by decide +kernel
theorem dC_item_89 : decode mC_item.2.1 89 = .ok (.ireturn, 1) := by decide +kernel
theorem dC_item_90 : decode mC_item.2.1 90 = .ok (.aload 4, 2) := by decide +kernel
theorem dC_item_92 : decode mC_item.2.1 92 = .ok (.iload_n 2, 1) := by decide +kernel
theorem dC_item_93 : decode mC_item.2.1 93 = .ok (.invokevirtual 107, 3) := by decide +kernel
theorem dC_item_96 : decode mC_item.2.1 96 = .ok (.invokestatic 94, 3) := by decide +kernel
theorem dC_item_99 : decode mC_item.2.1 99 = .ok (.ireturn, 1) := by decide +kernel
theorem dC_item_100 : decode mC_item.2.1 100 = .ok (.aload 4, 2) := by decide +kernel
theorem dC_item_102 : decode mC_item.2.1 102 = .ok (.iload_n 2, 1) := by decide +kernel
theorem dC_item_103 : decode mC_item.2.1 103 = .ok (.aload_n 0, 1) := by decide +kernel
theorem dC_item_104 : decode mC_item.2.1 104 = .ok (.getfield 47, 3) := by decide +kernel
theorem dC_item_107 : decode mC_item.2.1 107 = .ok (.invokevirtual 111, 3) := by decide +kernel
theorem dC_item_110 : decode mC_item.2.1 110 = .ok (.invokestatic 94, 3) := by decide +kernel
theorem dC_item_113 : decode mC_item.2.1 113 = .ok (.ireturn, 1) := by decide +kernel
theorem dC_item_114 : decode mC_item.2.1 114 = .ok (.new 114, 3) := by decide +kernel
theorem dC_item_117 : decode mC_item.2.1 117 = .ok (.dup, 1) := by decide +kernel
theorem dC_item_118 : decode mC_item.2.1 118 = .ok (.ldc 116, 2) := by decide +kernel
theorem dC_item_120 : decode mC_item.2.1 120 = .ok (.invokespecial 118, 3) := by decide +kernel
theorem dC_item_123 : decode mC_item.2.1 123 = .ok (.athrow, 1) := by decide +kernel
theorem dC_oneOrZero_0 : decode mC_oneOrZero.2.1 0 = .ok (.iload_n 0, 1) := by decide +kernel
theorem dC_oneOrZero_1 : decode mC_oneOrZero.2.1 1 = .ok (.ifCond .eq 7, 3) := by decide +kernel
theorem dC_oneOrZero_4 : decode mC_oneOrZero.2.1 4 = .ok (.iconst 1, 1) := by decide +kernel
theorem dC_oneOrZero_5 : decode mC_oneOrZero.2.1 5 = .ok (.goto 4, 3) := by decide +kernel
theorem dC_oneOrZero_8 : decode mC_oneOrZero.2.1 8 = .ok (.iconst 0, 1) := by decide +kernel
theorem dC_oneOrZero_9 : decode mC_oneOrZero.2.1 9 = .ok (.ireturn, 1) := by decide +kernel
theorem dC_use_0 : decode mC_use.2.1 0 = .ok (.aload_n 0, 1) := by decide +kernel
theorem dC_use_1 : decode mC_use.2.1 1 = .ok (.iload_n 1, 1) := by decide +kernel
theorem dC_use_2 : decode mC_use.2.1 2 = .ok (.invokevirtual 73, 3) := by decide +kernel
theorem dC_use_5 : decode mC_use.2.1 5 = .ok (.astore_n 3, 1) := by decide +kernel
theorem dC_use_6 : decode mC_use.2.1 6 = .ok (.iload_n 2, 1) := by decide +kernel
theorem dC_use_7 : decode mC_use.2.1 7 = .ok (.iconst 0, 1) := by decide +kernel
theorem dC_use_8 : decode mC_use.2.1 8 = .ok (.ldc 119, 2) := by decide +kernel
theorem dC_use_10 : decode mC_use.2.1 10 = .ok (.invokestatic 57, 3) := by decide +kernel
theorem dC_use_13 : decode mC_use.2.1 13 = .ok (.aload_n 0, 1) := by decide +kernel
theorem dC_use_14 : decode mC_use.2.1 14 = .ok (.aload_n 3, 1) := by decide +kernel
theorem dC_use_15 : decode mC_use.2.1 15 = .ok (.invokevirtual 120, 3) := by decide +kernel
theorem dC_use_18 : decode mC_use.2.1 18 = .ok (.ifCond .ne 13, 3) := by decide +kernel
theorem dC_use_21 : decode mC_use.2.1 21 = .ok (.new 124, 3) := by decide +kernel
theorem dC_use_24 : decode mC_use.2.1 24 = .ok (.dup, 1) := by decide +kernel
theorem dC_use_25 : decode mC_use.2.1 25 = .ok (.ldc 126, 2) := by decide +kernel
theorem dC_use_27 : decode mC_use.2.1 27 = .ok (.invokespecial 128, 3) := by decide +kernel
theorem dC_use_30 : decode mC_use.2.1 30 = .ok (.athrow, 1) := by decide +kernel
theorem dC_use_31 : decode mC_use.2.1 31 = .ok (.aload_n 3, 1) := by decide +kernel
theorem dC_use_32 : decode mC_use.2.1 32 = .ok (.iload_n 2, 1) := by decide +kernel
theorem dC_use_33 : decode mC_use.2.1 33 = .ok (.invokevirtual 129, 3) := by decide +kernel
theorem dC_use_36 : decode mC_use.2.1 36 = .ok (.ireturn, 1) := by decide +kernel
theorem dC_canRun_0 : decode mC_canRun.2.1 0 = .ok (.aload_n 1, 1) := by decide +kernel
theorem dC_canRun_1 : decode mC_canRun.2.1 1 = .ok (.getfield 142, 3) := by decide +kernel
theorem dC_canRun_4 : decode mC_canRun.2.1 4 = .ok (.ifCond .ne 25, 3) := by decide +kernel
theorem dC_canRun_7 : decode mC_canRun.2.1 7 = .ok (.aload_n 1, 1) := by decide +kernel
theorem dC_canRun_8 : decode mC_canRun.2.1 8 = .ok (.aload_n 0, 1) := by decide +kernel
theorem dC_canRun_9 : decode mC_canRun.2.1 9 = .ok (.getfield 47, 3) := by decide +kernel
theorem dC_canRun_12 : decode mC_canRun.2.1 12 = .ok (.invokevirtual 246, 3) := by decide +kernel
theorem dC_canRun_15 : decode mC_canRun.2.1 15 = .ok (.aload_n 0, 1) := by decide +kernel
theorem dC_canRun_16 : decode mC_canRun.2.1 16 = .ok (.aload_n 1, 1) := by decide +kernel
theorem dC_canRun_17 : decode mC_canRun.2.1 17 = .ok (.invokevirtual 250, 3) := by decide +kernel
theorem dC_canRun_20 : decode mC_canRun.2.1 20 = .ok (.iadd, 1) := by decide +kernel
theorem dC_canRun_21 : decode mC_canRun.2.1 21 = .ok (.iconst 2, 1) := by decide +kernel
theorem dC_canRun_22 : decode mC_canRun.2.1 22 = .ok (.if_icmp .ge 7, 3) := by decide +kernel
theorem dC_canRun_25 : decode mC_canRun.2.1 25 = .ok (.iconst 1, 1) := by decide +kernel
theorem dC_canRun_26 : decode mC_canRun.2.1 26 = .ok (.goto 4, 3) := by decide +kernel
theorem dC_canRun_29 : decode mC_canRun.2.1 29 = .ok (.iconst 0, 1) := by decide +kernel
theorem dC_canRun_30 : decode mC_canRun.2.1 30 = .ok (.ireturn, 1) := by decide +kernel
theorem dC_damagesWeight_0 : decode mC_damagesWeight.2.1 0 = .ok (.iconst 0, 1) := by decide +kernel
theorem dC_damagesWeight_1 : decode mC_damagesWeight.2.1 1 = .ok (.istore_n 2, 1) := by decide +kernel
theorem dC_damagesWeight_2 : decode mC_damagesWeight.2.1 2 = .ok (.iconst 0, 1) := by decide +kernel
theorem dC_damagesWeight_3 : decode mC_damagesWeight.2.1 3 = .ok (.istore_n 3, 1) := by decide +kernel
theorem dC_damagesWeight_4 : decode mC_damagesWeight.2.1 4 = .ok (.iload_n 3, 1) := by decide +kernel
theorem dC_damagesWeight_5 : decode mC_damagesWeight.2.1 5 = .ok (.bipush 100, 2) := by decide +kernel
theorem dC_damagesWeight_7 : decode mC_damagesWeight.2.1 7 = .ok (.if_icmp .ge 37, 3) := by decide +kernel
theorem dC_damagesWeight_10 : decode mC_damagesWeight.2.1 10 = .ok (.iload_n 3, 1) := by decide +kernel
theorem dC_damagesWeight_11 : decode mC_damagesWeight.2.1 11 = .ok (.aload_n 0, 1) := by decide +kernel
theorem dC_damagesWeight_12 : decode mC_damagesWeight.2.1 12 = .ok (.getfield 150, 3) := by decide +kernel
theorem dC_damagesWeight_15 : decode mC_damagesWeight.2.1 15 = .ok (.if_icmp .ge 29, 3) := by decide +kernel
theorem dC_damagesWeight_18 : decode mC_damagesWeight.2.1 18 = .ok (.aload_n 0, 1) := by decide +kernel
theorem dC_damagesWeight_19 : decode mC_damagesWeight.2.1 19 = .ok (.iload_n 3, 1) := by decide +kernel
theorem dC_damagesWeight_20 : decode mC_damagesWeight.2.1 20 = .ok (.aload_n 1, 1) := by decide +kernel
theorem dC_damagesWeight_21 : decode mC_damagesWeight.2.1 21 = .ok (.invokevirtual 253, 3) := by decide +kernel
theorem dC_damagesWeight_24 : decode mC_damagesWeight.2.1 24 = .ok (.ifCond .eq 14, 3) := by decide +kernel
theorem dC_damagesWeight_27 : decode mC_damagesWeight.2.1 27 = .ok (.iload_n 2, 1) := by decide +kernel
theorem dC_damagesWeight_28 : decode mC_damagesWeight.2.1 28 = .ok (.aload_n 0, 1) := by decide +kernel
theorem dC_damagesWeight_29 : decode mC_damagesWeight.2.1 29 = .ok (.getfield 26, 3) := by decide +kernel
theorem dC_damagesWeight_32 : decode mC_damagesWeight.2.1 32 = .ok (.iload_n 3, 1) := by decide +kernel
theorem dC_damagesWeight_33 : decode mC_damagesWeight.2.1 33 = .ok (.iaload, 1) := by decide +kernel
theorem dC_damagesWeight_34 : decode mC_damagesWeight.2.1 34 = .ok (.iconst 1, 1) := by decide +kernel
theorem dC_damagesWeight_35 : decode mC_damagesWeight.2.1 35 = .ok (.isub, 1) := by decide +kernel
theorem dC_damagesWeight_36 : decode mC_damagesWeight.2.1 36 = .ok (.iadd, 1) := by decide +kernel
theorem dC_damagesWeight_37 : decode mC_damagesWeight.2.1 37 = .ok (.istore_n 2, 1) := by decide +kernel
theorem dC_damagesWeight_38 : decode mC_damagesWeight.2.1 38 = .ok (.iinc 3 1, 3) := by decide +kernel
theorem dC_damagesWeight_41 : decode mC_damagesWeight.2.1 41 = .ok (.goto (-37), 3) := by decide +kernel
theorem dC_damagesWeight_44 : decode mC_damagesWeight.2.1 44 = .ok (.iload_n 2, 1) := by decide +kernel
theorem dC_damagesWeight_45 : decode mC_damagesWeight.2.1 45 = .ok (.ireturn, 1) := by decide +kernel
theorem dC_isOpenDamage_0 : decode mC_isOpenDamage.2.1 0 = .ok (.aload_n 0, 1) := by decide +kernel
theorem dC_isOpenDamage_1 : decode mC_isOpenDamage.2.1 1 = .ok (.getfield 22, 3) := by decide +kernel
theorem dC_isOpenDamage_4 : decode mC_isOpenDamage.2.1 4 = .ok (.iload_n 1, 1) := by decide +kernel
theorem dC_isOpenDamage_5 : decode mC_isOpenDamage.2.1 5 = .ok (.iaload, 1) := by decide +kernel
theorem dC_isOpenDamage_6 : decode mC_isOpenDamage.2.1 6 = .ok (.aload_n 2, 1) := by decide +kernel
theorem dC_isOpenDamage_7 : decode mC_isOpenDamage.2.1 7 = .ok (.getfield 155, 3) := by decide +kernel
theorem dC_isOpenDamage_10 : decode mC_isOpenDamage.2.1 10 = .ok (.if_icmp .ne 16, 3) := by decide +kernel
theorem dC_isOpenDamage_13 : decode mC_isOpenDamage.2.1 13 = .ok (.aload_n 0, 1) := by decide +kernel
theorem dC_isOpenDamage_14 : decode mC_isOpenDamage.2.1 14 = .ok (.getfield 29, 3) := by decide +kernel
theorem dC_isOpenDamage_17 : decode mC_isOpenDamage.2.1 17 = .ok (.iload_n 1, 1) := by decide +kernel
theorem dC_isOpenDamage_18 : decode mC_isOpenDamage.2.1 18 = .ok (.iaload, 1) := by decide +kernel
theorem dC_isOpenDamage_19 : decode mC_isOpenDamage.2.1 19 = .ok (.ifCond .ne 7, 3) := by decide +kernel
theorem dC_isOpenDamage_22 : decode mC_isOpenDamage.2.1 22 = .ok (.iconst 1, 1) := by decide +kernel
theorem dC_isOpenDamage_23 : decode mC_isOpenDamage.2.1 23 = .ok (.goto 4, 3) := by decide +kernel
theorem dC_isOpenDamage_26 : decode mC_isOpenDamage.2.1 26 = .ok (.iconst 0, 1) := by decide +kernel
theorem dC_isOpenDamage_27 : decode mC_isOpenDamage.2.1 27 = .ok (.ireturn, 1) := by decide +kernel
theorem dC_runs_0 : decode mC_runs.2.1 0 = .ok (.aload_n 0, 1) := by decide +kernel
theorem dC_runs_1 : decode mC_runs.2.1 1 = .ok (.aload_n 0, 1) := by decide +kernel
theorem dC_runs_2 : decode mC_runs.2.1 2 = .ok (.iload_n 1, 1) := by decide +kernel
theorem dC_runs_3 : decode mC_runs.2.1 3 = .ok (.invokevirtual 73, 3) := by decide +kernel
theorem dC_runs_6 : decode mC_runs.2.1 6 = .ok (.invokevirtual 120, 3) := by decide +kernel
theorem dC_runs_9 : decode mC_runs.2.1 9 = .ok (.ireturn, 1) := by decide +kernel
theorem dC_reason_0 : decode mC_reason.2.1 0 = .ok (.aload_n 0, 1) := by decide +kernel
theorem dC_reason_1 : decode mC_reason.2.1 1 = .ok (.iload_n 1, 1) := by decide +kernel
theorem dC_reason_2 : decode mC_reason.2.1 2 = .ok (.invokevirtual 73, 3) := by decide +kernel
theorem dC_reason_5 : decode mC_reason.2.1 5 = .ok (.astore_n 3, 1) := by decide +kernel
theorem dC_reason_6 : decode mC_reason.2.1 6 = .ok (.iload_n 2, 1) := by decide +kernel
theorem dC_reason_7 : decode mC_reason.2.1 7 = .ok (.invokestatic 132, 3) := by decide +kernel
theorem dC_reason_10 : decode mC_reason.2.1 10 = .ok (.iload_n 2, 1) := by decide +kernel
theorem dC_reason_11 : decode mC_reason.2.1 11 = .ok (.istore 4, 2) := by decide +kernel
theorem dC_reason_13 : decode mC_reason.2.1 13 = .ok (.iconst 0, 1) := by decide +kernel
theorem dC_reason_14 : decode mC_reason.2.1 14 = .ok (.istore 5, 2) := by decide +kernel
theorem dC_reason_16 : decode mC_reason.2.1 16 = .ok (.iload 5, 2) := by decide +kernel
theorem dC_reason_18 : decode mC_reason.2.1 18 = .ok (.bipush 10, 2) := by decide +kernel
theorem dC_reason_20 : decode mC_reason.2.1 20 = .ok (.if_icmp .ge 44, 3) := by decide +kernel
theorem dC_reason_23 : decode mC_reason.2.1 23 = .ok (.aload_n 3, 1) := by decide +kernel
theorem dC_reason_24 : decode mC_reason.2.1 24 = .ok (.iload 5, 2) := by decide +kernel
theorem dC_reason_26 : decode mC_reason.2.1 26 = .ok (.invokevirtual 107, 3) := by decide +kernel
theorem dC_reason_29 : decode mC_reason.2.1 29 = .ok (.ifCond .eq 29, 3) := by decide +kernel
theorem dC_reason_32 : decode mC_reason.2.1 32 = .ok (.iload 4, 2) := by decide +kernel
theorem dC_reason_34 : decode mC_reason.2.1 34 = .ok (.ifCond .ne 21, 3) := by decide +kernel
theorem dC_reason_37 : decode mC_reason.2.1 37 = .ok (.sipush 10000, 3) := by decide +kernel
theorem dC_reason_40 : decode mC_reason.2.1 40 = .ok (.aload_n 3, 1) := by decide +kernel
theorem dC_reason_41 : decode mC_reason.2.1 41 = .ok (.getfield 82, 3) := by decide +kernel
theorem dC_reason_44 : decode mC_reason.2.1 44 = .ok (.getfield 135, 3) := by decide +kernel
theorem dC_reason_47 : decode mC_reason.2.1 47 = .ok (.iload 5, 2) := by decide +kernel
theorem dC_reason_49 : decode mC_reason.2.1 49 = .ok (.iaload, 1) := by decide +kernel
theorem dC_reason_50 : decode mC_reason.2.1 50 = .ok (.imul, 1) := by decide +kernel
theorem dC_reason_51 : decode mC_reason.2.1 51 = .ok (.iload 5, 2) := by decide +kernel
theorem dC_reason_53 : decode mC_reason.2.1 53 = .ok (.iadd, 1) := by decide +kernel
theorem dC_reason_54 : decode mC_reason.2.1 54 = .ok (.ireturn, 1) := by decide +kernel
theorem dC_reason_55 : decode mC_reason.2.1 55 = .ok (.iinc 4 (-1), 3) := by decide +kernel
theorem dC_reason_58 : decode mC_reason.2.1 58 = .ok (.iinc 5 1, 3) := by decide +kernel
theorem dC_reason_61 : decode mC_reason.2.1 61 = .ok (.goto (-45), 3) := by decide +kernel
theorem dC_reason_64 : decode mC_reason.2.1 64 = .ok (.iconst 0, 1) := by decide +kernel
theorem dC_reason_65 : decode mC_reason.2.1 65 = .ok (.istore 5, 2) := by decide +kernel
theorem dC_reason_67 : decode mC_reason.2.1 67 = .ok (.iload 5, 2) := by decide +kernel
theorem dC_reason_69 : decode mC_reason.2.1 69 = .ok (.bipush 10, 2) := by decide +kernel
theorem dC_reason_71 : decode mC_reason.2.1 71 = .ok (.if_icmp .ge 51, 3) := by decide +kernel
theorem dC_reason_74 : decode mC_reason.2.1 74 = .ok (.aload_n 3, 1) := by decide +kernel
theorem dC_reason_75 : decode mC_reason.2.1 75 = .ok (.iload 5, 2) := by decide +kernel
theorem dC_reason_77 : decode mC_reason.2.1 77 = .ok (.aload_n 0, 1) := by decide +kernel
theorem dC_reason_78 : decode mC_reason.2.1 78 = .ok (.getfield 47, 3) := by decide +kernel
theorem dC_reason_81 : decode mC_reason.2.1 81 = .ok (.invokevirtual 111, 3) := by decide +kernel
theorem dC_reason_84 : decode mC_reason.2.1 84 = .ok (.ifCond .eq 32, 3) := by decide +kernel
theorem dC_reason_87 : decode mC_reason.2.1 87 = .ok (.iload 4, 2) := by decide +kernel
theorem dC_reason_89 : decode mC_reason.2.1 89 = .ok (.ifCond .ne 24, 3) := by decide +kernel
theorem dC_reason_92 : decode mC_reason.2.1 92 = .ok (.sipush 10000, 3) := by decide +kernel
theorem dC_reason_95 : decode mC_reason.2.1 95 = .ok (.aload_n 3, 1) := by decide +kernel
theorem dC_reason_96 : decode mC_reason.2.1 96 = .ok (.getfield 82, 3) := by decide +kernel
theorem dC_reason_99 : decode mC_reason.2.1 99 = .ok (.getfield 135, 3) := by decide +kernel
theorem dC_reason_102 : decode mC_reason.2.1 102 = .ok (.iload 5, 2) := by decide +kernel
theorem dC_reason_104 : decode mC_reason.2.1 104 = .ok (.iaload, 1) := by decide +kernel
theorem dC_reason_105 : decode mC_reason.2.1 105 = .ok (.imul, 1) := by decide +kernel
theorem dC_reason_106 : decode mC_reason.2.1 106 = .ok (.bipush 100, 2) := by decide +kernel
theorem dC_reason_108 : decode mC_reason.2.1 108 = .ok (.iadd, 1) := by decide +kernel
theorem dC_reason_109 : decode mC_reason.2.1 109 = .ok (.iload 5, 2) := by decide +kernel
theorem dC_reason_111 : decode mC_reason.2.1 111 = .ok (.iadd, 1) := by decide +kernel
theorem dC_reason_112 : decode mC_reason.2.1 112 = .ok (.ireturn, 1) := by decide +kernel
theorem dC_reason_113 : decode mC_reason.2.1 113 = .ok (.iinc 4 (-1), 3) := by decide +kernel
theorem dC_reason_116 : decode mC_reason.2.1 116 = .ok (.iinc 5 1, 3) := by decide +kernel
theorem dC_reason_119 : decode mC_reason.2.1 119 = .ok (.goto (-52), 3) := by decide +kernel
theorem dC_reason_122 : decode mC_reason.2.1 122 = .ok (.aload_n 0, 1) := by decide +kernel
theorem dC_reason_123 : decode mC_reason.2.1 123 = .ok (.aload_n 3, 1) := by decide +kernel
theorem dC_reason_124 : decode mC_reason.2.1 124 = .ok (.iload 4, 2) := by decide +kernel
theorem dC_reason_126 : decode mC_reason.2.1 126 = .ok (.invokevirtual 138, 3) := by decide +kernel
theorem dC_reason_129 : decode mC_reason.2.1 129 = .ok (.ireturn, 1) := by decide +kernel
theorem dC_checkPlace_0 : decode mC_checkPlace.2.1 0 = .ok (.iload_n 0, 1) := by decide +kernel
theorem dC_checkPlace_1 : decode mC_checkPlace.2.1 1 = .ok (.ifCond .ge 13, 3) := by decide +kernel
theorem dC_checkPlace_4 : decode mC_checkPlace.2.1 4 = .ok (.new 230, 3) := by decide +kernel
theorem dC_checkPlace_7 : decode mC_checkPlace.2.1 7 = .ok (.dup, 1) := by decide +kernel
theorem dC_checkPlace_8 : decode mC_checkPlace.2.1 8 = .ok (.ldc 235, 2) := by decide +kernel
theorem dC_checkPlace_10 : decode mC_checkPlace.2.1 10 = .ok (.invokespecial 234, 3) := by decide +kernel
theorem dC_checkPlace_13 : decode mC_checkPlace.2.1 13 = .ok (.athrow, 1) := by decide +kernel
theorem dC_checkPlace_14 : decode mC_checkPlace.2.1 14 = .ok (.return_, 1) := by decide +kernel
theorem dC_damageReason_0 : decode mC_damageReason.2.1 0 = .ok (.iload_n 2, 1) := by decide +kernel
theorem dC_damageReason_1 : decode mC_damageReason.2.1 1 = .ok (.istore_n 3, 1) := by decide +kernel
theorem dC_damageReason_2 : decode mC_damageReason.2.1 2 = .ok (.iconst 0, 1) := by decide +kernel
theorem dC_damageReason_3 : decode mC_damageReason.2.1 3 = .ok (.istore 4, 2) := by decide +kernel
theorem dC_damageReason_5 : decode mC_damageReason.2.1 5 = .ok (.iload 4, 2) := by decide +kernel
theorem dC_damageReason_7 : decode mC_damageReason.2.1 7 = .ok (.bipush 100, 2) := by decide +kernel
theorem dC_damageReason_9 : decode mC_damageReason.2.1 9 = .ok (.if_icmp .ge 54, 3) := by decide +kernel
theorem dC_damageReason_12 : decode mC_damageReason.2.1 12 = .ok (.iload 4, 2) := by decide +kernel
theorem dC_damageReason_14 : decode mC_damageReason.2.1 14 = .ok (.aload_n 0, 1) := by decide +kernel
theorem dC_damageReason_15 : decode mC_damageReason.2.1 15 = .ok (.getfield 150, 3) := by decide +kernel
theorem dC_damageReason_18 : decode mC_damageReason.2.1 18 = .ok (.if_icmp .ge 45, 3) := by decide +kernel
theorem dC_damageReason_21 : decode mC_damageReason.2.1 21 = .ok (.aload_n 0, 1) := by decide +kernel
theorem dC_damageReason_22 : decode mC_damageReason.2.1 22 = .ok (.iload 4, 2) := by decide +kernel
theorem dC_damageReason_24 : decode mC_damageReason.2.1 24 = .ok (.aload_n 1, 1) := by decide +kernel
theorem dC_damageReason_25 : decode mC_damageReason.2.1 25 = .ok (.invokevirtual 253, 3) := by decide +kernel
theorem dC_damageReason_28 : decode mC_damageReason.2.1 28 = .ok (.ifCond .eq 29, 3) := by decide +kernel
theorem dC_damageReason_31 : decode mC_damageReason.2.1 31 = .ok (.iload_n 3, 1) := by decide +kernel
theorem dC_damageReason_32 : decode mC_damageReason.2.1 32 = .ok (.ifCond .ne 22, 3) := by decide +kernel
theorem dC_damageReason_35 : decode mC_damageReason.2.1 35 = .ok (.sipush 10000, 3) := by decide +kernel
theorem dC_damageReason_38 : decode mC_damageReason.2.1 38 = .ok (.aload_n 0, 1) := by decide +kernel
theorem dC_damageReason_39 : decode mC_damageReason.2.1 39 = .ok (.getfield 26, 3) := by decide +kernel
theorem dC_damageReason_42 : decode mC_damageReason.2.1 42 = .ok (.iload 4, 2) := by decide +kernel
theorem dC_damageReason_44 : decode mC_damageReason.2.1 44 = .ok (.iaload, 1) := by decide +kernel
theorem dC_damageReason_45 : decode mC_damageReason.2.1 45 = .ok (.imul, 1) := by decide +kernel
theorem dC_damageReason_46 : decode mC_damageReason.2.1 46 = .ok (.sipush 1000, 3) := by decide +kernel
theorem dC_damageReason_49 : decode mC_damageReason.2.1 49 = .ok (.iadd, 1) := by decide +kernel
theorem dC_damageReason_50 : decode mC_damageReason.2.1 50 = .ok (.iload 4, 2) := by decide +kernel
theorem dC_damageReason_52 : decode mC_damageReason.2.1 52 = .ok (.iadd, 1) := by decide +kernel
theorem dC_damageReason_53 : decode mC_damageReason.2.1 53 = .ok (.ireturn, 1) := by decide +kernel
theorem dC_damageReason_54 : decode mC_damageReason.2.1 54 = .ok (.iinc 3 (-1), 3) := by decide +kernel
theorem dC_damageReason_57 : decode mC_damageReason.2.1 57 = .ok (.iinc 4 1, 3) := by decide +kernel
theorem dC_damageReason_60 : decode mC_damageReason.2.1 60 = .ok (.goto (-55), 3) := by decide +kernel
theorem dC_damageReason_63 : decode mC_damageReason.2.1 63 = .ok (.iconst (-1), 1) := by decide +kernel
theorem dC_damageReason_64 : decode mC_damageReason.2.1 64 = .ok (.ireturn, 1) := by decide +kernel
theorem dC_off_0 : decode mC_off.2.1 0 = .ok (.aload_n 0, 1) := by decide +kernel
theorem dC_off_1 : decode mC_off.2.1 1 = .ok (.iload_n 1, 1) := by decide +kernel
theorem dC_off_2 : decode mC_off.2.1 2 = .ok (.invokevirtual 73, 3) := by decide +kernel
theorem dC_off_5 : decode mC_off.2.1 5 = .ok (.astore 5, 2) := by decide +kernel
theorem dC_off_7 : decode mC_off.2.1 7 = .ok (.iload_n 3, 1) := by decide +kernel
theorem dC_off_8 : decode mC_off.2.1 8 = .ok (.invokestatic 77, 3) := by decide +kernel
theorem dC_off_11 : decode mC_off.2.1 11 = .ok (.iload 4, 2) := by decide +kernel
theorem dC_off_13 : decode mC_off.2.1 13 = .ok (.invokestatic 77, 3) := by decide +kernel
theorem dC_off_16 : decode mC_off.2.1 16 = .ok (.aload 5, 2) := by decide +kernel
theorem dC_off_18 : decode mC_off.2.1 18 = .ok (.getfield 142, 3) := by decide +kernel
theorem dC_off_21 : decode mC_off.2.1 21 = .ok (.iload_n 2, 1) := by decide +kernel
theorem dC_off_22 : decode mC_off.2.1 22 = .ok (.if_icmp .ne 13, 3) := by decide +kernel
theorem dC_off_25 : decode mC_off.2.1 25 = .ok (.new 124, 3) := by decide +kernel
theorem dC_off_28 : decode mC_off.2.1 28 = .ok (.dup, 1) := by decide +kernel
theorem dC_off_29 : decode mC_off.2.1 29 = .ok (.ldc 146, 2) := by decide +kernel
theorem dC_off_31 : decode mC_off.2.1 31 = .ok (.invokespecial 128, 3) := by decide +kernel
theorem dC_off_34 : decode mC_off.2.1 34 = .ok (.athrow, 1) := by decide +kernel
theorem dC_off_35 : decode mC_off.2.1 35 = .ok (.iload_n 3, 1) := by decide +kernel
theorem dC_off_36 : decode mC_off.2.1 36 = .ok (.iload 4, 2) := by decide +kernel
theorem dC_off_38 : decode mC_off.2.1 38 = .ok (.if_icmp .ne 13, 3) := by decide +kernel
theorem dC_off_41 : decode mC_off.2.1 41 = .ok (.new 124, 3) := by decide +kernel
theorem dC_off_44 : decode mC_off.2.1 44 = .ok (.dup, 1) := by decide +kernel
theorem dC_off_45 : decode mC_off.2.1 45 = .ok (.ldc 148, 2) := by decide +kernel
theorem dC_off_47 : decode mC_off.2.1 47 = .ok (.invokespecial 128, 3) := by decide +kernel
theorem dC_off_50 : decode mC_off.2.1 50 = .ok (.athrow, 1) := by decide +kernel
theorem dC_off_51 : decode mC_off.2.1 51 = .ok (.aload 5, 2) := by decide +kernel
theorem dC_off_53 : decode mC_off.2.1 53 = .ok (.iload_n 2, 1) := by decide +kernel
theorem dC_off_54 : decode mC_off.2.1 54 = .ok (.putfield 142, 3) := by decide +kernel
theorem dC_off_57 : decode mC_off.2.1 57 = .ok (.return_, 1) := by decide +kernel
theorem dC_damage_0 : decode mC_damage.2.1 0 = .ok (.aload_n 0, 1) := by decide +kernel
theorem dC_damage_1 : decode mC_damage.2.1 1 = .ok (.iload_n 1, 1) := by decide +kernel
theorem dC_damage_2 : decode mC_damage.2.1 2 = .ok (.invokevirtual 73, 3) := by decide +kernel
theorem dC_damage_5 : decode mC_damage.2.1 5 = .ok (.astore_n 3, 1) := by decide +kernel
theorem dC_damage_6 : decode mC_damage.2.1 6 = .ok (.iload_n 2, 1) := by decide +kernel
theorem dC_damage_7 : decode mC_damage.2.1 7 = .ok (.iconst 1, 1) := by decide +kernel
theorem dC_damage_8 : decode mC_damage.2.1 8 = .ok (.iconst 3, 1) := by decide +kernel
theorem dC_damage_9 : decode mC_damage.2.1 9 = .ok (.invokestatic 57, 3) := by decide +kernel
theorem dC_damage_12 : decode mC_damage.2.1 12 = .ok (.aload_n 0, 1) := by decide +kernel
theorem dC_damage_13 : decode mC_damage.2.1 13 = .ok (.getfield 150, 3) := by decide +kernel
theorem dC_damage_16 : decode mC_damage.2.1 16 = .ok (.bipush 100, 2) := by decide +kernel
theorem dC_damage_18 : decode mC_damage.2.1 18 = .ok (.if_icmp .lt 13, 3) := by decide +kernel
theorem dC_damage_21 : decode mC_damage.2.1 21 = .ok (.new 40, 3) := by decide +kernel
theorem dC_damage_24 : decode mC_damage.2.1 24 = .ok (.dup, 1) := by decide +kernel
theorem dC_damage_25 : decode mC_damage.2.1 25 = .ok (.ldc 153, 2) := by decide +kernel
theorem dC_damage_27 : decode mC_damage.2.1 27 = .ok (.invokespecial 44, 3) := by decide +kernel
theorem dC_damage_30 : decode mC_damage.2.1 30 = .ok (.athrow, 1) := by decide +kernel
theorem dC_damage_31 : decode mC_damage.2.1 31 = .ok (.aload_n 0, 1) := by decide +kernel
theorem dC_damage_32 : decode mC_damage.2.1 32 = .ok (.getfield 150, 3) := by decide +kernel
theorem dC_damage_35 : decode mC_damage.2.1 35 = .ok (.istore 4, 2) := by decide +kernel
theorem dC_damage_37 : decode mC_damage.2.1 37 = .ok (.aload_n 0, 1) := by decide +kernel
theorem dC_damage_38 : decode mC_damage.2.1 38 = .ok (.getfield 22, 3) := by decide +kernel
theorem dC_damage_41 : decode mC_damage.2.1 41 = .ok (.iload 4, 2) := by decide +kernel
theorem dC_damage_43 : decode mC_damage.2.1 43 = .ok (.aload_n 3, 1) := by decide +kernel
theorem dC_damage_44 : decode mC_damage.2.1 44 = .ok (.getfield 155, 3) := by decide +kernel
theorem dC_damage_47 : decode mC_damage.2.1 47 = .ok (.iastore, 1) := by decide +kernel
theorem dC_damage_48 : decode mC_damage.2.1 48 = .ok (.aload_n 0, 1) := by decide +kernel
theorem dC_damage_49 : decode mC_damage.2.1 49 = .ok (.getfield 26, 3) := by decide +kernel
theorem dC_damage_52 : decode mC_damage.2.1 52 = .ok (.iload 4, 2) := by decide +kernel
theorem dC_damage_54 : decode mC_damage.2.1 54 = .ok (.iload_n 2, 1) := by decide +kernel
theorem dC_damage_55 : decode mC_damage.2.1 55 = .ok (.iastore, 1) := by decide +kernel
theorem dC_damage_56 : decode mC_damage.2.1 56 = .ok (.aload_n 0, 1) := by decide +kernel
theorem dC_damage_57 : decode mC_damage.2.1 57 = .ok (.dup, 1) := by decide +kernel
theorem dC_damage_58 : decode mC_damage.2.1 58 = .ok (.getfield 150, 3) := by decide +kernel
theorem dC_damage_61 : decode mC_damage.2.1 61 = .ok (.iconst 1, 1) := by decide +kernel
theorem dC_damage_62 : decode mC_damage.2.1 62 = .ok (.iadd, 1) := by decide +kernel
theorem dC_damage_63 : decode mC_damage.2.1 63 = .ok (.putfield 150, 3) := by decide +kernel
theorem dC_damage_66 : decode mC_damage.2.1 66 = .ok (.iload 4, 2) := by decide +kernel
theorem dC_damage_68 : decode mC_damage.2.1 68 = .ok (.ireturn, 1) := by decide +kernel
theorem dC_proof_0 : decode mC_proof.2.1 0 = .ok (.iload_n 1, 1) := by decide +kernel
theorem dC_proof_1 : decode mC_proof.2.1 1 = .ok (.ifCond .lt 17, 3) := by decide +kernel
theorem dC_proof_4 : decode mC_proof.2.1 4 = .ok (.iload_n 1, 1) := by decide +kernel
theorem dC_proof_5 : decode mC_proof.2.1 5 = .ok (.aload_n 0, 1) := by decide +kernel
theorem dC_proof_6 : decode mC_proof.2.1 6 = .ok (.getfield 150, 3) := by decide +kernel
theorem dC_proof_9 : decode mC_proof.2.1 9 = .ok (.if_icmp .ge 9, 3) := by decide +kernel
theorem dC_proof_12 : decode mC_proof.2.1 12 = .ok (.iload_n 1, 1) := by decide +kernel
theorem dC_proof_13 : decode mC_proof.2.1 13 = .ok (.bipush 100, 2) := by decide +kernel
theorem dC_proof_15 : decode mC_proof.2.1 15 = .ok (.if_icmp .lt 13, 3) := by decide +kernel
theorem dC_proof_18 : decode mC_proof.2.1 18 = .ok (.new 114, 3) := by decide +kernel
theorem dC_proof_21 : decode mC_proof.2.1 21 = .ok (.dup, 1) := by decide +kernel
theorem dC_proof_22 : decode mC_proof.2.1 22 = .ok (.ldc 158, 2) := by decide +kernel
theorem dC_proof_24 : decode mC_proof.2.1 24 = .ok (.invokespecial 118, 3) := by decide +kernel
theorem dC_proof_27 : decode mC_proof.2.1 27 = .ok (.athrow, 1) := by decide +kernel
theorem dC_proof_28 : decode mC_proof.2.1 28 = .ok (.iload_n 2, 1) := by decide +kernel
theorem dC_proof_29 : decode mC_proof.2.1 29 = .ok (.iconst 1, 1) := by decide +kernel
theorem dC_proof_30 : decode mC_proof.2.1 30 = .ok (.sipush 9999, 3) := by decide +kernel
theorem dC_proof_33 : decode mC_proof.2.1 33 = .ok (.invokestatic 57, 3) := by decide +kernel
theorem dC_proof_36 : decode mC_proof.2.1 36 = .ok (.aload_n 0, 1) := by decide +kernel
theorem dC_proof_37 : decode mC_proof.2.1 37 = .ok (.getfield 29, 3) := by decide +kernel
theorem dC_proof_40 : decode mC_proof.2.1 40 = .ok (.iload_n 1, 1) := by decide +kernel
theorem dC_proof_41 : decode mC_proof.2.1 41 = .ok (.iaload, 1) := by decide +kernel
theorem dC_proof_42 : decode mC_proof.2.1 42 = .ok (.ifCond .eq 13, 3) := by decide +kernel
theorem dC_proof_45 : decode mC_proof.2.1 45 = .ok (.new 124, 3) := by decide +kernel
theorem dC_proof_48 : decode mC_proof.2.1 48 = .ok (.dup, 1) := by decide +kernel
theorem dC_proof_49 : decode mC_proof.2.1 49 = .ok (.ldc 160, 2) := by decide +kernel
theorem dC_proof_51 : decode mC_proof.2.1 51 = .ok (.invokespecial 128, 3) := by decide +kernel
theorem dC_proof_54 : decode mC_proof.2.1 54 = .ok (.athrow, 1) := by decide +kernel
theorem dC_proof_55 : decode mC_proof.2.1 55 = .ok (.aload_n 0, 1) := by decide +kernel
theorem dC_proof_56 : decode mC_proof.2.1 56 = .ok (.getfield 29, 3) := by decide +kernel
theorem dC_proof_59 : decode mC_proof.2.1 59 = .ok (.iload_n 1, 1) := by decide +kernel
theorem dC_proof_60 : decode mC_proof.2.1 60 = .ok (.iload_n 2, 1) := by decide +kernel
theorem dC_proof_61 : decode mC_proof.2.1 61 = .ok (.iastore, 1) := by decide +kernel
theorem dC_proof_62 : decode mC_proof.2.1 62 = .ok (.return_, 1) := by decide +kernel
theorem dC_need_0 : decode mC_need.2.1 0 = .ok (.aload_n 0, 1) := by decide +kernel
theorem dC_need_1 : decode mC_need.2.1 1 = .ok (.iload_n 1, 1) := by decide +kernel
theorem dC_need_2 : decode mC_need.2.1 2 = .ok (.invokevirtual 32, 3) := by decide +kernel
theorem dC_need_5 : decode mC_need.2.1 5 = .ok (.astore 4, 2) := by decide +kernel
theorem dC_need_7 : decode mC_need.2.1 7 = .ok (.iload_n 2, 1) := by decide +kernel
theorem dC_need_8 : decode mC_need.2.1 8 = .ok (.invokestatic 162, 3) := by decide +kernel
theorem dC_need_11 : decode mC_need.2.1 11 = .ok (.iload_n 3, 1) := by decide +kernel
theorem dC_need_12 : decode mC_need.2.1 12 = .ok (.iconst 0, 1) := by decide +kernel
theorem dC_need_13 : decode mC_need.2.1 13 = .ok (.bipush 9, 2) := by decide +kernel
theorem dC_need_15 : decode mC_need.2.1 15 = .ok (.invokestatic 57, 3) := by decide +kernel
theorem dC_need_18 : decode mC_need.2.1 18 = .ok (.aload 4, 2) := by decide +kernel
theorem dC_need_20 : decode mC_need.2.1 20 = .ok (.getfield 165, 3) := by decide +kernel
theorem dC_need_23 : decode mC_need.2.1 23 = .ok (.iload_n 2, 1) := by decide +kernel
theorem dC_need_24 : decode mC_need.2.1 24 = .ok (.iload_n 3, 1) := by decide +kernel
theorem dC_need_25 : decode mC_need.2.1 25 = .ok (.iastore, 1) := by decide +kernel
theorem dC_need_26 : decode mC_need.2.1 26 = .ok (.return_, 1) := by decide +kernel
theorem dC_checkThing_0 : decode mC_checkThing.2.1 0 = .ok (.iload_n 0, 1) := by decide +kernel
theorem dC_checkThing_1 : decode mC_checkThing.2.1 1 = .ok (.ifCond .lt 9, 3) := by decide +kernel
theorem dC_checkThing_4 : decode mC_checkThing.2.1 4 = .ok (.iload_n 0, 1) := by decide +kernel
theorem dC_checkThing_5 : decode mC_checkThing.2.1 5 = .ok (.bipush 10, 2) := by decide +kernel
theorem dC_checkThing_7 : decode mC_checkThing.2.1 7 = .ok (.if_icmp .lt 13, 3) := by decide +kernel
theorem dC_checkThing_10 : decode mC_checkThing.2.1 10 = .ok (.new 114, 3) := by decide +kernel
theorem dC_checkThing_13 : decode mC_checkThing.2.1 13 = .ok (.dup, 1) := by decide +kernel
theorem dC_checkThing_14 : decode mC_checkThing.2.1 14 = .ok (.ldc 226, 2) := by decide +kernel
theorem dC_checkThing_16 : decode mC_checkThing.2.1 16 = .ok (.invokespecial 118, 3) := by decide +kernel
theorem dC_checkThing_19 : decode mC_checkThing.2.1 19 = .ok (.athrow, 1) := by decide +kernel
theorem dC_checkThing_20 : decode mC_checkThing.2.1 20 = .ok (.return_, 1) := by decide +kernel
theorem dC_put_0 : decode mC_put.2.1 0 = .ok (.aload_n 0, 1) := by decide +kernel
theorem dC_put_1 : decode mC_put.2.1 1 = .ok (.iload_n 1, 1) := by decide +kernel
theorem dC_put_2 : decode mC_put.2.1 2 = .ok (.invokevirtual 73, 3) := by decide +kernel
theorem dC_put_5 : decode mC_put.2.1 5 = .ok (.astore 4, 2) := by decide +kernel
theorem dC_put_7 : decode mC_put.2.1 7 = .ok (.iload_n 2, 1) := by decide +kernel
theorem dC_put_8 : decode mC_put.2.1 8 = .ok (.invokestatic 162, 3) := by decide +kernel
theorem dC_put_11 : decode mC_put.2.1 11 = .ok (.iload_n 3, 1) := by decide +kernel
theorem dC_put_12 : decode mC_put.2.1 12 = .ok (.iconst 1, 1) := by decide +kernel
theorem dC_put_13 : decode mC_put.2.1 13 = .ok (.bipush 9, 2) := by decide +kernel
theorem dC_put_15 : decode mC_put.2.1 15 = .ok (.invokestatic 57, 3) := by decide +kernel
theorem dC_put_18 : decode mC_put.2.1 18 = .ok (.aload 4, 2) := by decide +kernel
theorem dC_put_20 : decode mC_put.2.1 20 = .ok (.getfield 168, 3) := by decide +kernel
theorem dC_put_23 : decode mC_put.2.1 23 = .ok (.iload_n 2, 1) := by decide +kernel
theorem dC_put_24 : decode mC_put.2.1 24 = .ok (.iaload, 1) := by decide +kernel
theorem dC_put_25 : decode mC_put.2.1 25 = .ok (.iload_n 3, 1) := by decide +kernel
theorem dC_put_26 : decode mC_put.2.1 26 = .ok (.bipush 99, 2) := by decide +kernel
theorem dC_put_28 : decode mC_put.2.1 28 = .ok (.invokestatic 171, 3) := by decide +kernel
theorem dC_put_31 : decode mC_put.2.1 31 = .ok (.aload 4, 2) := by decide +kernel
theorem dC_put_33 : decode mC_put.2.1 33 = .ok (.getfield 168, 3) := by decide +kernel
theorem dC_put_36 : decode mC_put.2.1 36 = .ok (.iload_n 2, 1) := by decide +kernel
theorem dC_put_37 : decode mC_put.2.1 37 = .ok (.dup2, 1) := by decide +kernel
theorem dC_put_38 : decode mC_put.2.1 38 = .ok (.iaload, 1) := by decide +kernel
theorem dC_put_39 : decode mC_put.2.1 39 = .ok (.iload_n 3, 1) := by decide +kernel
theorem dC_put_40 : decode mC_put.2.1 40 = .ok (.iadd, 1) := by decide +kernel
theorem dC_put_41 : decode mC_put.2.1 41 = .ok (.iastore, 1) := by decide +kernel
theorem dC_put_42 : decode mC_put.2.1 42 = .ok (.aload 4, 2) := by decide +kernel
theorem dC_put_44 : decode mC_put.2.1 44 = .ok (.getfield 168, 3) := by decide +kernel
theorem dC_put_47 : decode mC_put.2.1 47 = .ok (.iload_n 2, 1) := by decide +kernel
theorem dC_put_48 : decode mC_put.2.1 48 = .ok (.iaload, 1) := by decide +kernel
theorem dC_put_49 : decode mC_put.2.1 49 = .ok (.ireturn, 1) := by decide +kernel
theorem dC_checkRoom_0 : decode mC_checkRoom.2.1 0 = .ok (.iload_n 1, 1) := by decide +kernel
theorem dC_checkRoom_1 : decode mC_checkRoom.2.1 1 = .ok (.iload_n 2, 1) := by decide +kernel
theorem dC_checkRoom_2 : decode mC_checkRoom.2.1 2 = .ok (.iload_n 0, 1) := by decide +kernel
theorem dC_checkRoom_3 : decode mC_checkRoom.2.1 3 = .ok (.isub, 1) := by decide +kernel
theorem dC_checkRoom_4 : decode mC_checkRoom.2.1 4 = .ok (.if_icmp .le 13, 3) := by decide +kernel
theorem dC_checkRoom_7 : decode mC_checkRoom.2.1 7 = .ok (.new 40, 3) := by decide +kernel
theorem dC_checkRoom_10 : decode mC_checkRoom.2.1 10 = .ok (.dup, 1) := by decide +kernel
theorem dC_checkRoom_11 : decode mC_checkRoom.2.1 11 = .ok (.ldc 239, 2) := by decide +kernel
theorem dC_checkRoom_13 : decode mC_checkRoom.2.1 13 = .ok (.invokespecial 44, 3) := by decide +kernel
theorem dC_checkRoom_16 : decode mC_checkRoom.2.1 16 = .ok (.athrow, 1) := by decide +kernel
theorem dC_checkRoom_17 : decode mC_checkRoom.2.1 17 = .ok (.return_, 1) := by decide +kernel
theorem dC_swap_0 : decode mC_swap.2.1 0 = .ok (.aload_n 0, 1) := by decide +kernel
theorem dC_swap_1 : decode mC_swap.2.1 1 = .ok (.iload_n 1, 1) := by decide +kernel
theorem dC_swap_2 : decode mC_swap.2.1 2 = .ok (.invokevirtual 73, 3) := by decide +kernel
theorem dC_swap_5 : decode mC_swap.2.1 5 = .ok (.astore 4, 2) := by decide +kernel
theorem dC_swap_7 : decode mC_swap.2.1 7 = .ok (.aload_n 0, 1) := by decide +kernel
theorem dC_swap_8 : decode mC_swap.2.1 8 = .ok (.iload_n 2, 1) := by decide +kernel
theorem dC_swap_9 : decode mC_swap.2.1 9 = .ok (.invokevirtual 73, 3) := by decide +kernel
theorem dC_swap_12 : decode mC_swap.2.1 12 = .ok (.astore 5, 2) := by decide +kernel
theorem dC_swap_14 : decode mC_swap.2.1 14 = .ok (.iload_n 1, 1) := by decide +kernel
theorem dC_swap_15 : decode mC_swap.2.1 15 = .ok (.iload_n 2, 1) := by decide +kernel
theorem dC_swap_16 : decode mC_swap.2.1 16 = .ok (.if_icmp .ne 13, 3) := by decide +kernel
theorem dC_swap_19 : decode mC_swap.2.1 19 = .ok (.new 114, 3) := by decide +kernel
theorem dC_swap_22 : decode mC_swap.2.1 22 = .ok (.dup, 1) := by decide +kernel
theorem dC_swap_23 : decode mC_swap.2.1 23 = .ok (.ldc 174, 2) := by decide +kernel
theorem dC_swap_25 : decode mC_swap.2.1 25 = .ok (.invokespecial 118, 3) := by decide +kernel
theorem dC_swap_28 : decode mC_swap.2.1 28 = .ok (.athrow, 1) := by decide +kernel
theorem dC_swap_29 : decode mC_swap.2.1 29 = .ok (.iload_n 3, 1) := by decide +kernel
theorem dC_swap_30 : decode mC_swap.2.1 30 = .ok (.invokestatic 162, 3) := by decide +kernel
theorem dC_swap_33 : decode mC_swap.2.1 33 = .ok (.aload 4, 2) := by decide +kernel
theorem dC_swap_35 : decode mC_swap.2.1 35 = .ok (.getfield 168, 3) := by decide +kernel
theorem dC_swap_38 : decode mC_swap.2.1 38 = .ok (.iload_n 3, 1) := by decide +kernel
theorem dC_swap_39 : decode mC_swap.2.1 39 = .ok (.iaload, 1) := by decide +kernel
theorem dC_swap_40 : decode mC_swap.2.1 40 = .ok (.istore 6, 2) := by decide +kernel
theorem dC_swap_42 : decode mC_swap.2.1 42 = .ok (.iload 6, 2) := by decide +kernel
theorem dC_swap_44 : decode mC_swap.2.1 44 = .ok (.aload 5, 2) := by decide +kernel
theorem dC_swap_46 : decode mC_swap.2.1 46 = .ok (.getfield 168, 3) := by decide +kernel
theorem dC_swap_49 : decode mC_swap.2.1 49 = .ok (.iload_n 3, 1) := by decide +kernel
theorem dC_swap_50 : decode mC_swap.2.1 50 = .ok (.iaload, 1) := by decide +kernel
theorem dC_swap_51 : decode mC_swap.2.1 51 = .ok (.if_icmp .ne 13, 3) := by decide +kernel
theorem dC_swap_54 : decode mC_swap.2.1 54 = .ok (.new 124, 3) := by decide +kernel
theorem dC_swap_57 : decode mC_swap.2.1 57 = .ok (.dup, 1) := by decide +kernel
theorem dC_swap_58 : decode mC_swap.2.1 58 = .ok (.ldc 176, 2) := by decide +kernel
theorem dC_swap_60 : decode mC_swap.2.1 60 = .ok (.invokespecial 128, 3) := by decide +kernel
theorem dC_swap_63 : decode mC_swap.2.1 63 = .ok (.athrow, 1) := by decide +kernel
theorem dC_swap_64 : decode mC_swap.2.1 64 = .ok (.aload 4, 2) := by decide +kernel
theorem dC_swap_66 : decode mC_swap.2.1 66 = .ok (.getfield 168, 3) := by decide +kernel
theorem dC_swap_69 : decode mC_swap.2.1 69 = .ok (.iload_n 3, 1) := by decide +kernel
theorem dC_swap_70 : decode mC_swap.2.1 70 = .ok (.aload 5, 2) := by decide +kernel
theorem dC_swap_72 : decode mC_swap.2.1 72 = .ok (.getfield 168, 3) := by decide +kernel
theorem dC_swap_75 : decode mC_swap.2.1 75 = .ok (.iload_n 3, 1) := by decide +kernel
theorem dC_swap_76 : decode mC_swap.2.1 76 = .ok (.iaload, 1) := by decide +kernel
theorem dC_swap_77 : decode mC_swap.2.1 77 = .ok (.iastore, 1) := by decide +kernel
theorem dC_swap_78 : decode mC_swap.2.1 78 = .ok (.aload 5, 2) := by decide +kernel
theorem dC_swap_80 : decode mC_swap.2.1 80 = .ok (.getfield 168, 3) := by decide +kernel
theorem dC_swap_83 : decode mC_swap.2.1 83 = .ok (.iload_n 3, 1) := by decide +kernel
theorem dC_swap_84 : decode mC_swap.2.1 84 = .ok (.iload 6, 2) := by decide +kernel
theorem dC_swap_86 : decode mC_swap.2.1 86 = .ok (.iastore, 1) := by decide +kernel
theorem dC_swap_87 : decode mC_swap.2.1 87 = .ok (.aload 4, 2) := by decide +kernel
theorem dC_swap_89 : decode mC_swap.2.1 89 = .ok (.getfield 168, 3) := by decide +kernel
theorem dC_swap_92 : decode mC_swap.2.1 92 = .ok (.iload_n 3, 1) := by decide +kernel
theorem dC_swap_93 : decode mC_swap.2.1 93 = .ok (.iaload, 1) := by decide +kernel
theorem dC_swap_94 : decode mC_swap.2.1 94 = .ok (.ireturn, 1) := by decide +kernel
theorem dC_spare_0 : decode mC_spare.2.1 0 = .ok (.aload_n 0, 1) := by decide +kernel
theorem dC_spare_1 : decode mC_spare.2.1 1 = .ok (.aload_n 0, 1) := by decide +kernel
theorem dC_spare_2 : decode mC_spare.2.1 2 = .ok (.iload_n 1, 1) := by decide +kernel
theorem dC_spare_3 : decode mC_spare.2.1 3 = .ok (.invokevirtual 73, 3) := by decide +kernel
theorem dC_spare_6 : decode mC_spare.2.1 6 = .ok (.invokevirtual 178, 3) := by decide +kernel
theorem dC_spare_9 : decode mC_spare.2.1 9 = .ok (.astore_n 2, 1) := by decide +kernel
theorem dC_spare_10 : decode mC_spare.2.1 10 = .ok (.aload_n 2, 1) := by decide +kernel
theorem dC_spare_11 : decode mC_spare.2.1 11 = .ok (.ifnonnull 5, 3) := by decide +kernel
theorem dC_spare_14 : decode mC_spare.2.1 14 = .ok (.iconst (-1), 1) := by decide +kernel
theorem dC_spare_15 : decode mC_spare.2.1 15 = .ok (.ireturn, 1) := by decide +kernel
theorem dC_spare_16 : decode mC_spare.2.1 16 = .ok (.aload_n 2, 1) := by decide +kernel
theorem dC_spare_17 : decode mC_spare.2.1 17 = .ok (.invokevirtual 182, 3) := by decide +kernel
theorem dC_spare_20 : decode mC_spare.2.1 20 = .ok (.istore_n 3, 1) := by decide +kernel
theorem dC_spare_21 : decode mC_spare.2.1 21 = .ok (.iload_n 3, 1) := by decide +kernel
theorem dC_spare_22 : decode mC_spare.2.1 22 = .ok (.iconst (-1), 1) := by decide +kernel
theorem dC_spare_23 : decode mC_spare.2.1 23 = .ok (.if_icmp .ne 10, 3) := by decide +kernel
theorem dC_spare_26 : decode mC_spare.2.1 26 = .ok (.aload_n 2, 1) := by decide +kernel
theorem dC_spare_27 : decode mC_spare.2.1 27 = .ok (.getfield 155, 3) := by decide +kernel
theorem dC_spare_30 : decode mC_spare.2.1 30 = .ok (.goto 7, 3) := by decide +kernel
theorem dC_spare_33 : decode mC_spare.2.1 33 = .ok (.bipush (-2), 2) := by decide +kernel
theorem dC_spare_35 : decode mC_spare.2.1 35 = .ok (.iload_n 3, 1) := by decide +kernel
theorem dC_spare_36 : decode mC_spare.2.1 36 = .ok (.isub, 1) := by decide +kernel
theorem dC_spare_37 : decode mC_spare.2.1 37 = .ok (.ireturn, 1) := by decide +kernel
theorem dC_bestSpare_0 : decode mC_bestSpare.2.1 0 = .ok (.aconst_null, 1) := by decide +kernel
theorem dC_bestSpare_1 : decode mC_bestSpare.2.1 1 = .ok (.astore_n 2, 1) := by decide +kernel
theorem dC_bestSpare_2 : decode mC_bestSpare.2.1 2 = .ok (.iconst 0, 1) := by decide +kernel
theorem dC_bestSpare_3 : decode mC_bestSpare.2.1 3 = .ok (.istore_n 3, 1) := by decide +kernel
theorem dC_bestSpare_4 : decode mC_bestSpare.2.1 4 = .ok (.iload_n 3, 1) := by decide +kernel
theorem dC_bestSpare_5 : decode mC_bestSpare.2.1 5 = .ok (.bipush 20, 2) := by decide +kernel
theorem dC_bestSpare_7 : decode mC_bestSpare.2.1 7 = .ok (.if_icmp .ge 55, 3) := by decide +kernel
theorem dC_bestSpare_10 : decode mC_bestSpare.2.1 10 = .ok (.aload_n 0, 1) := by decide +kernel
theorem dC_bestSpare_11 : decode mC_bestSpare.2.1 11 = .ok (.getfield 18, 3) := by decide +kernel
theorem dC_bestSpare_14 : decode mC_bestSpare.2.1 14 = .ok (.iload_n 3, 1) := by decide +kernel
theorem dC_bestSpare_15 : decode mC_bestSpare.2.1 15 = .ok (.aaload, 1) := by decide +kernel
theorem dC_bestSpare_16 : decode mC_bestSpare.2.1 16 = .ok (.ifnull 46, 3) := by decide +kernel
theorem dC_bestSpare_19 : decode mC_bestSpare.2.1 19 = .ok (.aload_n 0, 1) := by decide +kernel
theorem dC_bestSpare_20 : decode mC_bestSpare.2.1 20 = .ok (.getfield 18, 3) := by decide +kernel
theorem dC_bestSpare_23 : decode mC_bestSpare.2.1 23 = .ok (.iload_n 3, 1) := by decide +kernel
theorem dC_bestSpare_24 : decode mC_bestSpare.2.1 24 = .ok (.aaload, 1) := by decide +kernel
theorem dC_bestSpare_25 : decode mC_bestSpare.2.1 25 = .ok (.astore 4, 2) := by decide +kernel
theorem dC_bestSpare_27 : decode mC_bestSpare.2.1 27 = .ok (.aload_n 0, 1) := by decide +kernel
theorem dC_bestSpare_28 : decode mC_bestSpare.2.1 28 = .ok (.aload 4, 2) := by decide +kernel
theorem dC_bestSpare_30 : decode mC_bestSpare.2.1 30 = .ok (.aload_n 1, 1) := by decide +kernel
theorem dC_bestSpare_31 : decode mC_bestSpare.2.1 31 = .ok (.invokevirtual 257, 3) := by decide +kernel
theorem dC_bestSpare_34 : decode mC_bestSpare.2.1 34 = .ok (.ifCond .eq 22, 3) := by decide +kernel
theorem dC_bestSpare_37 : decode mC_bestSpare.2.1 37 = .ok (.aload_n 2, 1) := by decide +kernel
theorem dC_bestSpare_38 : decode mC_bestSpare.2.1 38 = .ok (.ifnull 15, 3) := by decide +kernel
theorem dC_bestSpare_41 : decode mC_bestSpare.2.1 41 = .ok (.aload 4, 2) := by decide +kernel
theorem dC_bestSpare_43 : decode mC_bestSpare.2.1 43 = .ok (.getfield 190, 3) := by decide +kernel
theorem dC_bestSpare_46 : decode mC_bestSpare.2.1 46 = .ok (.aload_n 2, 1) := by decide +kernel
theorem dC_bestSpare_47 : decode mC_bestSpare.2.1 47 = .ok (.getfield 190, 3) := by decide +kernel
theorem dC_bestSpare_50 : decode mC_bestSpare.2.1 50 = .ok (.if_icmp .ge 6, 3) := by decide +kernel
theorem dC_bestSpare_53 : decode mC_bestSpare.2.1 53 = .ok (.aload 4, 2) := by decide +kernel
theorem dC_bestSpare_55 : decode mC_bestSpare.2.1 55 = .ok (.astore_n 2, 1) := by decide +kernel
theorem dC_bestSpare_56 : decode mC_bestSpare.2.1 56 = .ok (.iinc 3 1, 3) := by decide +kernel
theorem dC_bestSpare_59 : decode mC_bestSpare.2.1 59 = .ok (.goto (-55), 3) := by decide +kernel
theorem dC_bestSpare_62 : decode mC_bestSpare.2.1 62 = .ok (.aload_n 2, 1) := by decide +kernel
theorem dC_bestSpare_63 : decode mC_bestSpare.2.1 63 = .ok (.areturn, 1) := by decide +kernel
theorem dC_isSpareFor_0 : decode mC_isSpareFor.2.1 0 = .ok (.aload_n 1, 1) := by decide +kernel
theorem dC_isSpareFor_1 : decode mC_isSpareFor.2.1 1 = .ok (.getfield 155, 3) := by decide +kernel
theorem dC_isSpareFor_4 : decode mC_isSpareFor.2.1 4 = .ok (.aload_n 2, 1) := by decide +kernel
theorem dC_isSpareFor_5 : decode mC_isSpareFor.2.1 5 = .ok (.getfield 155, 3) := by decide +kernel
theorem dC_isSpareFor_8 : decode mC_isSpareFor.2.1 8 = .ok (.if_icmp .eq 33, 3) := by decide +kernel
theorem dC_isSpareFor_11 : decode mC_isSpareFor.2.1 11 = .ok (.aload_n 1, 1) := by decide +kernel
theorem dC_isSpareFor_12 : decode mC_isSpareFor.2.1 12 = .ok (.getfield 82, 3) := by decide +kernel
theorem dC_isSpareFor_15 : decode mC_isSpareFor.2.1 15 = .ok (.aload_n 2, 1) := by decide +kernel
theorem dC_isSpareFor_16 : decode mC_isSpareFor.2.1 16 = .ok (.getfield 82, 3) := by decide +kernel
theorem dC_isSpareFor_19 : decode mC_isSpareFor.2.1 19 = .ok (.if_acmp .ne 22, 3) := by decide +kernel
theorem dC_isSpareFor_22 : decode mC_isSpareFor.2.1 22 = .ok (.aload_n 1, 1) := by decide +kernel
theorem dC_isSpareFor_23 : decode mC_isSpareFor.2.1 23 = .ok (.getfield 261, 3) := by decide +kernel
theorem dC_isSpareFor_26 : decode mC_isSpareFor.2.1 26 = .ok (.ifCond .eq 15, 3) := by decide +kernel
theorem dC_isSpareFor_29 : decode mC_isSpareFor.2.1 29 = .ok (.aload_n 0, 1) := by decide +kernel
theorem dC_isSpareFor_30 : decode mC_isSpareFor.2.1 30 = .ok (.aload_n 1, 1) := by decide +kernel
theorem dC_isSpareFor_31 : decode mC_isSpareFor.2.1 31 = .ok (.invokevirtual 120, 3) := by decide +kernel
theorem dC_isSpareFor_34 : decode mC_isSpareFor.2.1 34 = .ok (.ifCond .eq 7, 3) := by decide +kernel
theorem dC_isSpareFor_37 : decode mC_isSpareFor.2.1 37 = .ok (.iconst 1, 1) := by decide +kernel
theorem dC_isSpareFor_38 : decode mC_isSpareFor.2.1 38 = .ok (.goto 4, 3) := by decide +kernel
theorem dC_isSpareFor_41 : decode mC_isSpareFor.2.1 41 = .ok (.iconst 0, 1) := by decide +kernel
theorem dC_isSpareFor_42 : decode mC_isSpareFor.2.1 42 = .ok (.ireturn, 1) := by decide +kernel
theorem dC_fuel_0 : decode mC_fuel.2.1 0 = .ok (.aload_n 0, 1) := by decide +kernel
theorem dC_fuel_1 : decode mC_fuel.2.1 1 = .ok (.iload_n 1, 1) := by decide +kernel
theorem dC_fuel_2 : decode mC_fuel.2.1 2 = .ok (.invokevirtual 73, 3) := by decide +kernel
theorem dC_fuel_5 : decode mC_fuel.2.1 5 = .ok (.astore_n 3, 1) := by decide +kernel
theorem dC_fuel_6 : decode mC_fuel.2.1 6 = .ok (.iload_n 2, 1) := by decide +kernel
theorem dC_fuel_7 : decode mC_fuel.2.1 7 = .ok (.iconst 1, 1) := by decide +kernel
theorem dC_fuel_8 : decode mC_fuel.2.1 8 = .ok (.ldc 119, 2) := by decide +kernel
theorem dC_fuel_10 : decode mC_fuel.2.1 10 = .ok (.invokestatic 57, 3) := by decide +kernel
theorem dC_fuel_13 : decode mC_fuel.2.1 13 = .ok (.aload_n 3, 1) := by decide +kernel
theorem dC_fuel_14 : decode mC_fuel.2.1 14 = .ok (.getfield 186, 3) := by decide +kernel
theorem dC_fuel_17 : decode mC_fuel.2.1 17 = .ok (.iload_n 2, 1) := by decide +kernel
theorem dC_fuel_18 : decode mC_fuel.2.1 18 = .ok (.ldc 189, 2) := by decide +kernel
theorem dC_fuel_20 : decode mC_fuel.2.1 20 = .ok (.invokestatic 171, 3) := by decide +kernel
theorem dC_fuel_23 : decode mC_fuel.2.1 23 = .ok (.aload_n 3, 1) := by decide +kernel
theorem dC_fuel_24 : decode mC_fuel.2.1 24 = .ok (.dup, 1) := by decide +kernel
theorem dC_fuel_25 : decode mC_fuel.2.1 25 = .ok (.getfield 186, 3) := by decide +kernel
theorem dC_fuel_28 : decode mC_fuel.2.1 28 = .ok (.iload_n 2, 1) := by decide +kernel
theorem dC_fuel_29 : decode mC_fuel.2.1 29 = .ok (.iadd, 1) := by decide +kernel
theorem dC_fuel_30 : decode mC_fuel.2.1 30 = .ok (.putfield 186, 3) := by decide +kernel
theorem dC_fuel_33 : decode mC_fuel.2.1 33 = .ok (.aload_n 3, 1) := by decide +kernel
theorem dC_fuel_34 : decode mC_fuel.2.1 34 = .ok (.getfield 186, 3) := by decide +kernel
theorem dC_fuel_37 : decode mC_fuel.2.1 37 = .ok (.ireturn, 1) := by decide +kernel
theorem dC_using_0 : decode mC_using.2.1 0 = .ok (.aload_n 0, 1) := by decide +kernel
theorem dC_using_1 : decode mC_using.2.1 1 = .ok (.iload_n 1, 1) := by decide +kernel
theorem dC_using_2 : decode mC_using.2.1 2 = .ok (.invokevirtual 73, 3) := by decide +kernel
theorem dC_using_5 : decode mC_using.2.1 5 = .ok (.astore_n 3, 1) := by decide +kernel
theorem dC_using_6 : decode mC_using.2.1 6 = .ok (.iload_n 2, 1) := by decide +kernel
theorem dC_using_7 : decode mC_using.2.1 7 = .ok (.ifCond .eq 18, 3) := by decide +kernel
theorem dC_using_10 : decode mC_using.2.1 10 = .ok (.iload_n 2, 1) := by decide +kernel
theorem dC_using_11 : decode mC_using.2.1 11 = .ok (.iconst 1, 1) := by decide +kernel
theorem dC_using_12 : decode mC_using.2.1 12 = .ok (.if_icmp .eq 13, 3) := by decide +kernel
theorem dC_using_15 : decode mC_using.2.1 15 = .ok (.new 114, 3) := by decide +kernel
theorem dC_using_18 : decode mC_using.2.1 18 = .ok (.dup, 1) := by decide +kernel
theorem dC_using_19 : decode mC_using.2.1 19 = .ok (.ldc 116, 2) := by decide +kernel
theorem dC_using_21 : decode mC_using.2.1 21 = .ok (.invokespecial 118, 3) := by decide +kernel
theorem dC_using_24 : decode mC_using.2.1 24 = .ok (.athrow, 1) := by decide +kernel
theorem dC_using_25 : decode mC_using.2.1 25 = .ok (.aload_n 3, 1) := by decide +kernel
theorem dC_using_26 : decode mC_using.2.1 26 = .ok (.getfield 190, 3) := by decide +kernel
theorem dC_using_29 : decode mC_using.2.1 29 = .ok (.ifCond .ne 13, 3) := by decide +kernel
theorem dC_using_32 : decode mC_using.2.1 32 = .ok (.new 124, 3) := by decide +kernel
theorem dC_using_35 : decode mC_using.2.1 35 = .ok (.dup, 1) := by decide +kernel
theorem dC_using_36 : decode mC_using.2.1 36 = .ok (.ldc 193, 2) := by decide +kernel
theorem dC_using_38 : decode mC_using.2.1 38 = .ok (.invokespecial 128, 3) := by decide +kernel
theorem dC_using_41 : decode mC_using.2.1 41 = .ok (.athrow, 1) := by decide +kernel
theorem dC_using_42 : decode mC_using.2.1 42 = .ok (.ldc2_w 195, 3) := by decide +kernel
theorem dC_using_45 : decode mC_using.2.1 45 = .ok (.aload_n 3, 1) := by decide +kernel
theorem dC_using_46 : decode mC_using.2.1 46 = .ok (.getfield 186, 3) := by decide +kernel
theorem dC_using_49 : decode mC_using.2.1 49 = .ok (.i2l, 1) := by decide +kernel
theorem dC_using_50 : decode mC_using.2.1 50 = .ok (.lmul, 1) := by decide +kernel
theorem dC_using_51 : decode mC_using.2.1 51 = .ok (.lstore 4, 2) := by decide +kernel
theorem dC_using_53 : decode mC_using.2.1 53 = .ok (.aload_n 3, 1) := by decide +kernel
theorem dC_using_54 : decode mC_using.2.1 54 = .ok (.getfield 190, 3) := by decide +kernel
theorem dC_using_57 : decode mC_using.2.1 57 = .ok (.i2l, 1) := by decide +kernel
theorem dC_using_58 : decode mC_using.2.1 58 = .ok (.lstore 6, 2) := by decide +kernel
theorem dC_using_60 : decode mC_using.2.1 60 = .ok (.lload 4, 2) := by decide +kernel
theorem dC_using_62 : decode mC_using.2.1 62 = .ok (.lload 6, 2) := by decide +kernel
theorem dC_using_64 : decode mC_using.2.1 64 = .ok (.invokestatic 197, 3) := by decide +kernel
theorem dC_using_67 : decode mC_using.2.1 67 = .ok (.lstore 8, 2) := by decide +kernel
theorem dC_using_69 : decode mC_using.2.1 69 = .ok (.iload_n 2, 1) := by decide +kernel
theorem dC_using_70 : decode mC_using.2.1 70 = .ok (.ifCond .ne 8, 3) := by decide +kernel
theorem dC_using_73 : decode mC_using.2.1 73 = .ok (.lload 4, 2) := by decide +kernel
theorem dC_using_75 : decode mC_using.2.1 75 = .ok (.goto 5, 3) := by decide +kernel
theorem dC_using_78 : decode mC_using.2.1 78 = .ok (.lload 6, 2) := by decide +kernel
theorem dC_using_80 : decode mC_using.2.1 80 = .ok (.lload 8, 2) := by decide +kernel
theorem dC_using_82 : decode mC_using.2.1 82 = .ok (.ldiv, 1) := by decide +kernel
theorem dC_using_83 : decode mC_using.2.1 83 = .ok (.lreturn, 1) := by decide +kernel
theorem dC_commonDivisor_0 : decode mC_commonDivisor.2.1 0 = .ok (.lload_n 0, 1) := by decide +kernel
theorem dC_commonDivisor_1 : decode mC_commonDivisor.2.1 1 = .ok (.lstore 4, 2) := by decide +kernel
theorem dC_commonDivisor_3 : decode mC_commonDivisor.2.1 3 = .ok (.lload_n 2, 1) := by decide +kernel
theorem dC_commonDivisor_4 : decode mC_commonDivisor.2.1 4 = .ok (.lstore 6, 2) := by decide +kernel
theorem dC_commonDivisor_6 : decode mC_commonDivisor.2.1 6 = .ok (.iconst 0, 1) := by decide +kernel
theorem dC_commonDivisor_7 : decode mC_commonDivisor.2.1 7 = .ok (.istore 8, 2) := by decide +kernel
theorem dC_commonDivisor_9 : decode mC_commonDivisor.2.1 9 = .ok (.iload 8, 2) := by decide +kernel
theorem dC_commonDivisor_11 : decode mC_commonDivisor.2.1 11 = .ok (.sipush 200, 3) := by decide +kernel
theorem dC_commonDivisor_14 : decode mC_commonDivisor.2.1 14 = .ok (.if_icmp .ge 31, 3) := by decide +kernel
theorem dC_commonDivisor_17 : decode mC_commonDivisor.2.1 17 = .ok (.lload 6, 2) := by decide +kernel
theorem dC_commonDivisor_19 : decode mC_commonDivisor.2.1 19 = .ok (.lconst 0, 1) := by decide +kernel
theorem dC_commonDivisor_20 : decode mC_commonDivisor.2.1 20 = .ok (.lcmp, 1) := by decide +kernel
theorem dC_commonDivisor_21 : decode mC_commonDivisor.2.1 21 = .ok (.ifCond .eq 24, 3) := by decide +kernel
theorem dC_commonDivisor_24 : decode mC_commonDivisor.2.1 24 = .ok (.lload 4, 2) := by decide +kernel
theorem dC_commonDivisor_26 : decode mC_commonDivisor.2.1 26 = .ok (.lload 6, 2) := by decide +kernel
theorem dC_commonDivisor_28 : decode mC_commonDivisor.2.1 28 = .ok (.lrem, 1) := by decide +kernel
theorem dC_commonDivisor_29 : decode mC_commonDivisor.2.1 29 = .ok (.lstore 9, 2) := by decide +kernel
theorem dC_commonDivisor_31 : decode mC_commonDivisor.2.1 31 = .ok (.lload 6, 2) := by decide +kernel
theorem dC_commonDivisor_33 : decode mC_commonDivisor.2.1 33 = .ok (.lstore 4, 2) := by decide +kernel
theorem dC_commonDivisor_35 : decode mC_commonDivisor.2.1 35 = .ok (.lload 9, 2) := by decide +kernel
theorem dC_commonDivisor_37 : decode mC_commonDivisor.2.1 37 = .ok (.lstore 6, 2) := by decide +kernel
theorem dC_commonDivisor_39 : decode mC_commonDivisor.2.1 39 = .ok (.iinc 8 1, 3) := by decide +kernel
theorem dC_commonDivisor_42 : decode mC_commonDivisor.2.1 42 = .ok (.goto (-33), 3) := by decide +kernel
theorem dC_commonDivisor_45 : decode mC_commonDivisor.2.1 45 = .ok (.lconst 1, 1) := by decide +kernel
theorem dC_commonDivisor_46 : decode mC_commonDivisor.2.1 46 = .ok (.lload 4, 2) := by decide +kernel
theorem dC_commonDivisor_48 : decode mC_commonDivisor.2.1 48 = .ok (.invokestatic 241, 3) := by decide +kernel
theorem dC_commonDivisor_51 : decode mC_commonDivisor.2.1 51 = .ok (.lreturn, 1) := by decide +kernel
theorem dC_key_0 : decode mC_key.2.1 0 = .ok (.aload_n 0, 1) := by decide +kernel
theorem dC_key_1 : decode mC_key.2.1 1 = .ok (.iload_n 1, 1) := by decide +kernel
theorem dC_key_2 : decode mC_key.2.1 2 = .ok (.invokevirtual 73, 3) := by decide +kernel
theorem dC_key_5 : decode mC_key.2.1 5 = .ok (.astore_n 3, 1) := by decide +kernel
theorem dC_key_6 : decode mC_key.2.1 6 = .ok (.iload_n 2, 1) := by decide +kernel
theorem dC_key_7 : decode mC_key.2.1 7 = .ok (.iconst (-1), 1) := by decide +kernel
theorem dC_key_8 : decode mC_key.2.1 8 = .ok (.if_icmp .eq 7, 3) := by decide +kernel
theorem dC_key_11 : decode mC_key.2.1 11 = .ok (.iload_n 2, 1) := by decide +kernel
theorem dC_key_12 : decode mC_key.2.1 12 = .ok (.invokestatic 77, 3) := by decide +kernel
theorem dC_key_15 : decode mC_key.2.1 15 = .ok (.aload_n 3, 1) := by decide +kernel
theorem dC_key_16 : decode mC_key.2.1 16 = .ok (.getfield 201, 3) := by decide +kernel
theorem dC_key_19 : decode mC_key.2.1 19 = .ok (.istore 4, 2) := by decide +kernel
theorem dC_key_21 : decode mC_key.2.1 21 = .ok (.iload 4, 2) := by decide +kernel
theorem dC_key_23 : decode mC_key.2.1 23 = .ok (.iload_n 2, 1) := by decide +kernel
theorem dC_key_24 : decode mC_key.2.1 24 = .ok (.if_icmp .ne 13, 3) := by decide +kernel
theorem dC_key_27 : decode mC_key.2.1 27 = .ok (.new 124, 3) := by decide +kernel
theorem dC_key_30 : decode mC_key.2.1 30 = .ok (.dup, 1) := by decide +kernel
theorem dC_key_31 : decode mC_key.2.1 31 = .ok (.ldc 204, 2) := by decide +kernel
theorem dC_key_33 : decode mC_key.2.1 33 = .ok (.invokespecial 128, 3) := by decide +kernel
theorem dC_key_36 : decode mC_key.2.1 36 = .ok (.athrow, 1) := by decide +kernel
theorem dC_key_37 : decode mC_key.2.1 37 = .ok (.aload_n 3, 1) := by decide +kernel
theorem dC_key_38 : decode mC_key.2.1 38 = .ok (.iload_n 2, 1) := by decide +kernel
theorem dC_key_39 : decode mC_key.2.1 39 = .ok (.putfield 201, 3) := by decide +kernel
theorem dC_key_42 : decode mC_key.2.1 42 = .ok (.iload 4, 2) := by decide +kernel
theorem dC_key_44 : decode mC_key.2.1 44 = .ok (.ireturn, 1) := by decide +kernel
theorem dC_cost_0 : decode mC_cost.2.1 0 = .ok (.aload_n 0, 1) := by decide +kernel
theorem dC_cost_1 : decode mC_cost.2.1 1 = .ok (.iload_n 1, 1) := by decide +kernel
theorem dC_cost_2 : decode mC_cost.2.1 2 = .ok (.invokevirtual 73, 3) := by decide +kernel
theorem dC_cost_5 : decode mC_cost.2.1 5 = .ok (.astore_n 3, 1) := by decide +kernel
theorem dC_cost_6 : decode mC_cost.2.1 6 = .ok (.iload_n 2, 1) := by decide +kernel
theorem dC_cost_7 : decode mC_cost.2.1 7 = .ok (.iconst 0, 1) := by decide +kernel
theorem dC_cost_8 : decode mC_cost.2.1 8 = .ok (.ldc 206, 2) := by decide +kernel
theorem dC_cost_10 : decode mC_cost.2.1 10 = .ok (.invokestatic 57, 3) := by decide +kernel
theorem dC_cost_13 : decode mC_cost.2.1 13 = .ok (.aload_n 3, 1) := by decide +kernel
theorem dC_cost_14 : decode mC_cost.2.1 14 = .ok (.getfield 207, 3) := by decide +kernel
theorem dC_cost_17 : decode mC_cost.2.1 17 = .ok (.iload_n 2, 1) := by decide +kernel
theorem dC_cost_18 : decode mC_cost.2.1 18 = .ok (.ldc 189, 2) := by decide +kernel
theorem dC_cost_20 : decode mC_cost.2.1 20 = .ok (.invokestatic 171, 3) := by decide +kernel
theorem dC_cost_23 : decode mC_cost.2.1 23 = .ok (.aload_n 3, 1) := by decide +kernel
theorem dC_cost_24 : decode mC_cost.2.1 24 = .ok (.dup, 1) := by decide +kernel
theorem dC_cost_25 : decode mC_cost.2.1 25 = .ok (.getfield 207, 3) := by decide +kernel
theorem dC_cost_28 : decode mC_cost.2.1 28 = .ok (.iload_n 2, 1) := by decide +kernel
theorem dC_cost_29 : decode mC_cost.2.1 29 = .ok (.iadd, 1) := by decide +kernel
theorem dC_cost_30 : decode mC_cost.2.1 30 = .ok (.putfield 207, 3) := by decide +kernel
theorem dC_cost_33 : decode mC_cost.2.1 33 = .ok (.aload_n 3, 1) := by decide +kernel
theorem dC_cost_34 : decode mC_cost.2.1 34 = .ok (.getfield 207, 3) := by decide +kernel
theorem dC_cost_37 : decode mC_cost.2.1 37 = .ok (.ireturn, 1) := by decide +kernel
theorem dC_skipped_0 : decode mC_skipped.2.1 0 = .ok (.iload_n 1, 1) := by decide +kernel
theorem dC_skipped_1 : decode mC_skipped.2.1 1 = .ok (.invokestatic 132, 3) := by decide +kernel
theorem dC_skipped_4 : decode mC_skipped.2.1 4 = .ok (.iload_n 1, 1) := by decide +kernel
theorem dC_skipped_5 : decode mC_skipped.2.1 5 = .ok (.istore_n 2, 1) := by decide +kernel
theorem dC_skipped_6 : decode mC_skipped.2.1 6 = .ok (.iconst 0, 1) := by decide +kernel
theorem dC_skipped_7 : decode mC_skipped.2.1 7 = .ok (.istore_n 3, 1) := by decide +kernel
theorem dC_skipped_8 : decode mC_skipped.2.1 8 = .ok (.iload_n 3, 1) := by decide +kernel
theorem dC_skipped_9 : decode mC_skipped.2.1 9 = .ok (.bipush 20, 2) := by decide +kernel
theorem dC_skipped_11 : decode mC_skipped.2.1 11 = .ok (.if_icmp .ge 79, 3) := by decide +kernel
theorem dC_skipped_14 : decode mC_skipped.2.1 14 = .ok (.aload_n 0, 1) := by decide +kernel
theorem dC_skipped_15 : decode mC_skipped.2.1 15 = .ok (.getfield 18, 3) := by decide +kernel
theorem dC_skipped_18 : decode mC_skipped.2.1 18 = .ok (.iload_n 3, 1) := by decide +kernel
theorem dC_skipped_19 : decode mC_skipped.2.1 19 = .ok (.aaload, 1) := by decide +kernel
theorem dC_skipped_20 : decode mC_skipped.2.1 20 = .ok (.ifnull 70, 3) := by decide +kernel
theorem dC_skipped_23 : decode mC_skipped.2.1 23 = .ok (.iconst 0, 1) := by decide +kernel
theorem dC_skipped_24 : decode mC_skipped.2.1 24 = .ok (.istore 4, 2) := by decide +kernel
theorem dC_skipped_26 : decode mC_skipped.2.1 26 = .ok (.iload 4, 2) := by decide +kernel
theorem dC_skipped_28 : decode mC_skipped.2.1 28 = .ok (.bipush 10, 2) := by decide +kernel
theorem dC_skipped_30 : decode mC_skipped.2.1 30 = .ok (.if_icmp .ge 54, 3) := by decide +kernel
theorem dC_skipped_33 : decode mC_skipped.2.1 33 = .ok (.aload_n 0, 1) := by decide +kernel
theorem dC_skipped_34 : decode mC_skipped.2.1 34 = .ok (.getfield 18, 3) := by decide +kernel
theorem dC_skipped_37 : decode mC_skipped.2.1 37 = .ok (.iload_n 3, 1) := by decide +kernel
theorem dC_skipped_38 : decode mC_skipped.2.1 38 = .ok (.aaload, 1) := by decide +kernel
theorem dC_skipped_39 : decode mC_skipped.2.1 39 = .ok (.getfield 142, 3) := by decide +kernel
theorem dC_skipped_42 : decode mC_skipped.2.1 42 = .ok (.ifCond .ne 42, 3) := by decide +kernel
theorem dC_skipped_45 : decode mC_skipped.2.1 45 = .ok (.aload_n 0, 1) := by decide +kernel
theorem dC_skipped_46 : decode mC_skipped.2.1 46 = .ok (.getfield 18, 3) := by decide +kernel
theorem dC_skipped_49 : decode mC_skipped.2.1 49 = .ok (.iload_n 3, 1) := by decide +kernel
theorem dC_skipped_50 : decode mC_skipped.2.1 50 = .ok (.aaload, 1) := by decide +kernel
theorem dC_skipped_51 : decode mC_skipped.2.1 51 = .ok (.iload 4, 2) := by decide +kernel
theorem dC_skipped_53 : decode mC_skipped.2.1 53 = .ok (.aload_n 0, 1) := by decide +kernel
theorem dC_skipped_54 : decode mC_skipped.2.1 54 = .ok (.getfield 47, 3) := by decide +kernel
theorem dC_skipped_57 : decode mC_skipped.2.1 57 = .ok (.invokevirtual 111, 3) := by decide +kernel
theorem dC_skipped_60 : decode mC_skipped.2.1 60 = .ok (.ifCond .eq 18, 3) := by decide +kernel
theorem dC_skipped_63 : decode mC_skipped.2.1 63 = .ok (.iload_n 2, 1) := by decide +kernel
theorem dC_skipped_64 : decode mC_skipped.2.1 64 = .ok (.ifCond .ne 11, 3) := by decide +kernel
theorem dC_skipped_67 : decode mC_skipped.2.1 67 = .ok (.bipush 10, 2) := by decide +kernel
theorem dC_skipped_69 : decode mC_skipped.2.1 69 = .ok (.iload_n 3, 1) := by decide +kernel
theorem dC_skipped_70 : decode mC_skipped.2.1 70 = .ok (.imul, 1) := by decide +kernel
theorem dC_skipped_71 : decode mC_skipped.2.1 71 = .ok (.iload 4, 2) := by decide +kernel
theorem dC_skipped_73 : decode mC_skipped.2.1 73 = .ok (.iadd, 1) := by decide +kernel
theorem dC_skipped_74 : decode mC_skipped.2.1 74 = .ok (.ireturn, 1) := by decide +kernel
theorem dC_skipped_75 : decode mC_skipped.2.1 75 = .ok (.iinc 2 (-1), 3) := by decide +kernel
theorem dC_skipped_78 : decode mC_skipped.2.1 78 = .ok (.iinc 4 1, 3) := by decide +kernel
theorem dC_skipped_81 : decode mC_skipped.2.1 81 = .ok (.goto (-55), 3) := by decide +kernel
theorem dC_skipped_84 : decode mC_skipped.2.1 84 = .ok (.iinc 3 1, 3) := by decide +kernel
theorem dC_skipped_87 : decode mC_skipped.2.1 87 = .ok (.goto (-79), 3) := by decide +kernel
theorem dC_skipped_90 : decode mC_skipped.2.1 90 = .ok (.iconst (-1), 1) := by decide +kernel
theorem dC_skipped_91 : decode mC_skipped.2.1 91 = .ok (.ireturn, 1) := by decide +kernel
theorem dC_tick_0 : decode mC_tick.2.1 0 = .ok (.iload_n 1, 1) := by decide +kernel
theorem dC_tick_1 : decode mC_tick.2.1 1 = .ok (.iconst 1, 1) := by decide +kernel
theorem dC_tick_2 : decode mC_tick.2.1 2 = .ok (.sipush 5000, 3) := by decide +kernel
theorem dC_tick_5 : decode mC_tick.2.1 5 = .ok (.invokestatic 57, 3) := by decide +kernel
theorem dC_tick_8 : decode mC_tick.2.1 8 = .ok (.aload_n 0, 1) := by decide +kernel
theorem dC_tick_9 : decode mC_tick.2.1 9 = .ok (.getfield 47, 3) := by decide +kernel
theorem dC_tick_12 : decode mC_tick.2.1 12 = .ok (.iload_n 1, 1) := by decide +kernel
theorem dC_tick_13 : decode mC_tick.2.1 13 = .ok (.iadd, 1) := by decide +kernel
theorem dC_tick_14 : decode mC_tick.2.1 14 = .ok (.iconst 0, 1) := by decide +kernel
theorem dC_tick_15 : decode mC_tick.2.1 15 = .ok (.ldc 81, 2) := by decide +kernel
theorem dC_tick_17 : decode mC_tick.2.1 17 = .ok (.invokestatic 57, 3) := by decide +kernel
theorem dC_tick_20 : decode mC_tick.2.1 20 = .ok (.aload_n 0, 1) := by decide +kernel
theorem dC_tick_21 : decode mC_tick.2.1 21 = .ok (.dup, 1) := by decide +kernel
theorem dC_tick_22 : decode mC_tick.2.1 22 = .ok (.getfield 47, 3) := by decide +kernel
theorem dC_tick_25 : decode mC_tick.2.1 25 = .ok (.iload_n 1, 1) := by decide +kernel
theorem dC_tick_26 : decode mC_tick.2.1 26 = .ok (.iadd, 1) := by decide +kernel
theorem dC_tick_27 : decode mC_tick.2.1 27 = .ok (.putfield 47, 3) := by decide +kernel
theorem dC_tick_30 : decode mC_tick.2.1 30 = .ok (.iconst 0, 1) := by decide +kernel
theorem dC_tick_31 : decode mC_tick.2.1 31 = .ok (.istore_n 2, 1) := by decide +kernel
theorem dC_tick_32 : decode mC_tick.2.1 32 = .ok (.iconst 0, 1) := by decide +kernel
theorem dC_tick_33 : decode mC_tick.2.1 33 = .ok (.istore_n 3, 1) := by decide +kernel
theorem dC_tick_34 : decode mC_tick.2.1 34 = .ok (.iload_n 3, 1) := by decide +kernel
theorem dC_tick_35 : decode mC_tick.2.1 35 = .ok (.bipush 20, 2) := by decide +kernel
theorem dC_tick_37 : decode mC_tick.2.1 37 = .ok (.if_icmp .ge 34, 3) := by decide +kernel
theorem dC_tick_40 : decode mC_tick.2.1 40 = .ok (.aload_n 0, 1) := by decide +kernel
theorem dC_tick_41 : decode mC_tick.2.1 41 = .ok (.getfield 18, 3) := by decide +kernel
theorem dC_tick_44 : decode mC_tick.2.1 44 = .ok (.iload_n 3, 1) := by decide +kernel
theorem dC_tick_45 : decode mC_tick.2.1 45 = .ok (.aaload, 1) := by decide +kernel
theorem dC_tick_46 : decode mC_tick.2.1 46 = .ok (.ifnull 25, 3) := by decide +kernel
theorem dC_tick_49 : decode mC_tick.2.1 49 = .ok (.aload_n 0, 1) := by decide +kernel
theorem dC_tick_50 : decode mC_tick.2.1 50 = .ok (.aload_n 0, 1) := by decide +kernel
theorem dC_tick_51 : decode mC_tick.2.1 51 = .ok (.getfield 18, 3) := by decide +kernel
theorem dC_tick_54 : decode mC_tick.2.1 54 = .ok (.iload_n 3, 1) := by decide +kernel
theorem dC_tick_55 : decode mC_tick.2.1 55 = .ok (.aaload, 1) := by decide +kernel
theorem dC_tick_56 : decode mC_tick.2.1 56 = .ok (.invokevirtual 120, 3) := by decide +kernel
theorem dC_tick_59 : decode mC_tick.2.1 59 = .ok (.ifCond .eq 6, 3) := by decide +kernel
theorem dC_tick_62 : decode mC_tick.2.1 62 = .ok (.iinc 2 1, 3) := by decide +kernel
theorem dC_tick_65 : decode mC_tick.2.1 65 = .ok (.iinc 3 1, 3) := by decide +kernel
theorem dC_tick_68 : decode mC_tick.2.1 68 = .ok (.goto (-34), 3) := by decide +kernel
theorem dC_tick_71 : decode mC_tick.2.1 71 = .ok (.iload_n 2, 1) := by decide +kernel
theorem dC_tick_72 : decode mC_tick.2.1 72 = .ok (.ireturn, 1) := by decide +kernel
theorem dC_vehicleAt_0 : decode mC_vehicleAt.2.1 0 = .ok (.aload_n 0, 1) := by decide +kernel
theorem dC_vehicleAt_1 : decode mC_vehicleAt.2.1 1 = .ok (.iload_n 1, 1) := by decide +kernel
theorem dC_vehicleAt_2 : decode mC_vehicleAt.2.1 2 = .ok (.invokevirtual 73, 3) := by decide +kernel
theorem dC_vehicleAt_5 : decode mC_vehicleAt.2.1 5 = .ok (.astore_n 3, 1) := by decide +kernel
theorem dC_vehicleAt_6 : decode mC_vehicleAt.2.1 6 = .ok (.iload_n 2, 1) := by decide +kernel
theorem dC_vehicleAt_7 : decode mC_vehicleAt.2.1 7 = .ok (.tableswitch 79 0 5 #[37, 42, 58, 63, 68, 74], 37) := by decide +kernel
theorem dC_vehicleAt_44 : decode mC_vehicleAt.2.1 44 = .ok (.aload_n 3, 1) := by decide +kernel
theorem dC_vehicleAt_45 : decode mC_vehicleAt.2.1 45 = .ok (.getfield 190, 3) := by decide +kernel
theorem dC_vehicleAt_48 : decode mC_vehicleAt.2.1 48 = .ok (.ireturn, 1) := by decide +kernel
theorem dC_vehicleAt_49 : decode mC_vehicleAt.2.1 49 = .ok (.aload_n 3, 1) := by decide +kernel
theorem dC_vehicleAt_50 : decode mC_vehicleAt.2.1 50 = .ok (.getfield 142, 3) := by decide +kernel
theorem dC_vehicleAt_53 : decode mC_vehicleAt.2.1 53 = .ok (.ifCond .ne 7, 3) := by decide +kernel
theorem dC_vehicleAt_56 : decode mC_vehicleAt.2.1 56 = .ok (.iconst 1, 1) := by decide +kernel
theorem dC_vehicleAt_57 : decode mC_vehicleAt.2.1 57 = .ok (.goto 4, 3) := by decide +kernel
theorem dC_vehicleAt_60 : decode mC_vehicleAt.2.1 60 = .ok (.iconst 0, 1) := by decide +kernel
theorem dC_vehicleAt_61 : decode mC_vehicleAt.2.1 61 = .ok (.invokestatic 94, 3) := by decide +kernel
theorem dC_vehicleAt_64 : decode mC_vehicleAt.2.1 64 = .ok (.ireturn, 1) := by decide +kernel
theorem dC_vehicleAt_65 : decode mC_vehicleAt.2.1 65 = .ok (.aload_n 3, 1) := by decide +kernel
theorem dC_vehicleAt_66 : decode mC_vehicleAt.2.1 66 = .ok (.getfield 210, 3) := by decide +kernel
theorem dC_vehicleAt_69 : decode mC_vehicleAt.2.1 69 = .ok (.ireturn, 1) := by decide +kernel
theorem dC_vehicleAt_70 : decode mC_vehicleAt.2.1 70 = .ok (.aload_n 3, 1) := by decide +kernel
theorem dC_vehicleAt_71 : decode mC_vehicleAt.2.1 71 = .ok (.getfield 213, 3) := by decide +kernel
theorem dC_vehicleAt_74 : decode mC_vehicleAt.2.1 74 = .ok (.ireturn, 1) := by decide +kernel
theorem dC_vehicleAt_75 : decode mC_vehicleAt.2.1 75 = .ok (.aload_n 0, 1) := by decide +kernel
theorem dC_vehicleAt_76 : decode mC_vehicleAt.2.1 76 = .ok (.aload_n 3, 1) := by decide +kernel
theorem dC_vehicleAt_77 : decode mC_vehicleAt.2.1 77 = .ok (.invokevirtual 216, 3) := by decide +kernel
theorem dC_vehicleAt_80 : decode mC_vehicleAt.2.1 80 = .ok (.ireturn, 1) := by decide +kernel
theorem dC_vehicleAt_81 : decode mC_vehicleAt.2.1 81 = .ok (.aload_n 3, 1) := by decide +kernel
theorem dC_vehicleAt_82 : decode mC_vehicleAt.2.1 82 = .ok (.getfield 201, 3) := by decide +kernel
theorem dC_vehicleAt_85 : decode mC_vehicleAt.2.1 85 = .ok (.ireturn, 1) := by decide +kernel
theorem dC_vehicleAt_86 : decode mC_vehicleAt.2.1 86 = .ok (.new 114, 3) := by decide +kernel
theorem dC_vehicleAt_89 : decode mC_vehicleAt.2.1 89 = .ok (.dup, 1) := by decide +kernel
theorem dC_vehicleAt_90 : decode mC_vehicleAt.2.1 90 = .ok (.ldc 116, 2) := by decide +kernel
theorem dC_vehicleAt_92 : decode mC_vehicleAt.2.1 92 = .ok (.invokespecial 118, 3) := by decide +kernel
theorem dC_vehicleAt_95 : decode mC_vehicleAt.2.1 95 = .ok (.athrow, 1) := by decide +kernel
theorem dC_openDamages_0 : decode mC_openDamages.2.1 0 = .ok (.iconst 0, 1) := by decide +kernel
theorem dC_openDamages_1 : decode mC_openDamages.2.1 1 = .ok (.istore_n 2, 1) := by decide +kernel
theorem dC_openDamages_2 : decode mC_openDamages.2.1 2 = .ok (.iconst 0, 1) := by decide +kernel
theorem dC_openDamages_3 : decode mC_openDamages.2.1 3 = .ok (.istore_n 3, 1) := by decide +kernel
theorem dC_openDamages_4 : decode mC_openDamages.2.1 4 = .ok (.iload_n 3, 1) := by decide +kernel
theorem dC_openDamages_5 : decode mC_openDamages.2.1 5 = .ok (.bipush 100, 2) := by decide +kernel
theorem dC_openDamages_7 : decode mC_openDamages.2.1 7 = .ok (.if_icmp .ge 29, 3) := by decide +kernel
theorem dC_openDamages_10 : decode mC_openDamages.2.1 10 = .ok (.iload_n 3, 1) := by decide +kernel
theorem dC_openDamages_11 : decode mC_openDamages.2.1 11 = .ok (.aload_n 0, 1) := by decide +kernel
theorem dC_openDamages_12 : decode mC_openDamages.2.1 12 = .ok (.getfield 150, 3) := by decide +kernel
theorem dC_openDamages_15 : decode mC_openDamages.2.1 15 = .ok (.if_icmp .ge 21, 3) := by decide +kernel
theorem dC_openDamages_18 : decode mC_openDamages.2.1 18 = .ok (.aload_n 0, 1) := by decide +kernel
theorem dC_openDamages_19 : decode mC_openDamages.2.1 19 = .ok (.iload_n 3, 1) := by decide +kernel
theorem dC_openDamages_20 : decode mC_openDamages.2.1 20 = .ok (.aload_n 1, 1) := by decide +kernel
theorem dC_openDamages_21 : decode mC_openDamages.2.1 21 = .ok (.invokevirtual 253, 3) := by decide +kernel
theorem dC_openDamages_24 : decode mC_openDamages.2.1 24 = .ok (.ifCond .eq 6, 3) := by decide +kernel
theorem dC_openDamages_27 : decode mC_openDamages.2.1 27 = .ok (.iinc 2 1, 3) := by decide +kernel
theorem dC_openDamages_30 : decode mC_openDamages.2.1 30 = .ok (.iinc 3 1, 3) := by decide +kernel
theorem dC_openDamages_33 : decode mC_openDamages.2.1 33 = .ok (.goto (-29), 3) := by decide +kernel
theorem dC_openDamages_36 : decode mC_openDamages.2.1 36 = .ok (.iload_n 2, 1) := by decide +kernel
theorem dC_openDamages_37 : decode mC_openDamages.2.1 37 = .ok (.ireturn, 1) := by decide +kernel
