theorem dX1_init_0 : decode cX1_init 0 = .ok (.aload_n 0, 1) := by decide +kernel
theorem dX1_init_1 : decode cX1_init 1 = .ok (.invokespecial 5, 3) := by decide +kernel
theorem dX1_init_4 : decode cX1_init 4 = .ok (.aload_n 0, 1) := by decide +kernel
theorem dX1_init_5 : decode cX1_init 5 = .ok (.sipush 1296, 3) := by decide +kernel
theorem dX1_init_8 : decode cX1_init 8 = .ok (.newarray .long, 2) := by decide +kernel
theorem dX1_init_10 : decode cX1_init 10 = .ok (.putfield 11, 3) := by decide +kernel
theorem dX1_init_13 : decode cX1_init 13 = .ok (.aload_n 0, 1) := by decide +kernel
theorem dX1_init_14 : decode cX1_init 14 = .ok (.aload_n 1, 1) := by decide +kernel
theorem dX1_init_15 : decode cX1_init 15 = .ok (.putfield 15, 3) := by decide +kernel
theorem dX1_init_18 : decode cX1_init 18 = .ok (.return_, 1) := by decide +kernel
theorem dX1_leastDry_0 : decode cX1_leastDry 0 = .ok (.aload_n 0, 1) := by decide +kernel
theorem dX1_leastDry_1 : decode cX1_leastDry 1 = .ok (.invokevirtual 19, 3) := by decide +kernel
theorem dX1_leastDry_4 : decode cX1_leastDry 4 = .ok (.aload_n 0, 1) := by decide +kernel
theorem dX1_leastDry_5 : decode cX1_leastDry 5 = .ok (.iload_n 1, 1) := by decide +kernel
theorem dX1_leastDry_6 : decode cX1_leastDry 6 = .ok (.aload_n 0, 1) := by decide +kernel
theorem dX1_leastDry_7 : decode cX1_leastDry 7 = .ok (.invokevirtual 22, 3) := by decide +kernel
theorem dX1_leastDry_10 : decode cX1_leastDry 10 = .ok (.invokevirtual 26, 3) := by decide +kernel
theorem dX1_leastDry_13 : decode cX1_leastDry 13 = .ok (.ireturn, 1) := by decide +kernel
theorem dX1_filledOn_0 : decode cX1_filledOn 0 = .ok (.aload_n 0, 1) := by decide +kernel
theorem dX1_filledOn_1 : decode cX1_filledOn 1 = .ok (.invokevirtual 19, 3) := by decide +kernel
theorem dX1_filledOn_4 : decode cX1_filledOn 4 = .ok (.aload_n 0, 1) := by decide +kernel
theorem dX1_filledOn_5 : decode cX1_filledOn 5 = .ok (.invokevirtual 22, 3) := by decide +kernel
theorem dX1_filledOn_8 : decode cX1_filledOn 8 = .ok (.istore_n 3, 1) := by decide +kernel
theorem dX1_filledOn_9 : decode cX1_filledOn 9 = .ok (.iconst 0, 1) := by decide +kernel
theorem dX1_filledOn_10 : decode cX1_filledOn 10 = .ok (.istore 4, 2) := by decide +kernel
theorem dX1_filledOn_12 : decode cX1_filledOn 12 = .ok (.iload 4, 2) := by decide +kernel
theorem dX1_filledOn_14 : decode cX1_filledOn 14 = .ok (.iload_n 2, 1) := by decide +kernel
theorem dX1_filledOn_15 : decode cX1_filledOn 15 = .ok (.if_icmp .ge 28, 3) := by decide +kernel
theorem dX1_filledOn_18 : decode cX1_filledOn 18 = .ok (.aload_n 0, 1) := by decide +kernel
theorem dX1_filledOn_19 : decode cX1_filledOn 19 = .ok (.iload_n 3, 1) := by decide +kernel
theorem dX1_filledOn_20 : decode cX1_filledOn 20 = .ok (.aload_n 0, 1) := by decide +kernel
theorem dX1_filledOn_21 : decode cX1_filledOn 21 = .ok (.iload_n 1, 1) := by decide +kernel
theorem dX1_filledOn_22 : decode cX1_filledOn 22 = .ok (.iload 4, 2) := by decide +kernel
theorem dX1_filledOn_24 : decode cX1_filledOn 24 = .ok (.isub, 1) := by decide +kernel
theorem dX1_filledOn_25 : decode cX1_filledOn 25 = .ok (.iload_n 3, 1) := by decide +kernel
theorem dX1_filledOn_26 : decode cX1_filledOn 26 = .ok (.invokevirtual 30, 3) := by decide +kernel
theorem dX1_filledOn_29 : decode cX1_filledOn 29 = .ok (.invokevirtual 33, 3) := by decide +kernel
theorem dX1_filledOn_32 : decode cX1_filledOn 32 = .ok (.sipush 1296, 3) := by decide +kernel
theorem dX1_filledOn_35 : decode cX1_filledOn 35 = .ok (.irem, 1) := by decide +kernel
theorem dX1_filledOn_36 : decode cX1_filledOn 36 = .ok (.istore_n 3, 1) := by decide +kernel
theorem dX1_filledOn_37 : decode cX1_filledOn 37 = .ok (.iinc 4 1, 3) := by decide +kernel
theorem dX1_filledOn_40 : decode cX1_filledOn 40 = .ok (.goto (-28), 3) := by decide +kernel
theorem dX1_filledOn_43 : decode cX1_filledOn 43 = .ok (.aload_n 0, 1) := by decide +kernel
theorem dX1_filledOn_44 : decode cX1_filledOn 44 = .ok (.iload_n 1, 1) := by decide +kernel
theorem dX1_filledOn_45 : decode cX1_filledOn 45 = .ok (.iload_n 2, 1) := by decide +kernel
theorem dX1_filledOn_46 : decode cX1_filledOn 46 = .ok (.isub, 1) := by decide +kernel
theorem dX1_filledOn_47 : decode cX1_filledOn 47 = .ok (.iload_n 3, 1) := by decide +kernel
theorem dX1_filledOn_48 : decode cX1_filledOn 48 = .ok (.invokevirtual 30, 3) := by decide +kernel
theorem dX1_filledOn_51 : decode cX1_filledOn 51 = .ok (.ireturn, 1) := by decide +kernel
theorem dX1_forget_0 : decode cX1_forget 0 = .ok (.aload_n 0, 1) := by decide +kernel
theorem dX1_forget_1 : decode cX1_forget 1 = .ok (.getfield 11, 3) := by decide +kernel
theorem dX1_forget_4 : decode cX1_forget 4 = .ok (.ldc2_w 36, 3) := by decide +kernel
theorem dX1_forget_7 : decode cX1_forget 7 = .ok (.invokestatic 38, 3) := by decide +kernel
theorem dX1_forget_10 : decode cX1_forget 10 = .ok (.return_, 1) := by decide +kernel
theorem dX1_atFirst_0 : decode cX1_atFirst 0 = .ok (.iconst 0, 1) := by decide +kernel
theorem dX1_atFirst_1 : decode cX1_atFirst 1 = .ok (.istore_n 1, 1) := by decide +kernel
theorem dX1_atFirst_2 : decode cX1_atFirst 2 = .ok (.iconst 3, 1) := by decide +kernel
theorem dX1_atFirst_3 : decode cX1_atFirst 3 = .ok (.istore_n 2, 1) := by decide +kernel
theorem dX1_atFirst_4 : decode cX1_atFirst 4 = .ok (.iload_n 2, 1) := by decide +kernel
theorem dX1_atFirst_5 : decode cX1_atFirst 5 = .ok (.ifCond .lt 39, 3) := by decide +kernel
theorem dX1_atFirst_8 : decode cX1_atFirst 8 = .ok (.iload_n 1, 1) := by decide +kernel
theorem dX1_atFirst_9 : decode cX1_atFirst 9 = .ok (.bipush 6, 2) := by decide +kernel
theorem dX1_atFirst_11 : decode cX1_atFirst 11 = .ok (.imul, 1) := by decide +kernel
theorem dX1_atFirst_12 : decode cX1_atFirst 12 = .ok (.iload_n 2, 1) := by decide +kernel
theorem dX1_atFirst_13 : decode cX1_atFirst 13 = .ok (.aload_n 0, 1) := by decide +kernel
theorem dX1_atFirst_14 : decode cX1_atFirst 14 = .ok (.getfield 15, 3) := by decide +kernel
theorem dX1_atFirst_17 : decode cX1_atFirst 17 = .ok (.getfield 44, 3) := by decide +kernel
theorem dX1_atFirst_20 : decode cX1_atFirst 20 = .ok (.if_icmp .ge 15, 3) := by decide +kernel
theorem dX1_atFirst_23 : decode cX1_atFirst 23 = .ok (.aload_n 0, 1) := by decide +kernel
theorem dX1_atFirst_24 : decode cX1_atFirst 24 = .ok (.getfield 15, 3) := by decide +kernel
theorem dX1_atFirst_27 : decode cX1_atFirst 27 = .ok (.getfield 50, 3) := by decide +kernel
theorem dX1_atFirst_30 : decode cX1_atFirst 30 = .ok (.iload_n 2, 1) := by decide +kernel
theorem dX1_atFirst_31 : decode cX1_atFirst 31 = .ok (.iaload, 1) := by decide +kernel
theorem dX1_atFirst_32 : decode cX1_atFirst 32 = .ok (.goto 4, 3) := by decide +kernel
theorem dX1_atFirst_35 : decode cX1_atFirst 35 = .ok (.iconst 0, 1) := by decide +kernel
theorem dX1_atFirst_36 : decode cX1_atFirst 36 = .ok (.iadd, 1) := by decide +kernel
theorem dX1_atFirst_37 : decode cX1_atFirst 37 = .ok (.istore_n 1, 1) := by decide +kernel
theorem dX1_atFirst_38 : decode cX1_atFirst 38 = .ok (.iinc 2 (-1), 3) := by decide +kernel
theorem dX1_atFirst_41 : decode cX1_atFirst 41 = .ok (.goto (-37), 3) := by decide +kernel
theorem dX1_atFirst_44 : decode cX1_atFirst 44 = .ok (.iload_n 1, 1) := by decide +kernel
theorem dX1_atFirst_45 : decode cX1_atFirst 45 = .ok (.ireturn, 1) := by decide +kernel
theorem dX1_firstFilled_0 : decode cX1_firstFilled 0 = .ok (.aload_n 0, 1) := by decide +kernel
theorem dX1_firstFilled_1 : decode cX1_firstFilled 1 = .ok (.iload_n 1, 1) := by decide +kernel
theorem dX1_firstFilled_2 : decode cX1_firstFilled 2 = .ok (.iload_n 2, 1) := by decide +kernel
theorem dX1_firstFilled_3 : decode cX1_firstFilled 3 = .ok (.invokevirtual 26, 3) := by decide +kernel
theorem dX1_firstFilled_6 : decode cX1_firstFilled 6 = .ok (.istore_n 3, 1) := by decide +kernel
theorem dX1_firstFilled_7 : decode cX1_firstFilled 7 = .ok (.iconst 0, 1) := by decide +kernel
theorem dX1_firstFilled_8 : decode cX1_firstFilled 8 = .ok (.istore 4, 2) := by decide +kernel
theorem dX1_firstFilled_10 : decode cX1_firstFilled 10 = .ok (.iload 4, 2) := by decide +kernel
theorem dX1_firstFilled_12 : decode cX1_firstFilled 12 = .ok (.aload_n 0, 1) := by decide +kernel
theorem dX1_firstFilled_13 : decode cX1_firstFilled 13 = .ok (.getfield 15, 3) := by decide +kernel
theorem dX1_firstFilled_16 : decode cX1_firstFilled 16 = .ok (.getfield 44, 3) := by decide +kernel
theorem dX1_firstFilled_19 : decode cX1_firstFilled 19 = .ok (.if_icmp .ge 24, 3) := by decide +kernel
theorem dX1_firstFilled_22 : decode cX1_firstFilled 22 = .ok (.aload_n 0, 1) := by decide +kernel
theorem dX1_firstFilled_23 : decode cX1_firstFilled 23 = .ok (.iload_n 1, 1) := by decide +kernel
theorem dX1_firstFilled_24 : decode cX1_firstFilled 24 = .ok (.iload_n 2, 1) := by decide +kernel
theorem dX1_firstFilled_25 : decode cX1_firstFilled 25 = .ok (.iload 4, 2) := by decide +kernel
theorem dX1_firstFilled_27 : decode cX1_firstFilled 27 = .ok (.invokevirtual 54, 3) := by decide +kernel
theorem dX1_firstFilled_30 : decode cX1_firstFilled 30 = .ok (.iload_n 3, 1) := by decide +kernel
theorem dX1_firstFilled_31 : decode cX1_firstFilled 31 = .ok (.if_icmp .ne 6, 3) := by decide +kernel
theorem dX1_firstFilled_34 : decode cX1_firstFilled 34 = .ok (.iload 4, 2) := by decide +kernel
theorem dX1_firstFilled_36 : decode cX1_firstFilled 36 = .ok (.ireturn, 1) := by decide +kernel
theorem dX1_firstFilled_37 : decode cX1_firstFilled 37 = .ok (.iinc 4 1, 3) := by decide +kernel
theorem dX1_firstFilled_40 : decode cX1_firstFilled 40 = .ok (.goto (-30), 3) := by decide +kernel
theorem dX1_firstFilled_43 : decode cX1_firstFilled 43 = .ok (.iconst (-1), 1) := by decide +kernel
theorem dX1_firstFilled_44 : decode cX1_firstFilled 44 = .ok (.ireturn, 1) := by decide +kernel
theorem dX1_least_0 : decode cX1_least 0 = .ok (.iload_n 1, 1) := by decide +kernel
theorem dX1_least_1 : decode cX1_least 1 = .ok (.ifCond .gt 5, 3) := by decide +kernel
theorem dX1_least_4 : decode cX1_least 4 = .ok (.iconst 0, 1) := by decide +kernel
theorem dX1_least_5 : decode cX1_least 5 = .ok (.ireturn, 1) := by decide +kernel
theorem dX1_least_6 : decode cX1_least 6 = .ok (.bipush 6, 2) := by decide +kernel
theorem dX1_least_8 : decode cX1_least 8 = .ok (.iload_n 1, 1) := by decide +kernel
theorem dX1_least_9 : decode cX1_least 9 = .ok (.iconst 1, 1) := by decide +kernel
theorem dX1_least_10 : decode cX1_least 10 = .ok (.isub, 1) := by decide +kernel
theorem dX1_least_11 : decode cX1_least 11 = .ok (.imul, 1) := by decide +kernel
theorem dX1_least_12 : decode cX1_least 12 = .ok (.istore_n 3, 1) := by decide +kernel
theorem dX1_least_13 : decode cX1_least 13 = .ok (.aload_n 0, 1) := by decide +kernel
theorem dX1_least_14 : decode cX1_least 14 = .ok (.getfield 11, 3) := by decide +kernel
theorem dX1_least_17 : decode cX1_least 17 = .ok (.iload_n 2, 1) := by decide +kernel
theorem dX1_least_18 : decode cX1_least 18 = .ok (.laload, 1) := by decide +kernel
theorem dX1_least_19 : decode cX1_least 19 = .ok (.iload_n 3, 1) := by decide +kernel
theorem dX1_least_20 : decode cX1_least 20 = .ok (.lshr, 1) := by decide +kernel
theorem dX1_least_21 : decode cX1_least 21 = .ok (.l2i, 1) := by decide +kernel
theorem dX1_least_22 : decode cX1_least 22 = .ok (.bipush 63, 2) := by decide +kernel
theorem dX1_least_24 : decode cX1_least 24 = .ok (.iand, 1) := by decide +kernel
theorem dX1_least_25 : decode cX1_least 25 = .ok (.istore 4, 2) := by decide +kernel
theorem dX1_least_27 : decode cX1_least 27 = .ok (.iload 4, 2) := by decide +kernel
theorem dX1_least_29 : decode cX1_least 29 = .ok (.bipush 63, 2) := by decide +kernel
theorem dX1_least_31 : decode cX1_least 31 = .ok (.if_icmp .eq 6, 3) := by decide +kernel
theorem dX1_least_34 : decode cX1_least 34 = .ok (.iload 4, 2) := by decide +kernel
theorem dX1_least_36 : decode cX1_least 36 = .ok (.ireturn, 1) := by decide +kernel
theorem dX1_least_37 : decode cX1_least 37 = .ok (.bipush 63, 2) := by decide +kernel
theorem dX1_least_39 : decode cX1_least 39 = .ok (.istore 5, 2) := by decide +kernel
theorem dX1_least_41 : decode cX1_least 41 = .ok (.iconst 0, 1) := by decide +kernel
theorem dX1_least_42 : decode cX1_least 42 = .ok (.istore 6, 2) := by decide +kernel
theorem dX1_least_44 : decode cX1_least 44 = .ok (.iload 6, 2) := by decide +kernel
theorem dX1_least_46 : decode cX1_least 46 = .ok (.aload_n 0, 1) := by decide +kernel
theorem dX1_least_47 : decode cX1_least 47 = .ok (.getfield 15, 3) := by decide +kernel
theorem dX1_least_50 : decode cX1_least 50 = .ok (.getfield 44, 3) := by decide +kernel
theorem dX1_least_53 : decode cX1_least 53 = .ok (.if_icmp .ge 24, 3) := by decide +kernel
theorem dX1_least_56 : decode cX1_least 56 = .ok (.iload 5, 2) := by decide +kernel
theorem dX1_least_58 : decode cX1_least 58 = .ok (.aload_n 0, 1) := by decide +kernel
theorem dX1_least_59 : decode cX1_least 59 = .ok (.iload_n 1, 1) := by decide +kernel
theorem dX1_least_60 : decode cX1_least 60 = .ok (.iload_n 2, 1) := by decide +kernel
theorem dX1_least_61 : decode cX1_least 61 = .ok (.iload 6, 2) := by decide +kernel
theorem dX1_least_63 : decode cX1_least 63 = .ok (.invokevirtual 54, 3) := by decide +kernel
theorem dX1_least_66 : decode cX1_least 66 = .ok (.invokestatic 58, 3) := by decide +kernel
theorem dX1_least_69 : decode cX1_least 69 = .ok (.istore 5, 2) := by decide +kernel
theorem dX1_least_71 : decode cX1_least 71 = .ok (.iinc 6 1, 3) := by decide +kernel
theorem dX1_least_74 : decode cX1_least 74 = .ok (.goto (-30), 3) := by decide +kernel
theorem dX1_least_77 : decode cX1_least 77 = .ok (.aload_n 0, 1) := by decide +kernel
theorem dX1_least_78 : decode cX1_least 78 = .ok (.getfield 11, 3) := by decide +kernel
theorem dX1_least_81 : decode cX1_least 81 = .ok (.iload_n 2, 1) := by decide +kernel
theorem dX1_least_82 : decode cX1_least 82 = .ok (.dup2, 1) := by decide +kernel
theorem dX1_least_83 : decode cX1_least 83 = .ok (.laload, 1) := by decide +kernel
theorem dX1_least_84 : decode cX1_least 84 = .ok (.bipush 63, 2) := by decide +kernel
theorem dX1_least_86 : decode cX1_least 86 = .ok (.iload 5, 2) := by decide +kernel
theorem dX1_least_88 : decode cX1_least 88 = .ok (.ixor, 1) := by decide +kernel
theorem dX1_least_89 : decode cX1_least 89 = .ok (.i2l, 1) := by decide +kernel
theorem dX1_least_90 : decode cX1_least 90 = .ok (.iload_n 3, 1) := by decide +kernel
theorem dX1_least_91 : decode cX1_least 91 = .ok (.lshl, 1) := by decide +kernel
theorem dX1_least_92 : decode cX1_least 92 = .ok (.lxor, 1) := by decide +kernel
theorem dX1_least_93 : decode cX1_least 93 = .ok (.lastore, 1) := by decide +kernel
theorem dX1_least_94 : decode cX1_least 94 = .ok (.iload 5, 2) := by decide +kernel
theorem dX1_least_96 : decode cX1_least 96 = .ok (.ireturn, 1) := by decide +kernel
theorem dX1_dryWith_0 : decode cX1_dryWith 0 = .ok (.aload_n 0, 1) := by decide +kernel
theorem dX1_dryWith_1 : decode cX1_dryWith 1 = .ok (.iload_n 2, 1) := by decide +kernel
theorem dX1_dryWith_2 : decode cX1_dryWith 2 = .ok (.iload_n 3, 1) := by decide +kernel
theorem dX1_dryWith_3 : decode cX1_dryWith 3 = .ok (.invokevirtual 33, 3) := by decide +kernel
theorem dX1_dryWith_6 : decode cX1_dryWith 6 = .ok (.istore 4, 2) := by decide +kernel
theorem dX1_dryWith_8 : decode cX1_dryWith 8 = .ok (.iload 4, 2) := by decide +kernel
theorem dX1_dryWith_10 : decode cX1_dryWith 10 = .ok (.sipush 1296, 3) := by decide +kernel
theorem dX1_dryWith_13 : decode cX1_dryWith 13 = .ok (.idiv, 1) := by decide +kernel
theorem dX1_dryWith_14 : decode cX1_dryWith 14 = .ok (.aload_n 0, 1) := by decide +kernel
theorem dX1_dryWith_15 : decode cX1_dryWith 15 = .ok (.iload_n 1, 1) := by decide +kernel
theorem dX1_dryWith_16 : decode cX1_dryWith 16 = .ok (.iconst 1, 1) := by decide +kernel
theorem dX1_dryWith_17 : decode cX1_dryWith 17 = .ok (.isub, 1) := by decide +kernel
theorem dX1_dryWith_18 : decode cX1_dryWith 18 = .ok (.iload 4, 2) := by decide +kernel
theorem dX1_dryWith_20 : decode cX1_dryWith 20 = .ok (.sipush 1296, 3) := by decide +kernel
theorem dX1_dryWith_23 : decode cX1_dryWith 23 = .ok (.irem, 1) := by decide +kernel
theorem dX1_dryWith_24 : decode cX1_dryWith 24 = .ok (.invokevirtual 26, 3) := by decide +kernel
theorem dX1_dryWith_27 : decode cX1_dryWith 27 = .ok (.iadd, 1) := by decide +kernel
theorem dX1_dryWith_28 : decode cX1_dryWith 28 = .ok (.ireturn, 1) := by decide +kernel
theorem dX1_step_0 : decode cX1_step 0 = .ok (.iload_n 1, 1) := by decide +kernel
theorem dX1_step_1 : decode cX1_step 1 = .ok (.istore_n 3, 1) := by decide +kernel
theorem dX1_step_2 : decode cX1_step 2 = .ok (.iconst 0, 1) := by decide +kernel
theorem dX1_step_3 : decode cX1_step 3 = .ok (.istore 4, 2) := by decide +kernel
theorem dX1_step_5 : decode cX1_step 5 = .ok (.iconst 1, 1) := by decide +kernel
theorem dX1_step_6 : decode cX1_step 6 = .ok (.istore 5, 2) := by decide +kernel
theorem dX1_step_8 : decode cX1_step 8 = .ok (.iconst 0, 1) := by decide +kernel
theorem dX1_step_9 : decode cX1_step 9 = .ok (.istore 6, 2) := by decide +kernel
theorem dX1_step_11 : decode cX1_step 11 = .ok (.iload 6, 2) := by decide +kernel
theorem dX1_step_13 : decode cX1_step 13 = .ok (.aload_n 0, 1) := by decide +kernel
theorem dX1_step_14 : decode cX1_step 14 = .ok (.getfield 15, 3) := by decide +kernel
theorem dX1_step_17 : decode cX1_step 17 = .ok (.getfield 44, 3) := by decide +kernel
theorem dX1_step_20 : decode cX1_step 20 = .ok (.if_icmp .ge 69, 3) := by decide +kernel
theorem dX1_step_23 : decode cX1_step 23 = .ok (.iload 6, 2) := by decide +kernel
theorem dX1_step_25 : decode cX1_step 25 = .ok (.iload_n 2, 1) := by decide +kernel
theorem dX1_step_26 : decode cX1_step 26 = .ok (.if_icmp .ne 16, 3) := by decide +kernel
theorem dX1_step_29 : decode cX1_step 29 = .ok (.aload_n 0, 1) := by decide +kernel
theorem dX1_step_30 : decode cX1_step 30 = .ok (.getfield 15, 3) := by decide +kernel
theorem dX1_step_33 : decode cX1_step 33 = .ok (.getfield 63, 3) := by decide +kernel
theorem dX1_step_36 : decode cX1_step 36 = .ok (.iload 6, 2) := by decide +kernel
theorem dX1_step_38 : decode cX1_step 38 = .ok (.iaload, 1) := by decide +kernel
theorem dX1_step_39 : decode cX1_step 39 = .ok (.goto 7, 3) := by decide +kernel
theorem dX1_step_42 : decode cX1_step 42 = .ok (.iload_n 3, 1) := by decide +kernel
theorem dX1_step_43 : decode cX1_step 43 = .ok (.bipush 6, 2) := by decide +kernel
theorem dX1_step_45 : decode cX1_step 45 = .ok (.irem, 1) := by decide +kernel
theorem dX1_step_46 : decode cX1_step 46 = .ok (.istore 7, 2) := by decide +kernel
theorem dX1_step_48 : decode cX1_step 48 = .ok (.iload_n 3, 1) := by decide +kernel
theorem dX1_step_49 : decode cX1_step 49 = .ok (.bipush 6, 2) := by decide +kernel
theorem dX1_step_51 : decode cX1_step 51 = .ok (.idiv, 1) := by decide +kernel
theorem dX1_step_52 : decode cX1_step 52 = .ok (.istore_n 3, 1) := by decide +kernel
theorem dX1_step_53 : decode cX1_step 53 = .ok (.iload 4, 2) := by decide +kernel
theorem dX1_step_55 : decode cX1_step 55 = .ok (.iload 7, 2) := by decide +kernel
theorem dX1_step_57 : decode cX1_step 57 = .ok (.ifCond .ne 9, 3) := by decide +kernel
theorem dX1_step_60 : decode cX1_step 60 = .ok (.sipush 1296, 3) := by decide +kernel
theorem dX1_step_63 : decode cX1_step 63 = .ok (.goto 10, 3) := by decide +kernel
theorem dX1_step_66 : decode cX1_step 66 = .ok (.iload 7, 2) := by decide +kernel
theorem dX1_step_68 : decode cX1_step 68 = .ok (.iconst 1, 1) := by decide +kernel
theorem dX1_step_69 : decode cX1_step 69 = .ok (.isub, 1) := by decide +kernel
theorem dX1_step_70 : decode cX1_step 70 = .ok (.iload 5, 2) := by decide +kernel
theorem dX1_step_72 : decode cX1_step 72 = .ok (.imul, 1) := by decide +kernel
theorem dX1_step_73 : decode cX1_step 73 = .ok (.iadd, 1) := by decide +kernel
theorem dX1_step_74 : decode cX1_step 74 = .ok (.istore 4, 2) := by decide +kernel
theorem dX1_step_76 : decode cX1_step 76 = .ok (.iload 5, 2) := by decide +kernel
theorem dX1_step_78 : decode cX1_step 78 = .ok (.bipush 6, 2) := by decide +kernel
theorem dX1_step_80 : decode cX1_step 80 = .ok (.imul, 1) := by decide +kernel
theorem dX1_step_81 : decode cX1_step 81 = .ok (.istore 5, 2) := by decide +kernel
theorem dX1_step_83 : decode cX1_step 83 = .ok (.iinc 6 1, 3) := by decide +kernel
theorem dX1_step_86 : decode cX1_step 86 = .ok (.goto (-75), 3) := by decide +kernel
theorem dX1_step_89 : decode cX1_step 89 = .ok (.iload 4, 2) := by decide +kernel
theorem dX1_step_91 : decode cX1_step 91 = .ok (.ireturn, 1) := by decide +kernel
