theorem dX6_init_0 : decode cX6_init 0 = .ok (.aload_n 0, 1) := by decide +kernel
theorem dX6_init_1 : decode cX6_init 1 = .ok (.invokespecial 3, 3) := by decide +kernel
theorem dX6_init_4 : decode cX6_init 4 = .ok (.aload_n 0, 1) := by decide +kernel
theorem dX6_init_5 : decode cX6_init 5 = .ok (.bipush 9, 2) := by decide +kernel
theorem dX6_init_7 : decode cX6_init 7 = .ok (.newarray .long, 2) := by decide +kernel
theorem dX6_init_9 : decode cX6_init 9 = .ok (.putfield 9, 3) := by decide +kernel
theorem dX6_init_12 : decode cX6_init 12 = .ok (.aload_n 0, 1) := by decide +kernel
theorem dX6_init_13 : decode cX6_init 13 = .ok (.sipush 256, 3) := by decide +kernel
theorem dX6_init_16 : decode cX6_init 16 = .ok (.newarray .int, 2) := by decide +kernel
theorem dX6_init_18 : decode cX6_init 18 = .ok (.putfield 15, 3) := by decide +kernel
theorem dX6_init_21 : decode cX6_init 21 = .ok (.aload_n 0, 1) := by decide +kernel
theorem dX6_init_22 : decode cX6_init 22 = .ok (.iconst 3, 1) := by decide +kernel
theorem dX6_init_23 : decode cX6_init 23 = .ok (.newarray .int, 2) := by decide +kernel
theorem dX6_init_25 : decode cX6_init 25 = .ok (.putfield 19, 3) := by decide +kernel
theorem dX6_init_28 : decode cX6_init 28 = .ok (.aload_n 0, 1) := by decide +kernel
theorem dX6_init_29 : decode cX6_init 29 = .ok (.bipush 51, 2) := by decide +kernel
theorem dX6_init_31 : decode cX6_init 31 = .ok (.newarray .int, 2) := by decide +kernel
theorem dX6_init_33 : decode cX6_init 33 = .ok (.putfield 22, 3) := by decide +kernel
theorem dX6_init_36 : decode cX6_init 36 = .ok (.aload_n 0, 1) := by decide +kernel
theorem dX6_init_37 : decode cX6_init 37 = .ok (.bipush 51, 2) := by decide +kernel
theorem dX6_init_39 : decode cX6_init 39 = .ok (.newarray .int, 2) := by decide +kernel
theorem dX6_init_41 : decode cX6_init 41 = .ok (.putfield 25, 3) := by decide +kernel
theorem dX6_init_44 : decode cX6_init 44 = .ok (.aload_n 0, 1) := by decide +kernel
theorem dX6_init_45 : decode cX6_init 45 = .ok (.aload_n 1, 1) := by decide +kernel
theorem dX6_init_46 : decode cX6_init 46 = .ok (.putfield 28, 3) := by decide +kernel
theorem dX6_init_49 : decode cX6_init 49 = .ok (.aload_n 0, 1) := by decide +kernel
theorem dX6_init_50 : decode cX6_init 50 = .ok (.aload_n 2, 1) := by decide +kernel
theorem dX6_init_51 : decode cX6_init 51 = .ok (.putfield 32, 3) := by decide +kernel
theorem dX6_init_54 : decode cX6_init 54 = .ok (.return_, 1) := by decide +kernel
theorem dX6_takes_0 : decode cX6_takes 0 = .ok (.iconst 0, 1) := by decide +kernel
theorem dX6_takes_1 : decode cX6_takes 1 = .ok (.istore 4, 2) := by decide +kernel
theorem dX6_takes_3 : decode cX6_takes 3 = .ok (.iconst 0, 1) := by decide +kernel
theorem dX6_takes_4 : decode cX6_takes 4 = .ok (.istore 5, 2) := by decide +kernel
theorem dX6_takes_6 : decode cX6_takes 6 = .ok (.iload 5, 2) := by decide +kernel
theorem dX6_takes_8 : decode cX6_takes 8 = .ok (.aload_n 0, 1) := by decide +kernel
theorem dX6_takes_9 : decode cX6_takes 9 = .ok (.getfield 32, 3) := by decide +kernel
theorem dX6_takes_12 : decode cX6_takes 12 = .ok (.getfield 36, 3) := by decide +kernel
theorem dX6_takes_15 : decode cX6_takes 15 = .ok (.if_icmp .ge 74, 3) := by decide +kernel
theorem dX6_takes_18 : decode cX6_takes 18 = .ok (.aload_n 0, 1) := by decide +kernel
theorem dX6_takes_19 : decode cX6_takes 19 = .ok (.getfield 32, 3) := by decide +kernel
theorem dX6_takes_22 : decode cX6_takes 22 = .ok (.getfield 42, 3) := by decide +kernel
theorem dX6_takes_25 : decode cX6_takes 25 = .ok (.iload 5, 2) := by decide +kernel
theorem dX6_takes_27 : decode cX6_takes 27 = .ok (.iaload, 1) := by decide +kernel
theorem dX6_takes_28 : decode cX6_takes 28 = .ok (.istore 6, 2) := by decide +kernel
theorem dX6_takes_30 : decode cX6_takes 30 = .ok (.iload 6, 2) := by decide +kernel
theorem dX6_takes_32 : decode cX6_takes 32 = .ok (.ifCond .ne 7, 3) := by decide +kernel
theorem dX6_takes_35 : decode cX6_takes 35 = .ok (.iload_n 1, 1) := by decide +kernel
theorem dX6_takes_36 : decode cX6_takes 36 = .ok (.goto 14, 3) := by decide +kernel
theorem dX6_takes_39 : decode cX6_takes 39 = .ok (.iload 6, 2) := by decide +kernel
theorem dX6_takes_41 : decode cX6_takes 41 = .ok (.iconst 1, 1) := by decide +kernel
theorem dX6_takes_42 : decode cX6_takes 42 = .ok (.if_icmp .ne 7, 3) := by decide +kernel
theorem dX6_takes_45 : decode cX6_takes 45 = .ok (.iload_n 2, 1) := by decide +kernel
theorem dX6_takes_46 : decode cX6_takes 46 = .ok (.goto 4, 3) := by decide +kernel
theorem dX6_takes_49 : decode cX6_takes 49 = .ok (.iload_n 3, 1) := by decide +kernel
theorem dX6_takes_50 : decode cX6_takes 50 = .ok (.istore 7, 2) := by decide +kernel
theorem dX6_takes_52 : decode cX6_takes 52 = .ok (.iload 7, 2) := by decide +kernel
theorem dX6_takes_54 : decode cX6_takes 54 = .ok (.aload_n 0, 1) := by decide +kernel
theorem dX6_takes_55 : decode cX6_takes 55 = .ok (.iload 5, 2) := by decide +kernel
theorem dX6_takes_57 : decode cX6_takes 57 = .ok (.invokevirtual 45, 3) := by decide +kernel
theorem dX6_takes_60 : decode cX6_takes 60 = .ok (.if_icmp .lt 23, 3) := by decide +kernel
theorem dX6_takes_63 : decode cX6_takes 63 = .ok (.iload 7, 2) := by decide +kernel
theorem dX6_takes_65 : decode cX6_takes 65 = .ok (.aload_n 0, 1) := by decide +kernel
theorem dX6_takes_66 : decode cX6_takes 66 = .ok (.iload 5, 2) := by decide +kernel
theorem dX6_takes_68 : decode cX6_takes 68 = .ok (.invokevirtual 49, 3) := by decide +kernel
theorem dX6_takes_71 : decode cX6_takes 71 = .ok (.if_icmp .gt 12, 3) := by decide +kernel
theorem dX6_takes_74 : decode cX6_takes 74 = .ok (.iload 4, 2) := by decide +kernel
theorem dX6_takes_76 : decode cX6_takes 76 = .ok (.iconst 1, 1) := by decide +kernel
theorem dX6_takes_77 : decode cX6_takes 77 = .ok (.iload 5, 2) := by decide +kernel
theorem dX6_takes_79 : decode cX6_takes 79 = .ok (.ishl, 1) := by decide +kernel
theorem dX6_takes_80 : decode cX6_takes 80 = .ok (.ior, 1) := by decide +kernel
theorem dX6_takes_81 : decode cX6_takes 81 = .ok (.istore 4, 2) := by decide +kernel
theorem dX6_takes_83 : decode cX6_takes 83 = .ok (.iinc 5 1, 3) := by decide +kernel
theorem dX6_takes_86 : decode cX6_takes 86 = .ok (.goto (-80), 3) := by decide +kernel
theorem dX6_takes_89 : decode cX6_takes 89 = .ok (.aload_n 0, 1) := by decide +kernel
theorem dX6_takes_90 : decode cX6_takes 90 = .ok (.iload 4, 2) := by decide +kernel
theorem dX6_takes_92 : decode cX6_takes 92 = .ok (.invokevirtual 52, 3) := by decide +kernel
theorem dX6_takes_95 : decode cX6_takes 95 = .ok (.ireturn, 1) := by decide +kernel
theorem dX6_goalOf_0 : decode cX6_goalOf 0 = .ok (.iconst 0, 1) := by decide +kernel
theorem dX6_goalOf_1 : decode cX6_goalOf 1 = .ok (.istore_n 2, 1) := by decide +kernel
theorem dX6_goalOf_2 : decode cX6_goalOf 2 = .ok (.iload_n 2, 1) := by decide +kernel
theorem dX6_goalOf_3 : decode cX6_goalOf 3 = .ok (.aload_n 0, 1) := by decide +kernel
theorem dX6_goalOf_4 : decode cX6_goalOf 4 = .ok (.getfield 32, 3) := by decide +kernel
theorem dX6_goalOf_7 : decode cX6_goalOf 7 = .ok (.getfield 36, 3) := by decide +kernel
theorem dX6_goalOf_10 : decode cX6_goalOf 10 = .ok (.if_icmp .ge 80, 3) := by decide +kernel
theorem dX6_goalOf_13 : decode cX6_goalOf 13 = .ok (.iload_n 1, 1) := by decide +kernel
theorem dX6_goalOf_14 : decode cX6_goalOf 14 = .ok (.iload_n 2, 1) := by decide +kernel
theorem dX6_goalOf_15 : decode cX6_goalOf 15 = .ok (.ishr, 1) := by decide +kernel
theorem dX6_goalOf_16 : decode cX6_goalOf 16 = .ok (.iconst 1, 1) := by decide +kernel
theorem dX6_goalOf_17 : decode cX6_goalOf 17 = .ok (.iand, 1) := by decide +kernel
theorem dX6_goalOf_18 : decode cX6_goalOf 18 = .ok (.iconst 1, 1) := by decide +kernel
theorem dX6_goalOf_19 : decode cX6_goalOf 19 = .ok (.if_icmp .ne 15, 3) := by decide +kernel
theorem dX6_goalOf_22 : decode cX6_goalOf 22 = .ok (.aload_n 0, 1) := by decide +kernel
theorem dX6_goalOf_23 : decode cX6_goalOf 23 = .ok (.getfield 32, 3) := by decide +kernel
theorem dX6_goalOf_26 : decode cX6_goalOf 26 = .ok (.getfield 55, 3) := by decide +kernel
theorem dX6_goalOf_29 : decode cX6_goalOf 29 = .ok (.iload_n 2, 1) := by decide +kernel
theorem dX6_goalOf_30 : decode cX6_goalOf 30 = .ok (.iaload, 1) := by decide +kernel
theorem dX6_goalOf_31 : decode cX6_goalOf 31 = .ok (.goto 12, 3) := by decide +kernel
theorem dX6_goalOf_34 : decode cX6_goalOf 34 = .ok (.aload_n 0, 1) := by decide +kernel
theorem dX6_goalOf_35 : decode cX6_goalOf 35 = .ok (.getfield 32, 3) := by decide +kernel
theorem dX6_goalOf_38 : decode cX6_goalOf 38 = .ok (.getfield 58, 3) := by decide +kernel
theorem dX6_goalOf_41 : decode cX6_goalOf 41 = .ok (.iload_n 2, 1) := by decide +kernel
theorem dX6_goalOf_42 : decode cX6_goalOf 42 = .ok (.iaload, 1) := by decide +kernel
theorem dX6_goalOf_43 : decode cX6_goalOf 43 = .ok (.istore_n 3, 1) := by decide +kernel
theorem dX6_goalOf_44 : decode cX6_goalOf 44 = .ok (.iload_n 3, 1) := by decide +kernel
theorem dX6_goalOf_45 : decode cX6_goalOf 45 = .ok (.bipush (-2), 2) := by decide +kernel
theorem dX6_goalOf_47 : decode cX6_goalOf 47 = .ok (.if_icmp .eq 26, 3) := by decide +kernel
theorem dX6_goalOf_50 : decode cX6_goalOf 50 = .ok (.iload_n 3, 1) := by decide +kernel
theorem dX6_goalOf_51 : decode cX6_goalOf 51 = .ok (.bipush (-3), 2) := by decide +kernel
theorem dX6_goalOf_53 : decode cX6_goalOf 53 = .ok (.if_icmp .eq 20, 3) := by decide +kernel
theorem dX6_goalOf_56 : decode cX6_goalOf 56 = .ok (.aload_n 0, 1) := by decide +kernel
theorem dX6_goalOf_57 : decode cX6_goalOf 57 = .ok (.getfield 28, 3) := by decide +kernel
theorem dX6_goalOf_60 : decode cX6_goalOf 60 = .ok (.iload_n 3, 1) := by decide +kernel
theorem dX6_goalOf_61 : decode cX6_goalOf 61 = .ok (.invokevirtual 61, 3) := by decide +kernel
theorem dX6_goalOf_64 : decode cX6_goalOf 64 = .ok (.ifCond .eq 7, 3) := by decide +kernel
theorem dX6_goalOf_67 : decode cX6_goalOf 67 = .ok (.iload_n 3, 1) := by decide +kernel
theorem dX6_goalOf_68 : decode cX6_goalOf 68 = .ok (.goto 4, 3) := by decide +kernel
theorem dX6_goalOf_71 : decode cX6_goalOf 71 = .ok (.iconst (-1), 1) := by decide +kernel
theorem dX6_goalOf_72 : decode cX6_goalOf 72 = .ok (.ireturn, 1) := by decide +kernel
theorem dX6_goalOf_73 : decode cX6_goalOf 73 = .ok (.iload_n 2, 1) := by decide +kernel
theorem dX6_goalOf_74 : decode cX6_goalOf 74 = .ok (.iload_n 3, 1) := by decide +kernel
theorem dX6_goalOf_75 : decode cX6_goalOf 75 = .ok (.bipush (-2), 2) := by decide +kernel
theorem dX6_goalOf_77 : decode cX6_goalOf 77 = .ok (.if_icmp .ne 7, 3) := by decide +kernel
theorem dX6_goalOf_80 : decode cX6_goalOf 80 = .ok (.iconst 1, 1) := by decide +kernel
theorem dX6_goalOf_81 : decode cX6_goalOf 81 = .ok (.goto 4, 3) := by decide +kernel
theorem dX6_goalOf_84 : decode cX6_goalOf 84 = .ok (.iconst 2, 1) := by decide +kernel
theorem dX6_goalOf_85 : decode cX6_goalOf 85 = .ok (.iadd, 1) := by decide +kernel
theorem dX6_goalOf_86 : decode cX6_goalOf 86 = .ok (.istore_n 2, 1) := by decide +kernel
theorem dX6_goalOf_87 : decode cX6_goalOf 87 = .ok (.goto (-85), 3) := by decide +kernel
theorem dX6_goalOf_90 : decode cX6_goalOf 90 = .ok (.iconst (-1), 1) := by decide +kernel
theorem dX6_goalOf_91 : decode cX6_goalOf 91 = .ok (.ireturn, 1) := by decide +kernel
theorem dX6_lowAt_0 : decode cX6_lowAt 0 = .ok (.aload_n 0, 1) := by decide +kernel
theorem dX6_lowAt_1 : decode cX6_lowAt 1 = .ok (.getfield 32, 3) := by decide +kernel
theorem dX6_lowAt_4 : decode cX6_lowAt 4 = .ok (.getfield 67, 3) := by decide +kernel
theorem dX6_lowAt_7 : decode cX6_lowAt 7 = .ok (.iload_n 1, 1) := by decide +kernel
theorem dX6_lowAt_8 : decode cX6_lowAt 8 = .ok (.iaload, 1) := by decide +kernel
theorem dX6_lowAt_9 : decode cX6_lowAt 9 = .ok (.istore_n 2, 1) := by decide +kernel
theorem dX6_lowAt_10 : decode cX6_lowAt 10 = .ok (.aload_n 0, 1) := by decide +kernel
theorem dX6_lowAt_11 : decode cX6_lowAt 11 = .ok (.getfield 32, 3) := by decide +kernel
theorem dX6_lowAt_14 : decode cX6_lowAt 14 = .ok (.getfield 42, 3) := by decide +kernel
theorem dX6_lowAt_17 : decode cX6_lowAt 17 = .ok (.iload_n 1, 1) := by decide +kernel
theorem dX6_lowAt_18 : decode cX6_lowAt 18 = .ok (.iaload, 1) := by decide +kernel
theorem dX6_lowAt_19 : decode cX6_lowAt 19 = .ok (.iconst 2, 1) := by decide +kernel
theorem dX6_lowAt_20 : decode cX6_lowAt 20 = .ok (.if_icmp .ne 7, 3) := by decide +kernel
theorem dX6_lowAt_23 : decode cX6_lowAt 23 = .ok (.iload_n 2, 1) := by decide +kernel
theorem dX6_lowAt_24 : decode cX6_lowAt 24 = .ok (.ifCond .gt 7, 3) := by decide +kernel
theorem dX6_lowAt_27 : decode cX6_lowAt 27 = .ok (.iload_n 2, 1) := by decide +kernel
theorem dX6_lowAt_28 : decode cX6_lowAt 28 = .ok (.goto 14, 3) := by decide +kernel
theorem dX6_lowAt_31 : decode cX6_lowAt 31 = .ok (.iload_n 2, 1) := by decide +kernel
theorem dX6_lowAt_32 : decode cX6_lowAt 32 = .ok (.aload_n 0, 1) := by decide +kernel
theorem dX6_lowAt_33 : decode cX6_lowAt 33 = .ok (.getfield 28, 3) := by decide +kernel
theorem dX6_lowAt_36 : decode cX6_lowAt 36 = .ok (.getfield 70, 3) := by decide +kernel
theorem dX6_lowAt_39 : decode cX6_lowAt 39 = .ok (.iconst 2, 1) := by decide +kernel
theorem dX6_lowAt_40 : decode cX6_lowAt 40 = .ok (.iaload, 1) := by decide +kernel
theorem dX6_lowAt_41 : decode cX6_lowAt 41 = .ok (.isub, 1) := by decide +kernel
theorem dX6_lowAt_42 : decode cX6_lowAt 42 = .ok (.ireturn, 1) := by decide +kernel
theorem dX6_highAt_0 : decode cX6_highAt 0 = .ok (.aload_n 0, 1) := by decide +kernel
theorem dX6_highAt_1 : decode cX6_highAt 1 = .ok (.getfield 32, 3) := by decide +kernel
theorem dX6_highAt_4 : decode cX6_highAt 4 = .ok (.getfield 73, 3) := by decide +kernel
theorem dX6_highAt_7 : decode cX6_highAt 7 = .ok (.iload_n 1, 1) := by decide +kernel
theorem dX6_highAt_8 : decode cX6_highAt 8 = .ok (.iaload, 1) := by decide +kernel
theorem dX6_highAt_9 : decode cX6_highAt 9 = .ok (.istore_n 2, 1) := by decide +kernel
theorem dX6_highAt_10 : decode cX6_highAt 10 = .ok (.aload_n 0, 1) := by decide +kernel
theorem dX6_highAt_11 : decode cX6_highAt 11 = .ok (.getfield 32, 3) := by decide +kernel
theorem dX6_highAt_14 : decode cX6_highAt 14 = .ok (.getfield 42, 3) := by decide +kernel
theorem dX6_highAt_17 : decode cX6_highAt 17 = .ok (.iload_n 1, 1) := by decide +kernel
theorem dX6_highAt_18 : decode cX6_highAt 18 = .ok (.iaload, 1) := by decide +kernel
theorem dX6_highAt_19 : decode cX6_highAt 19 = .ok (.iconst 2, 1) := by decide +kernel
theorem dX6_highAt_20 : decode cX6_highAt 20 = .ok (.if_icmp .ne 9, 3) := by decide +kernel
theorem dX6_highAt_23 : decode cX6_highAt 23 = .ok (.iload_n 2, 1) := by decide +kernel
theorem dX6_highAt_24 : decode cX6_highAt 24 = .ok (.bipush 99, 2) := by decide +kernel
theorem dX6_highAt_26 : decode cX6_highAt 26 = .ok (.if_icmp .lt 7, 3) := by decide +kernel
theorem dX6_highAt_29 : decode cX6_highAt 29 = .ok (.iload_n 2, 1) := by decide +kernel
theorem dX6_highAt_30 : decode cX6_highAt 30 = .ok (.goto 14, 3) := by decide +kernel
theorem dX6_highAt_33 : decode cX6_highAt 33 = .ok (.iload_n 2, 1) := by decide +kernel
theorem dX6_highAt_34 : decode cX6_highAt 34 = .ok (.aload_n 0, 1) := by decide +kernel
theorem dX6_highAt_35 : decode cX6_highAt 35 = .ok (.getfield 28, 3) := by decide +kernel
theorem dX6_highAt_38 : decode cX6_highAt 38 = .ok (.getfield 70, 3) := by decide +kernel
theorem dX6_highAt_41 : decode cX6_highAt 41 = .ok (.iconst 2, 1) := by decide +kernel
theorem dX6_highAt_42 : decode cX6_highAt 42 = .ok (.iaload, 1) := by decide +kernel
theorem dX6_highAt_43 : decode cX6_highAt 43 = .ok (.isub, 1) := by decide +kernel
theorem dX6_highAt_44 : decode cX6_highAt 44 = .ok (.ireturn, 1) := by decide +kernel
theorem dX6_learn_0 : decode cX6_learn 0 = .ok (.iconst 0, 1) := by decide +kernel
theorem dX6_learn_1 : decode cX6_learn 1 = .ok (.istore_n 1, 1) := by decide +kernel
theorem dX6_learn_2 : decode cX6_learn 2 = .ok (.iload_n 1, 1) := by decide +kernel
theorem dX6_learn_3 : decode cX6_learn 3 = .ok (.iconst 1, 1) := by decide +kernel
theorem dX6_learn_4 : decode cX6_learn 4 = .ok (.aload_n 0, 1) := by decide +kernel
theorem dX6_learn_5 : decode cX6_learn 5 = .ok (.getfield 32, 3) := by decide +kernel
theorem dX6_learn_8 : decode cX6_learn 8 = .ok (.getfield 36, 3) := by decide +kernel
theorem dX6_learn_11 : decode cX6_learn 11 = .ok (.ishl, 1) := by decide +kernel
theorem dX6_learn_12 : decode cX6_learn 12 = .ok (.if_icmp .ge 20, 3) := by decide +kernel
theorem dX6_learn_15 : decode cX6_learn 15 = .ok (.aload_n 0, 1) := by decide +kernel
theorem dX6_learn_16 : decode cX6_learn 16 = .ok (.getfield 15, 3) := by decide +kernel
theorem dX6_learn_19 : decode cX6_learn 19 = .ok (.iload_n 1, 1) := by decide +kernel
theorem dX6_learn_20 : decode cX6_learn 20 = .ok (.aload_n 0, 1) := by decide +kernel
theorem dX6_learn_21 : decode cX6_learn 21 = .ok (.iload_n 1, 1) := by decide +kernel
theorem dX6_learn_22 : decode cX6_learn 22 = .ok (.invokevirtual 52, 3) := by decide +kernel
theorem dX6_learn_25 : decode cX6_learn 25 = .ok (.iastore, 1) := by decide +kernel
theorem dX6_learn_26 : decode cX6_learn 26 = .ok (.iinc 1 1, 3) := by decide +kernel
theorem dX6_learn_29 : decode cX6_learn 29 = .ok (.goto (-27), 3) := by decide +kernel
theorem dX6_learn_32 : decode cX6_learn 32 = .ok (.return_, 1) := by decide +kernel
theorem dX6_tell_0 : decode cX6_tell 0 = .ok (.aload_n 0, 1) := by decide +kernel
theorem dX6_tell_1 : decode cX6_tell 1 = .ok (.getfield 9, 3) := by decide +kernel
theorem dX6_tell_4 : decode cX6_tell 4 = .ok (.lconst 0, 1) := by decide +kernel
theorem dX6_tell_5 : decode cX6_tell 5 = .ok (.invokestatic 76, 3) := by decide +kernel
theorem dX6_tell_8 : decode cX6_tell 8 = .ok (.iconst 0, 1) := by decide +kernel
theorem dX6_tell_9 : decode cX6_tell 9 = .ok (.istore_n 2, 1) := by decide +kernel
theorem dX6_tell_10 : decode cX6_tell 10 = .ok (.iload_n 2, 1) := by decide +kernel
theorem dX6_tell_11 : decode cX6_tell 11 = .ok (.iconst 3, 1) := by decide +kernel
theorem dX6_tell_12 : decode cX6_tell 12 = .ok (.if_icmp .ge 32, 3) := by decide +kernel
theorem dX6_tell_15 : decode cX6_tell 15 = .ok (.aload_n 0, 1) := by decide +kernel
theorem dX6_tell_16 : decode cX6_tell 16 = .ok (.iload_n 2, 1) := by decide +kernel
theorem dX6_tell_17 : decode cX6_tell 17 = .ok (.aload_n 0, 1) := by decide +kernel
theorem dX6_tell_18 : decode cX6_tell 18 = .ok (.getfield 28, 3) := by decide +kernel
theorem dX6_tell_21 : decode cX6_tell 21 = .ok (.iload_n 1, 1) := by decide +kernel
theorem dX6_tell_22 : decode cX6_tell 22 = .ok (.iload_n 2, 1) := by decide +kernel
theorem dX6_tell_23 : decode cX6_tell 23 = .ok (.invokevirtual 82, 3) := by decide +kernel
theorem dX6_tell_26 : decode cX6_tell 26 = .ok (.aload_n 0, 1) := by decide +kernel
theorem dX6_tell_27 : decode cX6_tell 27 = .ok (.getfield 28, 3) := by decide +kernel
theorem dX6_tell_30 : decode cX6_tell 30 = .ok (.iload_n 1, 1) := by decide +kernel
theorem dX6_tell_31 : decode cX6_tell 31 = .ok (.iload_n 2, 1) := by decide +kernel
theorem dX6_tell_32 : decode cX6_tell 32 = .ok (.invokevirtual 86, 3) := by decide +kernel
theorem dX6_tell_35 : decode cX6_tell 35 = .ok (.invokevirtual 89, 3) := by decide +kernel
theorem dX6_tell_38 : decode cX6_tell 38 = .ok (.iinc 2 1, 3) := by decide +kernel
theorem dX6_tell_41 : decode cX6_tell 41 = .ok (.goto (-31), 3) := by decide +kernel
theorem dX6_tell_44 : decode cX6_tell 44 = .ok (.iconst 0, 1) := by decide +kernel
theorem dX6_tell_45 : decode cX6_tell 45 = .ok (.istore_n 2, 1) := by decide +kernel
theorem dX6_tell_46 : decode cX6_tell 46 = .ok (.iload_n 2, 1) := by decide +kernel
theorem dX6_tell_47 : decode cX6_tell 47 = .ok (.aload_n 0, 1) := by decide +kernel
theorem dX6_tell_48 : decode cX6_tell 48 = .ok (.getfield 19, 3) := by decide +kernel
theorem dX6_tell_51 : decode cX6_tell 51 = .ok (.iconst 0, 1) := by decide +kernel
theorem dX6_tell_52 : decode cX6_tell 52 = .ok (.iaload, 1) := by decide +kernel
theorem dX6_tell_53 : decode cX6_tell 53 = .ok (.if_icmp .ge 63, 3) := by decide +kernel
theorem dX6_tell_56 : decode cX6_tell 56 = .ok (.bipush 17, 2) := by decide +kernel
theorem dX6_tell_58 : decode cX6_tell 58 = .ok (.istore_n 3, 1) := by decide +kernel
theorem dX6_tell_59 : decode cX6_tell 59 = .ok (.iload_n 3, 1) := by decide +kernel
theorem dX6_tell_60 : decode cX6_tell 60 = .ok (.bipush 17, 2) := by decide +kernel
theorem dX6_tell_62 : decode cX6_tell 62 = .ok (.aload_n 0, 1) := by decide +kernel
theorem dX6_tell_63 : decode cX6_tell 63 = .ok (.getfield 19, 3) := by decide +kernel
theorem dX6_tell_66 : decode cX6_tell 66 = .ok (.iconst 1, 1) := by decide +kernel
theorem dX6_tell_67 : decode cX6_tell 67 = .ok (.iaload, 1) := by decide +kernel
theorem dX6_tell_68 : decode cX6_tell 68 = .ok (.iadd, 1) := by decide +kernel
theorem dX6_tell_69 : decode cX6_tell 69 = .ok (.if_icmp .ge 41, 3) := by decide +kernel
theorem dX6_tell_72 : decode cX6_tell 72 = .ok (.aload_n 0, 1) := by decide +kernel
theorem dX6_tell_73 : decode cX6_tell 73 = .ok (.aload_n 0, 1) := by decide +kernel
theorem dX6_tell_74 : decode cX6_tell 74 = .ok (.getfield 22, 3) := by decide +kernel
theorem dX6_tell_77 : decode cX6_tell 77 = .ok (.iload_n 2, 1) := by decide +kernel
theorem dX6_tell_78 : decode cX6_tell 78 = .ok (.iaload, 1) := by decide +kernel
theorem dX6_tell_79 : decode cX6_tell 79 = .ok (.aload_n 0, 1) := by decide +kernel
theorem dX6_tell_80 : decode cX6_tell 80 = .ok (.getfield 22, 3) := by decide +kernel
theorem dX6_tell_83 : decode cX6_tell 83 = .ok (.iload_n 3, 1) := by decide +kernel
theorem dX6_tell_84 : decode cX6_tell 84 = .ok (.iaload, 1) := by decide +kernel
theorem dX6_tell_85 : decode cX6_tell 85 = .ok (.ior, 1) := by decide +kernel
theorem dX6_tell_86 : decode cX6_tell 86 = .ok (.aload_n 0, 1) := by decide +kernel
theorem dX6_tell_87 : decode cX6_tell 87 = .ok (.getfield 25, 3) := by decide +kernel
theorem dX6_tell_90 : decode cX6_tell 90 = .ok (.iload_n 2, 1) := by decide +kernel
theorem dX6_tell_91 : decode cX6_tell 91 = .ok (.iaload, 1) := by decide +kernel
theorem dX6_tell_92 : decode cX6_tell 92 = .ok (.i2l, 1) := by decide +kernel
theorem dX6_tell_93 : decode cX6_tell 93 = .ok (.aload_n 0, 1) := by decide +kernel
theorem dX6_tell_94 : decode cX6_tell 94 = .ok (.getfield 25, 3) := by decide +kernel
theorem dX6_tell_97 : decode cX6_tell 97 = .ok (.iload_n 3, 1) := by decide +kernel
theorem dX6_tell_98 : decode cX6_tell 98 = .ok (.iaload, 1) := by decide +kernel
theorem dX6_tell_99 : decode cX6_tell 99 = .ok (.i2l, 1) := by decide +kernel
theorem dX6_tell_100 : decode cX6_tell 100 = .ok (.lmul, 1) := by decide +kernel
theorem dX6_tell_101 : decode cX6_tell 101 = .ok (.invokevirtual 93, 3) := by decide +kernel
theorem dX6_tell_104 : decode cX6_tell 104 = .ok (.iinc 3 1, 3) := by decide +kernel
theorem dX6_tell_107 : decode cX6_tell 107 = .ok (.goto (-48), 3) := by decide +kernel
theorem dX6_tell_110 : decode cX6_tell 110 = .ok (.iinc 2 1, 3) := by decide +kernel
theorem dX6_tell_113 : decode cX6_tell 113 = .ok (.goto (-67), 3) := by decide +kernel
theorem dX6_tell_116 : decode cX6_tell 116 = .ok (.return_, 1) := by decide +kernel
theorem dX6_addRings_0 : decode cX6_addRings 0 = .ok (.bipush 34, 2) := by decide +kernel
theorem dX6_addRings_2 : decode cX6_addRings 2 = .ok (.istore 4, 2) := by decide +kernel
theorem dX6_addRings_4 : decode cX6_addRings 4 = .ok (.iload 4, 2) := by decide +kernel
theorem dX6_addRings_6 : decode cX6_addRings 6 = .ok (.istore 5, 2) := by decide +kernel
theorem dX6_addRings_8 : decode cX6_addRings 8 = .ok (.iload 5, 2) := by decide +kernel
theorem dX6_addRings_10 : decode cX6_addRings 10 = .ok (.iload 4, 2) := by decide +kernel
theorem dX6_addRings_12 : decode cX6_addRings 12 = .ok (.aload_n 0, 1) := by decide +kernel
theorem dX6_addRings_13 : decode cX6_addRings 13 = .ok (.getfield 19, 3) := by decide +kernel
theorem dX6_addRings_16 : decode cX6_addRings 16 = .ok (.iconst 2, 1) := by decide +kernel
theorem dX6_addRings_17 : decode cX6_addRings 17 = .ok (.iaload, 1) := by decide +kernel
theorem dX6_addRings_18 : decode cX6_addRings 18 = .ok (.iadd, 1) := by decide +kernel
theorem dX6_addRings_19 : decode cX6_addRings 19 = .ok (.if_icmp .ge 43, 3) := by decide +kernel
theorem dX6_addRings_22 : decode cX6_addRings 22 = .ok (.aload_n 0, 1) := by decide +kernel
theorem dX6_addRings_23 : decode cX6_addRings 23 = .ok (.getfield 9, 3) := by decide +kernel
theorem dX6_addRings_26 : decode cX6_addRings 26 = .ok (.aload_n 0, 1) := by decide +kernel
theorem dX6_addRings_27 : decode cX6_addRings 27 = .ok (.getfield 15, 3) := by decide +kernel
theorem dX6_addRings_30 : decode cX6_addRings 30 = .ok (.iload_n 1, 1) := by decide +kernel
theorem dX6_addRings_31 : decode cX6_addRings 31 = .ok (.aload_n 0, 1) := by decide +kernel
theorem dX6_addRings_32 : decode cX6_addRings 32 = .ok (.getfield 22, 3) := by decide +kernel
theorem dX6_addRings_35 : decode cX6_addRings 35 = .ok (.iload 5, 2) := by decide +kernel
theorem dX6_addRings_37 : decode cX6_addRings 37 = .ok (.iaload, 1) := by decide +kernel
theorem dX6_addRings_38 : decode cX6_addRings 38 = .ok (.ior, 1) := by decide +kernel
theorem dX6_addRings_39 : decode cX6_addRings 39 = .ok (.iaload, 1) := by decide +kernel
theorem dX6_addRings_40 : decode cX6_addRings 40 = .ok (.iconst 1, 1) := by decide +kernel
theorem dX6_addRings_41 : decode cX6_addRings 41 = .ok (.iadd, 1) := by decide +kernel
theorem dX6_addRings_42 : decode cX6_addRings 42 = .ok (.dup2, 1) := by decide +kernel
theorem dX6_addRings_43 : decode cX6_addRings 43 = .ok (.laload, 1) := by decide +kernel
theorem dX6_addRings_44 : decode cX6_addRings 44 = .ok (.lload_n 2, 1) := by decide +kernel
theorem dX6_addRings_45 : decode cX6_addRings 45 = .ok (.aload_n 0, 1) := by decide +kernel
theorem dX6_addRings_46 : decode cX6_addRings 46 = .ok (.getfield 25, 3) := by decide +kernel
theorem dX6_addRings_49 : decode cX6_addRings 49 = .ok (.iload 5, 2) := by decide +kernel
theorem dX6_addRings_51 : decode cX6_addRings 51 = .ok (.iaload, 1) := by decide +kernel
theorem dX6_addRings_52 : decode cX6_addRings 52 = .ok (.i2l, 1) := by decide +kernel
theorem dX6_addRings_53 : decode cX6_addRings 53 = .ok (.lmul, 1) := by decide +kernel
theorem dX6_addRings_54 : decode cX6_addRings 54 = .ok (.ladd, 1) := by decide +kernel
theorem dX6_addRings_55 : decode cX6_addRings 55 = .ok (.lastore, 1) := by decide +kernel
theorem dX6_addRings_56 : decode cX6_addRings 56 = .ok (.iinc 5 1, 3) := by decide +kernel
theorem dX6_addRings_59 : decode cX6_addRings 59 = .ok (.goto (-51), 3) := by decide +kernel
theorem dX6_addRings_62 : decode cX6_addRings 62 = .ok (.return_, 1) := by decide +kernel
theorem dX6_stretch_0 : decode cX6_stretch 0 = .ok (.iconst 0, 1) := by decide +kernel
theorem dX6_stretch_1 : decode cX6_stretch 1 = .ok (.istore 4, 2) := by decide +kernel
theorem dX6_stretch_3 : decode cX6_stretch 3 = .ok (.iload_n 2, 1) := by decide +kernel
theorem dX6_stretch_4 : decode cX6_stretch 4 = .ok (.istore 5, 2) := by decide +kernel
theorem dX6_stretch_6 : decode cX6_stretch 6 = .ok (.iload 5, 2) := by decide +kernel
theorem dX6_stretch_8 : decode cX6_stretch 8 = .ok (.iload_n 3, 1) := by decide +kernel
theorem dX6_stretch_9 : decode cX6_stretch 9 = .ok (.if_icmp .gt 158, 3) := by decide +kernel
theorem dX6_stretch_12 : decode cX6_stretch 12 = .ok (.iload 4, 2) := by decide +kernel
theorem dX6_stretch_14 : decode cX6_stretch 14 = .ok (.bipush 17, 2) := by decide +kernel
theorem dX6_stretch_16 : decode cX6_stretch 16 = .ok (.if_icmp .ge 151, 3) := by decide +kernel
theorem dX6_stretch_19 : decode cX6_stretch 19 = .ok (.iconst 0, 1) := by decide +kernel
theorem dX6_stretch_20 : decode cX6_stretch 20 = .ok (.istore 6, 2) := by decide +kernel
theorem dX6_stretch_22 : decode cX6_stretch 22 = .ok (.iload_n 3, 1) := by decide +kernel
theorem dX6_stretch_23 : decode cX6_stretch 23 = .ok (.istore 7, 2) := by decide +kernel
theorem dX6_stretch_25 : decode cX6_stretch 25 = .ok (.iconst 0, 1) := by decide +kernel
theorem dX6_stretch_26 : decode cX6_stretch 26 = .ok (.istore 8, 2) := by decide +kernel
theorem dX6_stretch_28 : decode cX6_stretch 28 = .ok (.iload 8, 2) := by decide +kernel
theorem dX6_stretch_30 : decode cX6_stretch 30 = .ok (.aload_n 0, 1) := by decide +kernel
theorem dX6_stretch_31 : decode cX6_stretch 31 = .ok (.getfield 32, 3) := by decide +kernel
theorem dX6_stretch_34 : decode cX6_stretch 34 = .ok (.getfield 36, 3) := by decide +kernel
theorem dX6_stretch_37 : decode cX6_stretch 37 = .ok (.if_icmp .ge 85, 3) := by decide +kernel
theorem dX6_stretch_40 : decode cX6_stretch 40 = .ok (.aload_n 0, 1) := by decide +kernel
theorem dX6_stretch_41 : decode cX6_stretch 41 = .ok (.getfield 32, 3) := by decide +kernel
theorem dX6_stretch_44 : decode cX6_stretch 44 = .ok (.getfield 42, 3) := by decide +kernel
theorem dX6_stretch_47 : decode cX6_stretch 47 = .ok (.iload 8, 2) := by decide +kernel
theorem dX6_stretch_49 : decode cX6_stretch 49 = .ok (.iaload, 1) := by decide +kernel
theorem dX6_stretch_50 : decode cX6_stretch 50 = .ok (.iload_n 1, 1) := by decide +kernel
theorem dX6_stretch_51 : decode cX6_stretch 51 = .ok (.if_icmp .ne 65, 3) := by decide +kernel
theorem dX6_stretch_54 : decode cX6_stretch 54 = .ok (.aload_n 0, 1) := by decide +kernel
theorem dX6_stretch_55 : decode cX6_stretch 55 = .ok (.iload 8, 2) := by decide +kernel
theorem dX6_stretch_57 : decode cX6_stretch 57 = .ok (.invokevirtual 45, 3) := by decide +kernel
theorem dX6_stretch_60 : decode cX6_stretch 60 = .ok (.istore 9, 2) := by decide +kernel
theorem dX6_stretch_62 : decode cX6_stretch 62 = .ok (.aload_n 0, 1) := by decide +kernel
theorem dX6_stretch_63 : decode cX6_stretch 63 = .ok (.iload 8, 2) := by decide +kernel
theorem dX6_stretch_65 : decode cX6_stretch 65 = .ok (.invokevirtual 49, 3) := by decide +kernel
theorem dX6_stretch_68 : decode cX6_stretch 68 = .ok (.istore 10, 2) := by decide +kernel
theorem dX6_stretch_70 : decode cX6_stretch 70 = .ok (.iload 5, 2) := by decide +kernel
theorem dX6_stretch_72 : decode cX6_stretch 72 = .ok (.iload 9, 2) := by decide +kernel
theorem dX6_stretch_74 : decode cX6_stretch 74 = .ok (.if_icmp .ge 17, 3) := by decide +kernel
theorem dX6_stretch_77 : decode cX6_stretch 77 = .ok (.iload 7, 2) := by decide +kernel
theorem dX6_stretch_79 : decode cX6_stretch 79 = .ok (.iload 9, 2) := by decide +kernel
theorem dX6_stretch_81 : decode cX6_stretch 81 = .ok (.iconst 1, 1) := by decide +kernel
theorem dX6_stretch_82 : decode cX6_stretch 82 = .ok (.isub, 1) := by decide +kernel
theorem dX6_stretch_83 : decode cX6_stretch 83 = .ok (.invokestatic 97, 3) := by decide +kernel
theorem dX6_stretch_86 : decode cX6_stretch 86 = .ok (.istore 7, 2) := by decide +kernel
theorem dX6_stretch_88 : decode cX6_stretch 88 = .ok (.goto 28, 3) := by decide +kernel
theorem dX6_stretch_91 : decode cX6_stretch 91 = .ok (.iload 5, 2) := by decide +kernel
theorem dX6_stretch_93 : decode cX6_stretch 93 = .ok (.iload 10, 2) := by decide +kernel
theorem dX6_stretch_95 : decode cX6_stretch 95 = .ok (.if_icmp .gt 21, 3) := by decide +kernel
theorem dX6_stretch_98 : decode cX6_stretch 98 = .ok (.iload 7, 2) := by decide +kernel
theorem dX6_stretch_100 : decode cX6_stretch 100 = .ok (.iload 10, 2) := by decide +kernel
theorem dX6_stretch_102 : decode cX6_stretch 102 = .ok (.invokestatic 97, 3) := by decide +kernel
theorem dX6_stretch_105 : decode cX6_stretch 105 = .ok (.istore 7, 2) := by decide +kernel
theorem dX6_stretch_107 : decode cX6_stretch 107 = .ok (.iload 6, 2) := by decide +kernel
theorem dX6_stretch_109 : decode cX6_stretch 109 = .ok (.iconst 1, 1) := by decide +kernel
theorem dX6_stretch_110 : decode cX6_stretch 110 = .ok (.iload 8, 2) := by decide +kernel
theorem dX6_stretch_112 : decode cX6_stretch 112 = .ok (.ishl, 1) := by decide +kernel
theorem dX6_stretch_113 : decode cX6_stretch 113 = .ok (.ior, 1) := by decide +kernel
theorem dX6_stretch_114 : decode cX6_stretch 114 = .ok (.istore 6, 2) := by decide +kernel
theorem dX6_stretch_116 : decode cX6_stretch 116 = .ok (.iinc 8 1, 3) := by decide +kernel
theorem dX6_stretch_119 : decode cX6_stretch 119 = .ok (.goto (-91), 3) := by decide +kernel
theorem dX6_stretch_122 : decode cX6_stretch 122 = .ok (.aload_n 0, 1) := by decide +kernel
theorem dX6_stretch_123 : decode cX6_stretch 123 = .ok (.getfield 22, 3) := by decide +kernel
theorem dX6_stretch_126 : decode cX6_stretch 126 = .ok (.iload_n 1, 1) := by decide +kernel
theorem dX6_stretch_127 : decode cX6_stretch 127 = .ok (.bipush 17, 2) := by decide +kernel
theorem dX6_stretch_129 : decode cX6_stretch 129 = .ok (.imul, 1) := by decide +kernel
theorem dX6_stretch_130 : decode cX6_stretch 130 = .ok (.iload 4, 2) := by decide +kernel
theorem dX6_stretch_132 : decode cX6_stretch 132 = .ok (.iadd, 1) := by decide +kernel
theorem dX6_stretch_133 : decode cX6_stretch 133 = .ok (.iload 6, 2) := by decide +kernel
theorem dX6_stretch_135 : decode cX6_stretch 135 = .ok (.iastore, 1) := by decide +kernel
theorem dX6_stretch_136 : decode cX6_stretch 136 = .ok (.aload_n 0, 1) := by decide +kernel
theorem dX6_stretch_137 : decode cX6_stretch 137 = .ok (.getfield 25, 3) := by decide +kernel
theorem dX6_stretch_140 : decode cX6_stretch 140 = .ok (.iload_n 1, 1) := by decide +kernel
theorem dX6_stretch_141 : decode cX6_stretch 141 = .ok (.bipush 17, 2) := by decide +kernel
theorem dX6_stretch_143 : decode cX6_stretch 143 = .ok (.imul, 1) := by decide +kernel
theorem dX6_stretch_144 : decode cX6_stretch 144 = .ok (.iload 4, 2) := by decide +kernel
theorem dX6_stretch_146 : decode cX6_stretch 146 = .ok (.iadd, 1) := by decide +kernel
theorem dX6_stretch_147 : decode cX6_stretch 147 = .ok (.iload 7, 2) := by decide +kernel
theorem dX6_stretch_149 : decode cX6_stretch 149 = .ok (.iload 5, 2) := by decide +kernel
theorem dX6_stretch_151 : decode cX6_stretch 151 = .ok (.isub, 1) := by decide +kernel
theorem dX6_stretch_152 : decode cX6_stretch 152 = .ok (.iconst 1, 1) := by decide +kernel
theorem dX6_stretch_153 : decode cX6_stretch 153 = .ok (.iadd, 1) := by decide +kernel
theorem dX6_stretch_154 : decode cX6_stretch 154 = .ok (.iastore, 1) := by decide +kernel
theorem dX6_stretch_155 : decode cX6_stretch 155 = .ok (.iinc 4 1, 3) := by decide +kernel
theorem dX6_stretch_158 : decode cX6_stretch 158 = .ok (.iload 7, 2) := by decide +kernel
theorem dX6_stretch_160 : decode cX6_stretch 160 = .ok (.iconst 1, 1) := by decide +kernel
theorem dX6_stretch_161 : decode cX6_stretch 161 = .ok (.iadd, 1) := by decide +kernel
theorem dX6_stretch_162 : decode cX6_stretch 162 = .ok (.istore 5, 2) := by decide +kernel
theorem dX6_stretch_164 : decode cX6_stretch 164 = .ok (.goto (-158), 3) := by decide +kernel
theorem dX6_stretch_167 : decode cX6_stretch 167 = .ok (.aload_n 0, 1) := by decide +kernel
theorem dX6_stretch_168 : decode cX6_stretch 168 = .ok (.getfield 19, 3) := by decide +kernel
theorem dX6_stretch_171 : decode cX6_stretch 171 = .ok (.iload_n 1, 1) := by decide +kernel
theorem dX6_stretch_172 : decode cX6_stretch 172 = .ok (.iload 4, 2) := by decide +kernel
theorem dX6_stretch_174 : decode cX6_stretch 174 = .ok (.iastore, 1) := by decide +kernel
theorem dX6_stretch_175 : decode cX6_stretch 175 = .ok (.return_, 1) := by decide +kernel
theorem dX6_wrongOf_0 : decode cX6_wrongOf 0 = .ok (.aload_n 0, 1) := by decide +kernel
theorem dX6_wrongOf_1 : decode cX6_wrongOf 1 = .ok (.iload_n 1, 1) := by decide +kernel
theorem dX6_wrongOf_2 : decode cX6_wrongOf 2 = .ok (.invokevirtual 102, 3) := by decide +kernel
theorem dX6_wrongOf_5 : decode cX6_wrongOf 5 = .ok (.aload_n 0, 1) := by decide +kernel
theorem dX6_wrongOf_6 : decode cX6_wrongOf 6 = .ok (.getfield 28, 3) := by decide +kernel
theorem dX6_wrongOf_9 : decode cX6_wrongOf 9 = .ok (.iload_n 1, 1) := by decide +kernel
theorem dX6_wrongOf_10 : decode cX6_wrongOf 10 = .ok (.invokevirtual 106, 3) := by decide +kernel
theorem dX6_wrongOf_13 : decode cX6_wrongOf 13 = .ok (.istore_n 2, 1) := by decide +kernel
theorem dX6_wrongOf_14 : decode cX6_wrongOf 14 = .ok (.aload_n 0, 1) := by decide +kernel
theorem dX6_wrongOf_15 : decode cX6_wrongOf 15 = .ok (.getfield 28, 3) := by decide +kernel
theorem dX6_wrongOf_18 : decode cX6_wrongOf 18 = .ok (.iload_n 1, 1) := by decide +kernel
theorem dX6_wrongOf_19 : decode cX6_wrongOf 19 = .ok (.invokevirtual 61, 3) := by decide +kernel
theorem dX6_wrongOf_22 : decode cX6_wrongOf 22 = .ok (.ifCond .eq 23, 3) := by decide +kernel
theorem dX6_wrongOf_25 : decode cX6_wrongOf 25 = .ok (.aload_n 0, 1) := by decide +kernel
theorem dX6_wrongOf_26 : decode cX6_wrongOf 26 = .ok (.getfield 9, 3) := by decide +kernel
theorem dX6_wrongOf_29 : decode cX6_wrongOf 29 = .ok (.iconst 0, 1) := by decide +kernel
theorem dX6_wrongOf_30 : decode cX6_wrongOf 30 = .ok (.laload, 1) := by decide +kernel
theorem dX6_wrongOf_31 : decode cX6_wrongOf 31 = .ok (.aload_n 0, 1) := by decide +kernel
theorem dX6_wrongOf_32 : decode cX6_wrongOf 32 = .ok (.getfield 28, 3) := by decide +kernel
theorem dX6_wrongOf_35 : decode cX6_wrongOf 35 = .ok (.getfield 70, 3) := by decide +kernel
theorem dX6_wrongOf_38 : decode cX6_wrongOf 38 = .ok (.iconst 3, 1) := by decide +kernel
theorem dX6_wrongOf_39 : decode cX6_wrongOf 39 = .ok (.iaload, 1) := by decide +kernel
theorem dX6_wrongOf_40 : decode cX6_wrongOf 40 = .ok (.i2l, 1) := by decide +kernel
theorem dX6_wrongOf_41 : decode cX6_wrongOf 41 = .ok (.lmul, 1) := by decide +kernel
theorem dX6_wrongOf_42 : decode cX6_wrongOf 42 = .ok (.goto 4, 3) := by decide +kernel
theorem dX6_wrongOf_45 : decode cX6_wrongOf 45 = .ok (.lconst 0, 1) := by decide +kernel
theorem dX6_wrongOf_46 : decode cX6_wrongOf 46 = .ok (.lstore_n 3, 1) := by decide +kernel
theorem dX6_wrongOf_47 : decode cX6_wrongOf 47 = .ok (.iconst 0, 1) := by decide +kernel
theorem dX6_wrongOf_48 : decode cX6_wrongOf 48 = .ok (.istore 5, 2) := by decide +kernel
theorem dX6_wrongOf_50 : decode cX6_wrongOf 50 = .ok (.iload 5, 2) := by decide +kernel
theorem dX6_wrongOf_52 : decode cX6_wrongOf 52 = .ok (.aload_n 0, 1) := by decide +kernel
theorem dX6_wrongOf_53 : decode cX6_wrongOf 53 = .ok (.getfield 28, 3) := by decide +kernel
theorem dX6_wrongOf_56 : decode cX6_wrongOf 56 = .ok (.getfield 109, 3) := by decide +kernel
theorem dX6_wrongOf_59 : decode cX6_wrongOf 59 = .ok (.if_icmp .ge 58, 3) := by decide +kernel
theorem dX6_wrongOf_62 : decode cX6_wrongOf 62 = .ok (.iload 5, 2) := by decide +kernel
theorem dX6_wrongOf_64 : decode cX6_wrongOf 64 = .ok (.iload_n 1, 1) := by decide +kernel
theorem dX6_wrongOf_65 : decode cX6_wrongOf 65 = .ok (.if_icmp .eq 46, 3) := by decide +kernel
theorem dX6_wrongOf_68 : decode cX6_wrongOf 68 = .ok (.aload_n 0, 1) := by decide +kernel
theorem dX6_wrongOf_69 : decode cX6_wrongOf 69 = .ok (.getfield 9, 3) := by decide +kernel
theorem dX6_wrongOf_72 : decode cX6_wrongOf 72 = .ok (.iload 5, 2) := by decide +kernel
theorem dX6_wrongOf_74 : decode cX6_wrongOf 74 = .ok (.iconst 1, 1) := by decide +kernel
theorem dX6_wrongOf_75 : decode cX6_wrongOf 75 = .ok (.iadd, 1) := by decide +kernel
theorem dX6_wrongOf_76 : decode cX6_wrongOf 76 = .ok (.laload, 1) := by decide +kernel
theorem dX6_wrongOf_77 : decode cX6_wrongOf 77 = .ok (.lconst 0, 1) := by decide +kernel
theorem dX6_wrongOf_78 : decode cX6_wrongOf 78 = .ok (.lcmp, 1) := by decide +kernel
theorem dX6_wrongOf_79 : decode cX6_wrongOf 79 = .ok (.ifCond .le 32, 3) := by decide +kernel
theorem dX6_wrongOf_82 : decode cX6_wrongOf 82 = .ok (.lload_n 3, 1) := by decide +kernel
theorem dX6_wrongOf_83 : decode cX6_wrongOf 83 = .ok (.aload_n 0, 1) := by decide +kernel
theorem dX6_wrongOf_84 : decode cX6_wrongOf 84 = .ok (.getfield 9, 3) := by decide +kernel
theorem dX6_wrongOf_87 : decode cX6_wrongOf 87 = .ok (.iload 5, 2) := by decide +kernel
theorem dX6_wrongOf_89 : decode cX6_wrongOf 89 = .ok (.iconst 1, 1) := by decide +kernel
theorem dX6_wrongOf_90 : decode cX6_wrongOf 90 = .ok (.iadd, 1) := by decide +kernel
theorem dX6_wrongOf_91 : decode cX6_wrongOf 91 = .ok (.laload, 1) := by decide +kernel
theorem dX6_wrongOf_92 : decode cX6_wrongOf 92 = .ok (.iconst 0, 1) := by decide +kernel
theorem dX6_wrongOf_93 : decode cX6_wrongOf 93 = .ok (.aload_n 0, 1) := by decide +kernel
theorem dX6_wrongOf_94 : decode cX6_wrongOf 94 = .ok (.getfield 28, 3) := by decide +kernel
theorem dX6_wrongOf_97 : decode cX6_wrongOf 97 = .ok (.iload 5, 2) := by decide +kernel
theorem dX6_wrongOf_99 : decode cX6_wrongOf 99 = .ok (.invokevirtual 106, 3) := by decide +kernel
theorem dX6_wrongOf_102 : decode cX6_wrongOf 102 = .ok (.iload_n 2, 1) := by decide +kernel
theorem dX6_wrongOf_103 : decode cX6_wrongOf 103 = .ok (.isub, 1) := by decide +kernel
theorem dX6_wrongOf_104 : decode cX6_wrongOf 104 = .ok (.invokestatic 110, 3) := by decide +kernel
theorem dX6_wrongOf_107 : decode cX6_wrongOf 107 = .ok (.i2l, 1) := by decide +kernel
theorem dX6_wrongOf_108 : decode cX6_wrongOf 108 = .ok (.lmul, 1) := by decide +kernel
theorem dX6_wrongOf_109 : decode cX6_wrongOf 109 = .ok (.ladd, 1) := by decide +kernel
theorem dX6_wrongOf_110 : decode cX6_wrongOf 110 = .ok (.lstore_n 3, 1) := by decide +kernel
theorem dX6_wrongOf_111 : decode cX6_wrongOf 111 = .ok (.iinc 5 1, 3) := by decide +kernel
theorem dX6_wrongOf_114 : decode cX6_wrongOf 114 = .ok (.goto (-64), 3) := by decide +kernel
theorem dX6_wrongOf_117 : decode cX6_wrongOf 117 = .ok (.aload_n 0, 1) := by decide +kernel
theorem dX6_wrongOf_118 : decode cX6_wrongOf 118 = .ok (.getfield 28, 3) := by decide +kernel
theorem dX6_wrongOf_121 : decode cX6_wrongOf 121 = .ok (.iload_n 1, 1) := by decide +kernel
theorem dX6_wrongOf_122 : decode cX6_wrongOf 122 = .ok (.invokevirtual 113, 3) := by decide +kernel
theorem dX6_wrongOf_125 : decode cX6_wrongOf 125 = .ok (.lstore 5, 2) := by decide +kernel
theorem dX6_wrongOf_127 : decode cX6_wrongOf 127 = .ok (.lload 5, 2) := by decide +kernel
theorem dX6_wrongOf_129 : decode cX6_wrongOf 129 = .ok (.lconst 0, 1) := by decide +kernel
theorem dX6_wrongOf_130 : decode cX6_wrongOf 130 = .ok (.lcmp, 1) := by decide +kernel
theorem dX6_wrongOf_131 : decode cX6_wrongOf 131 = .ok (.ifCond .le 14, 3) := by decide +kernel
theorem dX6_wrongOf_134 : decode cX6_wrongOf 134 = .ok (.ldc2_w 116, 3) := by decide +kernel
theorem dX6_wrongOf_137 : decode cX6_wrongOf 137 = .ok (.lload_n 3, 1) := by decide +kernel
theorem dX6_wrongOf_138 : decode cX6_wrongOf 138 = .ok (.lmul, 1) := by decide +kernel
theorem dX6_wrongOf_139 : decode cX6_wrongOf 139 = .ok (.lload 5, 2) := by decide +kernel
theorem dX6_wrongOf_141 : decode cX6_wrongOf 141 = .ok (.ldiv, 1) := by decide +kernel
theorem dX6_wrongOf_142 : decode cX6_wrongOf 142 = .ok (.goto 4, 3) := by decide +kernel
theorem dX6_wrongOf_145 : decode cX6_wrongOf 145 = .ok (.lconst 0, 1) := by decide +kernel
theorem dX6_wrongOf_146 : decode cX6_wrongOf 146 = .ok (.lreturn, 1) := by decide +kernel
theorem dX6_lossMoved_0 : decode cX6_lossMoved 0 = .ok (.aload_n 0, 1) := by decide +kernel
theorem dX6_lossMoved_1 : decode cX6_lossMoved 1 = .ok (.getfield 32, 3) := by decide +kernel
theorem dX6_lossMoved_4 : decode cX6_lossMoved 4 = .ok (.getfield 67, 3) := by decide +kernel
theorem dX6_lossMoved_7 : decode cX6_lossMoved 7 = .ok (.iload_n 1, 1) := by decide +kernel
theorem dX6_lossMoved_8 : decode cX6_lossMoved 8 = .ok (.iaload, 1) := by decide +kernel
theorem dX6_lossMoved_9 : decode cX6_lossMoved 9 = .ok (.istore 4, 2) := by decide +kernel
theorem dX6_lossMoved_11 : decode cX6_lossMoved 11 = .ok (.aload_n 0, 1) := by decide +kernel
theorem dX6_lossMoved_12 : decode cX6_lossMoved 12 = .ok (.getfield 32, 3) := by decide +kernel
theorem dX6_lossMoved_15 : decode cX6_lossMoved 15 = .ok (.getfield 73, 3) := by decide +kernel
theorem dX6_lossMoved_18 : decode cX6_lossMoved 18 = .ok (.iload_n 1, 1) := by decide +kernel
theorem dX6_lossMoved_19 : decode cX6_lossMoved 19 = .ok (.iaload, 1) := by decide +kernel
theorem dX6_lossMoved_20 : decode cX6_lossMoved 20 = .ok (.istore 5, 2) := by decide +kernel
theorem dX6_lossMoved_22 : decode cX6_lossMoved 22 = .ok (.aload_n 0, 1) := by decide +kernel
theorem dX6_lossMoved_23 : decode cX6_lossMoved 23 = .ok (.getfield 32, 3) := by decide +kernel
theorem dX6_lossMoved_26 : decode cX6_lossMoved 26 = .ok (.getfield 67, 3) := by decide +kernel
theorem dX6_lossMoved_29 : decode cX6_lossMoved 29 = .ok (.iload_n 1, 1) := by decide +kernel
theorem dX6_lossMoved_30 : decode cX6_lossMoved 30 = .ok (.iload 4, 2) := by decide +kernel
theorem dX6_lossMoved_32 : decode cX6_lossMoved 32 = .ok (.iload_n 2, 1) := by decide +kernel
theorem dX6_lossMoved_33 : decode cX6_lossMoved 33 = .ok (.iadd, 1) := by decide +kernel
theorem dX6_lossMoved_34 : decode cX6_lossMoved 34 = .ok (.invokestatic 118, 3) := by decide +kernel
theorem dX6_lossMoved_37 : decode cX6_lossMoved 37 = .ok (.iastore, 1) := by decide +kernel
theorem dX6_lossMoved_38 : decode cX6_lossMoved 38 = .ok (.aload_n 0, 1) := by decide +kernel
theorem dX6_lossMoved_39 : decode cX6_lossMoved 39 = .ok (.getfield 32, 3) := by decide +kernel
theorem dX6_lossMoved_42 : decode cX6_lossMoved 42 = .ok (.getfield 73, 3) := by decide +kernel
theorem dX6_lossMoved_45 : decode cX6_lossMoved 45 = .ok (.iload_n 1, 1) := by decide +kernel
theorem dX6_lossMoved_46 : decode cX6_lossMoved 46 = .ok (.iload 5, 2) := by decide +kernel
theorem dX6_lossMoved_48 : decode cX6_lossMoved 48 = .ok (.iload_n 3, 1) := by decide +kernel
theorem dX6_lossMoved_49 : decode cX6_lossMoved 49 = .ok (.iadd, 1) := by decide +kernel
theorem dX6_lossMoved_50 : decode cX6_lossMoved 50 = .ok (.invokestatic 118, 3) := by decide +kernel
theorem dX6_lossMoved_53 : decode cX6_lossMoved 53 = .ok (.iastore, 1) := by decide +kernel
theorem dX6_lossMoved_54 : decode cX6_lossMoved 54 = .ok (.lconst 0, 1) := by decide +kernel
theorem dX6_lossMoved_55 : decode cX6_lossMoved 55 = .ok (.lstore 6, 2) := by decide +kernel
theorem dX6_lossMoved_57 : decode cX6_lossMoved 57 = .ok (.iconst 0, 1) := by decide +kernel
theorem dX6_lossMoved_58 : decode cX6_lossMoved 58 = .ok (.istore 8, 2) := by decide +kernel
theorem dX6_lossMoved_60 : decode cX6_lossMoved 60 = .ok (.iload 8, 2) := by decide +kernel
theorem dX6_lossMoved_62 : decode cX6_lossMoved 62 = .ok (.aload_n 0, 1) := by decide +kernel
theorem dX6_lossMoved_63 : decode cX6_lossMoved 63 = .ok (.getfield 28, 3) := by decide +kernel
theorem dX6_lossMoved_66 : decode cX6_lossMoved 66 = .ok (.getfield 109, 3) := by decide +kernel
theorem dX6_lossMoved_69 : decode cX6_lossMoved 69 = .ok (.if_icmp .ge 45, 3) := by decide +kernel
theorem dX6_lossMoved_72 : decode cX6_lossMoved 72 = .ok (.aload_n 0, 1) := by decide +kernel
theorem dX6_lossMoved_73 : decode cX6_lossMoved 73 = .ok (.getfield 28, 3) := by decide +kernel
theorem dX6_lossMoved_76 : decode cX6_lossMoved 76 = .ok (.getfield 121, 3) := by decide +kernel
theorem dX6_lossMoved_79 : decode cX6_lossMoved 79 = .ok (.iload 8, 2) := by decide +kernel
theorem dX6_lossMoved_81 : decode cX6_lossMoved 81 = .ok (.iaload, 1) := by decide +kernel
theorem dX6_lossMoved_82 : decode cX6_lossMoved 82 = .ok (.ifCond .le 26, 3) := by decide +kernel
theorem dX6_lossMoved_85 : decode cX6_lossMoved 85 = .ok (.lload 6, 2) := by decide +kernel
theorem dX6_lossMoved_87 : decode cX6_lossMoved 87 = .ok (.aload_n 0, 1) := by decide +kernel
theorem dX6_lossMoved_88 : decode cX6_lossMoved 88 = .ok (.getfield 28, 3) := by decide +kernel
theorem dX6_lossMoved_91 : decode cX6_lossMoved 91 = .ok (.getfield 121, 3) := by decide +kernel
theorem dX6_lossMoved_94 : decode cX6_lossMoved 94 = .ok (.iload 8, 2) := by decide +kernel
theorem dX6_lossMoved_96 : decode cX6_lossMoved 96 = .ok (.iaload, 1) := by decide +kernel
theorem dX6_lossMoved_97 : decode cX6_lossMoved 97 = .ok (.i2l, 1) := by decide +kernel
theorem dX6_lossMoved_98 : decode cX6_lossMoved 98 = .ok (.aload_n 0, 1) := by decide +kernel
theorem dX6_lossMoved_99 : decode cX6_lossMoved 99 = .ok (.iload 8, 2) := by decide +kernel
theorem dX6_lossMoved_101 : decode cX6_lossMoved 101 = .ok (.invokevirtual 124, 3) := by decide +kernel
theorem dX6_lossMoved_104 : decode cX6_lossMoved 104 = .ok (.lmul, 1) := by decide +kernel
theorem dX6_lossMoved_105 : decode cX6_lossMoved 105 = .ok (.ladd, 1) := by decide +kernel
theorem dX6_lossMoved_106 : decode cX6_lossMoved 106 = .ok (.lstore 6, 2) := by decide +kernel
theorem dX6_lossMoved_108 : decode cX6_lossMoved 108 = .ok (.iinc 8 1, 3) := by decide +kernel
theorem dX6_lossMoved_111 : decode cX6_lossMoved 111 = .ok (.goto (-51), 3) := by decide +kernel
theorem dX6_lossMoved_114 : decode cX6_lossMoved 114 = .ok (.aload_n 0, 1) := by decide +kernel
theorem dX6_lossMoved_115 : decode cX6_lossMoved 115 = .ok (.getfield 32, 3) := by decide +kernel
theorem dX6_lossMoved_118 : decode cX6_lossMoved 118 = .ok (.getfield 67, 3) := by decide +kernel
theorem dX6_lossMoved_121 : decode cX6_lossMoved 121 = .ok (.iload_n 1, 1) := by decide +kernel
theorem dX6_lossMoved_122 : decode cX6_lossMoved 122 = .ok (.iload 4, 2) := by decide +kernel
theorem dX6_lossMoved_124 : decode cX6_lossMoved 124 = .ok (.iastore, 1) := by decide +kernel
theorem dX6_lossMoved_125 : decode cX6_lossMoved 125 = .ok (.aload_n 0, 1) := by decide +kernel
theorem dX6_lossMoved_126 : decode cX6_lossMoved 126 = .ok (.getfield 32, 3) := by decide +kernel
theorem dX6_lossMoved_129 : decode cX6_lossMoved 129 = .ok (.getfield 73, 3) := by decide +kernel
theorem dX6_lossMoved_132 : decode cX6_lossMoved 132 = .ok (.iload_n 1, 1) := by decide +kernel
theorem dX6_lossMoved_133 : decode cX6_lossMoved 133 = .ok (.iload 5, 2) := by decide +kernel
theorem dX6_lossMoved_135 : decode cX6_lossMoved 135 = .ok (.iastore, 1) := by decide +kernel
theorem dX6_lossMoved_136 : decode cX6_lossMoved 136 = .ok (.lload 6, 2) := by decide +kernel
theorem dX6_lossMoved_138 : decode cX6_lossMoved 138 = .ok (.lreturn, 1) := by decide +kernel
theorem dX6_findBest_0 : decode cX6_findBest 0 = .ok (.aload_n 0, 1) := by decide +kernel
theorem dX6_findBest_1 : decode cX6_findBest 1 = .ok (.invokevirtual 127, 3) := by decide +kernel
theorem dX6_findBest_4 : decode cX6_findBest 4 = .ok (.aload_n 0, 1) := by decide +kernel
theorem dX6_findBest_5 : decode cX6_findBest 5 = .ok (.iconst 0, 1) := by decide +kernel
theorem dX6_findBest_6 : decode cX6_findBest 6 = .ok (.putfield 130, 3) := by decide +kernel
theorem dX6_findBest_9 : decode cX6_findBest 9 = .ok (.aload_n 0, 1) := by decide +kernel
theorem dX6_findBest_10 : decode cX6_findBest 10 = .ok (.iconst 0, 1) := by decide +kernel
theorem dX6_findBest_11 : decode cX6_findBest 11 = .ok (.putfield 133, 3) := by decide +kernel
theorem dX6_findBest_14 : decode cX6_findBest 14 = .ok (.aload_n 0, 1) := by decide +kernel
theorem dX6_findBest_15 : decode cX6_findBest 15 = .ok (.aload_n 0, 1) := by decide +kernel
theorem dX6_findBest_16 : decode cX6_findBest 16 = .ok (.iload_n 1, 1) := by decide +kernel
theorem dX6_findBest_17 : decode cX6_findBest 17 = .ok (.iconst 0, 1) := by decide +kernel
theorem dX6_findBest_18 : decode cX6_findBest 18 = .ok (.iconst 0, 1) := by decide +kernel
theorem dX6_findBest_19 : decode cX6_findBest 19 = .ok (.invokevirtual 136, 3) := by decide +kernel
theorem dX6_findBest_22 : decode cX6_findBest 22 = .ok (.putfield 140, 3) := by decide +kernel
theorem dX6_findBest_25 : decode cX6_findBest 25 = .ok (.bipush (-4), 2) := by decide +kernel
theorem dX6_findBest_27 : decode cX6_findBest 27 = .ok (.istore_n 2, 1) := by decide +kernel
theorem dX6_findBest_28 : decode cX6_findBest 28 = .ok (.iload_n 2, 1) := by decide +kernel
theorem dX6_findBest_29 : decode cX6_findBest 29 = .ok (.iconst 4, 1) := by decide +kernel
theorem dX6_findBest_30 : decode cX6_findBest 30 = .ok (.if_icmp .gt 107, 3) := by decide +kernel
theorem dX6_findBest_33 : decode cX6_findBest 33 = .ok (.bipush (-4), 2) := by decide +kernel
theorem dX6_findBest_35 : decode cX6_findBest 35 = .ok (.istore_n 3, 1) := by decide +kernel
theorem dX6_findBest_36 : decode cX6_findBest 36 = .ok (.iload_n 3, 1) := by decide +kernel
theorem dX6_findBest_37 : decode cX6_findBest 37 = .ok (.iconst 4, 1) := by decide +kernel
theorem dX6_findBest_38 : decode cX6_findBest 38 = .ok (.if_icmp .gt 93, 3) := by decide +kernel
theorem dX6_findBest_41 : decode cX6_findBest 41 = .ok (.aload_n 0, 1) := by decide +kernel
theorem dX6_findBest_42 : decode cX6_findBest 42 = .ok (.iload_n 1, 1) := by decide +kernel
theorem dX6_findBest_43 : decode cX6_findBest 43 = .ok (.iload_n 2, 1) := by decide +kernel
theorem dX6_findBest_44 : decode cX6_findBest 44 = .ok (.iload_n 3, 1) := by decide +kernel
theorem dX6_findBest_45 : decode cX6_findBest 45 = .ok (.invokevirtual 136, 3) := by decide +kernel
theorem dX6_findBest_48 : decode cX6_findBest 48 = .ok (.lstore 4, 2) := by decide +kernel
theorem dX6_findBest_50 : decode cX6_findBest 50 = .ok (.iload_n 2, 1) := by decide +kernel
theorem dX6_findBest_51 : decode cX6_findBest 51 = .ok (.invokestatic 144, 3) := by decide +kernel
theorem dX6_findBest_54 : decode cX6_findBest 54 = .ok (.iload_n 3, 1) := by decide +kernel
theorem dX6_findBest_55 : decode cX6_findBest 55 = .ok (.invokestatic 144, 3) := by decide +kernel
theorem dX6_findBest_58 : decode cX6_findBest 58 = .ok (.iadd, 1) := by decide +kernel
theorem dX6_findBest_59 : decode cX6_findBest 59 = .ok (.aload_n 0, 1) := by decide +kernel
theorem dX6_findBest_60 : decode cX6_findBest 60 = .ok (.getfield 130, 3) := by decide +kernel
theorem dX6_findBest_63 : decode cX6_findBest 63 = .ok (.invokestatic 144, 3) := by decide +kernel
theorem dX6_findBest_66 : decode cX6_findBest 66 = .ok (.aload_n 0, 1) := by decide +kernel
theorem dX6_findBest_67 : decode cX6_findBest 67 = .ok (.getfield 133, 3) := by decide +kernel
theorem dX6_findBest_70 : decode cX6_findBest 70 = .ok (.invokestatic 144, 3) := by decide +kernel
theorem dX6_findBest_73 : decode cX6_findBest 73 = .ok (.iadd, 1) := by decide +kernel
theorem dX6_findBest_74 : decode cX6_findBest 74 = .ok (.if_icmp .ge 7, 3) := by decide +kernel
theorem dX6_findBest_77 : decode cX6_findBest 77 = .ok (.iconst 1, 1) := by decide +kernel
theorem dX6_findBest_78 : decode cX6_findBest 78 = .ok (.goto 4, 3) := by decide +kernel
theorem dX6_findBest_81 : decode cX6_findBest 81 = .ok (.iconst 0, 1) := by decide +kernel
theorem dX6_findBest_82 : decode cX6_findBest 82 = .ok (.istore 6, 2) := by decide +kernel
theorem dX6_findBest_84 : decode cX6_findBest 84 = .ok (.lload 4, 2) := by decide +kernel
theorem dX6_findBest_86 : decode cX6_findBest 86 = .ok (.aload_n 0, 1) := by decide +kernel
theorem dX6_findBest_87 : decode cX6_findBest 87 = .ok (.getfield 140, 3) := by decide +kernel
theorem dX6_findBest_90 : decode cX6_findBest 90 = .ok (.lcmp, 1) := by decide +kernel
theorem dX6_findBest_91 : decode cX6_findBest 91 = .ok (.ifCond .lt 18, 3) := by decide +kernel
theorem dX6_findBest_94 : decode cX6_findBest 94 = .ok (.lload 4, 2) := by decide +kernel
theorem dX6_findBest_96 : decode cX6_findBest 96 = .ok (.aload_n 0, 1) := by decide +kernel
theorem dX6_findBest_97 : decode cX6_findBest 97 = .ok (.getfield 140, 3) := by decide +kernel
theorem dX6_findBest_100 : decode cX6_findBest 100 = .ok (.lcmp, 1) := by decide +kernel
theorem dX6_findBest_101 : decode cX6_findBest 101 = .ok (.ifCond .ne 24, 3) := by decide +kernel
theorem dX6_findBest_104 : decode cX6_findBest 104 = .ok (.iload 6, 2) := by decide +kernel
theorem dX6_findBest_106 : decode cX6_findBest 106 = .ok (.ifCond .eq 19, 3) := by decide +kernel
theorem dX6_findBest_109 : decode cX6_findBest 109 = .ok (.aload_n 0, 1) := by decide +kernel
theorem dX6_findBest_110 : decode cX6_findBest 110 = .ok (.iload_n 2, 1) := by decide +kernel
theorem dX6_findBest_111 : decode cX6_findBest 111 = .ok (.putfield 130, 3) := by decide +kernel
theorem dX6_findBest_114 : decode cX6_findBest 114 = .ok (.aload_n 0, 1) := by decide +kernel
theorem dX6_findBest_115 : decode cX6_findBest 115 = .ok (.iload_n 3, 1) := by decide +kernel
theorem dX6_findBest_116 : decode cX6_findBest 116 = .ok (.putfield 133, 3) := by decide +kernel
theorem dX6_findBest_119 : decode cX6_findBest 119 = .ok (.aload_n 0, 1) := by decide +kernel
theorem dX6_findBest_120 : decode cX6_findBest 120 = .ok (.lload 4, 2) := by decide +kernel
theorem dX6_findBest_122 : decode cX6_findBest 122 = .ok (.putfield 140, 3) := by decide +kernel
theorem dX6_findBest_125 : decode cX6_findBest 125 = .ok (.iinc 3 1, 3) := by decide +kernel
theorem dX6_findBest_128 : decode cX6_findBest 128 = .ok (.goto (-92), 3) := by decide +kernel
theorem dX6_findBest_131 : decode cX6_findBest 131 = .ok (.iinc 2 1, 3) := by decide +kernel
theorem dX6_findBest_134 : decode cX6_findBest 134 = .ok (.goto (-106), 3) := by decide +kernel
theorem dX6_findBest_137 : decode cX6_findBest 137 = .ok (.return_, 1) := by decide +kernel
