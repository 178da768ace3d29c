theorem dX7_init_0 : decode cX7_init 0 = .ok (.aload_n 0, 1) := by decide +kernel
theorem dX7_init_1 : decode cX7_init 1 = .ok (.invokespecial 3, 3) := by decide +kernel
theorem dX7_init_4 : decode cX7_init 4 = .ok (.aload_n 0, 1) := by decide +kernel
theorem dX7_init_5 : decode cX7_init 5 = .ok (.iconst 4, 1) := by decide +kernel
theorem dX7_init_6 : decode cX7_init 6 = .ok (.newarray .int, 2) := by decide +kernel
theorem dX7_init_8 : decode cX7_init 8 = .ok (.dup, 1) := by decide +kernel
theorem dX7_init_9 : decode cX7_init 9 = .ok (.iconst 0, 1) := by decide +kernel
theorem dX7_init_10 : decode cX7_init 10 = .ok (.iconst 0, 1) := by decide +kernel
theorem dX7_init_11 : decode cX7_init 11 = .ok (.iastore, 1) := by decide +kernel
theorem dX7_init_12 : decode cX7_init 12 = .ok (.dup, 1) := by decide +kernel
theorem dX7_init_13 : decode cX7_init 13 = .ok (.iconst 1, 1) := by decide +kernel
theorem dX7_init_14 : decode cX7_init 14 = .ok (.iconst 0, 1) := by decide +kernel
theorem dX7_init_15 : decode cX7_init 15 = .ok (.iastore, 1) := by decide +kernel
theorem dX7_init_16 : decode cX7_init 16 = .ok (.dup, 1) := by decide +kernel
theorem dX7_init_17 : decode cX7_init 17 = .ok (.iconst 2, 1) := by decide +kernel
theorem dX7_init_18 : decode cX7_init 18 = .ok (.iconst 0, 1) := by decide +kernel
theorem dX7_init_19 : decode cX7_init 19 = .ok (.iastore, 1) := by decide +kernel
theorem dX7_init_20 : decode cX7_init 20 = .ok (.dup, 1) := by decide +kernel
theorem dX7_init_21 : decode cX7_init 21 = .ok (.iconst 3, 1) := by decide +kernel
theorem dX7_init_22 : decode cX7_init 22 = .ok (.bipush 10, 2) := by decide +kernel
theorem dX7_init_24 : decode cX7_init 24 = .ok (.iastore, 1) := by decide +kernel
theorem dX7_init_25 : decode cX7_init 25 = .ok (.putfield 9, 3) := by decide +kernel
theorem dX7_init_28 : decode cX7_init 28 = .ok (.aload_n 0, 1) := by decide +kernel
theorem dX7_init_29 : decode cX7_init 29 = .ok (.bipush 8, 2) := by decide +kernel
theorem dX7_init_31 : decode cX7_init 31 = .ok (.newarray .int, 2) := by decide +kernel
theorem dX7_init_33 : decode cX7_init 33 = .ok (.putfield 15, 3) := by decide +kernel
theorem dX7_init_36 : decode cX7_init 36 = .ok (.aload_n 0, 1) := by decide +kernel
theorem dX7_init_37 : decode cX7_init 37 = .ok (.bipush 8, 2) := by decide +kernel
theorem dX7_init_39 : decode cX7_init 39 = .ok (.newarray .int, 2) := by decide +kernel
theorem dX7_init_41 : decode cX7_init 41 = .ok (.putfield 18, 3) := by decide +kernel
theorem dX7_init_44 : decode cX7_init 44 = .ok (.aload_n 0, 1) := by decide +kernel
theorem dX7_init_45 : decode cX7_init 45 = .ok (.bipush 8, 2) := by decide +kernel
theorem dX7_init_47 : decode cX7_init 47 = .ok (.newarray .int, 2) := by decide +kernel
theorem dX7_init_49 : decode cX7_init 49 = .ok (.putfield 21, 3) := by decide +kernel
theorem dX7_init_52 : decode cX7_init 52 = .ok (.aload_n 0, 1) := by decide +kernel
theorem dX7_init_53 : decode cX7_init 53 = .ok (.bipush 24, 2) := by decide +kernel
theorem dX7_init_55 : decode cX7_init 55 = .ok (.newarray .int, 2) := by decide +kernel
theorem dX7_init_57 : decode cX7_init 57 = .ok (.putfield 24, 3) := by decide +kernel
theorem dX7_init_60 : decode cX7_init 60 = .ok (.aload_n 0, 1) := by decide +kernel
theorem dX7_init_61 : decode cX7_init 61 = .ok (.bipush 24, 2) := by decide +kernel
theorem dX7_init_63 : decode cX7_init 63 = .ok (.newarray .int, 2) := by decide +kernel
theorem dX7_init_65 : decode cX7_init 65 = .ok (.putfield 27, 3) := by decide +kernel
theorem dX7_init_68 : decode cX7_init 68 = .ok (.aload_n 0, 1) := by decide +kernel
theorem dX7_init_69 : decode cX7_init 69 = .ok (.bipush 8, 2) := by decide +kernel
theorem dX7_init_71 : decode cX7_init 71 = .ok (.newarray .int, 2) := by decide +kernel
theorem dX7_init_73 : decode cX7_init 73 = .ok (.putfield 30, 3) := by decide +kernel
theorem dX7_init_76 : decode cX7_init 76 = .ok (.aload_n 0, 1) := by decide +kernel
theorem dX7_init_77 : decode cX7_init 77 = .ok (.bipush 8, 2) := by decide +kernel
theorem dX7_init_79 : decode cX7_init 79 = .ok (.newarray .int, 2) := by decide +kernel
theorem dX7_init_81 : decode cX7_init 81 = .ok (.putfield 33, 3) := by decide +kernel
theorem dX7_init_84 : decode cX7_init 84 = .ok (.return_, 1) := by decide +kernel
theorem dX7_add_0 : decode cX7_add 0 = .ok (.aload_n 0, 1) := by decide +kernel
theorem dX7_add_1 : decode cX7_add 1 = .ok (.getfield 36, 3) := by decide +kernel
theorem dX7_add_4 : decode cX7_add 4 = .ok (.bipush 8, 2) := by decide +kernel
theorem dX7_add_6 : decode cX7_add 6 = .ok (.if_icmp .lt 5, 3) := by decide +kernel
theorem dX7_add_9 : decode cX7_add 9 = .ok (.iconst (-1), 1) := by decide +kernel
theorem dX7_add_10 : decode cX7_add 10 = .ok (.ireturn, 1) := by decide +kernel
theorem dX7_add_11 : decode cX7_add 11 = .ok (.aload_n 0, 1) := by decide +kernel
theorem dX7_add_12 : decode cX7_add 12 = .ok (.getfield 15, 3) := by decide +kernel
theorem dX7_add_15 : decode cX7_add 15 = .ok (.aload_n 0, 1) := by decide +kernel
theorem dX7_add_16 : decode cX7_add 16 = .ok (.getfield 36, 3) := by decide +kernel
theorem dX7_add_19 : decode cX7_add 19 = .ok (.iload_n 1, 1) := by decide +kernel
theorem dX7_add_20 : decode cX7_add 20 = .ok (.iastore, 1) := by decide +kernel
theorem dX7_add_21 : decode cX7_add 21 = .ok (.aload_n 0, 1) := by decide +kernel
theorem dX7_add_22 : decode cX7_add 22 = .ok (.getfield 18, 3) := by decide +kernel
theorem dX7_add_25 : decode cX7_add 25 = .ok (.aload_n 0, 1) := by decide +kernel
theorem dX7_add_26 : decode cX7_add 26 = .ok (.getfield 36, 3) := by decide +kernel
theorem dX7_add_29 : decode cX7_add 29 = .ok (.iload_n 2, 1) := by decide +kernel
theorem dX7_add_30 : decode cX7_add 30 = .ok (.iastore, 1) := by decide +kernel
theorem dX7_add_31 : decode cX7_add 31 = .ok (.aload_n 0, 1) := by decide +kernel
theorem dX7_add_32 : decode cX7_add 32 = .ok (.getfield 21, 3) := by decide +kernel
theorem dX7_add_35 : decode cX7_add 35 = .ok (.aload_n 0, 1) := by decide +kernel
theorem dX7_add_36 : decode cX7_add 36 = .ok (.getfield 36, 3) := by decide +kernel
theorem dX7_add_39 : decode cX7_add 39 = .ok (.iload_n 3, 1) := by decide +kernel
theorem dX7_add_40 : decode cX7_add 40 = .ok (.iastore, 1) := by decide +kernel
theorem dX7_add_41 : decode cX7_add 41 = .ok (.aload_n 0, 1) := by decide +kernel
theorem dX7_add_42 : decode cX7_add 42 = .ok (.dup, 1) := by decide +kernel
theorem dX7_add_43 : decode cX7_add 43 = .ok (.getfield 36, 3) := by decide +kernel
theorem dX7_add_46 : decode cX7_add 46 = .ok (.iconst 1, 1) := by decide +kernel
theorem dX7_add_47 : decode cX7_add 47 = .ok (.iadd, 1) := by decide +kernel
theorem dX7_add_48 : decode cX7_add 48 = .ok (.putfield 36, 3) := by decide +kernel
theorem dX7_add_51 : decode cX7_add 51 = .ok (.aload_n 0, 1) := by decide +kernel
theorem dX7_add_52 : decode cX7_add 52 = .ok (.getfield 36, 3) := by decide +kernel
theorem dX7_add_55 : decode cX7_add 55 = .ok (.iconst 1, 1) := by decide +kernel
theorem dX7_add_56 : decode cX7_add 56 = .ok (.isub, 1) := by decide +kernel
theorem dX7_add_57 : decode cX7_add 57 = .ok (.ireturn, 1) := by decide +kernel
theorem dX7_has_0 : decode cX7_has 0 = .ok (.iload_n 1, 1) := by decide +kernel
theorem dX7_has_1 : decode cX7_has 1 = .ok (.ifCond .lt 15, 3) := by decide +kernel
theorem dX7_has_4 : decode cX7_has 4 = .ok (.iload_n 1, 1) := by decide +kernel
theorem dX7_has_5 : decode cX7_has 5 = .ok (.aload_n 0, 1) := by decide +kernel
theorem dX7_has_6 : decode cX7_has 6 = .ok (.getfield 36, 3) := by decide +kernel
theorem dX7_has_9 : decode cX7_has 9 = .ok (.if_icmp .ge 7, 3) := by decide +kernel
theorem dX7_has_12 : decode cX7_has 12 = .ok (.iconst 1, 1) := by decide +kernel
theorem dX7_has_13 : decode cX7_has 13 = .ok (.goto 4, 3) := by decide +kernel
theorem dX7_has_16 : decode cX7_has 16 = .ok (.iconst 0, 1) := by decide +kernel
theorem dX7_has_17 : decode cX7_has 17 = .ok (.ireturn, 1) := by decide +kernel
theorem dX7_isGood_0 : decode cX7_isGood 0 = .ok (.aload_n 0, 1) := by decide +kernel
theorem dX7_isGood_1 : decode cX7_isGood 1 = .ok (.iload_n 1, 1) := by decide +kernel
theorem dX7_isGood_2 : decode cX7_isGood 2 = .ok (.invokevirtual 40, 3) := by decide +kernel
theorem dX7_isGood_5 : decode cX7_isGood 5 = .ok (.ifCond .eq 43, 3) := by decide +kernel
theorem dX7_isGood_8 : decode cX7_isGood 8 = .ok (.aload_n 0, 1) := by decide +kernel
theorem dX7_isGood_9 : decode cX7_isGood 9 = .ok (.getfield 15, 3) := by decide +kernel
theorem dX7_isGood_12 : decode cX7_isGood 12 = .ok (.iload_n 1, 1) := by decide +kernel
theorem dX7_isGood_13 : decode cX7_isGood 13 = .ok (.iaload, 1) := by decide +kernel
theorem dX7_isGood_14 : decode cX7_isGood 14 = .ok (.ifCond .le 34, 3) := by decide +kernel
theorem dX7_isGood_17 : decode cX7_isGood 17 = .ok (.aload_n 0, 1) := by decide +kernel
theorem dX7_isGood_18 : decode cX7_isGood 18 = .ok (.getfield 9, 3) := by decide +kernel
theorem dX7_isGood_21 : decode cX7_isGood 21 = .ok (.iconst 0, 1) := by decide +kernel
theorem dX7_isGood_22 : decode cX7_isGood 22 = .ok (.iaload, 1) := by decide +kernel
theorem dX7_isGood_23 : decode cX7_isGood 23 = .ok (.i2l, 1) := by decide +kernel
theorem dX7_isGood_24 : decode cX7_isGood 24 = .ok (.aload_n 0, 1) := by decide +kernel
theorem dX7_isGood_25 : decode cX7_isGood 25 = .ok (.getfield 18, 3) := by decide +kernel
theorem dX7_isGood_28 : decode cX7_isGood 28 = .ok (.iload_n 1, 1) := by decide +kernel
theorem dX7_isGood_29 : decode cX7_isGood 29 = .ok (.iaload, 1) := by decide +kernel
theorem dX7_isGood_30 : decode cX7_isGood 30 = .ok (.i2l, 1) := by decide +kernel
theorem dX7_isGood_31 : decode cX7_isGood 31 = .ok (.aload_n 0, 1) := by decide +kernel
theorem dX7_isGood_32 : decode cX7_isGood 32 = .ok (.getfield 21, 3) := by decide +kernel
theorem dX7_isGood_35 : decode cX7_isGood 35 = .ok (.iload_n 1, 1) := by decide +kernel
theorem dX7_isGood_36 : decode cX7_isGood 36 = .ok (.iaload, 1) := by decide +kernel
theorem dX7_isGood_37 : decode cX7_isGood 37 = .ok (.i2l, 1) := by decide +kernel
theorem dX7_isGood_38 : decode cX7_isGood 38 = .ok (.invokestatic 44, 3) := by decide +kernel
theorem dX7_isGood_41 : decode cX7_isGood 41 = .ok (.ifCond .eq 7, 3) := by decide +kernel
theorem dX7_isGood_44 : decode cX7_isGood 44 = .ok (.iconst 1, 1) := by decide +kernel
theorem dX7_isGood_45 : decode cX7_isGood 45 = .ok (.goto 4, 3) := by decide +kernel
theorem dX7_isGood_48 : decode cX7_isGood 48 = .ok (.iconst 0, 1) := by decide +kernel
theorem dX7_isGood_49 : decode cX7_isGood 49 = .ok (.ireturn, 1) := by decide +kernel
theorem dX7_worth_0 : decode cX7_worth 0 = .ok (.aload_n 0, 1) := by decide +kernel
theorem dX7_worth_1 : decode cX7_worth 1 = .ok (.iload_n 1, 1) := by decide +kernel
theorem dX7_worth_2 : decode cX7_worth 2 = .ok (.invokevirtual 48, 3) := by decide +kernel
theorem dX7_worth_5 : decode cX7_worth 5 = .ok (.ifCond .eq 12, 3) := by decide +kernel
theorem dX7_worth_8 : decode cX7_worth 8 = .ok (.aload_n 0, 1) := by decide +kernel
theorem dX7_worth_9 : decode cX7_worth 9 = .ok (.getfield 15, 3) := by decide +kernel
theorem dX7_worth_12 : decode cX7_worth 12 = .ok (.iload_n 1, 1) := by decide +kernel
theorem dX7_worth_13 : decode cX7_worth 13 = .ok (.iaload, 1) := by decide +kernel
theorem dX7_worth_14 : decode cX7_worth 14 = .ok (.goto 4, 3) := by decide +kernel
theorem dX7_worth_17 : decode cX7_worth 17 = .ok (.iconst 0, 1) := by decide +kernel
theorem dX7_worth_18 : decode cX7_worth 18 = .ok (.ireturn, 1) := by decide +kernel
theorem dX7_lowOf_0 : decode cX7_lowOf 0 = .ok (.aload_n 0, 1) := by decide +kernel
theorem dX7_lowOf_1 : decode cX7_lowOf 1 = .ok (.getfield 24, 3) := by decide +kernel
theorem dX7_lowOf_4 : decode cX7_lowOf 4 = .ok (.iload_n 1, 1) := by decide +kernel
theorem dX7_lowOf_5 : decode cX7_lowOf 5 = .ok (.iconst 3, 1) := by decide +kernel
theorem dX7_lowOf_6 : decode cX7_lowOf 6 = .ok (.imul, 1) := by decide +kernel
theorem dX7_lowOf_7 : decode cX7_lowOf 7 = .ok (.iload_n 2, 1) := by decide +kernel
theorem dX7_lowOf_8 : decode cX7_lowOf 8 = .ok (.iadd, 1) := by decide +kernel
theorem dX7_lowOf_9 : decode cX7_lowOf 9 = .ok (.iaload, 1) := by decide +kernel
theorem dX7_lowOf_10 : decode cX7_lowOf 10 = .ok (.istore_n 3, 1) := by decide +kernel
theorem dX7_lowOf_11 : decode cX7_lowOf 11 = .ok (.iload_n 2, 1) := by decide +kernel
theorem dX7_lowOf_12 : decode cX7_lowOf 12 = .ok (.ifCond .ne 17, 3) := by decide +kernel
theorem dX7_lowOf_15 : decode cX7_lowOf 15 = .ok (.iconst 0, 1) := by decide +kernel
theorem dX7_lowOf_16 : decode cX7_lowOf 16 = .ok (.iload_n 3, 1) := by decide +kernel
theorem dX7_lowOf_17 : decode cX7_lowOf 17 = .ok (.aload_n 0, 1) := by decide +kernel
theorem dX7_lowOf_18 : decode cX7_lowOf 18 = .ok (.iload_n 1, 1) := by decide +kernel
theorem dX7_lowOf_19 : decode cX7_lowOf 19 = .ok (.invokevirtual 51, 3) := by decide +kernel
theorem dX7_lowOf_22 : decode cX7_lowOf 22 = .ok (.isub, 1) := by decide +kernel
theorem dX7_lowOf_23 : decode cX7_lowOf 23 = .ok (.invokestatic 55, 3) := by decide +kernel
theorem dX7_lowOf_26 : decode cX7_lowOf 26 = .ok (.goto 4, 3) := by decide +kernel
theorem dX7_lowOf_29 : decode cX7_lowOf 29 = .ok (.iload_n 3, 1) := by decide +kernel
theorem dX7_lowOf_30 : decode cX7_lowOf 30 = .ok (.ireturn, 1) := by decide +kernel
theorem dX7_highOf_0 : decode cX7_highOf 0 = .ok (.aload_n 0, 1) := by decide +kernel
theorem dX7_highOf_1 : decode cX7_highOf 1 = .ok (.getfield 27, 3) := by decide +kernel
theorem dX7_highOf_4 : decode cX7_highOf 4 = .ok (.iload_n 1, 1) := by decide +kernel
theorem dX7_highOf_5 : decode cX7_highOf 5 = .ok (.iconst 3, 1) := by decide +kernel
theorem dX7_highOf_6 : decode cX7_highOf 6 = .ok (.imul, 1) := by decide +kernel
theorem dX7_highOf_7 : decode cX7_highOf 7 = .ok (.iload_n 2, 1) := by decide +kernel
theorem dX7_highOf_8 : decode cX7_highOf 8 = .ok (.iadd, 1) := by decide +kernel
theorem dX7_highOf_9 : decode cX7_highOf 9 = .ok (.iaload, 1) := by decide +kernel
theorem dX7_highOf_10 : decode cX7_highOf 10 = .ok (.istore_n 3, 1) := by decide +kernel
theorem dX7_highOf_11 : decode cX7_highOf 11 = .ok (.iload_n 2, 1) := by decide +kernel
theorem dX7_highOf_12 : decode cX7_highOf 12 = .ok (.ifCond .ne 17, 3) := by decide +kernel
theorem dX7_highOf_15 : decode cX7_highOf 15 = .ok (.iconst 0, 1) := by decide +kernel
theorem dX7_highOf_16 : decode cX7_highOf 16 = .ok (.iload_n 3, 1) := by decide +kernel
theorem dX7_highOf_17 : decode cX7_highOf 17 = .ok (.aload_n 0, 1) := by decide +kernel
theorem dX7_highOf_18 : decode cX7_highOf 18 = .ok (.iload_n 1, 1) := by decide +kernel
theorem dX7_highOf_19 : decode cX7_highOf 19 = .ok (.invokevirtual 51, 3) := by decide +kernel
theorem dX7_highOf_22 : decode cX7_highOf 22 = .ok (.isub, 1) := by decide +kernel
theorem dX7_highOf_23 : decode cX7_highOf 23 = .ok (.invokestatic 55, 3) := by decide +kernel
theorem dX7_highOf_26 : decode cX7_highOf 26 = .ok (.goto 4, 3) := by decide +kernel
theorem dX7_highOf_29 : decode cX7_highOf 29 = .ok (.iload_n 3, 1) := by decide +kernel
theorem dX7_highOf_30 : decode cX7_highOf 30 = .ok (.ireturn, 1) := by decide +kernel
theorem dX7_worn_0 : decode cX7_worn 0 = .ok (.aload_n 0, 1) := by decide +kernel
theorem dX7_worn_1 : decode cX7_worn 1 = .ok (.getfield 30, 3) := by decide +kernel
theorem dX7_worn_4 : decode cX7_worn 4 = .ok (.iload_n 1, 1) := by decide +kernel
theorem dX7_worn_5 : decode cX7_worn 5 = .ok (.iaload, 1) := by decide +kernel
theorem dX7_worn_6 : decode cX7_worn 6 = .ok (.aload_n 0, 1) := by decide +kernel
theorem dX7_worn_7 : decode cX7_worn 7 = .ok (.getfield 9, 3) := by decide +kernel
theorem dX7_worn_10 : decode cX7_worn 10 = .ok (.iconst 1, 1) := by decide +kernel
theorem dX7_worn_11 : decode cX7_worn 11 = .ok (.iaload, 1) := by decide +kernel
theorem dX7_worn_12 : decode cX7_worn 12 = .ok (.imul, 1) := by decide +kernel
theorem dX7_worn_13 : decode cX7_worn 13 = .ok (.bipush 10, 2) := by decide +kernel
theorem dX7_worn_15 : decode cX7_worn 15 = .ok (.idiv, 1) := by decide +kernel
theorem dX7_worn_16 : decode cX7_worn 16 = .ok (.ireturn, 1) := by decide +kernel
theorem dX7_size_0 : decode cX7_size 0 = .ok (.lconst 1, 1) := by decide +kernel
theorem dX7_size_1 : decode cX7_size 1 = .ok (.lstore_n 2, 1) := by decide +kernel
theorem dX7_size_2 : decode cX7_size 2 = .ok (.iconst 0, 1) := by decide +kernel
theorem dX7_size_3 : decode cX7_size 3 = .ok (.istore 4, 2) := by decide +kernel
theorem dX7_size_5 : decode cX7_size 5 = .ok (.iload 4, 2) := by decide +kernel
theorem dX7_size_7 : decode cX7_size 7 = .ok (.iconst 3, 1) := by decide +kernel
theorem dX7_size_8 : decode cX7_size 8 = .ok (.if_icmp .ge 30, 3) := by decide +kernel
theorem dX7_size_11 : decode cX7_size 11 = .ok (.lload_n 2, 1) := by decide +kernel
theorem dX7_size_12 : decode cX7_size 12 = .ok (.aload_n 0, 1) := by decide +kernel
theorem dX7_size_13 : decode cX7_size 13 = .ok (.iload_n 1, 1) := by decide +kernel
theorem dX7_size_14 : decode cX7_size 14 = .ok (.iload 4, 2) := by decide +kernel
theorem dX7_size_16 : decode cX7_size 16 = .ok (.invokevirtual 61, 3) := by decide +kernel
theorem dX7_size_19 : decode cX7_size 19 = .ok (.aload_n 0, 1) := by decide +kernel
theorem dX7_size_20 : decode cX7_size 20 = .ok (.iload_n 1, 1) := by decide +kernel
theorem dX7_size_21 : decode cX7_size 21 = .ok (.iload 4, 2) := by decide +kernel
theorem dX7_size_23 : decode cX7_size 23 = .ok (.invokevirtual 64, 3) := by decide +kernel
theorem dX7_size_26 : decode cX7_size 26 = .ok (.isub, 1) := by decide +kernel
theorem dX7_size_27 : decode cX7_size 27 = .ok (.iconst 1, 1) := by decide +kernel
theorem dX7_size_28 : decode cX7_size 28 = .ok (.iadd, 1) := by decide +kernel
theorem dX7_size_29 : decode cX7_size 29 = .ok (.i2l, 1) := by decide +kernel
theorem dX7_size_30 : decode cX7_size 30 = .ok (.lmul, 1) := by decide +kernel
theorem dX7_size_31 : decode cX7_size 31 = .ok (.lstore_n 2, 1) := by decide +kernel
theorem dX7_size_32 : decode cX7_size 32 = .ok (.iinc 4 1, 3) := by decide +kernel
theorem dX7_size_35 : decode cX7_size 35 = .ok (.goto (-30), 3) := by decide +kernel
theorem dX7_size_38 : decode cX7_size 38 = .ok (.lload_n 2, 1) := by decide +kernel
theorem dX7_size_39 : decode cX7_size 39 = .ok (.lreturn, 1) := by decide +kernel
theorem dX7_isCoin_0 : decode cX7_isCoin 0 = .ok (.iload_n 2, 1) := by decide +kernel
theorem dX7_isCoin_1 : decode cX7_isCoin 1 = .ok (.i2l, 1) := by decide +kernel
theorem dX7_isCoin_2 : decode cX7_isCoin 2 = .ok (.aload_n 0, 1) := by decide +kernel
theorem dX7_isCoin_3 : decode cX7_isCoin 3 = .ok (.iload_n 1, 1) := by decide +kernel
theorem dX7_isCoin_4 : decode cX7_isCoin 4 = .ok (.iconst 0, 1) := by decide +kernel
theorem dX7_isCoin_5 : decode cX7_isCoin 5 = .ok (.invokevirtual 64, 3) := by decide +kernel
theorem dX7_isCoin_8 : decode cX7_isCoin 8 = .ok (.i2l, 1) := by decide +kernel
theorem dX7_isCoin_9 : decode cX7_isCoin 9 = .ok (.aload_n 0, 1) := by decide +kernel
theorem dX7_isCoin_10 : decode cX7_isCoin 10 = .ok (.iload_n 1, 1) := by decide +kernel
theorem dX7_isCoin_11 : decode cX7_isCoin 11 = .ok (.iconst 0, 1) := by decide +kernel
theorem dX7_isCoin_12 : decode cX7_isCoin 12 = .ok (.invokevirtual 61, 3) := by decide +kernel
theorem dX7_isCoin_15 : decode cX7_isCoin 15 = .ok (.i2l, 1) := by decide +kernel
theorem dX7_isCoin_16 : decode cX7_isCoin 16 = .ok (.invokestatic 44, 3) := by decide +kernel
theorem dX7_isCoin_19 : decode cX7_isCoin 19 = .ok (.ifCond .eq 52, 3) := by decide +kernel
theorem dX7_isCoin_22 : decode cX7_isCoin 22 = .ok (.iload_n 3, 1) := by decide +kernel
theorem dX7_isCoin_23 : decode cX7_isCoin 23 = .ok (.i2l, 1) := by decide +kernel
theorem dX7_isCoin_24 : decode cX7_isCoin 24 = .ok (.aload_n 0, 1) := by decide +kernel
theorem dX7_isCoin_25 : decode cX7_isCoin 25 = .ok (.iload_n 1, 1) := by decide +kernel
theorem dX7_isCoin_26 : decode cX7_isCoin 26 = .ok (.iconst 1, 1) := by decide +kernel
theorem dX7_isCoin_27 : decode cX7_isCoin 27 = .ok (.invokevirtual 64, 3) := by decide +kernel
theorem dX7_isCoin_30 : decode cX7_isCoin 30 = .ok (.i2l, 1) := by decide +kernel
theorem dX7_isCoin_31 : decode cX7_isCoin 31 = .ok (.aload_n 0, 1) := by decide +kernel
theorem dX7_isCoin_32 : decode cX7_isCoin 32 = .ok (.iload_n 1, 1) := by decide +kernel
theorem dX7_isCoin_33 : decode cX7_isCoin 33 = .ok (.iconst 1, 1) := by decide +kernel
theorem dX7_isCoin_34 : decode cX7_isCoin 34 = .ok (.invokevirtual 61, 3) := by decide +kernel
theorem dX7_isCoin_37 : decode cX7_isCoin 37 = .ok (.i2l, 1) := by decide +kernel
theorem dX7_isCoin_38 : decode cX7_isCoin 38 = .ok (.invokestatic 44, 3) := by decide +kernel
theorem dX7_isCoin_41 : decode cX7_isCoin 41 = .ok (.ifCond .eq 30, 3) := by decide +kernel
theorem dX7_isCoin_44 : decode cX7_isCoin 44 = .ok (.iload 4, 2) := by decide +kernel
theorem dX7_isCoin_46 : decode cX7_isCoin 46 = .ok (.i2l, 1) := by decide +kernel
theorem dX7_isCoin_47 : decode cX7_isCoin 47 = .ok (.aload_n 0, 1) := by decide +kernel
theorem dX7_isCoin_48 : decode cX7_isCoin 48 = .ok (.iload_n 1, 1) := by decide +kernel
theorem dX7_isCoin_49 : decode cX7_isCoin 49 = .ok (.iconst 2, 1) := by decide +kernel
theorem dX7_isCoin_50 : decode cX7_isCoin 50 = .ok (.invokevirtual 64, 3) := by decide +kernel
theorem dX7_isCoin_53 : decode cX7_isCoin 53 = .ok (.i2l, 1) := by decide +kernel
theorem dX7_isCoin_54 : decode cX7_isCoin 54 = .ok (.aload_n 0, 1) := by decide +kernel
theorem dX7_isCoin_55 : decode cX7_isCoin 55 = .ok (.iload_n 1, 1) := by decide +kernel
theorem dX7_isCoin_56 : decode cX7_isCoin 56 = .ok (.iconst 2, 1) := by decide +kernel
theorem dX7_isCoin_57 : decode cX7_isCoin 57 = .ok (.invokevirtual 61, 3) := by decide +kernel
theorem dX7_isCoin_60 : decode cX7_isCoin 60 = .ok (.i2l, 1) := by decide +kernel
theorem dX7_isCoin_61 : decode cX7_isCoin 61 = .ok (.invokestatic 44, 3) := by decide +kernel
theorem dX7_isCoin_64 : decode cX7_isCoin 64 = .ok (.ifCond .eq 7, 3) := by decide +kernel
theorem dX7_isCoin_67 : decode cX7_isCoin 67 = .ok (.iconst 1, 1) := by decide +kernel
theorem dX7_isCoin_68 : decode cX7_isCoin 68 = .ok (.goto 4, 3) := by decide +kernel
theorem dX7_isCoin_71 : decode cX7_isCoin 71 = .ok (.iconst 0, 1) := by decide +kernel
theorem dX7_isCoin_72 : decode cX7_isCoin 72 = .ok (.ireturn, 1) := by decide +kernel
theorem dX7_copyFrom_0 : decode cX7_copyFrom 0 = .ok (.aload_n 0, 1) := by decide +kernel
theorem dX7_copyFrom_1 : decode cX7_copyFrom 1 = .ok (.aload_n 1, 1) := by decide +kernel
theorem dX7_copyFrom_2 : decode cX7_copyFrom 2 = .ok (.getfield 36, 3) := by decide +kernel
theorem dX7_copyFrom_5 : decode cX7_copyFrom 5 = .ok (.putfield 36, 3) := by decide +kernel
theorem dX7_copyFrom_8 : decode cX7_copyFrom 8 = .ok (.aload_n 1, 1) := by decide +kernel
theorem dX7_copyFrom_9 : decode cX7_copyFrom 9 = .ok (.getfield 9, 3) := by decide +kernel
theorem dX7_copyFrom_12 : decode cX7_copyFrom 12 = .ok (.aload_n 0, 1) := by decide +kernel
theorem dX7_copyFrom_13 : decode cX7_copyFrom 13 = .ok (.getfield 9, 3) := by decide +kernel
theorem dX7_copyFrom_16 : decode cX7_copyFrom 16 = .ok (.invokestatic 67, 3) := by decide +kernel
theorem dX7_copyFrom_19 : decode cX7_copyFrom 19 = .ok (.aload_n 1, 1) := by decide +kernel
theorem dX7_copyFrom_20 : decode cX7_copyFrom 20 = .ok (.getfield 15, 3) := by decide +kernel
theorem dX7_copyFrom_23 : decode cX7_copyFrom 23 = .ok (.aload_n 0, 1) := by decide +kernel
theorem dX7_copyFrom_24 : decode cX7_copyFrom 24 = .ok (.getfield 15, 3) := by decide +kernel
theorem dX7_copyFrom_27 : decode cX7_copyFrom 27 = .ok (.invokestatic 67, 3) := by decide +kernel
theorem dX7_copyFrom_30 : decode cX7_copyFrom 30 = .ok (.aload_n 1, 1) := by decide +kernel
theorem dX7_copyFrom_31 : decode cX7_copyFrom 31 = .ok (.getfield 18, 3) := by decide +kernel
theorem dX7_copyFrom_34 : decode cX7_copyFrom 34 = .ok (.aload_n 0, 1) := by decide +kernel
theorem dX7_copyFrom_35 : decode cX7_copyFrom 35 = .ok (.getfield 18, 3) := by decide +kernel
theorem dX7_copyFrom_38 : decode cX7_copyFrom 38 = .ok (.invokestatic 67, 3) := by decide +kernel
theorem dX7_copyFrom_41 : decode cX7_copyFrom 41 = .ok (.aload_n 1, 1) := by decide +kernel
theorem dX7_copyFrom_42 : decode cX7_copyFrom 42 = .ok (.getfield 21, 3) := by decide +kernel
theorem dX7_copyFrom_45 : decode cX7_copyFrom 45 = .ok (.aload_n 0, 1) := by decide +kernel
theorem dX7_copyFrom_46 : decode cX7_copyFrom 46 = .ok (.getfield 21, 3) := by decide +kernel
theorem dX7_copyFrom_49 : decode cX7_copyFrom 49 = .ok (.invokestatic 67, 3) := by decide +kernel
theorem dX7_copyFrom_52 : decode cX7_copyFrom 52 = .ok (.aload_n 1, 1) := by decide +kernel
theorem dX7_copyFrom_53 : decode cX7_copyFrom 53 = .ok (.getfield 24, 3) := by decide +kernel
theorem dX7_copyFrom_56 : decode cX7_copyFrom 56 = .ok (.aload_n 0, 1) := by decide +kernel
theorem dX7_copyFrom_57 : decode cX7_copyFrom 57 = .ok (.getfield 24, 3) := by decide +kernel
theorem dX7_copyFrom_60 : decode cX7_copyFrom 60 = .ok (.invokestatic 67, 3) := by decide +kernel
theorem dX7_copyFrom_63 : decode cX7_copyFrom 63 = .ok (.aload_n 1, 1) := by decide +kernel
theorem dX7_copyFrom_64 : decode cX7_copyFrom 64 = .ok (.getfield 27, 3) := by decide +kernel
theorem dX7_copyFrom_67 : decode cX7_copyFrom 67 = .ok (.aload_n 0, 1) := by decide +kernel
theorem dX7_copyFrom_68 : decode cX7_copyFrom 68 = .ok (.getfield 27, 3) := by decide +kernel
theorem dX7_copyFrom_71 : decode cX7_copyFrom 71 = .ok (.invokestatic 67, 3) := by decide +kernel
theorem dX7_copyFrom_74 : decode cX7_copyFrom 74 = .ok (.aload_n 1, 1) := by decide +kernel
theorem dX7_copyFrom_75 : decode cX7_copyFrom 75 = .ok (.getfield 30, 3) := by decide +kernel
theorem dX7_copyFrom_78 : decode cX7_copyFrom 78 = .ok (.aload_n 0, 1) := by decide +kernel
theorem dX7_copyFrom_79 : decode cX7_copyFrom 79 = .ok (.getfield 30, 3) := by decide +kernel
theorem dX7_copyFrom_82 : decode cX7_copyFrom 82 = .ok (.invokestatic 67, 3) := by decide +kernel
theorem dX7_copyFrom_85 : decode cX7_copyFrom 85 = .ok (.aload_n 1, 1) := by decide +kernel
theorem dX7_copyFrom_86 : decode cX7_copyFrom 86 = .ok (.getfield 33, 3) := by decide +kernel
theorem dX7_copyFrom_89 : decode cX7_copyFrom 89 = .ok (.aload_n 0, 1) := by decide +kernel
theorem dX7_copyFrom_90 : decode cX7_copyFrom 90 = .ok (.getfield 33, 3) := by decide +kernel
theorem dX7_copyFrom_93 : decode cX7_copyFrom 93 = .ok (.invokestatic 67, 3) := by decide +kernel
theorem dX7_copyFrom_96 : decode cX7_copyFrom 96 = .ok (.return_, 1) := by decide +kernel
