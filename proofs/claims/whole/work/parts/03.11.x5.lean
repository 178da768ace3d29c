theorem dX5_init_0 : decode cX5_init 0 = .ok (.aload_n 0, 1) := by decide +kernel
theorem dX5_init_1 : decode cX5_init 1 = .ok (.invokespecial 3, 3) := by decide +kernel
theorem dX5_init_4 : decode cX5_init 4 = .ok (.aload_n 0, 1) := by decide +kernel
theorem dX5_init_5 : decode cX5_init 5 = .ok (.bipush 32, 2) := by decide +kernel
theorem dX5_init_7 : decode cX5_init 7 = .ok (.newarray .int, 2) := by decide +kernel
theorem dX5_init_9 : decode cX5_init 9 = .ok (.putfield 9, 3) := by decide +kernel
theorem dX5_init_12 : decode cX5_init 12 = .ok (.aload_n 0, 1) := by decide +kernel
theorem dX5_init_13 : decode cX5_init 13 = .ok (.iconst 5, 1) := by decide +kernel
theorem dX5_init_14 : decode cX5_init 14 = .ok (.newarray .int, 2) := by decide +kernel
theorem dX5_init_16 : decode cX5_init 16 = .ok (.putfield 15, 3) := by decide +kernel
theorem dX5_init_19 : decode cX5_init 19 = .ok (.aload_n 0, 1) := by decide +kernel
theorem dX5_init_20 : decode cX5_init 20 = .ok (.bipush 15, 2) := by decide +kernel
theorem dX5_init_22 : decode cX5_init 22 = .ok (.newarray .long, 2) := by decide +kernel
theorem dX5_init_24 : decode cX5_init 24 = .ok (.putfield 18, 3) := by decide +kernel
theorem dX5_init_27 : decode cX5_init 27 = .ok (.aload_n 0, 1) := by decide +kernel
theorem dX5_init_28 : decode cX5_init 28 = .ok (.bipush 16, 2) := by decide +kernel
theorem dX5_init_30 : decode cX5_init 30 = .ok (.newarray .long, 2) := by decide +kernel
theorem dX5_init_32 : decode cX5_init 32 = .ok (.putfield 22, 3) := by decide +kernel
theorem dX5_init_35 : decode cX5_init 35 = .ok (.aload_n 0, 1) := by decide +kernel
theorem dX5_init_36 : decode cX5_init 36 = .ok (.bipush 45, 2) := by decide +kernel
theorem dX5_init_38 : decode cX5_init 38 = .ok (.newarray .long, 2) := by decide +kernel
theorem dX5_init_40 : decode cX5_init 40 = .ok (.putfield 25, 3) := by decide +kernel
theorem dX5_init_43 : decode cX5_init 43 = .ok (.aload_n 0, 1) := by decide +kernel
theorem dX5_init_44 : decode cX5_init 44 = .ok (.aload_n 1, 1) := by decide +kernel
theorem dX5_init_45 : decode cX5_init 45 = .ok (.putfield 28, 3) := by decide +kernel
theorem dX5_init_48 : decode cX5_init 48 = .ok (.aload_n 0, 1) := by decide +kernel
theorem dX5_init_49 : decode cX5_init 49 = .ok (.aload_n 1, 1) := by decide +kernel
theorem dX5_init_50 : decode cX5_init 50 = .ok (.getfield 32, 3) := by decide +kernel
theorem dX5_init_53 : decode cX5_init 53 = .ok (.putfield 38, 3) := by decide +kernel
theorem dX5_init_56 : decode cX5_init 56 = .ok (.aload_n 0, 1) := by decide +kernel
theorem dX5_init_57 : decode cX5_init 57 = .ok (.aload_n 2, 1) := by decide +kernel
theorem dX5_init_58 : decode cX5_init 58 = .ok (.putfield 39, 3) := by decide +kernel
theorem dX5_init_61 : decode cX5_init 61 = .ok (.return_, 1) := by decide +kernel
theorem dX5_mostOf_0 : decode cX5_mostOf 0 = .ok (.aload_n 0, 1) := by decide +kernel
theorem dX5_mostOf_1 : decode cX5_mostOf 1 = .ok (.invokevirtual 43, 3) := by decide +kernel
theorem dX5_mostOf_4 : decode cX5_mostOf 4 = .ok (.aload_n 0, 1) := by decide +kernel
theorem dX5_mostOf_5 : decode cX5_mostOf 5 = .ok (.iconst 0, 1) := by decide +kernel
theorem dX5_mostOf_6 : decode cX5_mostOf 6 = .ok (.iload_n 1, 1) := by decide +kernel
theorem dX5_mostOf_7 : decode cX5_mostOf 7 = .ok (.invokevirtual 46, 3) := by decide +kernel
theorem dX5_mostOf_10 : decode cX5_mostOf 10 = .ok (.aload_n 0, 1) := by decide +kernel
theorem dX5_mostOf_11 : decode cX5_mostOf 11 = .ok (.getfield 22, 3) := by decide +kernel
theorem dX5_mostOf_14 : decode cX5_mostOf 14 = .ok (.iload_n 1, 1) := by decide +kernel
theorem dX5_mostOf_15 : decode cX5_mostOf 15 = .ok (.laload, 1) := by decide +kernel
theorem dX5_mostOf_16 : decode cX5_mostOf 16 = .ok (.lreturn, 1) := by decide +kernel
theorem dX5_advice_0 : decode cX5_advice 0 = .ok (.aload_n 0, 1) := by decide +kernel
theorem dX5_advice_1 : decode cX5_advice 1 = .ok (.invokevirtual 43, 3) := by decide +kernel
theorem dX5_advice_4 : decode cX5_advice 4 = .ok (.aload_n 0, 1) := by decide +kernel
theorem dX5_advice_5 : decode cX5_advice 5 = .ok (.iconst 0, 1) := by decide +kernel
theorem dX5_advice_6 : decode cX5_advice 6 = .ok (.iload_n 1, 1) := by decide +kernel
theorem dX5_advice_7 : decode cX5_advice 7 = .ok (.iconst 1, 1) := by decide +kernel
theorem dX5_advice_8 : decode cX5_advice 8 = .ok (.isub, 1) := by decide +kernel
theorem dX5_advice_9 : decode cX5_advice 9 = .ok (.invokevirtual 46, 3) := by decide +kernel
theorem dX5_advice_12 : decode cX5_advice 12 = .ok (.aload_n 0, 1) := by decide +kernel
theorem dX5_advice_13 : decode cX5_advice 13 = .ok (.getfield 22, 3) := by decide +kernel
theorem dX5_advice_16 : decode cX5_advice 16 = .ok (.iload_n 1, 1) := by decide +kernel
theorem dX5_advice_17 : decode cX5_advice 17 = .ok (.iconst 1, 1) := by decide +kernel
theorem dX5_advice_18 : decode cX5_advice 18 = .ok (.isub, 1) := by decide +kernel
theorem dX5_advice_19 : decode cX5_advice 19 = .ok (.laload, 1) := by decide +kernel
theorem dX5_advice_20 : decode cX5_advice 20 = .ok (.lstore_n 3, 1) := by decide +kernel
theorem dX5_advice_21 : decode cX5_advice 21 = .ok (.aload_n 0, 1) := by decide +kernel
theorem dX5_advice_22 : decode cX5_advice 22 = .ok (.iconst 0, 1) := by decide +kernel
theorem dX5_advice_23 : decode cX5_advice 23 = .ok (.invokevirtual 50, 3) := by decide +kernel
theorem dX5_advice_26 : decode cX5_advice 26 = .ok (.aload_n 0, 1) := by decide +kernel
theorem dX5_advice_27 : decode cX5_advice 27 = .ok (.getfield 18, 3) := by decide +kernel
theorem dX5_advice_30 : decode cX5_advice 30 = .ok (.iload_n 2, 1) := by decide +kernel
theorem dX5_advice_31 : decode cX5_advice 31 = .ok (.laload, 1) := by decide +kernel
theorem dX5_advice_32 : decode cX5_advice 32 = .ok (.ldc2_w 54, 3) := by decide +kernel
theorem dX5_advice_35 : decode cX5_advice 35 = .ok (.lcmp, 1) := by decide +kernel
theorem dX5_advice_36 : decode cX5_advice 36 = .ok (.ifCond .ne 5, 3) := by decide +kernel
theorem dX5_advice_39 : decode cX5_advice 39 = .ok (.iconst (-1), 1) := by decide +kernel
theorem dX5_advice_40 : decode cX5_advice 40 = .ok (.ireturn, 1) := by decide +kernel
theorem dX5_advice_41 : decode cX5_advice 41 = .ok (.aload_n 0, 1) := by decide +kernel
theorem dX5_advice_42 : decode cX5_advice 42 = .ok (.iconst 0, 1) := by decide +kernel
theorem dX5_advice_43 : decode cX5_advice 43 = .ok (.iload_n 2, 1) := by decide +kernel
theorem dX5_advice_44 : decode cX5_advice 44 = .ok (.invokevirtual 56, 3) := by decide +kernel
theorem dX5_advice_47 : decode cX5_advice 47 = .ok (.aload_n 0, 1) := by decide +kernel
theorem dX5_advice_48 : decode cX5_advice 48 = .ok (.iconst 1, 1) := by decide +kernel
theorem dX5_advice_49 : decode cX5_advice 49 = .ok (.iload_n 1, 1) := by decide +kernel
theorem dX5_advice_50 : decode cX5_advice 50 = .ok (.iconst 1, 1) := by decide +kernel
theorem dX5_advice_51 : decode cX5_advice 51 = .ok (.isub, 1) := by decide +kernel
theorem dX5_advice_52 : decode cX5_advice 52 = .ok (.invokevirtual 46, 3) := by decide +kernel
theorem dX5_advice_55 : decode cX5_advice 55 = .ok (.aload_n 0, 1) := by decide +kernel
theorem dX5_advice_56 : decode cX5_advice 56 = .ok (.getfield 22, 3) := by decide +kernel
theorem dX5_advice_59 : decode cX5_advice 59 = .ok (.iconst 4, 1) := by decide +kernel
theorem dX5_advice_60 : decode cX5_advice 60 = .ok (.iload_n 1, 1) := by decide +kernel
theorem dX5_advice_61 : decode cX5_advice 61 = .ok (.iadd, 1) := by decide +kernel
theorem dX5_advice_62 : decode cX5_advice 62 = .ok (.iconst 1, 1) := by decide +kernel
theorem dX5_advice_63 : decode cX5_advice 63 = .ok (.isub, 1) := by decide +kernel
theorem dX5_advice_64 : decode cX5_advice 64 = .ok (.laload, 1) := by decide +kernel
theorem dX5_advice_65 : decode cX5_advice 65 = .ok (.aload_n 0, 1) := by decide +kernel
theorem dX5_advice_66 : decode cX5_advice 66 = .ok (.iload_n 1, 1) := by decide +kernel
theorem dX5_advice_67 : decode cX5_advice 67 = .ok (.iconst 1, 1) := by decide +kernel
theorem dX5_advice_68 : decode cX5_advice 68 = .ok (.isub, 1) := by decide +kernel
theorem dX5_advice_69 : decode cX5_advice 69 = .ok (.invokevirtual 59, 3) := by decide +kernel
theorem dX5_advice_72 : decode cX5_advice 72 = .ok (.ladd, 1) := by decide +kernel
theorem dX5_advice_73 : decode cX5_advice 73 = .ok (.lstore 5, 2) := by decide +kernel
theorem dX5_advice_75 : decode cX5_advice 75 = .ok (.lload 5, 2) := by decide +kernel
theorem dX5_advice_77 : decode cX5_advice 77 = .ok (.lload_n 3, 1) := by decide +kernel
theorem dX5_advice_78 : decode cX5_advice 78 = .ok (.lcmp, 1) := by decide +kernel
theorem dX5_advice_79 : decode cX5_advice 79 = .ok (.ifCond .lt 7, 3) := by decide +kernel
theorem dX5_advice_82 : decode cX5_advice 82 = .ok (.iconst 1, 1) := by decide +kernel
theorem dX5_advice_83 : decode cX5_advice 83 = .ok (.goto 4, 3) := by decide +kernel
theorem dX5_advice_86 : decode cX5_advice 86 = .ok (.iconst 0, 1) := by decide +kernel
theorem dX5_advice_87 : decode cX5_advice 87 = .ok (.ireturn, 1) := by decide +kernel
theorem dX5_begin_0 : decode cX5_begin 0 = .ok (.iconst 0, 1) := by decide +kernel
theorem dX5_begin_1 : decode cX5_begin 1 = .ok (.istore_n 1, 1) := by decide +kernel
theorem dX5_begin_2 : decode cX5_begin 2 = .ok (.iload_n 1, 1) := by decide +kernel
theorem dX5_begin_3 : decode cX5_begin 3 = .ok (.bipush 8, 2) := by decide +kernel
theorem dX5_begin_5 : decode cX5_begin 5 = .ok (.if_icmp .ge 27, 3) := by decide +kernel
theorem dX5_begin_8 : decode cX5_begin 8 = .ok (.aload_n 0, 1) := by decide +kernel
theorem dX5_begin_9 : decode cX5_begin 9 = .ok (.getfield 9, 3) := by decide +kernel
theorem dX5_begin_12 : decode cX5_begin 12 = .ok (.iload_n 1, 1) := by decide +kernel
theorem dX5_begin_13 : decode cX5_begin 13 = .ok (.aload_n 0, 1) := by decide +kernel
theorem dX5_begin_14 : decode cX5_begin 14 = .ok (.getfield 28, 3) := by decide +kernel
theorem dX5_begin_17 : decode cX5_begin 17 = .ok (.getfield 63, 3) := by decide +kernel
theorem dX5_begin_20 : decode cX5_begin 20 = .ok (.getfield 67, 3) := by decide +kernel
theorem dX5_begin_23 : decode cX5_begin 23 = .ok (.iload_n 1, 1) := by decide +kernel
theorem dX5_begin_24 : decode cX5_begin 24 = .ok (.iaload, 1) := by decide +kernel
theorem dX5_begin_25 : decode cX5_begin 25 = .ok (.iastore, 1) := by decide +kernel
theorem dX5_begin_26 : decode cX5_begin 26 = .ok (.iinc 1 1, 3) := by decide +kernel
theorem dX5_begin_29 : decode cX5_begin 29 = .ok (.goto (-27), 3) := by decide +kernel
theorem dX5_begin_32 : decode cX5_begin 32 = .ok (.iconst 0, 1) := by decide +kernel
theorem dX5_begin_33 : decode cX5_begin 33 = .ok (.istore_n 1, 1) := by decide +kernel
theorem dX5_begin_34 : decode cX5_begin 34 = .ok (.iload_n 1, 1) := by decide +kernel
theorem dX5_begin_35 : decode cX5_begin 35 = .ok (.aload_n 0, 1) := by decide +kernel
theorem dX5_begin_36 : decode cX5_begin 36 = .ok (.getfield 28, 3) := by decide +kernel
theorem dX5_begin_39 : decode cX5_begin 39 = .ok (.getfield 70, 3) := by decide +kernel
theorem dX5_begin_42 : decode cX5_begin 42 = .ok (.if_icmp .ge 38, 3) := by decide +kernel
theorem dX5_begin_45 : decode cX5_begin 45 = .ok (.aload_n 0, 1) := by decide +kernel
theorem dX5_begin_46 : decode cX5_begin 46 = .ok (.getfield 15, 3) := by decide +kernel
theorem dX5_begin_49 : decode cX5_begin 49 = .ok (.iload_n 1, 1) := by decide +kernel
theorem dX5_begin_50 : decode cX5_begin 50 = .ok (.aload_n 0, 1) := by decide +kernel
theorem dX5_begin_51 : decode cX5_begin 51 = .ok (.iload_n 1, 1) := by decide +kernel
theorem dX5_begin_52 : decode cX5_begin 52 = .ok (.invokevirtual 74, 3) := by decide +kernel
theorem dX5_begin_55 : decode cX5_begin 55 = .ok (.aload_n 0, 1) := by decide +kernel
theorem dX5_begin_56 : decode cX5_begin 56 = .ok (.getfield 28, 3) := by decide +kernel
theorem dX5_begin_59 : decode cX5_begin 59 = .ok (.getfield 78, 3) := by decide +kernel
theorem dX5_begin_62 : decode cX5_begin 62 = .ok (.aload_n 0, 1) := by decide +kernel
theorem dX5_begin_63 : decode cX5_begin 63 = .ok (.getfield 28, 3) := by decide +kernel
theorem dX5_begin_66 : decode cX5_begin 66 = .ok (.getfield 81, 3) := by decide +kernel
theorem dX5_begin_69 : decode cX5_begin 69 = .ok (.iload_n 1, 1) := by decide +kernel
theorem dX5_begin_70 : decode cX5_begin 70 = .ok (.iaload, 1) := by decide +kernel
theorem dX5_begin_71 : decode cX5_begin 71 = .ok (.iaload, 1) := by decide +kernel
theorem dX5_begin_72 : decode cX5_begin 72 = .ok (.isub, 1) := by decide +kernel
theorem dX5_begin_73 : decode cX5_begin 73 = .ok (.iastore, 1) := by decide +kernel
theorem dX5_begin_74 : decode cX5_begin 74 = .ok (.iinc 1 1, 3) := by decide +kernel
theorem dX5_begin_77 : decode cX5_begin 77 = .ok (.goto (-43), 3) := by decide +kernel
theorem dX5_begin_80 : decode cX5_begin 80 = .ok (.return_, 1) := by decide +kernel
theorem dX5_paid_0 : decode cX5_paid 0 = .ok (.iconst 0, 1) := by decide +kernel
theorem dX5_paid_1 : decode cX5_paid 1 = .ok (.istore_n 2, 1) := by decide +kernel
theorem dX5_paid_2 : decode cX5_paid 2 = .ok (.iconst 0, 1) := by decide +kernel
theorem dX5_paid_3 : decode cX5_paid 3 = .ok (.istore_n 3, 1) := by decide +kernel
theorem dX5_paid_4 : decode cX5_paid 4 = .ok (.iload_n 3, 1) := by decide +kernel
theorem dX5_paid_5 : decode cX5_paid 5 = .ok (.aload_n 0, 1) := by decide +kernel
theorem dX5_paid_6 : decode cX5_paid 6 = .ok (.getfield 28, 3) := by decide +kernel
theorem dX5_paid_9 : decode cX5_paid 9 = .ok (.getfield 84, 3) := by decide +kernel
theorem dX5_paid_12 : decode cX5_paid 12 = .ok (.iload_n 1, 1) := by decide +kernel
theorem dX5_paid_13 : decode cX5_paid 13 = .ok (.iaload, 1) := by decide +kernel
theorem dX5_paid_14 : decode cX5_paid 14 = .ok (.if_icmp .ge 51, 3) := by decide +kernel
theorem dX5_paid_17 : decode cX5_paid 17 = .ok (.aload_n 0, 1) := by decide +kernel
theorem dX5_paid_18 : decode cX5_paid 18 = .ok (.getfield 28, 3) := by decide +kernel
theorem dX5_paid_21 : decode cX5_paid 21 = .ok (.getfield 87, 3) := by decide +kernel
theorem dX5_paid_24 : decode cX5_paid 24 = .ok (.iload_n 1, 1) := by decide +kernel
theorem dX5_paid_25 : decode cX5_paid 25 = .ok (.iconst 4, 1) := by decide +kernel
theorem dX5_paid_26 : decode cX5_paid 26 = .ok (.imul, 1) := by decide +kernel
theorem dX5_paid_27 : decode cX5_paid 27 = .ok (.iload_n 3, 1) := by decide +kernel
theorem dX5_paid_28 : decode cX5_paid 28 = .ok (.iadd, 1) := by decide +kernel
theorem dX5_paid_29 : decode cX5_paid 29 = .ok (.iaload, 1) := by decide +kernel
theorem dX5_paid_30 : decode cX5_paid 30 = .ok (.istore 4, 2) := by decide +kernel
theorem dX5_paid_32 : decode cX5_paid 32 = .ok (.aload_n 0, 1) := by decide +kernel
theorem dX5_paid_33 : decode cX5_paid 33 = .ok (.getfield 38, 3) := by decide +kernel
theorem dX5_paid_36 : decode cX5_paid 36 = .ok (.iload 4, 2) := by decide +kernel
theorem dX5_paid_38 : decode cX5_paid 38 = .ok (.invokevirtual 90, 3) := by decide +kernel
theorem dX5_paid_41 : decode cX5_paid 41 = .ok (.ifCond .ne 5, 3) := by decide +kernel
theorem dX5_paid_44 : decode cX5_paid 44 = .ok (.iconst 0, 1) := by decide +kernel
theorem dX5_paid_45 : decode cX5_paid 45 = .ok (.ireturn, 1) := by decide +kernel
theorem dX5_paid_46 : decode cX5_paid 46 = .ok (.iload_n 2, 1) := by decide +kernel
theorem dX5_paid_47 : decode cX5_paid 47 = .ok (.aload_n 0, 1) := by decide +kernel
theorem dX5_paid_48 : decode cX5_paid 48 = .ok (.getfield 38, 3) := by decide +kernel
theorem dX5_paid_51 : decode cX5_paid 51 = .ok (.getfield 96, 3) := by decide +kernel
theorem dX5_paid_54 : decode cX5_paid 54 = .ok (.iload 4, 2) := by decide +kernel
theorem dX5_paid_56 : decode cX5_paid 56 = .ok (.iaload, 1) := by decide +kernel
theorem dX5_paid_57 : decode cX5_paid 57 = .ok (.iadd, 1) := by decide +kernel
theorem dX5_paid_58 : decode cX5_paid 58 = .ok (.istore_n 2, 1) := by decide +kernel
theorem dX5_paid_59 : decode cX5_paid 59 = .ok (.iinc 3 1, 3) := by decide +kernel
theorem dX5_paid_62 : decode cX5_paid 62 = .ok (.goto (-58), 3) := by decide +kernel
theorem dX5_paid_65 : decode cX5_paid 65 = .ok (.iload_n 2, 1) := by decide +kernel
theorem dX5_paid_66 : decode cX5_paid 66 = .ok (.ireturn, 1) := by decide +kernel
theorem dX5_look_0 : decode cX5_look 0 = .ok (.iload_n 1, 1) := by decide +kernel
theorem dX5_look_1 : decode cX5_look 1 = .ok (.iconst 4, 1) := by decide +kernel
theorem dX5_look_2 : decode cX5_look 2 = .ok (.imul, 1) := by decide +kernel
theorem dX5_look_3 : decode cX5_look 3 = .ok (.istore_n 3, 1) := by decide +kernel
theorem dX5_look_4 : decode cX5_look 4 = .ok (.aload_n 0, 1) := by decide +kernel
theorem dX5_look_5 : decode cX5_look 5 = .ok (.getfield 22, 3) := by decide +kernel
theorem dX5_look_8 : decode cX5_look 8 = .ok (.iload_n 3, 1) := by decide +kernel
theorem dX5_look_9 : decode cX5_look 9 = .ok (.lconst 0, 1) := by decide +kernel
theorem dX5_look_10 : decode cX5_look 10 = .ok (.lastore, 1) := by decide +kernel
theorem dX5_look_11 : decode cX5_look 11 = .ok (.iload_n 2, 1) := by decide +kernel
theorem dX5_look_12 : decode cX5_look 12 = .ok (.ifCond .le 8, 3) := by decide +kernel
theorem dX5_look_15 : decode cX5_look 15 = .ok (.iload_n 1, 1) := by decide +kernel
theorem dX5_look_16 : decode cX5_look 16 = .ok (.iconst 3, 1) := by decide +kernel
theorem dX5_look_17 : decode cX5_look 17 = .ok (.if_icmp .lt 4, 3) := by decide +kernel
theorem dX5_look_20 : decode cX5_look 20 = .ok (.return_, 1) := by decide +kernel
theorem dX5_look_21 : decode cX5_look 21 = .ok (.aload_n 0, 1) := by decide +kernel
theorem dX5_look_22 : decode cX5_look 22 = .ok (.iload_n 1, 1) := by decide +kernel
theorem dX5_look_23 : decode cX5_look 23 = .ok (.invokevirtual 50, 3) := by decide +kernel
theorem dX5_look_26 : decode cX5_look 26 = .ok (.iconst 0, 1) := by decide +kernel
theorem dX5_look_27 : decode cX5_look 27 = .ok (.istore 4, 2) := by decide +kernel
theorem dX5_look_29 : decode cX5_look 29 = .ok (.iload 4, 2) := by decide +kernel
theorem dX5_look_31 : decode cX5_look 31 = .ok (.aload_n 0, 1) := by decide +kernel
theorem dX5_look_32 : decode cX5_look 32 = .ok (.getfield 28, 3) := by decide +kernel
theorem dX5_look_35 : decode cX5_look 35 = .ok (.getfield 70, 3) := by decide +kernel
theorem dX5_look_38 : decode cX5_look 38 = .ok (.if_icmp .ge 52, 3) := by decide +kernel
theorem dX5_look_41 : decode cX5_look 41 = .ok (.aload_n 0, 1) := by decide +kernel
theorem dX5_look_42 : decode cX5_look 42 = .ok (.getfield 18, 3) := by decide +kernel
theorem dX5_look_45 : decode cX5_look 45 = .ok (.iload_n 1, 1) := by decide +kernel
theorem dX5_look_46 : decode cX5_look 46 = .ok (.iconst 5, 1) := by decide +kernel
theorem dX5_look_47 : decode cX5_look 47 = .ok (.imul, 1) := by decide +kernel
theorem dX5_look_48 : decode cX5_look 48 = .ok (.iload 4, 2) := by decide +kernel
theorem dX5_look_50 : decode cX5_look 50 = .ok (.iadd, 1) := by decide +kernel
theorem dX5_look_51 : decode cX5_look 51 = .ok (.laload, 1) := by decide +kernel
theorem dX5_look_52 : decode cX5_look 52 = .ok (.ldc2_w 54, 3) := by decide +kernel
theorem dX5_look_55 : decode cX5_look 55 = .ok (.lcmp, 1) := by decide +kernel
theorem dX5_look_56 : decode cX5_look 56 = .ok (.ifCond .eq 28, 3) := by decide +kernel
theorem dX5_look_59 : decode cX5_look 59 = .ok (.aload_n 0, 1) := by decide +kernel
theorem dX5_look_60 : decode cX5_look 60 = .ok (.iload_n 1, 1) := by decide +kernel
theorem dX5_look_61 : decode cX5_look 61 = .ok (.iload 4, 2) := by decide +kernel
theorem dX5_look_63 : decode cX5_look 63 = .ok (.invokevirtual 56, 3) := by decide +kernel
theorem dX5_look_66 : decode cX5_look 66 = .ok (.aload_n 0, 1) := by decide +kernel
theorem dX5_look_67 : decode cX5_look 67 = .ok (.iload_n 1, 1) := by decide +kernel
theorem dX5_look_68 : decode cX5_look 68 = .ok (.iconst 1, 1) := by decide +kernel
theorem dX5_look_69 : decode cX5_look 69 = .ok (.iadd, 1) := by decide +kernel
theorem dX5_look_70 : decode cX5_look 70 = .ok (.iload_n 2, 1) := by decide +kernel
theorem dX5_look_71 : decode cX5_look 71 = .ok (.iconst 1, 1) := by decide +kernel
theorem dX5_look_72 : decode cX5_look 72 = .ok (.isub, 1) := by decide +kernel
theorem dX5_look_73 : decode cX5_look 73 = .ok (.invokevirtual 46, 3) := by decide +kernel
theorem dX5_look_76 : decode cX5_look 76 = .ok (.aload_n 0, 1) := by decide +kernel
theorem dX5_look_77 : decode cX5_look 77 = .ok (.iload_n 1, 1) := by decide +kernel
theorem dX5_look_78 : decode cX5_look 78 = .ok (.iload 4, 2) := by decide +kernel
theorem dX5_look_80 : decode cX5_look 80 = .ok (.iload_n 2, 1) := by decide +kernel
theorem dX5_look_81 : decode cX5_look 81 = .ok (.invokevirtual 99, 3) := by decide +kernel
theorem dX5_look_84 : decode cX5_look 84 = .ok (.iinc 4 1, 3) := by decide +kernel
theorem dX5_look_87 : decode cX5_look 87 = .ok (.goto (-58), 3) := by decide +kernel
theorem dX5_look_90 : decode cX5_look 90 = .ok (.iconst 1, 1) := by decide +kernel
theorem dX5_look_91 : decode cX5_look 91 = .ok (.istore 4, 2) := by decide +kernel
theorem dX5_look_93 : decode cX5_look 93 = .ok (.iload 4, 2) := by decide +kernel
theorem dX5_look_95 : decode cX5_look 95 = .ok (.iload_n 2, 1) := by decide +kernel
theorem dX5_look_96 : decode cX5_look 96 = .ok (.if_icmp .gt 25, 3) := by decide +kernel
theorem dX5_look_99 : decode cX5_look 99 = .ok (.aload_n 0, 1) := by decide +kernel
theorem dX5_look_100 : decode cX5_look 100 = .ok (.getfield 22, 3) := by decide +kernel
theorem dX5_look_103 : decode cX5_look 103 = .ok (.iload_n 3, 1) := by decide +kernel
theorem dX5_look_104 : decode cX5_look 104 = .ok (.iload 4, 2) := by decide +kernel
theorem dX5_look_106 : decode cX5_look 106 = .ok (.iadd, 1) := by decide +kernel
theorem dX5_look_107 : decode cX5_look 107 = .ok (.aload_n 0, 1) := by decide +kernel
theorem dX5_look_108 : decode cX5_look 108 = .ok (.iload_n 1, 1) := by decide +kernel
theorem dX5_look_109 : decode cX5_look 109 = .ok (.iload 4, 2) := by decide +kernel
theorem dX5_look_111 : decode cX5_look 111 = .ok (.invokevirtual 103, 3) := by decide +kernel
theorem dX5_look_114 : decode cX5_look 114 = .ok (.lastore, 1) := by decide +kernel
theorem dX5_look_115 : decode cX5_look 115 = .ok (.iinc 4 1, 3) := by decide +kernel
theorem dX5_look_118 : decode cX5_look 118 = .ok (.goto (-25), 3) := by decide +kernel
theorem dX5_look_121 : decode cX5_look 121 = .ok (.return_, 1) := by decide +kernel
theorem dX5_keepServed_0 : decode cX5_keepServed 0 = .ok (.iload_n 1, 1) := by decide +kernel
theorem dX5_keepServed_1 : decode cX5_keepServed 1 = .ok (.iconst 1, 1) := by decide +kernel
theorem dX5_keepServed_2 : decode cX5_keepServed 2 = .ok (.iadd, 1) := by decide +kernel
theorem dX5_keepServed_3 : decode cX5_keepServed 3 = .ok (.iconst 4, 1) := by decide +kernel
theorem dX5_keepServed_4 : decode cX5_keepServed 4 = .ok (.imul, 1) := by decide +kernel
theorem dX5_keepServed_5 : decode cX5_keepServed 5 = .ok (.istore 4, 2) := by decide +kernel
theorem dX5_keepServed_7 : decode cX5_keepServed 7 = .ok (.iload_n 1, 1) := by decide +kernel
theorem dX5_keepServed_8 : decode cX5_keepServed 8 = .ok (.iconst 5, 1) := by decide +kernel
theorem dX5_keepServed_9 : decode cX5_keepServed 9 = .ok (.imul, 1) := by decide +kernel
theorem dX5_keepServed_10 : decode cX5_keepServed 10 = .ok (.iload_n 2, 1) := by decide +kernel
theorem dX5_keepServed_11 : decode cX5_keepServed 11 = .ok (.iadd, 1) := by decide +kernel
theorem dX5_keepServed_12 : decode cX5_keepServed 12 = .ok (.iconst 3, 1) := by decide +kernel
theorem dX5_keepServed_13 : decode cX5_keepServed 13 = .ok (.imul, 1) := by decide +kernel
theorem dX5_keepServed_14 : decode cX5_keepServed 14 = .ok (.istore 5, 2) := by decide +kernel
theorem dX5_keepServed_16 : decode cX5_keepServed 16 = .ok (.iconst 0, 1) := by decide +kernel
theorem dX5_keepServed_17 : decode cX5_keepServed 17 = .ok (.istore 6, 2) := by decide +kernel
theorem dX5_keepServed_19 : decode cX5_keepServed 19 = .ok (.iload 6, 2) := by decide +kernel
theorem dX5_keepServed_21 : decode cX5_keepServed 21 = .ok (.iload_n 3, 1) := by decide +kernel
theorem dX5_keepServed_22 : decode cX5_keepServed 22 = .ok (.if_icmp .ge 29, 3) := by decide +kernel
theorem dX5_keepServed_25 : decode cX5_keepServed 25 = .ok (.aload_n 0, 1) := by decide +kernel
theorem dX5_keepServed_26 : decode cX5_keepServed 26 = .ok (.getfield 25, 3) := by decide +kernel
theorem dX5_keepServed_29 : decode cX5_keepServed 29 = .ok (.iload 5, 2) := by decide +kernel
theorem dX5_keepServed_31 : decode cX5_keepServed 31 = .ok (.iload 6, 2) := by decide +kernel
theorem dX5_keepServed_33 : decode cX5_keepServed 33 = .ok (.iadd, 1) := by decide +kernel
theorem dX5_keepServed_34 : decode cX5_keepServed 34 = .ok (.aload_n 0, 1) := by decide +kernel
theorem dX5_keepServed_35 : decode cX5_keepServed 35 = .ok (.getfield 22, 3) := by decide +kernel
theorem dX5_keepServed_38 : decode cX5_keepServed 38 = .ok (.iload 4, 2) := by decide +kernel
theorem dX5_keepServed_40 : decode cX5_keepServed 40 = .ok (.iload 6, 2) := by decide +kernel
theorem dX5_keepServed_42 : decode cX5_keepServed 42 = .ok (.iadd, 1) := by decide +kernel
theorem dX5_keepServed_43 : decode cX5_keepServed 43 = .ok (.laload, 1) := by decide +kernel
theorem dX5_keepServed_44 : decode cX5_keepServed 44 = .ok (.lastore, 1) := by decide +kernel
theorem dX5_keepServed_45 : decode cX5_keepServed 45 = .ok (.iinc 6 1, 3) := by decide +kernel
theorem dX5_keepServed_48 : decode cX5_keepServed 48 = .ok (.goto (-29), 3) := by decide +kernel
theorem dX5_keepServed_51 : decode cX5_keepServed 51 = .ok (.return_, 1) := by decide +kernel
theorem dX5_meanOf_0 : decode cX5_meanOf 0 = .ok (.aload_n 0, 1) := by decide +kernel
theorem dX5_meanOf_1 : decode cX5_meanOf 1 = .ok (.getfield 22, 3) := by decide +kernel
theorem dX5_meanOf_4 : decode cX5_meanOf 4 = .ok (.iload_n 1, 1) := by decide +kernel
theorem dX5_meanOf_5 : decode cX5_meanOf 5 = .ok (.iconst 4, 1) := by decide +kernel
theorem dX5_meanOf_6 : decode cX5_meanOf 6 = .ok (.imul, 1) := by decide +kernel
theorem dX5_meanOf_7 : decode cX5_meanOf 7 = .ok (.iload_n 2, 1) := by decide +kernel
theorem dX5_meanOf_8 : decode cX5_meanOf 8 = .ok (.iadd, 1) := by decide +kernel
theorem dX5_meanOf_9 : decode cX5_meanOf 9 = .ok (.iconst 1, 1) := by decide +kernel
theorem dX5_meanOf_10 : decode cX5_meanOf 10 = .ok (.isub, 1) := by decide +kernel
theorem dX5_meanOf_11 : decode cX5_meanOf 11 = .ok (.laload, 1) := by decide +kernel
theorem dX5_meanOf_12 : decode cX5_meanOf 12 = .ok (.lstore_n 3, 1) := by decide +kernel
theorem dX5_meanOf_13 : decode cX5_meanOf 13 = .ok (.aload_n 0, 1) := by decide +kernel
theorem dX5_meanOf_14 : decode cX5_meanOf 14 = .ok (.iload_n 2, 1) := by decide +kernel
theorem dX5_meanOf_15 : decode cX5_meanOf 15 = .ok (.iconst 1, 1) := by decide +kernel
theorem dX5_meanOf_16 : decode cX5_meanOf 16 = .ok (.isub, 1) := by decide +kernel
theorem dX5_meanOf_17 : decode cX5_meanOf 17 = .ok (.invokevirtual 59, 3) := by decide +kernel
theorem dX5_meanOf_20 : decode cX5_meanOf 20 = .ok (.lstore 5, 2) := by decide +kernel
theorem dX5_meanOf_22 : decode cX5_meanOf 22 = .ok (.lconst 0, 1) := by decide +kernel
theorem dX5_meanOf_23 : decode cX5_meanOf 23 = .ok (.lstore 7, 2) := by decide +kernel
theorem dX5_meanOf_25 : decode cX5_meanOf 25 = .ok (.iconst 0, 1) := by decide +kernel
theorem dX5_meanOf_26 : decode cX5_meanOf 26 = .ok (.istore 9, 2) := by decide +kernel
theorem dX5_meanOf_28 : decode cX5_meanOf 28 = .ok (.iload 9, 2) := by decide +kernel
theorem dX5_meanOf_30 : decode cX5_meanOf 30 = .ok (.aload_n 0, 1) := by decide +kernel
theorem dX5_meanOf_31 : decode cX5_meanOf 31 = .ok (.getfield 28, 3) := by decide +kernel
theorem dX5_meanOf_34 : decode cX5_meanOf 34 = .ok (.getfield 70, 3) := by decide +kernel
theorem dX5_meanOf_37 : decode cX5_meanOf 37 = .ok (.if_icmp .ge 76, 3) := by decide +kernel
theorem dX5_meanOf_40 : decode cX5_meanOf 40 = .ok (.lload_n 3, 1) := by decide +kernel
theorem dX5_meanOf_41 : decode cX5_meanOf 41 = .ok (.lstore 10, 2) := by decide +kernel
theorem dX5_meanOf_43 : decode cX5_meanOf 43 = .ok (.iload_n 1, 1) := by decide +kernel
theorem dX5_meanOf_44 : decode cX5_meanOf 44 = .ok (.iconst 5, 1) := by decide +kernel
theorem dX5_meanOf_45 : decode cX5_meanOf 45 = .ok (.imul, 1) := by decide +kernel
theorem dX5_meanOf_46 : decode cX5_meanOf 46 = .ok (.iload 9, 2) := by decide +kernel
theorem dX5_meanOf_48 : decode cX5_meanOf 48 = .ok (.iadd, 1) := by decide +kernel
theorem dX5_meanOf_49 : decode cX5_meanOf 49 = .ok (.istore 12, 2) := by decide +kernel
theorem dX5_meanOf_51 : decode cX5_meanOf 51 = .ok (.aload_n 0, 1) := by decide +kernel
theorem dX5_meanOf_52 : decode cX5_meanOf 52 = .ok (.getfield 18, 3) := by decide +kernel
theorem dX5_meanOf_55 : decode cX5_meanOf 55 = .ok (.iload 12, 2) := by decide +kernel
theorem dX5_meanOf_57 : decode cX5_meanOf 57 = .ok (.laload, 1) := by decide +kernel
theorem dX5_meanOf_58 : decode cX5_meanOf 58 = .ok (.ldc2_w 54, 3) := by decide +kernel
theorem dX5_meanOf_61 : decode cX5_meanOf 61 = .ok (.lcmp, 1) := by decide +kernel
theorem dX5_meanOf_62 : decode cX5_meanOf 62 = .ok (.ifCond .eq 26, 3) := by decide +kernel
theorem dX5_meanOf_65 : decode cX5_meanOf 65 = .ok (.lload 10, 2) := by decide +kernel
theorem dX5_meanOf_67 : decode cX5_meanOf 67 = .ok (.lload 5, 2) := by decide +kernel
theorem dX5_meanOf_69 : decode cX5_meanOf 69 = .ok (.aload_n 0, 1) := by decide +kernel
theorem dX5_meanOf_70 : decode cX5_meanOf 70 = .ok (.getfield 25, 3) := by decide +kernel
theorem dX5_meanOf_73 : decode cX5_meanOf 73 = .ok (.iload 12, 2) := by decide +kernel
theorem dX5_meanOf_75 : decode cX5_meanOf 75 = .ok (.iconst 3, 1) := by decide +kernel
theorem dX5_meanOf_76 : decode cX5_meanOf 76 = .ok (.imul, 1) := by decide +kernel
theorem dX5_meanOf_77 : decode cX5_meanOf 77 = .ok (.iload_n 2, 1) := by decide +kernel
theorem dX5_meanOf_78 : decode cX5_meanOf 78 = .ok (.iadd, 1) := by decide +kernel
theorem dX5_meanOf_79 : decode cX5_meanOf 79 = .ok (.iconst 1, 1) := by decide +kernel
theorem dX5_meanOf_80 : decode cX5_meanOf 80 = .ok (.isub, 1) := by decide +kernel
theorem dX5_meanOf_81 : decode cX5_meanOf 81 = .ok (.laload, 1) := by decide +kernel
theorem dX5_meanOf_82 : decode cX5_meanOf 82 = .ok (.ladd, 1) := by decide +kernel
theorem dX5_meanOf_83 : decode cX5_meanOf 83 = .ok (.invokestatic 107, 3) := by decide +kernel
theorem dX5_meanOf_86 : decode cX5_meanOf 86 = .ok (.lstore 10, 2) := by decide +kernel
theorem dX5_meanOf_88 : decode cX5_meanOf 88 = .ok (.lload 7, 2) := by decide +kernel
theorem dX5_meanOf_90 : decode cX5_meanOf 90 = .ok (.aload_n 0, 1) := by decide +kernel
theorem dX5_meanOf_91 : decode cX5_meanOf 91 = .ok (.getfield 28, 3) := by decide +kernel
theorem dX5_meanOf_94 : decode cX5_meanOf 94 = .ok (.getfield 113, 3) := by decide +kernel
theorem dX5_meanOf_97 : decode cX5_meanOf 97 = .ok (.iload 9, 2) := by decide +kernel
theorem dX5_meanOf_99 : decode cX5_meanOf 99 = .ok (.iaload, 1) := by decide +kernel
theorem dX5_meanOf_100 : decode cX5_meanOf 100 = .ok (.i2l, 1) := by decide +kernel
theorem dX5_meanOf_101 : decode cX5_meanOf 101 = .ok (.lload 10, 2) := by decide +kernel
theorem dX5_meanOf_103 : decode cX5_meanOf 103 = .ok (.lmul, 1) := by decide +kernel
theorem dX5_meanOf_104 : decode cX5_meanOf 104 = .ok (.ladd, 1) := by decide +kernel
theorem dX5_meanOf_105 : decode cX5_meanOf 105 = .ok (.lstore 7, 2) := by decide +kernel
theorem dX5_meanOf_107 : decode cX5_meanOf 107 = .ok (.iinc 9 1, 3) := by decide +kernel
theorem dX5_meanOf_110 : decode cX5_meanOf 110 = .ok (.goto (-82), 3) := by decide +kernel
theorem dX5_meanOf_113 : decode cX5_meanOf 113 = .ok (.lload 7, 2) := by decide +kernel
theorem dX5_meanOf_115 : decode cX5_meanOf 115 = .ok (.lreturn, 1) := by decide +kernel
theorem dX5_power_0 : decode cX5_power 0 = .ok (.iconst 0, 1) := by decide +kernel
theorem dX5_power_1 : decode cX5_power 1 = .ok (.istore_n 2, 1) := by decide +kernel
theorem dX5_power_2 : decode cX5_power 2 = .ok (.iconst 0, 1) := by decide +kernel
theorem dX5_power_3 : decode cX5_power 3 = .ok (.istore_n 3, 1) := by decide +kernel
theorem dX5_power_4 : decode cX5_power 4 = .ok (.iload_n 3, 1) := by decide +kernel
theorem dX5_power_5 : decode cX5_power 5 = .ok (.aload_n 0, 1) := by decide +kernel
theorem dX5_power_6 : decode cX5_power 6 = .ok (.getfield 28, 3) := by decide +kernel
theorem dX5_power_9 : decode cX5_power 9 = .ok (.getfield 70, 3) := by decide +kernel
theorem dX5_power_12 : decode cX5_power 12 = .ok (.if_icmp .ge 21, 3) := by decide +kernel
theorem dX5_power_15 : decode cX5_power 15 = .ok (.iload_n 2, 1) := by decide +kernel
theorem dX5_power_16 : decode cX5_power 16 = .ok (.aload_n 0, 1) := by decide +kernel
theorem dX5_power_17 : decode cX5_power 17 = .ok (.getfield 28, 3) := by decide +kernel
theorem dX5_power_20 : decode cX5_power 20 = .ok (.getfield 113, 3) := by decide +kernel
theorem dX5_power_23 : decode cX5_power 23 = .ok (.iload_n 3, 1) := by decide +kernel
theorem dX5_power_24 : decode cX5_power 24 = .ok (.iaload, 1) := by decide +kernel
theorem dX5_power_25 : decode cX5_power 25 = .ok (.iadd, 1) := by decide +kernel
theorem dX5_power_26 : decode cX5_power 26 = .ok (.istore_n 2, 1) := by decide +kernel
theorem dX5_power_27 : decode cX5_power 27 = .ok (.iinc 3 1, 3) := by decide +kernel
theorem dX5_power_30 : decode cX5_power 30 = .ok (.goto (-26), 3) := by decide +kernel
theorem dX5_power_33 : decode cX5_power 33 = .ok (.lconst 1, 1) := by decide +kernel
theorem dX5_power_34 : decode cX5_power 34 = .ok (.lstore_n 3, 1) := by decide +kernel
theorem dX5_power_35 : decode cX5_power 35 = .ok (.iconst 0, 1) := by decide +kernel
theorem dX5_power_36 : decode cX5_power 36 = .ok (.istore 5, 2) := by decide +kernel
theorem dX5_power_38 : decode cX5_power 38 = .ok (.iload 5, 2) := by decide +kernel
theorem dX5_power_40 : decode cX5_power 40 = .ok (.iload_n 1, 1) := by decide +kernel
theorem dX5_power_41 : decode cX5_power 41 = .ok (.if_icmp .ge 14, 3) := by decide +kernel
theorem dX5_power_44 : decode cX5_power 44 = .ok (.lload_n 3, 1) := by decide +kernel
theorem dX5_power_45 : decode cX5_power 45 = .ok (.iload_n 2, 1) := by decide +kernel
theorem dX5_power_46 : decode cX5_power 46 = .ok (.i2l, 1) := by decide +kernel
theorem dX5_power_47 : decode cX5_power 47 = .ok (.lmul, 1) := by decide +kernel
theorem dX5_power_48 : decode cX5_power 48 = .ok (.lstore_n 3, 1) := by decide +kernel
theorem dX5_power_49 : decode cX5_power 49 = .ok (.iinc 5 1, 3) := by decide +kernel
theorem dX5_power_52 : decode cX5_power 52 = .ok (.goto (-14), 3) := by decide +kernel
theorem dX5_power_55 : decode cX5_power 55 = .ok (.lload_n 3, 1) := by decide +kernel
theorem dX5_power_56 : decode cX5_power 56 = .ok (.lreturn, 1) := by decide +kernel
theorem dX5_findChange_0 : decode cX5_findChange 0 = .ok (.iconst 0, 1) := by decide +kernel
theorem dX5_findChange_1 : decode cX5_findChange 1 = .ok (.istore_n 2, 1) := by decide +kernel
theorem dX5_findChange_2 : decode cX5_findChange 2 = .ok (.iconst 0, 1) := by decide +kernel
theorem dX5_findChange_3 : decode cX5_findChange 3 = .ok (.istore_n 3, 1) := by decide +kernel
theorem dX5_findChange_4 : decode cX5_findChange 4 = .ok (.iload_n 3, 1) := by decide +kernel
theorem dX5_findChange_5 : decode cX5_findChange 5 = .ok (.aload_n 0, 1) := by decide +kernel
theorem dX5_findChange_6 : decode cX5_findChange 6 = .ok (.getfield 28, 3) := by decide +kernel
theorem dX5_findChange_9 : decode cX5_findChange 9 = .ok (.getfield 70, 3) := by decide +kernel
theorem dX5_findChange_12 : decode cX5_findChange 12 = .ok (.if_icmp .ge 20, 3) := by decide +kernel
theorem dX5_findChange_15 : decode cX5_findChange 15 = .ok (.iload_n 2, 1) := by decide +kernel
theorem dX5_findChange_16 : decode cX5_findChange 16 = .ok (.aload_n 0, 1) := by decide +kernel
theorem dX5_findChange_17 : decode cX5_findChange 17 = .ok (.getfield 15, 3) := by decide +kernel
theorem dX5_findChange_20 : decode cX5_findChange 20 = .ok (.iload_n 3, 1) := by decide +kernel
theorem dX5_findChange_21 : decode cX5_findChange 21 = .ok (.iaload, 1) := by decide +kernel
theorem dX5_findChange_22 : decode cX5_findChange 22 = .ok (.invokestatic 116, 3) := by decide +kernel
theorem dX5_findChange_25 : decode cX5_findChange 25 = .ok (.istore_n 2, 1) := by decide +kernel
theorem dX5_findChange_26 : decode cX5_findChange 26 = .ok (.iinc 3 1, 3) := by decide +kernel
theorem dX5_findChange_29 : decode cX5_findChange 29 = .ok (.goto (-25), 3) := by decide +kernel
theorem dX5_findChange_32 : decode cX5_findChange 32 = .ok (.aload_n 0, 1) := by decide +kernel
theorem dX5_findChange_33 : decode cX5_findChange 33 = .ok (.getfield 39, 3) := by decide +kernel
theorem dX5_findChange_36 : decode cX5_findChange 36 = .ok (.aload_n 0, 1) := by decide +kernel
theorem dX5_findChange_37 : decode cX5_findChange 37 = .ok (.getfield 9, 3) := by decide +kernel
theorem dX5_findChange_40 : decode cX5_findChange 40 = .ok (.iload_n 1, 1) := by decide +kernel
theorem dX5_findChange_41 : decode cX5_findChange 41 = .ok (.bipush 8, 2) := by decide +kernel
theorem dX5_findChange_43 : decode cX5_findChange 43 = .ok (.imul, 1) := by decide +kernel
theorem dX5_findChange_44 : decode cX5_findChange 44 = .ok (.iload_n 2, 1) := by decide +kernel
theorem dX5_findChange_45 : decode cX5_findChange 45 = .ok (.invokevirtual 119, 3) := by decide +kernel
theorem dX5_findChange_48 : decode cX5_findChange 48 = .ok (.iconst 0, 1) := by decide +kernel
theorem dX5_findChange_49 : decode cX5_findChange 49 = .ok (.istore_n 3, 1) := by decide +kernel
theorem dX5_findChange_50 : decode cX5_findChange 50 = .ok (.iload_n 3, 1) := by decide +kernel
theorem dX5_findChange_51 : decode cX5_findChange 51 = .ok (.aload_n 0, 1) := by decide +kernel
theorem dX5_findChange_52 : decode cX5_findChange 52 = .ok (.getfield 28, 3) := by decide +kernel
theorem dX5_findChange_55 : decode cX5_findChange 55 = .ok (.getfield 70, 3) := by decide +kernel
theorem dX5_findChange_58 : decode cX5_findChange 58 = .ok (.if_icmp .ge 55, 3) := by decide +kernel
theorem dX5_findChange_61 : decode cX5_findChange 61 = .ok (.aload_n 0, 1) := by decide +kernel
theorem dX5_findChange_62 : decode cX5_findChange 62 = .ok (.getfield 18, 3) := by decide +kernel
theorem dX5_findChange_65 : decode cX5_findChange 65 = .ok (.iload_n 1, 1) := by decide +kernel
theorem dX5_findChange_66 : decode cX5_findChange 66 = .ok (.iconst 5, 1) := by decide +kernel
theorem dX5_findChange_67 : decode cX5_findChange 67 = .ok (.imul, 1) := by decide +kernel
theorem dX5_findChange_68 : decode cX5_findChange 68 = .ok (.iload_n 3, 1) := by decide +kernel
theorem dX5_findChange_69 : decode cX5_findChange 69 = .ok (.iadd, 1) := by decide +kernel
theorem dX5_findChange_70 : decode cX5_findChange 70 = .ok (.aload_n 0, 1) := by decide +kernel
theorem dX5_findChange_71 : decode cX5_findChange 71 = .ok (.getfield 39, 3) := by decide +kernel
theorem dX5_findChange_74 : decode cX5_findChange 74 = .ok (.aload_n 0, 1) := by decide +kernel
theorem dX5_findChange_75 : decode cX5_findChange 75 = .ok (.getfield 15, 3) := by decide +kernel
theorem dX5_findChange_78 : decode cX5_findChange 78 = .ok (.iload_n 3, 1) := by decide +kernel
theorem dX5_findChange_79 : decode cX5_findChange 79 = .ok (.iaload, 1) := by decide +kernel
theorem dX5_findChange_80 : decode cX5_findChange 80 = .ok (.invokevirtual 125, 3) := by decide +kernel
theorem dX5_findChange_83 : decode cX5_findChange 83 = .ok (.ifCond .eq 20, 3) := by decide +kernel
theorem dX5_findChange_86 : decode cX5_findChange 86 = .ok (.aload_n 0, 1) := by decide +kernel
theorem dX5_findChange_87 : decode cX5_findChange 87 = .ok (.getfield 39, 3) := by decide +kernel
theorem dX5_findChange_90 : decode cX5_findChange 90 = .ok (.getfield 128, 3) := by decide +kernel
theorem dX5_findChange_93 : decode cX5_findChange 93 = .ok (.aload_n 0, 1) := by decide +kernel
theorem dX5_findChange_94 : decode cX5_findChange 94 = .ok (.getfield 15, 3) := by decide +kernel
theorem dX5_findChange_97 : decode cX5_findChange 97 = .ok (.iload_n 3, 1) := by decide +kernel
theorem dX5_findChange_98 : decode cX5_findChange 98 = .ok (.iaload, 1) := by decide +kernel
theorem dX5_findChange_99 : decode cX5_findChange 99 = .ok (.laload, 1) := by decide +kernel
theorem dX5_findChange_100 : decode cX5_findChange 100 = .ok (.goto 6, 3) := by decide +kernel
theorem dX5_findChange_103 : decode cX5_findChange 103 = .ok (.ldc2_w 54, 3) := by decide +kernel
theorem dX5_findChange_106 : decode cX5_findChange 106 = .ok (.lastore, 1) := by decide +kernel
theorem dX5_findChange_107 : decode cX5_findChange 107 = .ok (.iinc 3 1, 3) := by decide +kernel
theorem dX5_findChange_110 : decode cX5_findChange 110 = .ok (.goto (-60), 3) := by decide +kernel
theorem dX5_findChange_113 : decode cX5_findChange 113 = .ok (.return_, 1) := by decide +kernel
theorem dX5_sell_0 : decode cX5_sell 0 = .ok (.iload_n 1, 1) := by decide +kernel
theorem dX5_sell_1 : decode cX5_sell 1 = .ok (.bipush 8, 2) := by decide +kernel
theorem dX5_sell_3 : decode cX5_sell 3 = .ok (.imul, 1) := by decide +kernel
theorem dX5_sell_4 : decode cX5_sell 4 = .ok (.istore_n 3, 1) := by decide +kernel
theorem dX5_sell_5 : decode cX5_sell 5 = .ok (.iload_n 3, 1) := by decide +kernel
theorem dX5_sell_6 : decode cX5_sell 6 = .ok (.bipush 8, 2) := by decide +kernel
theorem dX5_sell_8 : decode cX5_sell 8 = .ok (.iadd, 1) := by decide +kernel
theorem dX5_sell_9 : decode cX5_sell 9 = .ok (.istore 4, 2) := by decide +kernel
theorem dX5_sell_11 : decode cX5_sell 11 = .ok (.aload_n 0, 1) := by decide +kernel
theorem dX5_sell_12 : decode cX5_sell 12 = .ok (.getfield 18, 3) := by decide +kernel
theorem dX5_sell_15 : decode cX5_sell 15 = .ok (.iload_n 1, 1) := by decide +kernel
theorem dX5_sell_16 : decode cX5_sell 16 = .ok (.iconst 5, 1) := by decide +kernel
theorem dX5_sell_17 : decode cX5_sell 17 = .ok (.imul, 1) := by decide +kernel
theorem dX5_sell_18 : decode cX5_sell 18 = .ok (.iload_n 2, 1) := by decide +kernel
theorem dX5_sell_19 : decode cX5_sell 19 = .ok (.iadd, 1) := by decide +kernel
theorem dX5_sell_20 : decode cX5_sell 20 = .ok (.laload, 1) := by decide +kernel
theorem dX5_sell_21 : decode cX5_sell 21 = .ok (.lstore 5, 2) := by decide +kernel
theorem dX5_sell_23 : decode cX5_sell 23 = .ok (.iconst 0, 1) := by decide +kernel
theorem dX5_sell_24 : decode cX5_sell 24 = .ok (.istore 7, 2) := by decide +kernel
theorem dX5_sell_26 : decode cX5_sell 26 = .ok (.iload 7, 2) := by decide +kernel
theorem dX5_sell_28 : decode cX5_sell 28 = .ok (.bipush 8, 2) := by decide +kernel
theorem dX5_sell_30 : decode cX5_sell 30 = .ok (.if_icmp .ge 36, 3) := by decide +kernel
theorem dX5_sell_33 : decode cX5_sell 33 = .ok (.aload_n 0, 1) := by decide +kernel
theorem dX5_sell_34 : decode cX5_sell 34 = .ok (.getfield 9, 3) := by decide +kernel
theorem dX5_sell_37 : decode cX5_sell 37 = .ok (.iload 4, 2) := by decide +kernel
theorem dX5_sell_39 : decode cX5_sell 39 = .ok (.iload 7, 2) := by decide +kernel
theorem dX5_sell_41 : decode cX5_sell 41 = .ok (.iadd, 1) := by decide +kernel
theorem dX5_sell_42 : decode cX5_sell 42 = .ok (.aload_n 0, 1) := by decide +kernel
theorem dX5_sell_43 : decode cX5_sell 43 = .ok (.getfield 9, 3) := by decide +kernel
theorem dX5_sell_46 : decode cX5_sell 46 = .ok (.iload_n 3, 1) := by decide +kernel
theorem dX5_sell_47 : decode cX5_sell 47 = .ok (.iload 7, 2) := by decide +kernel
theorem dX5_sell_49 : decode cX5_sell 49 = .ok (.iadd, 1) := by decide +kernel
theorem dX5_sell_50 : decode cX5_sell 50 = .ok (.iaload, 1) := by decide +kernel
theorem dX5_sell_51 : decode cX5_sell 51 = .ok (.lload 5, 2) := by decide +kernel
theorem dX5_sell_53 : decode cX5_sell 53 = .ok (.iload 7, 2) := by decide +kernel
theorem dX5_sell_55 : decode cX5_sell 55 = .ok (.invokestatic 131, 3) := by decide +kernel
theorem dX5_sell_58 : decode cX5_sell 58 = .ok (.isub, 1) := by decide +kernel
theorem dX5_sell_59 : decode cX5_sell 59 = .ok (.iastore, 1) := by decide +kernel
theorem dX5_sell_60 : decode cX5_sell 60 = .ok (.iinc 7 1, 3) := by decide +kernel
theorem dX5_sell_63 : decode cX5_sell 63 = .ok (.goto (-37), 3) := by decide +kernel
theorem dX5_sell_66 : decode cX5_sell 66 = .ok (.iconst 0, 1) := by decide +kernel
theorem dX5_sell_67 : decode cX5_sell 67 = .ok (.istore 7, 2) := by decide +kernel
theorem dX5_sell_69 : decode cX5_sell 69 = .ok (.iload 7, 2) := by decide +kernel
theorem dX5_sell_71 : decode cX5_sell 71 = .ok (.aload_n 0, 1) := by decide +kernel
theorem dX5_sell_72 : decode cX5_sell 72 = .ok (.getfield 28, 3) := by decide +kernel
theorem dX5_sell_75 : decode cX5_sell 75 = .ok (.getfield 84, 3) := by decide +kernel
theorem dX5_sell_78 : decode cX5_sell 78 = .ok (.iload_n 2, 1) := by decide +kernel
theorem dX5_sell_79 : decode cX5_sell 79 = .ok (.iaload, 1) := by decide +kernel
theorem dX5_sell_80 : decode cX5_sell 80 = .ok (.if_icmp .ge 52, 3) := by decide +kernel
theorem dX5_sell_83 : decode cX5_sell 83 = .ok (.aload_n 0, 1) := by decide +kernel
theorem dX5_sell_84 : decode cX5_sell 84 = .ok (.getfield 28, 3) := by decide +kernel
theorem dX5_sell_87 : decode cX5_sell 87 = .ok (.getfield 87, 3) := by decide +kernel
theorem dX5_sell_90 : decode cX5_sell 90 = .ok (.iload_n 2, 1) := by decide +kernel
theorem dX5_sell_91 : decode cX5_sell 91 = .ok (.iconst 4, 1) := by decide +kernel
theorem dX5_sell_92 : decode cX5_sell 92 = .ok (.imul, 1) := by decide +kernel
theorem dX5_sell_93 : decode cX5_sell 93 = .ok (.iload 7, 2) := by decide +kernel
theorem dX5_sell_95 : decode cX5_sell 95 = .ok (.iadd, 1) := by decide +kernel
theorem dX5_sell_96 : decode cX5_sell 96 = .ok (.iaload, 1) := by decide +kernel
theorem dX5_sell_97 : decode cX5_sell 97 = .ok (.istore 8, 2) := by decide +kernel
theorem dX5_sell_99 : decode cX5_sell 99 = .ok (.aload_n 0, 1) := by decide +kernel
theorem dX5_sell_100 : decode cX5_sell 100 = .ok (.getfield 9, 3) := by decide +kernel
theorem dX5_sell_103 : decode cX5_sell 103 = .ok (.iload 4, 2) := by decide +kernel
theorem dX5_sell_105 : decode cX5_sell 105 = .ok (.iload 8, 2) := by decide +kernel
theorem dX5_sell_107 : decode cX5_sell 107 = .ok (.iadd, 1) := by decide +kernel
theorem dX5_sell_108 : decode cX5_sell 108 = .ok (.bipush 20, 2) := by decide +kernel
theorem dX5_sell_110 : decode cX5_sell 110 = .ok (.aload_n 0, 1) := by decide +kernel
theorem dX5_sell_111 : decode cX5_sell 111 = .ok (.getfield 9, 3) := by decide +kernel
theorem dX5_sell_114 : decode cX5_sell 114 = .ok (.iload 4, 2) := by decide +kernel
theorem dX5_sell_116 : decode cX5_sell 116 = .ok (.iload 8, 2) := by decide +kernel
theorem dX5_sell_118 : decode cX5_sell 118 = .ok (.iadd, 1) := by decide +kernel
theorem dX5_sell_119 : decode cX5_sell 119 = .ok (.iaload, 1) := by decide +kernel
theorem dX5_sell_120 : decode cX5_sell 120 = .ok (.iconst 1, 1) := by decide +kernel
theorem dX5_sell_121 : decode cX5_sell 121 = .ok (.iadd, 1) := by decide +kernel
theorem dX5_sell_122 : decode cX5_sell 122 = .ok (.invokestatic 135, 3) := by decide +kernel
theorem dX5_sell_125 : decode cX5_sell 125 = .ok (.iastore, 1) := by decide +kernel
theorem dX5_sell_126 : decode cX5_sell 126 = .ok (.iinc 7 1, 3) := by decide +kernel
theorem dX5_sell_129 : decode cX5_sell 129 = .ok (.goto (-60), 3) := by decide +kernel
theorem dX5_sell_132 : decode cX5_sell 132 = .ok (.return_, 1) := by decide +kernel
