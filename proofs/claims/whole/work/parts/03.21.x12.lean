theorem dX12_fills_191 : decode cX12_fills 191 = .ok (.goto (-131), 3) := by decide +kernel
theorem dX12_fills_194 : decode cX12_fills 194 = .ok (.return_, 1) := by decide +kernel
theorem dX12_rounds_0 : decode cX12_rounds 0 = .ok (.aload_n 0, 1) := by decide +kernel
theorem dX12_rounds_1 : decode cX12_rounds 1 = .ok (.iconst 0, 1) := by decide +kernel
theorem dX12_rounds_2 : decode cX12_rounds 2 = .ok (.putfield 80, 3) := by decide +kernel
theorem dX12_rounds_5 : decode cX12_rounds 5 = .ok (.iload_n 1, 1) := by decide +kernel
theorem dX12_rounds_6 : decode cX12_rounds 6 = .ok (.i2l, 1) := by decide +kernel
theorem dX12_rounds_7 : decode cX12_rounds 7 = .ok (.lconst 1, 1) := by decide +kernel
theorem dX12_rounds_8 : decode cX12_rounds 8 = .ok (.ldc2_w 368, 3) := by decide +kernel
theorem dX12_rounds_11 : decode cX12_rounds 11 = .ok (.invokestatic 83, 3) := by decide +kernel
theorem dX12_rounds_14 : decode cX12_rounds 14 = .ok (.ifCond .ne 9, 3) := by decide +kernel
theorem dX12_rounds_17 : decode cX12_rounds 17 = .ok (.aload_n 0, 1) := by decide +kernel
theorem dX12_rounds_18 : decode cX12_rounds 18 = .ok (.iconst 1, 1) := by decide +kernel
theorem dX12_rounds_19 : decode cX12_rounds 19 = .ok (.invokevirtual 95, 3) := by decide +kernel
theorem dX12_rounds_22 : decode cX12_rounds 22 = .ok (.ireturn, 1) := by decide +kernel
theorem dX12_rounds_23 : decode cX12_rounds 23 = .ok (.aload_n 0, 1) := by decide +kernel
theorem dX12_rounds_24 : decode cX12_rounds 24 = .ok (.getfield 9, 3) := by decide +kernel
theorem dX12_rounds_27 : decode cX12_rounds 27 = .ok (.iconst 5, 1) := by decide +kernel
theorem dX12_rounds_28 : decode cX12_rounds 28 = .ok (.iaload, 1) := by decide +kernel
theorem dX12_rounds_29 : decode cX12_rounds 29 = .ok (.ifCond .eq 21, 3) := by decide +kernel
theorem dX12_rounds_32 : decode cX12_rounds 32 = .ok (.iload_n 2, 1) := by decide +kernel
theorem dX12_rounds_33 : decode cX12_rounds 33 = .ok (.iconst (-1), 1) := by decide +kernel
theorem dX12_rounds_34 : decode cX12_rounds 34 = .ok (.if_icmp .eq 18, 3) := by decide +kernel
theorem dX12_rounds_37 : decode cX12_rounds 37 = .ok (.iload_n 2, 1) := by decide +kernel
theorem dX12_rounds_38 : decode cX12_rounds 38 = .ok (.i2l, 1) := by decide +kernel
theorem dX12_rounds_39 : decode cX12_rounds 39 = .ok (.lconst 0, 1) := by decide +kernel
theorem dX12_rounds_40 : decode cX12_rounds 40 = .ok (.iload_n 1, 1) := by decide +kernel
theorem dX12_rounds_41 : decode cX12_rounds 41 = .ok (.iconst 1, 1) := by decide +kernel
theorem dX12_rounds_42 : decode cX12_rounds 42 = .ok (.isub, 1) := by decide +kernel
theorem dX12_rounds_43 : decode cX12_rounds 43 = .ok (.i2l, 1) := by decide +kernel
theorem dX12_rounds_44 : decode cX12_rounds 44 = .ok (.invokestatic 83, 3) := by decide +kernel
theorem dX12_rounds_47 : decode cX12_rounds 47 = .ok (.ifCond .ne 5, 3) := by decide +kernel
theorem dX12_rounds_50 : decode cX12_rounds 50 = .ok (.iconst (-1), 1) := by decide +kernel
theorem dX12_rounds_51 : decode cX12_rounds 51 = .ok (.ireturn, 1) := by decide +kernel
theorem dX12_rounds_52 : decode cX12_rounds 52 = .ok (.iconst 0, 1) := by decide +kernel
theorem dX12_rounds_53 : decode cX12_rounds 53 = .ok (.istore_n 3, 1) := by decide +kernel
theorem dX12_rounds_54 : decode cX12_rounds 54 = .ok (.iload_n 3, 1) := by decide +kernel
theorem dX12_rounds_55 : decode cX12_rounds 55 = .ok (.aload_n 0, 1) := by decide +kernel
theorem dX12_rounds_56 : decode cX12_rounds 56 = .ok (.getfield 9, 3) := by decide +kernel
theorem dX12_rounds_59 : decode cX12_rounds 59 = .ok (.iconst 5, 1) := by decide +kernel
theorem dX12_rounds_60 : decode cX12_rounds 60 = .ok (.iaload, 1) := by decide +kernel
theorem dX12_rounds_61 : decode cX12_rounds 61 = .ok (.if_icmp .ge 27, 3) := by decide +kernel
theorem dX12_rounds_64 : decode cX12_rounds 64 = .ok (.aload_n 0, 1) := by decide +kernel
theorem dX12_rounds_65 : decode cX12_rounds 65 = .ok (.getfield 68, 3) := by decide +kernel
theorem dX12_rounds_68 : decode cX12_rounds 68 = .ok (.iload_n 3, 1) := by decide +kernel
theorem dX12_rounds_69 : decode cX12_rounds 69 = .ok (.aload_n 0, 1) := by decide +kernel
theorem dX12_rounds_70 : decode cX12_rounds 70 = .ok (.getfield 9, 3) := by decide +kernel
theorem dX12_rounds_73 : decode cX12_rounds 73 = .ok (.sipush 607, 3) := by decide +kernel
theorem dX12_rounds_76 : decode cX12_rounds 76 = .ok (.iconst 2, 1) := by decide +kernel
theorem dX12_rounds_77 : decode cX12_rounds 77 = .ok (.iload_n 3, 1) := by decide +kernel
theorem dX12_rounds_78 : decode cX12_rounds 78 = .ok (.imul, 1) := by decide +kernel
theorem dX12_rounds_79 : decode cX12_rounds 79 = .ok (.iadd, 1) := by decide +kernel
theorem dX12_rounds_80 : decode cX12_rounds 80 = .ok (.iaload, 1) := by decide +kernel
theorem dX12_rounds_81 : decode cX12_rounds 81 = .ok (.iastore, 1) := by decide +kernel
theorem dX12_rounds_82 : decode cX12_rounds 82 = .ok (.iinc 3 1, 3) := by decide +kernel
theorem dX12_rounds_85 : decode cX12_rounds 85 = .ok (.goto (-31), 3) := by decide +kernel
theorem dX12_rounds_88 : decode cX12_rounds 88 = .ok (.aload_n 0, 1) := by decide +kernel
theorem dX12_rounds_89 : decode cX12_rounds 89 = .ok (.iconst (-1), 1) := by decide +kernel
theorem dX12_rounds_90 : decode cX12_rounds 90 = .ok (.putfield 362, 3) := by decide +kernel
theorem dX12_rounds_93 : decode cX12_rounds 93 = .ok (.aload_n 0, 1) := by decide +kernel
theorem dX12_rounds_94 : decode cX12_rounds 94 = .ok (.iconst 0, 1) := by decide +kernel
theorem dX12_rounds_95 : decode cX12_rounds 95 = .ok (.iload_n 1, 1) := by decide +kernel
theorem dX12_rounds_96 : decode cX12_rounds 96 = .ok (.iconst 0, 1) := by decide +kernel
theorem dX12_rounds_97 : decode cX12_rounds 97 = .ok (.invokevirtual 365, 3) := by decide +kernel
theorem dX12_rounds_100 : decode cX12_rounds 100 = .ok (.iload_n 2, 1) := by decide +kernel
theorem dX12_rounds_101 : decode cX12_rounds 101 = .ok (.iconst (-1), 1) := by decide +kernel
theorem dX12_rounds_102 : decode cX12_rounds 102 = .ok (.if_icmp .ne 10, 3) := by decide +kernel
theorem dX12_rounds_105 : decode cX12_rounds 105 = .ok (.aload_n 0, 1) := by decide +kernel
theorem dX12_rounds_106 : decode cX12_rounds 106 = .ok (.getfield 362, 3) := by decide +kernel
theorem dX12_rounds_109 : decode cX12_rounds 109 = .ok (.goto 9, 3) := by decide +kernel
theorem dX12_rounds_112 : decode cX12_rounds 112 = .ok (.aload_n 0, 1) := by decide +kernel
theorem dX12_rounds_113 : decode cX12_rounds 113 = .ok (.getfield 65, 3) := by decide +kernel
theorem dX12_rounds_116 : decode cX12_rounds 116 = .ok (.iload_n 2, 1) := by decide +kernel
theorem dX12_rounds_117 : decode cX12_rounds 117 = .ok (.iaload, 1) := by decide +kernel
theorem dX12_rounds_118 : decode cX12_rounds 118 = .ok (.ireturn, 1) := by decide +kernel
theorem dX12_isTray_0 : decode cX12_isTray 0 = .ok (.iload_n 0, 1) := by decide +kernel
theorem dX12_isTray_1 : decode cX12_isTray 1 = .ok (.i2l, 1) := by decide +kernel
theorem dX12_isTray_2 : decode cX12_isTray 2 = .ok (.lconst 0, 1) := by decide +kernel
theorem dX12_isTray_3 : decode cX12_isTray 3 = .ok (.ldc2_w 115, 3) := by decide +kernel
theorem dX12_isTray_6 : decode cX12_isTray 6 = .ok (.invokestatic 83, 3) := by decide +kernel
theorem dX12_isTray_9 : decode cX12_isTray 9 = .ok (.ireturn, 1) := by decide +kernel
theorem dX12_tray_0 : decode cX12_tray 0 = .ok (.aload_n 0, 1) := by decide +kernel
theorem dX12_tray_1 : decode cX12_tray 1 = .ok (.iload_n 1, 1) := by decide +kernel
theorem dX12_tray_2 : decode cX12_tray 2 = .ok (.invokestatic 370, 3) := by decide +kernel
theorem dX12_tray_5 : decode cX12_tray 5 = .ok (.ifCond .ne 7, 3) := by decide +kernel
theorem dX12_tray_8 : decode cX12_tray 8 = .ok (.iconst 1, 1) := by decide +kernel
theorem dX12_tray_9 : decode cX12_tray 9 = .ok (.goto 32, 3) := by decide +kernel
theorem dX12_tray_12 : decode cX12_tray 12 = .ok (.iload_n 2, 1) := by decide +kernel
theorem dX12_tray_13 : decode cX12_tray 13 = .ok (.i2l, 1) := by decide +kernel
theorem dX12_tray_14 : decode cX12_tray 14 = .ok (.lconst 0, 1) := by decide +kernel
theorem dX12_tray_15 : decode cX12_tray 15 = .ok (.ldc2_w 115, 3) := by decide +kernel
theorem dX12_tray_18 : decode cX12_tray 18 = .ok (.invokestatic 83, 3) := by decide +kernel
theorem dX12_tray_21 : decode cX12_tray 21 = .ok (.ifCond .eq 15, 3) := by decide +kernel
theorem dX12_tray_24 : decode cX12_tray 24 = .ok (.iload_n 3, 1) := by decide +kernel
theorem dX12_tray_25 : decode cX12_tray 25 = .ok (.i2l, 1) := by decide +kernel
theorem dX12_tray_26 : decode cX12_tray 26 = .ok (.lconst 0, 1) := by decide +kernel
theorem dX12_tray_27 : decode cX12_tray 27 = .ok (.ldc2_w 296, 3) := by decide +kernel
theorem dX12_tray_30 : decode cX12_tray 30 = .ok (.invokestatic 83, 3) := by decide +kernel
theorem dX12_tray_33 : decode cX12_tray 33 = .ok (.ifCond .ne 7, 3) := by decide +kernel
theorem dX12_tray_36 : decode cX12_tray 36 = .ok (.iconst 2, 1) := by decide +kernel
theorem dX12_tray_37 : decode cX12_tray 37 = .ok (.goto 4, 3) := by decide +kernel
theorem dX12_tray_40 : decode cX12_tray 40 = .ok (.iconst 0, 1) := by decide +kernel
theorem dX12_tray_41 : decode cX12_tray 41 = .ok (.putfield 80, 3) := by decide +kernel
theorem dX12_tray_44 : decode cX12_tray 44 = .ok (.aload_n 0, 1) := by decide +kernel
theorem dX12_tray_45 : decode cX12_tray 45 = .ok (.getfield 80, 3) := by decide +kernel
theorem dX12_tray_48 : decode cX12_tray 48 = .ok (.ifCond .le 4, 3) := by decide +kernel
theorem dX12_tray_51 : decode cX12_tray 51 = .ok (.return_, 1) := by decide +kernel
theorem dX12_tray_52 : decode cX12_tray 52 = .ok (.aload_n 0, 1) := by decide +kernel
theorem dX12_tray_53 : decode cX12_tray 53 = .ok (.getfield 71, 3) := by decide +kernel
theorem dX12_tray_56 : decode cX12_tray 56 = .ok (.iload_n 1, 1) := by decide +kernel
theorem dX12_tray_57 : decode cX12_tray 57 = .ok (.iload_n 2, 1) := by decide +kernel
theorem dX12_tray_58 : decode cX12_tray 58 = .ok (.iastore, 1) := by decide +kernel
theorem dX12_tray_59 : decode cX12_tray 59 = .ok (.aload_n 0, 1) := by decide +kernel
theorem dX12_tray_60 : decode cX12_tray 60 = .ok (.getfield 74, 3) := by decide +kernel
theorem dX12_tray_63 : decode cX12_tray 63 = .ok (.iload_n 1, 1) := by decide +kernel
theorem dX12_tray_64 : decode cX12_tray 64 = .ok (.iload_n 3, 1) := by decide +kernel
theorem dX12_tray_65 : decode cX12_tray 65 = .ok (.iastore, 1) := by decide +kernel
theorem dX12_tray_66 : decode cX12_tray 66 = .ok (.iconst 0, 1) := by decide +kernel
theorem dX12_tray_67 : decode cX12_tray 67 = .ok (.istore 4, 2) := by decide +kernel
theorem dX12_tray_69 : decode cX12_tray 69 = .ok (.iload 4, 2) := by decide +kernel
theorem dX12_tray_71 : decode cX12_tray 71 = .ok (.bipush 20, 2) := by decide +kernel
theorem dX12_tray_73 : decode cX12_tray 73 = .ok (.if_icmp .ge 22, 3) := by decide +kernel
theorem dX12_tray_76 : decode cX12_tray 76 = .ok (.aload_n 0, 1) := by decide +kernel
theorem dX12_tray_77 : decode cX12_tray 77 = .ok (.getfield 77, 3) := by decide +kernel
theorem dX12_tray_80 : decode cX12_tray 80 = .ok (.bipush 20, 2) := by decide +kernel
theorem dX12_tray_82 : decode cX12_tray 82 = .ok (.iload_n 1, 1) := by decide +kernel
theorem dX12_tray_83 : decode cX12_tray 83 = .ok (.imul, 1) := by decide +kernel
theorem dX12_tray_84 : decode cX12_tray 84 = .ok (.iload 4, 2) := by decide +kernel
theorem dX12_tray_86 : decode cX12_tray 86 = .ok (.iadd, 1) := by decide +kernel
theorem dX12_tray_87 : decode cX12_tray 87 = .ok (.lconst 0, 1) := by decide +kernel
theorem dX12_tray_88 : decode cX12_tray 88 = .ok (.lastore, 1) := by decide +kernel
theorem dX12_tray_89 : decode cX12_tray 89 = .ok (.iinc 4 1, 3) := by decide +kernel
theorem dX12_tray_92 : decode cX12_tray 92 = .ok (.goto (-23), 3) := by decide +kernel
theorem dX12_tray_95 : decode cX12_tray 95 = .ok (.return_, 1) := by decide +kernel
theorem dX12_write_0 : decode cX12_write 0 = .ok (.aload_n 0, 1) := by decide +kernel
theorem dX12_write_1 : decode cX12_write 1 = .ok (.iconst 0, 1) := by decide +kernel
theorem dX12_write_2 : decode cX12_write 2 = .ok (.putfield 80, 3) := by decide +kernel
theorem dX12_write_5 : decode cX12_write 5 = .ok (.iload_n 1, 1) := by decide +kernel
theorem dX12_write_6 : decode cX12_write 6 = .ok (.invokestatic 370, 3) := by decide +kernel
theorem dX12_write_9 : decode cX12_write 9 = .ok (.ifCond .ne 10, 3) := by decide +kernel
theorem dX12_write_12 : decode cX12_write 12 = .ok (.aload_n 0, 1) := by decide +kernel
theorem dX12_write_13 : decode cX12_write 13 = .ok (.iconst 1, 1) := by decide +kernel
theorem dX12_write_14 : decode cX12_write 14 = .ok (.invokevirtual 95, 3) := by decide +kernel
theorem dX12_write_17 : decode cX12_write 17 = .ok (.i2l, 1) := by decide +kernel
theorem dX12_write_18 : decode cX12_write 18 = .ok (.lreturn, 1) := by decide +kernel
theorem dX12_write_19 : decode cX12_write 19 = .ok (.aload_n 0, 1) := by decide +kernel
theorem dX12_write_20 : decode cX12_write 20 = .ok (.getfield 71, 3) := by decide +kernel
theorem dX12_write_23 : decode cX12_write 23 = .ok (.iload_n 1, 1) := by decide +kernel
theorem dX12_write_24 : decode cX12_write 24 = .ok (.iaload, 1) := by decide +kernel
theorem dX12_write_25 : decode cX12_write 25 = .ok (.iconst (-1), 1) := by decide +kernel
theorem dX12_write_26 : decode cX12_write 26 = .ok (.if_icmp .ne 10, 3) := by decide +kernel
theorem dX12_write_29 : decode cX12_write 29 = .ok (.aload_n 0, 1) := by decide +kernel
theorem dX12_write_30 : decode cX12_write 30 = .ok (.iconst 2, 1) := by decide +kernel
theorem dX12_write_31 : decode cX12_write 31 = .ok (.invokevirtual 95, 3) := by decide +kernel
theorem dX12_write_34 : decode cX12_write 34 = .ok (.i2l, 1) := by decide +kernel
theorem dX12_write_35 : decode cX12_write 35 = .ok (.lreturn, 1) := by decide +kernel
theorem dX12_write_36 : decode cX12_write 36 = .ok (.iload_n 2, 1) := by decide +kernel
theorem dX12_write_37 : decode cX12_write 37 = .ok (.i2l, 1) := by decide +kernel
theorem dX12_write_38 : decode cX12_write 38 = .ok (.lconst 0, 1) := by decide +kernel
theorem dX12_write_39 : decode cX12_write 39 = .ok (.aload_n 0, 1) := by decide +kernel
theorem dX12_write_40 : decode cX12_write 40 = .ok (.getfield 74, 3) := by decide +kernel
theorem dX12_write_43 : decode cX12_write 43 = .ok (.iload_n 1, 1) := by decide +kernel
theorem dX12_write_44 : decode cX12_write 44 = .ok (.iaload, 1) := by decide +kernel
theorem dX12_write_45 : decode cX12_write 45 = .ok (.iconst 1, 1) := by decide +kernel
theorem dX12_write_46 : decode cX12_write 46 = .ok (.isub, 1) := by decide +kernel
theorem dX12_write_47 : decode cX12_write 47 = .ok (.i2l, 1) := by decide +kernel
theorem dX12_write_48 : decode cX12_write 48 = .ok (.invokestatic 83, 3) := by decide +kernel
theorem dX12_write_51 : decode cX12_write 51 = .ok (.ifCond .ne 10, 3) := by decide +kernel
theorem dX12_write_54 : decode cX12_write 54 = .ok (.aload_n 0, 1) := by decide +kernel
theorem dX12_write_55 : decode cX12_write 55 = .ok (.iconst 3, 1) := by decide +kernel
theorem dX12_write_56 : decode cX12_write 56 = .ok (.invokevirtual 95, 3) := by decide +kernel
theorem dX12_write_59 : decode cX12_write 59 = .ok (.i2l, 1) := by decide +kernel
theorem dX12_write_60 : decode cX12_write 60 = .ok (.lreturn, 1) := by decide +kernel
theorem dX12_write_61 : decode cX12_write 61 = .ok (.bipush 64, 2) := by decide +kernel
theorem dX12_write_63 : decode cX12_write 63 = .ok (.bipush 8, 2) := by decide +kernel
theorem dX12_write_65 : decode cX12_write 65 = .ok (.aload_n 0, 1) := by decide +kernel
theorem dX12_write_66 : decode cX12_write 66 = .ok (.getfield 71, 3) := by decide +kernel
theorem dX12_write_69 : decode cX12_write 69 = .ok (.iload_n 1, 1) := by decide +kernel
theorem dX12_write_70 : decode cX12_write 70 = .ok (.iaload, 1) := by decide +kernel
theorem dX12_write_71 : decode cX12_write 71 = .ok (.ishl, 1) := by decide +kernel
theorem dX12_write_72 : decode cX12_write 72 = .ok (.isub, 1) := by decide +kernel
theorem dX12_write_73 : decode cX12_write 73 = .ok (.istore 5, 2) := by decide +kernel
theorem dX12_write_75 : decode cX12_write 75 = .ok (.aload_n 0, 1) := by decide +kernel
theorem dX12_write_76 : decode cX12_write 76 = .ok (.getfield 77, 3) := by decide +kernel
theorem dX12_write_79 : decode cX12_write 79 = .ok (.bipush 20, 2) := by decide +kernel
theorem dX12_write_81 : decode cX12_write 81 = .ok (.iload_n 1, 1) := by decide +kernel
theorem dX12_write_82 : decode cX12_write 82 = .ok (.imul, 1) := by decide +kernel
theorem dX12_write_83 : decode cX12_write 83 = .ok (.iload_n 2, 1) := by decide +kernel
theorem dX12_write_84 : decode cX12_write 84 = .ok (.iadd, 1) := by decide +kernel
theorem dX12_write_85 : decode cX12_write 85 = .ok (.lload_n 3, 1) := by decide +kernel
theorem dX12_write_86 : decode cX12_write 86 = .ok (.iload 5, 2) := by decide +kernel
theorem dX12_write_88 : decode cX12_write 88 = .ok (.lshl, 1) := by decide +kernel
theorem dX12_write_89 : decode cX12_write 89 = .ok (.iload 5, 2) := by decide +kernel
theorem dX12_write_91 : decode cX12_write 91 = .ok (.lshr, 1) := by decide +kernel
theorem dX12_write_92 : decode cX12_write 92 = .ok (.lastore, 1) := by decide +kernel
theorem dX12_write_93 : decode cX12_write 93 = .ok (.aload_n 0, 1) := by decide +kernel
theorem dX12_write_94 : decode cX12_write 94 = .ok (.getfield 77, 3) := by decide +kernel
theorem dX12_write_97 : decode cX12_write 97 = .ok (.bipush 20, 2) := by decide +kernel
theorem dX12_write_99 : decode cX12_write 99 = .ok (.iload_n 1, 1) := by decide +kernel
theorem dX12_write_100 : decode cX12_write 100 = .ok (.imul, 1) := by decide +kernel
theorem dX12_write_101 : decode cX12_write 101 = .ok (.iload_n 2, 1) := by decide +kernel
theorem dX12_write_102 : decode cX12_write 102 = .ok (.iadd, 1) := by decide +kernel
theorem dX12_write_103 : decode cX12_write 103 = .ok (.laload, 1) := by decide +kernel
theorem dX12_write_104 : decode cX12_write 104 = .ok (.lreturn, 1) := by decide +kernel
theorem dX12_pour_0 : decode cX12_pour 0 = .ok (.aload_n 0, 1) := by decide +kernel
theorem dX12_pour_1 : decode cX12_pour 1 = .ok (.iconst 0, 1) := by decide +kernel
theorem dX12_pour_2 : decode cX12_pour 2 = .ok (.putfield 80, 3) := by decide +kernel
theorem dX12_pour_5 : decode cX12_pour 5 = .ok (.iload_n 1, 1) := by decide +kernel
theorem dX12_pour_6 : decode cX12_pour 6 = .ok (.invokestatic 370, 3) := by decide +kernel
theorem dX12_pour_9 : decode cX12_pour 9 = .ok (.ifCond .eq 11, 3) := by decide +kernel
theorem dX12_pour_12 : decode cX12_pour 12 = .ok (.aload_n 0, 1) := by decide +kernel
theorem dX12_pour_13 : decode cX12_pour 13 = .ok (.iload_n 2, 1) := by decide +kernel
theorem dX12_pour_14 : decode cX12_pour 14 = .ok (.invokevirtual 99, 3) := by decide +kernel
theorem dX12_pour_17 : decode cX12_pour 17 = .ok (.ifCond .ne 9, 3) := by decide +kernel
theorem dX12_pour_20 : decode cX12_pour 20 = .ok (.aload_n 0, 1) := by decide +kernel
theorem dX12_pour_21 : decode cX12_pour 21 = .ok (.iconst 1, 1) := by decide +kernel
theorem dX12_pour_22 : decode cX12_pour 22 = .ok (.invokevirtual 95, 3) := by decide +kernel
theorem dX12_pour_25 : decode cX12_pour 25 = .ok (.ireturn, 1) := by decide +kernel
theorem dX12_pour_26 : decode cX12_pour 26 = .ok (.aload_n 0, 1) := by decide +kernel
theorem dX12_pour_27 : decode cX12_pour 27 = .ok (.getfield 71, 3) := by decide +kernel
theorem dX12_pour_30 : decode cX12_pour 30 = .ok (.iload_n 1, 1) := by decide +kernel
theorem dX12_pour_31 : decode cX12_pour 31 = .ok (.iaload, 1) := by decide +kernel
theorem dX12_pour_32 : decode cX12_pour 32 = .ok (.iconst (-1), 1) := by decide +kernel
theorem dX12_pour_33 : decode cX12_pour 33 = .ok (.if_icmp .ne 9, 3) := by decide +kernel
theorem dX12_pour_36 : decode cX12_pour 36 = .ok (.aload_n 0, 1) := by decide +kernel
theorem dX12_pour_37 : decode cX12_pour 37 = .ok (.iconst 2, 1) := by decide +kernel
theorem dX12_pour_38 : decode cX12_pour 38 = .ok (.invokevirtual 95, 3) := by decide +kernel
theorem dX12_pour_41 : decode cX12_pour 41 = .ok (.ireturn, 1) := by decide +kernel
theorem dX12_pour_42 : decode cX12_pour 42 = .ok (.iconst 0, 1) := by decide +kernel
theorem dX12_pour_43 : decode cX12_pour 43 = .ok (.istore_n 3, 1) := by decide +kernel
theorem dX12_pour_44 : decode cX12_pour 44 = .ok (.iload_n 3, 1) := by decide +kernel
theorem dX12_pour_45 : decode cX12_pour 45 = .ok (.aload_n 0, 1) := by decide +kernel
theorem dX12_pour_46 : decode cX12_pour 46 = .ok (.getfield 74, 3) := by decide +kernel
theorem dX12_pour_49 : decode cX12_pour 49 = .ok (.iload_n 1, 1) := by decide +kernel
theorem dX12_pour_50 : decode cX12_pour 50 = .ok (.iaload, 1) := by decide +kernel
theorem dX12_pour_51 : decode cX12_pour 51 = .ok (.if_icmp .ge 42, 3) := by decide +kernel
theorem dX12_pour_54 : decode cX12_pour 54 = .ok (.aload_n 0, 1) := by decide +kernel
theorem dX12_pour_55 : decode cX12_pour 55 = .ok (.getfield 77, 3) := by decide +kernel
theorem dX12_pour_58 : decode cX12_pour 58 = .ok (.bipush 20, 2) := by decide +kernel
theorem dX12_pour_60 : decode cX12_pour 60 = .ok (.iload_n 1, 1) := by decide +kernel
theorem dX12_pour_61 : decode cX12_pour 61 = .ok (.imul, 1) := by decide +kernel
theorem dX12_pour_62 : decode cX12_pour 62 = .ok (.iload_n 3, 1) := by decide +kernel
theorem dX12_pour_63 : decode cX12_pour 63 = .ok (.iadd, 1) := by decide +kernel
theorem dX12_pour_64 : decode cX12_pour 64 = .ok (.laload, 1) := by decide +kernel
theorem dX12_pour_65 : decode cX12_pour 65 = .ok (.lconst 0, 1) := by decide +kernel
theorem dX12_pour_66 : decode cX12_pour 66 = .ok (.aload_n 0, 1) := by decide +kernel
theorem dX12_pour_67 : decode cX12_pour 67 = .ok (.getfield 9, 3) := by decide +kernel
theorem dX12_pour_70 : decode cX12_pour 70 = .ok (.iconst 0, 1) := by decide +kernel
theorem dX12_pour_71 : decode cX12_pour 71 = .ok (.iaload, 1) := by decide +kernel
theorem dX12_pour_72 : decode cX12_pour 72 = .ok (.iconst 1, 1) := by decide +kernel
theorem dX12_pour_73 : decode cX12_pour 73 = .ok (.isub, 1) := by decide +kernel
theorem dX12_pour_74 : decode cX12_pour 74 = .ok (.i2l, 1) := by decide +kernel
theorem dX12_pour_75 : decode cX12_pour 75 = .ok (.invokestatic 83, 3) := by decide +kernel
theorem dX12_pour_78 : decode cX12_pour 78 = .ok (.ifCond .ne 9, 3) := by decide +kernel
theorem dX12_pour_81 : decode cX12_pour 81 = .ok (.aload_n 0, 1) := by decide +kernel
theorem dX12_pour_82 : decode cX12_pour 82 = .ok (.iconst 3, 1) := by decide +kernel
theorem dX12_pour_83 : decode cX12_pour 83 = .ok (.invokevirtual 95, 3) := by decide +kernel
theorem dX12_pour_86 : decode cX12_pour 86 = .ok (.ireturn, 1) := by decide +kernel
theorem dX12_pour_87 : decode cX12_pour 87 = .ok (.iinc 3 1, 3) := by decide +kernel
theorem dX12_pour_90 : decode cX12_pour 90 = .ok (.goto (-46), 3) := by decide +kernel
theorem dX12_pour_93 : decode cX12_pour 93 = .ok (.aload_n 0, 1) := by decide +kernel
theorem dX12_pour_94 : decode cX12_pour 94 = .ok (.getfield 9, 3) := by decide +kernel
theorem dX12_pour_97 : decode cX12_pour 97 = .ok (.aload_n 0, 1) := by decide +kernel
theorem dX12_pour_98 : decode cX12_pour 98 = .ok (.iload_n 2, 1) := by decide +kernel
theorem dX12_pour_99 : decode cX12_pour 99 = .ok (.invokevirtual 293, 3) := by decide +kernel
theorem dX12_pour_102 : decode cX12_pour 102 = .ok (.iaload, 1) := by decide +kernel
theorem dX12_pour_103 : decode cX12_pour 103 = .ok (.aload_n 0, 1) := by decide +kernel
theorem dX12_pour_104 : decode cX12_pour 104 = .ok (.getfield 74, 3) := by decide +kernel
theorem dX12_pour_107 : decode cX12_pour 107 = .ok (.iload_n 1, 1) := by decide +kernel
theorem dX12_pour_108 : decode cX12_pour 108 = .ok (.iaload, 1) := by decide +kernel
theorem dX12_pour_109 : decode cX12_pour 109 = .ok (.iadd, 1) := by decide +kernel
theorem dX12_pour_110 : decode cX12_pour 110 = .ok (.bipush 20, 2) := by decide +kernel
theorem dX12_pour_112 : decode cX12_pour 112 = .ok (.if_icmp .le 5, 3) := by decide +kernel
theorem dX12_pour_115 : decode cX12_pour 115 = .ok (.iconst (-1), 1) := by decide +kernel
theorem dX12_pour_116 : decode cX12_pour 116 = .ok (.ireturn, 1) := by decide +kernel
theorem dX12_pour_117 : decode cX12_pour 117 = .ok (.iconst 0, 1) := by decide +kernel
theorem dX12_pour_118 : decode cX12_pour 118 = .ok (.istore_n 3, 1) := by decide +kernel
theorem dX12_pour_119 : decode cX12_pour 119 = .ok (.iload_n 3, 1) := by decide +kernel
theorem dX12_pour_120 : decode cX12_pour 120 = .ok (.aload_n 0, 1) := by decide +kernel
theorem dX12_pour_121 : decode cX12_pour 121 = .ok (.getfield 74, 3) := by decide +kernel
theorem dX12_pour_124 : decode cX12_pour 124 = .ok (.iload_n 1, 1) := by decide +kernel
theorem dX12_pour_125 : decode cX12_pour 125 = .ok (.iaload, 1) := by decide +kernel
theorem dX12_pour_126 : decode cX12_pour 126 = .ok (.if_icmp .ge 26, 3) := by decide +kernel
theorem dX12_pour_129 : decode cX12_pour 129 = .ok (.aload_n 0, 1) := by decide +kernel
theorem dX12_pour_130 : decode cX12_pour 130 = .ok (.iload_n 2, 1) := by decide +kernel
theorem dX12_pour_131 : decode cX12_pour 131 = .ok (.aload_n 0, 1) := by decide +kernel
theorem dX12_pour_132 : decode cX12_pour 132 = .ok (.getfield 77, 3) := by decide +kernel
theorem dX12_pour_135 : decode cX12_pour 135 = .ok (.bipush 20, 2) := by decide +kernel
theorem dX12_pour_137 : decode cX12_pour 137 = .ok (.iload_n 1, 1) := by decide +kernel
theorem dX12_pour_138 : decode cX12_pour 138 = .ok (.imul, 1) := by decide +kernel
theorem dX12_pour_139 : decode cX12_pour 139 = .ok (.iload_n 3, 1) := by decide +kernel
theorem dX12_pour_140 : decode cX12_pour 140 = .ok (.iadd, 1) := by decide +kernel
theorem dX12_pour_141 : decode cX12_pour 141 = .ok (.laload, 1) := by decide +kernel
theorem dX12_pour_142 : decode cX12_pour 142 = .ok (.l2i, 1) := by decide +kernel
theorem dX12_pour_143 : decode cX12_pour 143 = .ok (.invokevirtual 298, 3) := by decide +kernel
theorem dX12_pour_146 : decode cX12_pour 146 = .ok (.iinc 3 1, 3) := by decide +kernel
theorem dX12_pour_149 : decode cX12_pour 149 = .ok (.goto (-30), 3) := by decide +kernel
theorem dX12_pour_152 : decode cX12_pour 152 = .ok (.aload_n 0, 1) := by decide +kernel
theorem dX12_pour_153 : decode cX12_pour 153 = .ok (.getfield 9, 3) := by decide +kernel
theorem dX12_pour_156 : decode cX12_pour 156 = .ok (.sipush 335, 3) := by decide +kernel
theorem dX12_pour_159 : decode cX12_pour 159 = .ok (.iload_n 2, 1) := by decide +kernel
theorem dX12_pour_160 : decode cX12_pour 160 = .ok (.iadd, 1) := by decide +kernel
theorem dX12_pour_161 : decode cX12_pour 161 = .ok (.dup2, 1) := by decide +kernel
theorem dX12_pour_162 : decode cX12_pour 162 = .ok (.iaload, 1) := by decide +kernel
theorem dX12_pour_163 : decode cX12_pour 163 = .ok (.aload_n 0, 1) := by decide +kernel
theorem dX12_pour_164 : decode cX12_pour 164 = .ok (.getfield 74, 3) := by decide +kernel
theorem dX12_pour_167 : decode cX12_pour 167 = .ok (.iload_n 1, 1) := by decide +kernel
theorem dX12_pour_168 : decode cX12_pour 168 = .ok (.iaload, 1) := by decide +kernel
theorem dX12_pour_169 : decode cX12_pour 169 = .ok (.iadd, 1) := by decide +kernel
theorem dX12_pour_170 : decode cX12_pour 170 = .ok (.iastore, 1) := by decide +kernel
theorem dX12_pour_171 : decode cX12_pour 171 = .ok (.aload_n 0, 1) := by decide +kernel
theorem dX12_pour_172 : decode cX12_pour 172 = .ok (.getfield 9, 3) := by decide +kernel
theorem dX12_pour_175 : decode cX12_pour 175 = .ok (.aload_n 0, 1) := by decide +kernel
theorem dX12_pour_176 : decode cX12_pour 176 = .ok (.iload_n 2, 1) := by decide +kernel
theorem dX12_pour_177 : decode cX12_pour 177 = .ok (.invokevirtual 293, 3) := by decide +kernel
theorem dX12_pour_180 : decode cX12_pour 180 = .ok (.iaload, 1) := by decide +kernel
theorem dX12_pour_181 : decode cX12_pour 181 = .ok (.ireturn, 1) := by decide +kernel
theorem dX12_image_0 : decode cX12_image 0 = .ok (.aload_n 0, 1) := by decide +kernel
theorem dX12_image_1 : decode cX12_image 1 = .ok (.iload_n 1, 1) := by decide +kernel
theorem dX12_image_2 : decode cX12_image 2 = .ok (.i2l, 1) := by decide +kernel
theorem dX12_image_3 : decode cX12_image 3 = .ok (.lconst 0, 1) := by decide +kernel
theorem dX12_image_4 : decode cX12_image 4 = .ok (.ldc2_w 103, 3) := by decide +kernel
theorem dX12_image_7 : decode cX12_image 7 = .ok (.invokestatic 83, 3) := by decide +kernel
theorem dX12_image_10 : decode cX12_image 10 = .ok (.ifCond .eq 7, 3) := by decide +kernel
theorem dX12_image_13 : decode cX12_image 13 = .ok (.iconst 0, 1) := by decide +kernel
theorem dX12_image_14 : decode cX12_image 14 = .ok (.goto 4, 3) := by decide +kernel
theorem dX12_image_17 : decode cX12_image 17 = .ok (.iconst 1, 1) := by decide +kernel
theorem dX12_image_18 : decode cX12_image 18 = .ok (.putfield 80, 3) := by decide +kernel
theorem dX12_image_21 : decode cX12_image 21 = .ok (.aload_n 0, 1) := by decide +kernel
theorem dX12_image_22 : decode cX12_image 22 = .ok (.getfield 80, 3) := by decide +kernel
theorem dX12_image_25 : decode cX12_image 25 = .ok (.ifCond .le 4, 3) := by decide +kernel
theorem dX12_image_28 : decode cX12_image 28 = .ok (.return_, 1) := by decide +kernel
theorem dX12_image_29 : decode cX12_image 29 = .ok (.aload_n 0, 1) := by decide +kernel
theorem dX12_image_30 : decode cX12_image 30 = .ok (.getfield 16, 3) := by decide +kernel
theorem dX12_image_33 : decode cX12_image 33 = .ok (.iload_n 1, 1) := by decide +kernel
theorem dX12_image_34 : decode cX12_image 34 = .ok (.iconst 1, 1) := by decide +kernel
theorem dX12_image_35 : decode cX12_image 35 = .ok (.bastore, 1) := by decide +kernel
theorem dX12_image_36 : decode cX12_image 36 = .ok (.iconst 0, 1) := by decide +kernel
theorem dX12_image_37 : decode cX12_image 37 = .ok (.istore_n 2, 1) := by decide +kernel
theorem dX12_image_38 : decode cX12_image 38 = .ok (.iload_n 2, 1) := by decide +kernel
theorem dX12_image_39 : decode cX12_image 39 = .ok (.sipush 615, 3) := by decide +kernel
theorem dX12_image_42 : decode cX12_image 42 = .ok (.if_icmp .ge 27, 3) := by decide +kernel
theorem dX12_image_45 : decode cX12_image 45 = .ok (.aload_n 0, 1) := by decide +kernel
theorem dX12_image_46 : decode cX12_image 46 = .ok (.getfield 13, 3) := by decide +kernel
theorem dX12_image_49 : decode cX12_image 49 = .ok (.sipush 615, 3) := by decide +kernel
theorem dX12_image_52 : decode cX12_image 52 = .ok (.iload_n 1, 1) := by decide +kernel
theorem dX12_image_53 : decode cX12_image 53 = .ok (.imul, 1) := by decide +kernel
theorem dX12_image_54 : decode cX12_image 54 = .ok (.iload_n 2, 1) := by decide +kernel
theorem dX12_image_55 : decode cX12_image 55 = .ok (.iadd, 1) := by decide +kernel
theorem dX12_image_56 : decode cX12_image 56 = .ok (.aload_n 0, 1) := by decide +kernel
theorem dX12_image_57 : decode cX12_image 57 = .ok (.getfield 9, 3) := by decide +kernel
theorem dX12_image_60 : decode cX12_image 60 = .ok (.iload_n 2, 1) := by decide +kernel
theorem dX12_image_61 : decode cX12_image 61 = .ok (.iaload, 1) := by decide +kernel
theorem dX12_image_62 : decode cX12_image 62 = .ok (.iastore, 1) := by decide +kernel
theorem dX12_image_63 : decode cX12_image 63 = .ok (.iinc 2 1, 3) := by decide +kernel
theorem dX12_image_66 : decode cX12_image 66 = .ok (.goto (-28), 3) := by decide +kernel
theorem dX12_image_69 : decode cX12_image 69 = .ok (.return_, 1) := by decide +kernel
theorem dX12_restore_0 : decode cX12_restore 0 = .ok (.aload_n 0, 1) := by decide +kernel
theorem dX12_restore_1 : decode cX12_restore 1 = .ok (.iload_n 1, 1) := by decide +kernel
theorem dX12_restore_2 : decode cX12_restore 2 = .ok (.i2l, 1) := by decide +kernel
theorem dX12_restore_3 : decode cX12_restore 3 = .ok (.lconst 0, 1) := by decide +kernel
theorem dX12_restore_4 : decode cX12_restore 4 = .ok (.ldc2_w 103, 3) := by decide +kernel
theorem dX12_restore_7 : decode cX12_restore 7 = .ok (.invokestatic 83, 3) := by decide +kernel
theorem dX12_restore_10 : decode cX12_restore 10 = .ok (.ifCond .ne 7, 3) := by decide +kernel
theorem dX12_restore_13 : decode cX12_restore 13 = .ok (.iconst 1, 1) := by decide +kernel
theorem dX12_restore_14 : decode cX12_restore 14 = .ok (.goto 17, 3) := by decide +kernel
theorem dX12_restore_17 : decode cX12_restore 17 = .ok (.aload_n 0, 1) := by decide +kernel
theorem dX12_restore_18 : decode cX12_restore 18 = .ok (.getfield 16, 3) := by decide +kernel
theorem dX12_restore_21 : decode cX12_restore 21 = .ok (.iload_n 1, 1) := by decide +kernel
theorem dX12_restore_22 : decode cX12_restore 22 = .ok (.baload, 1) := by decide +kernel
theorem dX12_restore_23 : decode cX12_restore 23 = .ok (.ifCond .ne 7, 3) := by decide +kernel
theorem dX12_restore_26 : decode cX12_restore 26 = .ok (.iconst 2, 1) := by decide +kernel
theorem dX12_restore_27 : decode cX12_restore 27 = .ok (.goto 4, 3) := by decide +kernel
theorem dX12_restore_30 : decode cX12_restore 30 = .ok (.iconst 0, 1) := by decide +kernel
theorem dX12_restore_31 : decode cX12_restore 31 = .ok (.putfield 80, 3) := by decide +kernel
theorem dX12_restore_34 : decode cX12_restore 34 = .ok (.aload_n 0, 1) := by decide +kernel
theorem dX12_restore_35 : decode cX12_restore 35 = .ok (.getfield 80, 3) := by decide +kernel
theorem dX12_restore_38 : decode cX12_restore 38 = .ok (.ifCond .le 4, 3) := by decide +kernel
theorem dX12_restore_41 : decode cX12_restore 41 = .ok (.return_, 1) := by decide +kernel
theorem dX12_restore_42 : decode cX12_restore 42 = .ok (.iconst 0, 1) := by decide +kernel
theorem dX12_restore_43 : decode cX12_restore 43 = .ok (.istore_n 2, 1) := by decide +kernel
theorem dX12_restore_44 : decode cX12_restore 44 = .ok (.iload_n 2, 1) := by decide +kernel
theorem dX12_restore_45 : decode cX12_restore 45 = .ok (.sipush 615, 3) := by decide +kernel
theorem dX12_restore_48 : decode cX12_restore 48 = .ok (.if_icmp .ge 27, 3) := by decide +kernel
theorem dX12_restore_51 : decode cX12_restore 51 = .ok (.aload_n 0, 1) := by decide +kernel
theorem dX12_restore_52 : decode cX12_restore 52 = .ok (.getfield 9, 3) := by decide +kernel
theorem dX12_restore_55 : decode cX12_restore 55 = .ok (.iload_n 2, 1) := by decide +kernel
theorem dX12_restore_56 : decode cX12_restore 56 = .ok (.aload_n 0, 1) := by decide +kernel
theorem dX12_restore_57 : decode cX12_restore 57 = .ok (.getfield 13, 3) := by decide +kernel
theorem dX12_restore_60 : decode cX12_restore 60 = .ok (.sipush 615, 3) := by decide +kernel
theorem dX12_restore_63 : decode cX12_restore 63 = .ok (.iload_n 1, 1) := by decide +kernel
theorem dX12_restore_64 : decode cX12_restore 64 = .ok (.imul, 1) := by decide +kernel
theorem dX12_restore_65 : decode cX12_restore 65 = .ok (.iload_n 2, 1) := by decide +kernel
theorem dX12_restore_66 : decode cX12_restore 66 = .ok (.iadd, 1) := by decide +kernel
theorem dX12_restore_67 : decode cX12_restore 67 = .ok (.iaload, 1) := by decide +kernel
theorem dX12_restore_68 : decode cX12_restore 68 = .ok (.iastore, 1) := by decide +kernel
theorem dX12_restore_69 : decode cX12_restore 69 = .ok (.iinc 2 1, 3) := by decide +kernel
theorem dX12_restore_72 : decode cX12_restore 72 = .ok (.goto (-28), 3) := by decide +kernel
theorem dX12_restore_75 : decode cX12_restore 75 = .ok (.return_, 1) := by decide +kernel
theorem dX12_count_0 : decode cX12_count 0 = .ok (.aload_n 0, 1) := by decide +kernel
theorem dX12_count_1 : decode cX12_count 1 = .ok (.iconst 0, 1) := by decide +kernel
theorem dX12_count_2 : decode cX12_count 2 = .ok (.putfield 80, 3) := by decide +kernel
theorem dX12_count_5 : decode cX12_count 5 = .ok (.iload_n 1, 1) := by decide +kernel
theorem dX12_count_6 : decode cX12_count 6 = .ok (.bipush 6, 2) := by decide +kernel
theorem dX12_count_8 : decode cX12_count 8 = .ok (.if_icmp .ne 8, 3) := by decide +kernel
theorem dX12_count_11 : decode cX12_count 11 = .ok (.aload_n 0, 1) := by decide +kernel
theorem dX12_count_12 : decode cX12_count 12 = .ok (.getfield 136, 3) := by decide +kernel
theorem dX12_count_15 : decode cX12_count 15 = .ok (.ireturn, 1) := by decide +kernel
theorem dX12_count_16 : decode cX12_count 16 = .ok (.iload_n 1, 1) := by decide +kernel
theorem dX12_count_17 : decode cX12_count 17 = .ok (.bipush 7, 2) := by decide +kernel
theorem dX12_count_19 : decode cX12_count 19 = .ok (.if_icmp .ne 11, 3) := by decide +kernel
theorem dX12_count_22 : decode cX12_count 22 = .ok (.aload_n 0, 1) := by decide +kernel
theorem dX12_count_23 : decode cX12_count 23 = .ok (.getfield 9, 3) := by decide +kernel
theorem dX12_count_26 : decode cX12_count 26 = .ok (.bipush 6, 2) := by decide +kernel
theorem dX12_count_28 : decode cX12_count 28 = .ok (.iaload, 1) := by decide +kernel
theorem dX12_count_29 : decode cX12_count 29 = .ok (.ireturn, 1) := by decide +kernel
theorem dX12_count_30 : decode cX12_count 30 = .ok (.iload_n 1, 1) := by decide +kernel
theorem dX12_count_31 : decode cX12_count 31 = .ok (.i2l, 1) := by decide +kernel
theorem dX12_count_32 : decode cX12_count 32 = .ok (.lconst 0, 1) := by decide +kernel
theorem dX12_count_33 : decode cX12_count 33 = .ok (.ldc2_w 360, 3) := by decide +kernel
theorem dX12_count_36 : decode cX12_count 36 = .ok (.invokestatic 83, 3) := by decide +kernel
theorem dX12_count_39 : decode cX12_count 39 = .ok (.ifCond .eq 12, 3) := by decide +kernel
theorem dX12_count_42 : decode cX12_count 42 = .ok (.aload_n 0, 1) := by decide +kernel
theorem dX12_count_43 : decode cX12_count 43 = .ok (.getfield 9, 3) := by decide +kernel
theorem dX12_count_46 : decode cX12_count 46 = .ok (.iload_n 1, 1) := by decide +kernel
theorem dX12_count_47 : decode cX12_count 47 = .ok (.iaload, 1) := by decide +kernel
theorem dX12_count_48 : decode cX12_count 48 = .ok (.goto 4, 3) := by decide +kernel
theorem dX12_count_51 : decode cX12_count 51 = .ok (.iconst (-1), 1) := by decide +kernel
theorem dX12_count_52 : decode cX12_count 52 = .ok (.ireturn, 1) := by decide +kernel
