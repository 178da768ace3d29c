theorem dX0_init_0 : decode cX0_init 0 = .ok (.aload_n 0, 1) := by decide +kernel
theorem dX0_init_1 : decode cX0_init 1 = .ok (.invokespecial 3, 3) := by decide +kernel
theorem dX0_init_4 : decode cX0_init 4 = .ok (.aload_n 0, 1) := by decide +kernel
theorem dX0_init_5 : decode cX0_init 5 = .ok (.sipush 4801, 3) := by decide +kernel
theorem dX0_init_8 : decode cX0_init 8 = .ok (.newarray .long, 2) := by decide +kernel
theorem dX0_init_10 : decode cX0_init 10 = .ok (.putfield 11, 3) := by decide +kernel
theorem dX0_init_13 : decode cX0_init 13 = .ok (.aload_n 0, 1) := by decide +kernel
theorem dX0_init_14 : decode cX0_init 14 = .ok (.sipush 1001, 3) := by decide +kernel
theorem dX0_init_17 : decode cX0_init 17 = .ok (.newarray .boolean, 2) := by decide +kernel
theorem dX0_init_19 : decode cX0_init 19 = .ok (.putfield 15, 3) := by decide +kernel
theorem dX0_init_22 : decode cX0_init 22 = .ok (.aload_n 0, 1) := by decide +kernel
theorem dX0_init_23 : decode cX0_init 23 = .ok (.aload_n 1, 1) := by decide +kernel
theorem dX0_init_24 : decode cX0_init 24 = .ok (.putfield 19, 3) := by decide +kernel
theorem dX0_init_27 : decode cX0_init 27 = .ok (.return_, 1) := by decide +kernel
theorem dX0_spread_0 : decode cX0_spread 0 = .ok (.iconst 0, 1) := by decide +kernel
theorem dX0_spread_1 : decode cX0_spread 1 = .ok (.iload_n 3, 1) := by decide +kernel
theorem dX0_spread_2 : decode cX0_spread 2 = .ok (.sipush 4800, 3) := by decide +kernel
theorem dX0_spread_5 : decode cX0_spread 5 = .ok (.invokestatic 23, 3) := by decide +kernel
theorem dX0_spread_8 : decode cX0_spread 8 = .ok (.invokestatic 29, 3) := by decide +kernel
theorem dX0_spread_11 : decode cX0_spread 11 = .ok (.istore 4, 2) := by decide +kernel
theorem dX0_spread_13 : decode cX0_spread 13 = .ok (.iconst 0, 1) := by decide +kernel
theorem dX0_spread_14 : decode cX0_spread 14 = .ok (.istore 5, 2) := by decide +kernel
theorem dX0_spread_16 : decode cX0_spread 16 = .ok (.iload 5, 2) := by decide +kernel
theorem dX0_spread_18 : decode cX0_spread 18 = .ok (.iload 4, 2) := by decide +kernel
theorem dX0_spread_20 : decode cX0_spread 20 = .ok (.if_icmp .gt 19, 3) := by decide +kernel
theorem dX0_spread_23 : decode cX0_spread 23 = .ok (.aload_n 0, 1) := by decide +kernel
theorem dX0_spread_24 : decode cX0_spread 24 = .ok (.getfield 11, 3) := by decide +kernel
theorem dX0_spread_27 : decode cX0_spread 27 = .ok (.iload 5, 2) := by decide +kernel
theorem dX0_spread_29 : decode cX0_spread 29 = .ok (.ldc2_w 32, 3) := by decide +kernel
theorem dX0_spread_32 : decode cX0_spread 32 = .ok (.lastore, 1) := by decide +kernel
theorem dX0_spread_33 : decode cX0_spread 33 = .ok (.iinc 5 1, 3) := by decide +kernel
theorem dX0_spread_36 : decode cX0_spread 36 = .ok (.goto (-20), 3) := by decide +kernel
theorem dX0_spread_39 : decode cX0_spread 39 = .ok (.aload_n 0, 1) := by decide +kernel
theorem dX0_spread_40 : decode cX0_spread 40 = .ok (.getfield 11, 3) := by decide +kernel
theorem dX0_spread_43 : decode cX0_spread 43 = .ok (.iconst 0, 1) := by decide +kernel
theorem dX0_spread_44 : decode cX0_spread 44 = .ok (.lconst 0, 1) := by decide +kernel
theorem dX0_spread_45 : decode cX0_spread 45 = .ok (.lastore, 1) := by decide +kernel
theorem dX0_spread_46 : decode cX0_spread 46 = .ok (.iconst 0, 1) := by decide +kernel
theorem dX0_spread_47 : decode cX0_spread 47 = .ok (.istore 5, 2) := by decide +kernel
theorem dX0_spread_49 : decode cX0_spread 49 = .ok (.iconst 0, 1) := by decide +kernel
theorem dX0_spread_50 : decode cX0_spread 50 = .ok (.istore 6, 2) := by decide +kernel
theorem dX0_spread_52 : decode cX0_spread 52 = .ok (.iload 6, 2) := by decide +kernel
theorem dX0_spread_54 : decode cX0_spread 54 = .ok (.aload_n 0, 1) := by decide +kernel
theorem dX0_spread_55 : decode cX0_spread 55 = .ok (.getfield 19, 3) := by decide +kernel
theorem dX0_spread_58 : decode cX0_spread 58 = .ok (.getfield 34, 3) := by decide +kernel
theorem dX0_spread_61 : decode cX0_spread 61 = .ok (.if_icmp .ge 39, 3) := by decide +kernel
theorem dX0_spread_64 : decode cX0_spread 64 = .ok (.aload_n 0, 1) := by decide +kernel
theorem dX0_spread_65 : decode cX0_spread 65 = .ok (.getfield 19, 3) := by decide +kernel
theorem dX0_spread_68 : decode cX0_spread 68 = .ok (.iload 6, 2) := by decide +kernel
theorem dX0_spread_70 : decode cX0_spread 70 = .ok (.invokevirtual 40, 3) := by decide +kernel
theorem dX0_spread_73 : decode cX0_spread 73 = .ok (.ifCond .eq 21, 3) := by decide +kernel
theorem dX0_spread_76 : decode cX0_spread 76 = .ok (.aload_n 0, 1) := by decide +kernel
theorem dX0_spread_77 : decode cX0_spread 77 = .ok (.iload 6, 2) := by decide +kernel
theorem dX0_spread_79 : decode cX0_spread 79 = .ok (.aload_n 1, 1) := by decide +kernel
theorem dX0_spread_80 : decode cX0_spread 80 = .ok (.iload_n 2, 1) := by decide +kernel
theorem dX0_spread_81 : decode cX0_spread 81 = .ok (.iload 6, 2) := by decide +kernel
theorem dX0_spread_83 : decode cX0_spread 83 = .ok (.iadd, 1) := by decide +kernel
theorem dX0_spread_84 : decode cX0_spread 84 = .ok (.iaload, 1) := by decide +kernel
theorem dX0_spread_85 : decode cX0_spread 85 = .ok (.iload 5, 2) := by decide +kernel
theorem dX0_spread_87 : decode cX0_spread 87 = .ok (.iload 4, 2) := by decide +kernel
theorem dX0_spread_89 : decode cX0_spread 89 = .ok (.invokevirtual 44, 3) := by decide +kernel
theorem dX0_spread_92 : decode cX0_spread 92 = .ok (.istore 5, 2) := by decide +kernel
theorem dX0_spread_94 : decode cX0_spread 94 = .ok (.iinc 6 1, 3) := by decide +kernel
theorem dX0_spread_97 : decode cX0_spread 97 = .ok (.goto (-45), 3) := by decide +kernel
theorem dX0_spread_100 : decode cX0_spread 100 = .ok (.return_, 1) := by decide +kernel
theorem dX0_spreadSort_0 : decode cX0_spreadSort 0 = .ok (.iload_n 3, 1) := by decide +kernel
theorem dX0_spreadSort_1 : decode cX0_spreadSort 1 = .ok (.istore 5, 2) := by decide +kernel
theorem dX0_spreadSort_3 : decode cX0_spreadSort 3 = .ok (.iload_n 2, 1) := by decide +kernel
theorem dX0_spreadSort_4 : decode cX0_spreadSort 4 = .ok (.istore 6, 2) := by decide +kernel
theorem dX0_spreadSort_6 : decode cX0_spreadSort 6 = .ok (.iconst 1, 1) := by decide +kernel
theorem dX0_spreadSort_7 : decode cX0_spreadSort 7 = .ok (.istore 7, 2) := by decide +kernel
theorem dX0_spreadSort_9 : decode cX0_spreadSort 9 = .ok (.iload 7, 2) := by decide +kernel
theorem dX0_spreadSort_11 : decode cX0_spreadSort 11 = .ok (.bipush 20, 2) := by decide +kernel
theorem dX0_spreadSort_13 : decode cX0_spreadSort 13 = .ok (.if_icmp .gt 120, 3) := by decide +kernel
theorem dX0_spreadSort_16 : decode cX0_spreadSort 16 = .ok (.iload 6, 2) := by decide +kernel
theorem dX0_spreadSort_18 : decode cX0_spreadSort 18 = .ok (.ifCond .le 115, 3) := by decide +kernel
theorem dX0_spreadSort_21 : decode cX0_spreadSort 21 = .ok (.iload 7, 2) := by decide +kernel
theorem dX0_spreadSort_23 : decode cX0_spreadSort 23 = .ok (.iload 6, 2) := by decide +kernel
theorem dX0_spreadSort_25 : decode cX0_spreadSort 25 = .ok (.invokestatic 23, 3) := by decide +kernel
theorem dX0_spreadSort_28 : decode cX0_spreadSort 28 = .ok (.istore 8, 2) := by decide +kernel
theorem dX0_spreadSort_30 : decode cX0_spreadSort 30 = .ok (.iload 6, 2) := by decide +kernel
theorem dX0_spreadSort_32 : decode cX0_spreadSort 32 = .ok (.iload 8, 2) := by decide +kernel
theorem dX0_spreadSort_34 : decode cX0_spreadSort 34 = .ok (.isub, 1) := by decide +kernel
theorem dX0_spreadSort_35 : decode cX0_spreadSort 35 = .ok (.istore 6, 2) := by decide +kernel
theorem dX0_spreadSort_37 : decode cX0_spreadSort 37 = .ok (.iload 8, 2) := by decide +kernel
theorem dX0_spreadSort_39 : decode cX0_spreadSort 39 = .ok (.aload_n 0, 1) := by decide +kernel
theorem dX0_spreadSort_40 : decode cX0_spreadSort 40 = .ok (.getfield 19, 3) := by decide +kernel
theorem dX0_spreadSort_43 : decode cX0_spreadSort 43 = .ok (.getfield 48, 3) := by decide +kernel
theorem dX0_spreadSort_46 : decode cX0_spreadSort 46 = .ok (.iload_n 1, 1) := by decide +kernel
theorem dX0_spreadSort_47 : decode cX0_spreadSort 47 = .ok (.iaload, 1) := by decide +kernel
theorem dX0_spreadSort_48 : decode cX0_spreadSort 48 = .ok (.imul, 1) := by decide +kernel
theorem dX0_spreadSort_49 : decode cX0_spreadSort 49 = .ok (.istore 9, 2) := by decide +kernel
theorem dX0_spreadSort_51 : decode cX0_spreadSort 51 = .ok (.iload 8, 2) := by decide +kernel
theorem dX0_spreadSort_53 : decode cX0_spreadSort 53 = .ok (.i2l, 1) := by decide +kernel
theorem dX0_spreadSort_54 : decode cX0_spreadSort 54 = .ok (.ldc2_w 52, 3) := by decide +kernel
theorem dX0_spreadSort_57 : decode cX0_spreadSort 57 = .ok (.iload_n 1, 1) := by decide +kernel
theorem dX0_spreadSort_58 : decode cX0_spreadSort 58 = .ok (.invokestatic 54, 3) := by decide +kernel
theorem dX0_spreadSort_61 : decode cX0_spreadSort 61 = .ok (.lsub, 1) := by decide +kernel
theorem dX0_spreadSort_62 : decode cX0_spreadSort 62 = .ok (.lmul, 1) := by decide +kernel
theorem dX0_spreadSort_63 : decode cX0_spreadSort 63 = .ok (.lstore 10, 2) := by decide +kernel
theorem dX0_spreadSort_65 : decode cX0_spreadSort 65 = .ok (.iload 4, 2) := by decide +kernel
theorem dX0_spreadSort_67 : decode cX0_spreadSort 67 = .ok (.iload 5, 2) := by decide +kernel
theorem dX0_spreadSort_69 : decode cX0_spreadSort 69 = .ok (.iload 9, 2) := by decide +kernel
theorem dX0_spreadSort_71 : decode cX0_spreadSort 71 = .ok (.iadd, 1) := by decide +kernel
theorem dX0_spreadSort_72 : decode cX0_spreadSort 72 = .ok (.invokestatic 23, 3) := by decide +kernel
theorem dX0_spreadSort_75 : decode cX0_spreadSort 75 = .ok (.istore 5, 2) := by decide +kernel
theorem dX0_spreadSort_77 : decode cX0_spreadSort 77 = .ok (.iload 5, 2) := by decide +kernel
theorem dX0_spreadSort_79 : decode cX0_spreadSort 79 = .ok (.istore 12, 2) := by decide +kernel
theorem dX0_spreadSort_81 : decode cX0_spreadSort 81 = .ok (.iload 12, 2) := by decide +kernel
theorem dX0_spreadSort_83 : decode cX0_spreadSort 83 = .ok (.iload 9, 2) := by decide +kernel
theorem dX0_spreadSort_85 : decode cX0_spreadSort 85 = .ok (.if_icmp .lt 39, 3) := by decide +kernel
theorem dX0_spreadSort_88 : decode cX0_spreadSort 88 = .ok (.aload_n 0, 1) := by decide +kernel
theorem dX0_spreadSort_89 : decode cX0_spreadSort 89 = .ok (.getfield 11, 3) := by decide +kernel
theorem dX0_spreadSort_92 : decode cX0_spreadSort 92 = .ok (.iload 12, 2) := by decide +kernel
theorem dX0_spreadSort_94 : decode cX0_spreadSort 94 = .ok (.aload_n 0, 1) := by decide +kernel
theorem dX0_spreadSort_95 : decode cX0_spreadSort 95 = .ok (.getfield 11, 3) := by decide +kernel
theorem dX0_spreadSort_98 : decode cX0_spreadSort 98 = .ok (.iload 12, 2) := by decide +kernel
theorem dX0_spreadSort_100 : decode cX0_spreadSort 100 = .ok (.laload, 1) := by decide +kernel
theorem dX0_spreadSort_101 : decode cX0_spreadSort 101 = .ok (.aload_n 0, 1) := by decide +kernel
theorem dX0_spreadSort_102 : decode cX0_spreadSort 102 = .ok (.getfield 11, 3) := by decide +kernel
theorem dX0_spreadSort_105 : decode cX0_spreadSort 105 = .ok (.iload 12, 2) := by decide +kernel
theorem dX0_spreadSort_107 : decode cX0_spreadSort 107 = .ok (.iload 9, 2) := by decide +kernel
theorem dX0_spreadSort_109 : decode cX0_spreadSort 109 = .ok (.isub, 1) := by decide +kernel
theorem dX0_spreadSort_110 : decode cX0_spreadSort 110 = .ok (.laload, 1) := by decide +kernel
theorem dX0_spreadSort_111 : decode cX0_spreadSort 111 = .ok (.lload 10, 2) := by decide +kernel
theorem dX0_spreadSort_113 : decode cX0_spreadSort 113 = .ok (.ladd, 1) := by decide +kernel
theorem dX0_spreadSort_114 : decode cX0_spreadSort 114 = .ok (.invokestatic 58, 3) := by decide +kernel
theorem dX0_spreadSort_117 : decode cX0_spreadSort 117 = .ok (.lastore, 1) := by decide +kernel
theorem dX0_spreadSort_118 : decode cX0_spreadSort 118 = .ok (.iinc 12 (-1), 3) := by decide +kernel
theorem dX0_spreadSort_121 : decode cX0_spreadSort 121 = .ok (.goto (-40), 3) := by decide +kernel
theorem dX0_spreadSort_124 : decode cX0_spreadSort 124 = .ok (.iload 7, 2) := by decide +kernel
theorem dX0_spreadSort_126 : decode cX0_spreadSort 126 = .ok (.iconst 2, 1) := by decide +kernel
theorem dX0_spreadSort_127 : decode cX0_spreadSort 127 = .ok (.imul, 1) := by decide +kernel
theorem dX0_spreadSort_128 : decode cX0_spreadSort 128 = .ok (.istore 7, 2) := by decide +kernel
theorem dX0_spreadSort_130 : decode cX0_spreadSort 130 = .ok (.goto (-121), 3) := by decide +kernel
theorem dX0_spreadSort_133 : decode cX0_spreadSort 133 = .ok (.iload 5, 2) := by decide +kernel
theorem dX0_spreadSort_135 : decode cX0_spreadSort 135 = .ok (.ireturn, 1) := by decide +kernel
theorem dX0_digit_0 : decode cX0_digit 0 = .ok (.lconst 1, 1) := by decide +kernel
theorem dX0_digit_1 : decode cX0_digit 1 = .ok (.iconst 5, 1) := by decide +kernel
theorem dX0_digit_2 : decode cX0_digit 2 = .ok (.bipush 7, 2) := by decide +kernel
theorem dX0_digit_4 : decode cX0_digit 4 = .ok (.iload_n 0, 1) := by decide +kernel
theorem dX0_digit_5 : decode cX0_digit 5 = .ok (.isub, 1) := by decide +kernel
theorem dX0_digit_6 : decode cX0_digit 6 = .ok (.imul, 1) := by decide +kernel
theorem dX0_digit_7 : decode cX0_digit 7 = .ok (.lshl, 1) := by decide +kernel
theorem dX0_digit_8 : decode cX0_digit 8 = .ok (.lreturn, 1) := by decide +kernel
theorem dX0_hasFor_0 : decode cX0_hasFor 0 = .ok (.iload_n 1, 1) := by decide +kernel
theorem dX0_hasFor_1 : decode cX0_hasFor 1 = .ok (.ifCond .lt 27, 3) := by decide +kernel
theorem dX0_hasFor_4 : decode cX0_hasFor 4 = .ok (.iload_n 1, 1) := by decide +kernel
theorem dX0_hasFor_5 : decode cX0_hasFor 5 = .ok (.sipush 4800, 3) := by decide +kernel
theorem dX0_hasFor_8 : decode cX0_hasFor 8 = .ok (.if_icmp .gt 20, 3) := by decide +kernel
theorem dX0_hasFor_11 : decode cX0_hasFor 11 = .ok (.aload_n 0, 1) := by decide +kernel
theorem dX0_hasFor_12 : decode cX0_hasFor 12 = .ok (.getfield 11, 3) := by decide +kernel
theorem dX0_hasFor_15 : decode cX0_hasFor 15 = .ok (.iload_n 1, 1) := by decide +kernel
theorem dX0_hasFor_16 : decode cX0_hasFor 16 = .ok (.laload, 1) := by decide +kernel
theorem dX0_hasFor_17 : decode cX0_hasFor 17 = .ok (.ldc2_w 32, 3) := by decide +kernel
theorem dX0_hasFor_20 : decode cX0_hasFor 20 = .ok (.lcmp, 1) := by decide +kernel
theorem dX0_hasFor_21 : decode cX0_hasFor 21 = .ok (.ifCond .ge 7, 3) := by decide +kernel
theorem dX0_hasFor_24 : decode cX0_hasFor 24 = .ok (.iconst 1, 1) := by decide +kernel
theorem dX0_hasFor_25 : decode cX0_hasFor 25 = .ok (.goto 4, 3) := by decide +kernel
theorem dX0_hasFor_28 : decode cX0_hasFor 28 = .ok (.iconst 0, 1) := by decide +kernel
theorem dX0_hasFor_29 : decode cX0_hasFor 29 = .ok (.ireturn, 1) := by decide +kernel
theorem dX0_share_0 : decode cX0_share 0 = .ok (.aload_n 0, 1) := by decide +kernel
theorem dX0_share_1 : decode cX0_share 1 = .ok (.iload_n 1, 1) := by decide +kernel
theorem dX0_share_2 : decode cX0_share 2 = .ok (.invokevirtual 61, 3) := by decide +kernel
theorem dX0_share_5 : decode cX0_share 5 = .ok (.ifCond .ne 5, 3) := by decide +kernel
theorem dX0_share_8 : decode cX0_share 8 = .ok (.iconst 0, 1) := by decide +kernel
theorem dX0_share_9 : decode cX0_share 9 = .ok (.ireturn, 1) := by decide +kernel
theorem dX0_share_10 : decode cX0_share 10 = .ok (.aload_n 0, 1) := by decide +kernel
theorem dX0_share_11 : decode cX0_share 11 = .ok (.getfield 11, 3) := by decide +kernel
theorem dX0_share_14 : decode cX0_share 14 = .ok (.iload_n 1, 1) := by decide +kernel
theorem dX0_share_15 : decode cX0_share 15 = .ok (.laload, 1) := by decide +kernel
theorem dX0_share_16 : decode cX0_share 16 = .ok (.iload_n 2, 1) := by decide +kernel
theorem dX0_share_17 : decode cX0_share 17 = .ok (.invokestatic 64, 3) := by decide +kernel
theorem dX0_share_20 : decode cX0_share 20 = .ok (.ireturn, 1) := by decide +kernel
theorem dX0_shareOf_0 : decode cX0_shareOf 0 = .ok (.lload_n 0, 1) := by decide +kernel
theorem dX0_shareOf_1 : decode cX0_shareOf 1 = .ok (.lneg, 1) := by decide +kernel
theorem dX0_shareOf_2 : decode cX0_shareOf 2 = .ok (.ldc2_w 68, 3) := by decide +kernel
theorem dX0_shareOf_5 : decode cX0_shareOf 5 = .ok (.land, 1) := by decide +kernel
theorem dX0_shareOf_6 : decode cX0_shareOf 6 = .ok (.lstore_n 3, 1) := by decide +kernel
theorem dX0_shareOf_7 : decode cX0_shareOf 7 = .ok (.lload_n 3, 1) := by decide +kernel
theorem dX0_shareOf_8 : decode cX0_shareOf 8 = .ok (.iconst 5, 1) := by decide +kernel
theorem dX0_shareOf_9 : decode cX0_shareOf 9 = .ok (.bipush 7, 2) := by decide +kernel
theorem dX0_shareOf_11 : decode cX0_shareOf 11 = .ok (.iload_n 2, 1) := by decide +kernel
theorem dX0_shareOf_12 : decode cX0_shareOf 12 = .ok (.isub, 1) := by decide +kernel
theorem dX0_shareOf_13 : decode cX0_shareOf 13 = .ok (.imul, 1) := by decide +kernel
theorem dX0_shareOf_14 : decode cX0_shareOf 14 = .ok (.lshr, 1) := by decide +kernel
theorem dX0_shareOf_15 : decode cX0_shareOf 15 = .ok (.l2i, 1) := by decide +kernel
theorem dX0_shareOf_16 : decode cX0_shareOf 16 = .ok (.bipush 31, 2) := by decide +kernel
theorem dX0_shareOf_18 : decode cX0_shareOf 18 = .ok (.iand, 1) := by decide +kernel
theorem dX0_shareOf_19 : decode cX0_shareOf 19 = .ok (.ireturn, 1) := by decide +kernel
theorem dX0_lackMany_0 : decode cX0_lackMany 0 = .ok (.iconst 0, 1) := by decide +kernel
theorem dX0_lackMany_1 : decode cX0_lackMany 1 = .ok (.istore_n 2, 1) := by decide +kernel
theorem dX0_lackMany_2 : decode cX0_lackMany 2 = .ok (.iconst 0, 1) := by decide +kernel
theorem dX0_lackMany_3 : decode cX0_lackMany 3 = .ok (.istore_n 3, 1) := by decide +kernel
theorem dX0_lackMany_4 : decode cX0_lackMany 4 = .ok (.iload_n 3, 1) := by decide +kernel
theorem dX0_lackMany_5 : decode cX0_lackMany 5 = .ok (.iload_n 1, 1) := by decide +kernel
theorem dX0_lackMany_6 : decode cX0_lackMany 6 = .ok (.if_icmp .gt 20, 3) := by decide +kernel
theorem dX0_lackMany_9 : decode cX0_lackMany 9 = .ok (.aload_n 0, 1) := by decide +kernel
theorem dX0_lackMany_10 : decode cX0_lackMany 10 = .ok (.iload_n 3, 1) := by decide +kernel
theorem dX0_lackMany_11 : decode cX0_lackMany 11 = .ok (.invokevirtual 61, 3) := by decide +kernel
theorem dX0_lackMany_14 : decode cX0_lackMany 14 = .ok (.ifCond .ne 6, 3) := by decide +kernel
theorem dX0_lackMany_17 : decode cX0_lackMany 17 = .ok (.iinc 2 1, 3) := by decide +kernel
theorem dX0_lackMany_20 : decode cX0_lackMany 20 = .ok (.iinc 3 1, 3) := by decide +kernel
theorem dX0_lackMany_23 : decode cX0_lackMany 23 = .ok (.goto (-19), 3) := by decide +kernel
theorem dX0_lackMany_26 : decode cX0_lackMany 26 = .ok (.iload_n 2, 1) := by decide +kernel
theorem dX0_lackMany_27 : decode cX0_lackMany 27 = .ok (.ireturn, 1) := by decide +kernel
theorem dX0_lackLeast_0 : decode cX0_lackLeast 0 = .ok (.iconst 0, 1) := by decide +kernel
theorem dX0_lackLeast_1 : decode cX0_lackLeast 1 = .ok (.istore_n 2, 1) := by decide +kernel
theorem dX0_lackLeast_2 : decode cX0_lackLeast 2 = .ok (.iload_n 2, 1) := by decide +kernel
theorem dX0_lackLeast_3 : decode cX0_lackLeast 3 = .ok (.iload_n 1, 1) := by decide +kernel
theorem dX0_lackLeast_4 : decode cX0_lackLeast 4 = .ok (.if_icmp .gt 19, 3) := by decide +kernel
theorem dX0_lackLeast_7 : decode cX0_lackLeast 7 = .ok (.aload_n 0, 1) := by decide +kernel
theorem dX0_lackLeast_8 : decode cX0_lackLeast 8 = .ok (.iload_n 2, 1) := by decide +kernel
theorem dX0_lackLeast_9 : decode cX0_lackLeast 9 = .ok (.invokevirtual 61, 3) := by decide +kernel
theorem dX0_lackLeast_12 : decode cX0_lackLeast 12 = .ok (.ifCond .ne 5, 3) := by decide +kernel
theorem dX0_lackLeast_15 : decode cX0_lackLeast 15 = .ok (.iload_n 2, 1) := by decide +kernel
theorem dX0_lackLeast_16 : decode cX0_lackLeast 16 = .ok (.ireturn, 1) := by decide +kernel
theorem dX0_lackLeast_17 : decode cX0_lackLeast 17 = .ok (.iinc 2 1, 3) := by decide +kernel
theorem dX0_lackLeast_20 : decode cX0_lackLeast 20 = .ok (.goto (-18), 3) := by decide +kernel
theorem dX0_lackLeast_23 : decode cX0_lackLeast 23 = .ok (.iconst (-1), 1) := by decide +kernel
theorem dX0_lackLeast_24 : decode cX0_lackLeast 24 = .ok (.ireturn, 1) := by decide +kernel
theorem dX0_lackRow_0 : decode cX0_lackRow 0 = .ok (.iconst 0, 1) := by decide +kernel
theorem dX0_lackRow_1 : decode cX0_lackRow 1 = .ok (.istore_n 2, 1) := by decide +kernel
theorem dX0_lackRow_2 : decode cX0_lackRow 2 = .ok (.iconst 0, 1) := by decide +kernel
theorem dX0_lackRow_3 : decode cX0_lackRow 3 = .ok (.istore_n 3, 1) := by decide +kernel
theorem dX0_lackRow_4 : decode cX0_lackRow 4 = .ok (.iconst 0, 1) := by decide +kernel
theorem dX0_lackRow_5 : decode cX0_lackRow 5 = .ok (.istore 4, 2) := by decide +kernel
theorem dX0_lackRow_7 : decode cX0_lackRow 7 = .ok (.iload 4, 2) := by decide +kernel
theorem dX0_lackRow_9 : decode cX0_lackRow 9 = .ok (.iload_n 1, 1) := by decide +kernel
theorem dX0_lackRow_10 : decode cX0_lackRow 10 = .ok (.if_icmp .gt 32, 3) := by decide +kernel
theorem dX0_lackRow_13 : decode cX0_lackRow 13 = .ok (.aload_n 0, 1) := by decide +kernel
theorem dX0_lackRow_14 : decode cX0_lackRow 14 = .ok (.iload 4, 2) := by decide +kernel
theorem dX0_lackRow_16 : decode cX0_lackRow 16 = .ok (.invokevirtual 61, 3) := by decide +kernel
theorem dX0_lackRow_19 : decode cX0_lackRow 19 = .ok (.ifCond .eq 7, 3) := by decide +kernel
theorem dX0_lackRow_22 : decode cX0_lackRow 22 = .ok (.iconst 0, 1) := by decide +kernel
theorem dX0_lackRow_23 : decode cX0_lackRow 23 = .ok (.goto 6, 3) := by decide +kernel
theorem dX0_lackRow_26 : decode cX0_lackRow 26 = .ok (.iload_n 3, 1) := by decide +kernel
theorem dX0_lackRow_27 : decode cX0_lackRow 27 = .ok (.iconst 1, 1) := by decide +kernel
theorem dX0_lackRow_28 : decode cX0_lackRow 28 = .ok (.iadd, 1) := by decide +kernel
theorem dX0_lackRow_29 : decode cX0_lackRow 29 = .ok (.istore_n 3, 1) := by decide +kernel
theorem dX0_lackRow_30 : decode cX0_lackRow 30 = .ok (.iload_n 2, 1) := by decide +kernel
theorem dX0_lackRow_31 : decode cX0_lackRow 31 = .ok (.iload_n 3, 1) := by decide +kernel
theorem dX0_lackRow_32 : decode cX0_lackRow 32 = .ok (.invokestatic 29, 3) := by decide +kernel
theorem dX0_lackRow_35 : decode cX0_lackRow 35 = .ok (.istore_n 2, 1) := by decide +kernel
theorem dX0_lackRow_36 : decode cX0_lackRow 36 = .ok (.iinc 4 1, 3) := by decide +kernel
theorem dX0_lackRow_39 : decode cX0_lackRow 39 = .ok (.goto (-32), 3) := by decide +kernel
theorem dX0_lackRow_42 : decode cX0_lackRow 42 = .ok (.iload_n 2, 1) := by decide +kernel
theorem dX0_lackRow_43 : decode cX0_lackRow 43 = .ok (.ireturn, 1) := by decide +kernel
theorem dX0_madeFrom_0 : decode cX0_madeFrom 0 = .ok (.iconst 1, 1) := by decide +kernel
theorem dX0_madeFrom_1 : decode cX0_madeFrom 1 = .ok (.istore_n 2, 1) := by decide +kernel
theorem dX0_madeFrom_2 : decode cX0_madeFrom 2 = .ok (.iload_n 2, 1) := by decide +kernel
theorem dX0_madeFrom_3 : decode cX0_madeFrom 3 = .ok (.sipush 1000, 3) := by decide +kernel
theorem dX0_madeFrom_6 : decode cX0_madeFrom 6 = .ok (.if_icmp .gt 36, 3) := by decide +kernel
theorem dX0_madeFrom_9 : decode cX0_madeFrom 9 = .ok (.aload_n 0, 1) := by decide +kernel
theorem dX0_madeFrom_10 : decode cX0_madeFrom 10 = .ok (.getfield 15, 3) := by decide +kernel
theorem dX0_madeFrom_13 : decode cX0_madeFrom 13 = .ok (.iload_n 2, 1) := by decide +kernel
theorem dX0_madeFrom_14 : decode cX0_madeFrom 14 = .ok (.aload_n 0, 1) := by decide +kernel
theorem dX0_madeFrom_15 : decode cX0_madeFrom 15 = .ok (.iload_n 2, 1) := by decide +kernel
theorem dX0_madeFrom_16 : decode cX0_madeFrom 16 = .ok (.invokevirtual 70, 3) := by decide +kernel
theorem dX0_madeFrom_19 : decode cX0_madeFrom 19 = .ok (.bastore, 1) := by decide +kernel
theorem dX0_madeFrom_20 : decode cX0_madeFrom 20 = .ok (.iload_n 2, 1) := by decide +kernel
theorem dX0_madeFrom_21 : decode cX0_madeFrom 21 = .ok (.iload_n 1, 1) := by decide +kernel
theorem dX0_madeFrom_22 : decode cX0_madeFrom 22 = .ok (.if_icmp .lt 14, 3) := by decide +kernel
theorem dX0_madeFrom_25 : decode cX0_madeFrom 25 = .ok (.aload_n 0, 1) := by decide +kernel
theorem dX0_madeFrom_26 : decode cX0_madeFrom 26 = .ok (.getfield 15, 3) := by decide +kernel
theorem dX0_madeFrom_29 : decode cX0_madeFrom 29 = .ok (.iload_n 2, 1) := by decide +kernel
theorem dX0_madeFrom_30 : decode cX0_madeFrom 30 = .ok (.baload, 1) := by decide +kernel
theorem dX0_madeFrom_31 : decode cX0_madeFrom 31 = .ok (.ifCond .eq 5, 3) := by decide +kernel
theorem dX0_madeFrom_34 : decode cX0_madeFrom 34 = .ok (.iload_n 2, 1) := by decide +kernel
theorem dX0_madeFrom_35 : decode cX0_madeFrom 35 = .ok (.ireturn, 1) := by decide +kernel
theorem dX0_madeFrom_36 : decode cX0_madeFrom 36 = .ok (.iinc 2 1, 3) := by decide +kernel
theorem dX0_madeFrom_39 : decode cX0_madeFrom 39 = .ok (.goto (-37), 3) := by decide +kernel
theorem dX0_madeFrom_42 : decode cX0_madeFrom 42 = .ok (.iconst (-1), 1) := by decide +kernel
theorem dX0_madeFrom_43 : decode cX0_madeFrom 43 = .ok (.ireturn, 1) := by decide +kernel
theorem dX0_isMade_0 : decode cX0_isMade 0 = .ok (.iconst 0, 1) := by decide +kernel
theorem dX0_isMade_1 : decode cX0_isMade 1 = .ok (.istore_n 2, 1) := by decide +kernel
theorem dX0_isMade_2 : decode cX0_isMade 2 = .ok (.iload_n 2, 1) := by decide +kernel
theorem dX0_isMade_3 : decode cX0_isMade 3 = .ok (.aload_n 0, 1) := by decide +kernel
theorem dX0_isMade_4 : decode cX0_isMade 4 = .ok (.getfield 19, 3) := by decide +kernel
theorem dX0_isMade_7 : decode cX0_isMade 7 = .ok (.getfield 34, 3) := by decide +kernel
theorem dX0_isMade_10 : decode cX0_isMade 10 = .ok (.if_icmp .ge 51, 3) := by decide +kernel
theorem dX0_isMade_13 : decode cX0_isMade 13 = .ok (.iload_n 1, 1) := by decide +kernel
theorem dX0_isMade_14 : decode cX0_isMade 14 = .ok (.aload_n 0, 1) := by decide +kernel
theorem dX0_isMade_15 : decode cX0_isMade 15 = .ok (.getfield 19, 3) := by decide +kernel
theorem dX0_isMade_18 : decode cX0_isMade 18 = .ok (.getfield 48, 3) := by decide +kernel
theorem dX0_isMade_21 : decode cX0_isMade 21 = .ok (.iload_n 2, 1) := by decide +kernel
theorem dX0_isMade_22 : decode cX0_isMade 22 = .ok (.iaload, 1) := by decide +kernel
theorem dX0_isMade_23 : decode cX0_isMade 23 = .ok (.isub, 1) := by decide +kernel
theorem dX0_isMade_24 : decode cX0_isMade 24 = .ok (.istore_n 3, 1) := by decide +kernel
theorem dX0_isMade_25 : decode cX0_isMade 25 = .ok (.aload_n 0, 1) := by decide +kernel
theorem dX0_isMade_26 : decode cX0_isMade 26 = .ok (.getfield 19, 3) := by decide +kernel
theorem dX0_isMade_29 : decode cX0_isMade 29 = .ok (.iload_n 2, 1) := by decide +kernel
theorem dX0_isMade_30 : decode cX0_isMade 30 = .ok (.invokevirtual 40, 3) := by decide +kernel
theorem dX0_isMade_33 : decode cX0_isMade 33 = .ok (.ifCond .eq 22, 3) := by decide +kernel
theorem dX0_isMade_36 : decode cX0_isMade 36 = .ok (.iload_n 3, 1) := by decide +kernel
theorem dX0_isMade_37 : decode cX0_isMade 37 = .ok (.ifCond .lt 18, 3) := by decide +kernel
theorem dX0_isMade_40 : decode cX0_isMade 40 = .ok (.iload_n 3, 1) := by decide +kernel
theorem dX0_isMade_41 : decode cX0_isMade 41 = .ok (.ifCond .eq 12, 3) := by decide +kernel
theorem dX0_isMade_44 : decode cX0_isMade 44 = .ok (.aload_n 0, 1) := by decide +kernel
theorem dX0_isMade_45 : decode cX0_isMade 45 = .ok (.getfield 15, 3) := by decide +kernel
theorem dX0_isMade_48 : decode cX0_isMade 48 = .ok (.iload_n 3, 1) := by decide +kernel
theorem dX0_isMade_49 : decode cX0_isMade 49 = .ok (.baload, 1) := by decide +kernel
theorem dX0_isMade_50 : decode cX0_isMade 50 = .ok (.ifCond .eq 5, 3) := by decide +kernel
theorem dX0_isMade_53 : decode cX0_isMade 53 = .ok (.iconst 1, 1) := by decide +kernel
theorem dX0_isMade_54 : decode cX0_isMade 54 = .ok (.ireturn, 1) := by decide +kernel
theorem dX0_isMade_55 : decode cX0_isMade 55 = .ok (.iinc 2 1, 3) := by decide +kernel
theorem dX0_isMade_58 : decode cX0_isMade 58 = .ok (.goto (-56), 3) := by decide +kernel
theorem dX0_isMade_61 : decode cX0_isMade 61 = .ok (.iconst 0, 1) := by decide +kernel
theorem dX0_isMade_62 : decode cX0_isMade 62 = .ok (.ireturn, 1) := by decide +kernel
