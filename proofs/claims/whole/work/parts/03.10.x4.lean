theorem dX4_init_0 : decode cX4_init 0 = .ok (.aload_n 0, 1) := by decide +kernel
theorem dX4_init_1 : decode cX4_init 1 = .ok (.invokespecial 3, 3) := by decide +kernel
theorem dX4_init_4 : decode cX4_init 4 = .ok (.aload_n 0, 1) := by decide +kernel
theorem dX4_init_5 : decode cX4_init 5 = .ok (.sipush 400, 3) := by decide +kernel
theorem dX4_init_8 : decode cX4_init 8 = .ok (.newarray .byte, 2) := by decide +kernel
theorem dX4_init_10 : decode cX4_init 10 = .ok (.putfield 9, 3) := by decide +kernel
theorem dX4_init_13 : decode cX4_init 13 = .ok (.aload_n 0, 1) := by decide +kernel
theorem dX4_init_14 : decode cX4_init 14 = .ok (.iconst (-1), 1) := by decide +kernel
theorem dX4_init_15 : decode cX4_init 15 = .ok (.putfield 15, 3) := by decide +kernel
theorem dX4_init_18 : decode cX4_init 18 = .ok (.aload_n 0, 1) := by decide +kernel
theorem dX4_init_19 : decode cX4_init 19 = .ok (.new 19, 3) := by decide +kernel
theorem dX4_init_22 : decode cX4_init 22 = .ok (.dup, 1) := by decide +kernel
theorem dX4_init_23 : decode cX4_init 23 = .ok (.invokespecial 21, 3) := by decide +kernel
theorem dX4_init_26 : decode cX4_init 26 = .ok (.putfield 22, 3) := by decide +kernel
theorem dX4_init_29 : decode cX4_init 29 = .ok (.return_, 1) := by decide +kernel
theorem dX4_hasRoom_0 : decode cX4_hasRoom 0 = .ok (.aload_n 0, 1) := by decide +kernel
theorem dX4_hasRoom_1 : decode cX4_hasRoom 1 = .ok (.getfield 26, 3) := by decide +kernel
theorem dX4_hasRoom_4 : decode cX4_hasRoom 4 = .ok (.bipush 20, 2) := by decide +kernel
theorem dX4_hasRoom_6 : decode cX4_hasRoom 6 = .ok (.iadd, 1) := by decide +kernel
theorem dX4_hasRoom_7 : decode cX4_hasRoom 7 = .ok (.sipush 400, 3) := by decide +kernel
theorem dX4_hasRoom_10 : decode cX4_hasRoom 10 = .ok (.if_icmp .gt 7, 3) := by decide +kernel
theorem dX4_hasRoom_13 : decode cX4_hasRoom 13 = .ok (.iconst 1, 1) := by decide +kernel
theorem dX4_hasRoom_14 : decode cX4_hasRoom 14 = .ok (.goto 4, 3) := by decide +kernel
theorem dX4_hasRoom_17 : decode cX4_hasRoom 17 = .ok (.iconst 0, 1) := by decide +kernel
theorem dX4_hasRoom_18 : decode cX4_hasRoom 18 = .ok (.ireturn, 1) := by decide +kernel
theorem dX4_append_0 : decode cX4_append 0 = .ok (.bipush 24, 2) := by decide +kernel
theorem dX4_append_2 : decode cX4_append 2 = .ok (.istore_n 2, 1) := by decide +kernel
theorem dX4_append_3 : decode cX4_append 3 = .ok (.iload_n 2, 1) := by decide +kernel
theorem dX4_append_4 : decode cX4_append 4 = .ok (.ifCond .lt 42, 3) := by decide +kernel
theorem dX4_append_7 : decode cX4_append 7 = .ok (.aload_n 0, 1) := by decide +kernel
theorem dX4_append_8 : decode cX4_append 8 = .ok (.getfield 26, 3) := by decide +kernel
theorem dX4_append_11 : decode cX4_append 11 = .ok (.sipush 400, 3) := by decide +kernel
theorem dX4_append_14 : decode cX4_append 14 = .ok (.if_icmp .ge 32, 3) := by decide +kernel
theorem dX4_append_17 : decode cX4_append 17 = .ok (.aload_n 0, 1) := by decide +kernel
theorem dX4_append_18 : decode cX4_append 18 = .ok (.getfield 9, 3) := by decide +kernel
theorem dX4_append_21 : decode cX4_append 21 = .ok (.aload_n 0, 1) := by decide +kernel
theorem dX4_append_22 : decode cX4_append 22 = .ok (.getfield 26, 3) := by decide +kernel
theorem dX4_append_25 : decode cX4_append 25 = .ok (.iload_n 1, 1) := by decide +kernel
theorem dX4_append_26 : decode cX4_append 26 = .ok (.iload_n 2, 1) := by decide +kernel
theorem dX4_append_27 : decode cX4_append 27 = .ok (.ishr, 1) := by decide +kernel
theorem dX4_append_28 : decode cX4_append 28 = .ok (.i2b, 1) := by decide +kernel
theorem dX4_append_29 : decode cX4_append 29 = .ok (.bastore, 1) := by decide +kernel
theorem dX4_append_30 : decode cX4_append 30 = .ok (.aload_n 0, 1) := by decide +kernel
theorem dX4_append_31 : decode cX4_append 31 = .ok (.dup, 1) := by decide +kernel
theorem dX4_append_32 : decode cX4_append 32 = .ok (.getfield 26, 3) := by decide +kernel
theorem dX4_append_35 : decode cX4_append 35 = .ok (.iconst 1, 1) := by decide +kernel
theorem dX4_append_36 : decode cX4_append 36 = .ok (.iadd, 1) := by decide +kernel
theorem dX4_append_37 : decode cX4_append 37 = .ok (.putfield 26, 3) := by decide +kernel
theorem dX4_append_40 : decode cX4_append 40 = .ok (.iinc 2 (-8), 3) := by decide +kernel
theorem dX4_append_43 : decode cX4_append 43 = .ok (.goto (-40), 3) := by decide +kernel
theorem dX4_append_46 : decode cX4_append 46 = .ok (.return_, 1) := by decide +kernel
theorem dX4_read_0 : decode cX4_read 0 = .ok (.aload_n 0, 1) := by decide +kernel
theorem dX4_read_1 : decode cX4_read 1 = .ok (.iload_n 1, 1) := by decide +kernel
theorem dX4_read_2 : decode cX4_read 2 = .ok (.aload_n 0, 1) := by decide +kernel
theorem dX4_read_3 : decode cX4_read 3 = .ok (.getfield 26, 3) := by decide +kernel
theorem dX4_read_6 : decode cX4_read 6 = .ok (.invokestatic 29, 3) := by decide +kernel
theorem dX4_read_9 : decode cX4_read 9 = .ok (.putfield 35, 3) := by decide +kernel
theorem dX4_read_12 : decode cX4_read 12 = .ok (.aload_n 0, 1) := by decide +kernel
theorem dX4_read_13 : decode cX4_read 13 = .ok (.iconst 0, 1) := by decide +kernel
theorem dX4_read_14 : decode cX4_read 14 = .ok (.putfield 26, 3) := by decide +kernel
theorem dX4_read_17 : decode cX4_read 17 = .ok (.aload_n 0, 1) := by decide +kernel
theorem dX4_read_18 : decode cX4_read 18 = .ok (.iconst 0, 1) := by decide +kernel
theorem dX4_read_19 : decode cX4_read 19 = .ok (.putfield 38, 3) := by decide +kernel
theorem dX4_read_22 : decode cX4_read 22 = .ok (.aload_n 0, 1) := by decide +kernel
theorem dX4_read_23 : decode cX4_read 23 = .ok (.iconst 0, 1) := by decide +kernel
theorem dX4_read_24 : decode cX4_read 24 = .ok (.putfield 41, 3) := by decide +kernel
theorem dX4_read_27 : decode cX4_read 27 = .ok (.aload_n 0, 1) := by decide +kernel
theorem dX4_read_28 : decode cX4_read 28 = .ok (.iconst (-1), 1) := by decide +kernel
theorem dX4_read_29 : decode cX4_read 29 = .ok (.putfield 15, 3) := by decide +kernel
theorem dX4_read_32 : decode cX4_read 32 = .ok (.aload_n 0, 1) := by decide +kernel
theorem dX4_read_33 : decode cX4_read 33 = .ok (.getfield 22, 3) := by decide +kernel
theorem dX4_read_36 : decode cX4_read 36 = .ok (.iconst 0, 1) := by decide +kernel
theorem dX4_read_37 : decode cX4_read 37 = .ok (.putfield 44, 3) := by decide +kernel
theorem dX4_read_40 : decode cX4_read 40 = .ok (.aload_n 0, 1) := by decide +kernel
theorem dX4_read_41 : decode cX4_read 41 = .ok (.invokevirtual 47, 3) := by decide +kernel
theorem dX4_read_44 : decode cX4_read 44 = .ok (.iconst 0, 1) := by decide +kernel
theorem dX4_read_45 : decode cX4_read 45 = .ok (.istore_n 2, 1) := by decide +kernel
theorem dX4_read_46 : decode cX4_read 46 = .ok (.iload_n 2, 1) := by decide +kernel
theorem dX4_read_47 : decode cX4_read 47 = .ok (.bipush 8, 2) := by decide +kernel
theorem dX4_read_49 : decode cX4_read 49 = .ok (.if_icmp .gt 25, 3) := by decide +kernel
theorem dX4_read_52 : decode cX4_read 52 = .ok (.aload_n 0, 1) := by decide +kernel
theorem dX4_read_53 : decode cX4_read 53 = .ok (.getfield 50, 3) := by decide +kernel
theorem dX4_read_56 : decode cX4_read 56 = .ok (.ifCond .eq 18, 3) := by decide +kernel
theorem dX4_read_59 : decode cX4_read 59 = .ok (.aload_n 0, 1) := by decide +kernel
theorem dX4_read_60 : decode cX4_read 60 = .ok (.invokevirtual 53, 3) := by decide +kernel
theorem dX4_read_63 : decode cX4_read 63 = .ok (.ifCond .ne 5, 3) := by decide +kernel
theorem dX4_read_66 : decode cX4_read 66 = .ok (.iconst 0, 1) := by decide +kernel
theorem dX4_read_67 : decode cX4_read 67 = .ok (.ireturn, 1) := by decide +kernel
theorem dX4_read_68 : decode cX4_read 68 = .ok (.iinc 2 1, 3) := by decide +kernel
theorem dX4_read_71 : decode cX4_read 71 = .ok (.goto (-25), 3) := by decide +kernel
theorem dX4_read_74 : decode cX4_read 74 = .ok (.iconst 1, 1) := by decide +kernel
theorem dX4_read_75 : decode cX4_read 75 = .ok (.ireturn, 1) := by decide +kernel
theorem dX4_readGate_0 : decode cX4_readGate 0 = .ok (.aload_n 0, 1) := by decide +kernel
theorem dX4_readGate_1 : decode cX4_readGate 1 = .ok (.ldc 57, 2) := by decide +kernel
theorem dX4_readGate_3 : decode cX4_readGate 3 = .ok (.invokevirtual 59, 3) := by decide +kernel
theorem dX4_readGate_6 : decode cX4_readGate 6 = .ok (.ifCond .ne 9, 3) := by decide +kernel
theorem dX4_readGate_9 : decode cX4_readGate 9 = .ok (.aload_n 0, 1) := by decide +kernel
theorem dX4_readGate_10 : decode cX4_readGate 10 = .ok (.iconst 2, 1) := by decide +kernel
theorem dX4_readGate_11 : decode cX4_readGate 11 = .ok (.invokevirtual 63, 3) := by decide +kernel
theorem dX4_readGate_14 : decode cX4_readGate 14 = .ok (.ireturn, 1) := by decide +kernel
theorem dX4_readGate_15 : decode cX4_readGate 15 = .ok (.aload_n 0, 1) := by decide +kernel
theorem dX4_readGate_16 : decode cX4_readGate 16 = .ok (.getfield 22, 3) := by decide +kernel
theorem dX4_readGate_19 : decode cX4_readGate 19 = .ok (.getfield 44, 3) := by decide +kernel
theorem dX4_readGate_22 : decode cX4_readGate 22 = .ok (.bipush 8, 2) := by decide +kernel
theorem dX4_readGate_24 : decode cX4_readGate 24 = .ok (.if_icmp .lt 9, 3) := by decide +kernel
theorem dX4_readGate_27 : decode cX4_readGate 27 = .ok (.aload_n 0, 1) := by decide +kernel
theorem dX4_readGate_28 : decode cX4_readGate 28 = .ok (.iconst 5, 1) := by decide +kernel
theorem dX4_readGate_29 : decode cX4_readGate 29 = .ok (.invokevirtual 63, 3) := by decide +kernel
theorem dX4_readGate_32 : decode cX4_readGate 32 = .ok (.ireturn, 1) := by decide +kernel
theorem dX4_readGate_33 : decode cX4_readGate 33 = .ok (.aload_n 0, 1) := by decide +kernel
theorem dX4_readGate_34 : decode cX4_readGate 34 = .ok (.getfield 22, 3) := by decide +kernel
theorem dX4_readGate_37 : decode cX4_readGate 37 = .ok (.getfield 44, 3) := by decide +kernel
theorem dX4_readGate_40 : decode cX4_readGate 40 = .ok (.istore_n 1, 1) := by decide +kernel
theorem dX4_readGate_41 : decode cX4_readGate 41 = .ok (.aload_n 0, 1) := by decide +kernel
theorem dX4_readGate_42 : decode cX4_readGate 42 = .ok (.invokevirtual 47, 3) := by decide +kernel
theorem dX4_readGate_45 : decode cX4_readGate 45 = .ok (.aload_n 0, 1) := by decide +kernel
theorem dX4_readGate_46 : decode cX4_readGate 46 = .ok (.iload_n 1, 1) := by decide +kernel
theorem dX4_readGate_47 : decode cX4_readGate 47 = .ok (.invokevirtual 67, 3) := by decide +kernel
theorem dX4_readGate_50 : decode cX4_readGate 50 = .ok (.ifCond .eq 11, 3) := by decide +kernel
theorem dX4_readGate_53 : decode cX4_readGate 53 = .ok (.aload_n 0, 1) := by decide +kernel
theorem dX4_readGate_54 : decode cX4_readGate 54 = .ok (.iload_n 1, 1) := by decide +kernel
theorem dX4_readGate_55 : decode cX4_readGate 55 = .ok (.invokevirtual 70, 3) := by decide +kernel
theorem dX4_readGate_58 : decode cX4_readGate 58 = .ok (.ifCond .ne 5, 3) := by decide +kernel
theorem dX4_readGate_61 : decode cX4_readGate 61 = .ok (.iconst 0, 1) := by decide +kernel
theorem dX4_readGate_62 : decode cX4_readGate 62 = .ok (.ireturn, 1) := by decide +kernel
theorem dX4_readGate_63 : decode cX4_readGate 63 = .ok (.aload_n 0, 1) := by decide +kernel
theorem dX4_readGate_64 : decode cX4_readGate 64 = .ok (.ldc 73, 2) := by decide +kernel
theorem dX4_readGate_66 : decode cX4_readGate 66 = .ok (.invokevirtual 75, 3) := by decide +kernel
theorem dX4_readGate_69 : decode cX4_readGate 69 = .ok (.ifCond .eq 18, 3) := by decide +kernel
theorem dX4_readGate_72 : decode cX4_readGate 72 = .ok (.aload_n 0, 1) := by decide +kernel
theorem dX4_readGate_73 : decode cX4_readGate 73 = .ok (.aload_n 0, 1) := by decide +kernel
theorem dX4_readGate_74 : decode cX4_readGate 74 = .ok (.getfield 22, 3) := by decide +kernel
theorem dX4_readGate_77 : decode cX4_readGate 77 = .ok (.getfield 78, 3) := by decide +kernel
theorem dX4_readGate_80 : decode cX4_readGate 80 = .ok (.iload_n 1, 1) := by decide +kernel
theorem dX4_readGate_81 : decode cX4_readGate 81 = .ok (.invokevirtual 81, 3) := by decide +kernel
theorem dX4_readGate_84 : decode cX4_readGate 84 = .ok (.ifCond .ne 5, 3) := by decide +kernel
theorem dX4_readGate_87 : decode cX4_readGate 87 = .ok (.iconst 0, 1) := by decide +kernel
theorem dX4_readGate_88 : decode cX4_readGate 88 = .ok (.ireturn, 1) := by decide +kernel
theorem dX4_readGate_89 : decode cX4_readGate 89 = .ok (.aload_n 0, 1) := by decide +kernel
theorem dX4_readGate_90 : decode cX4_readGate 90 = .ok (.ldc 85, 2) := by decide +kernel
theorem dX4_readGate_92 : decode cX4_readGate 92 = .ok (.invokevirtual 75, 3) := by decide +kernel
theorem dX4_readGate_95 : decode cX4_readGate 95 = .ok (.ifCond .eq 18, 3) := by decide +kernel
theorem dX4_readGate_98 : decode cX4_readGate 98 = .ok (.aload_n 0, 1) := by decide +kernel
theorem dX4_readGate_99 : decode cX4_readGate 99 = .ok (.aload_n 0, 1) := by decide +kernel
theorem dX4_readGate_100 : decode cX4_readGate 100 = .ok (.getfield 22, 3) := by decide +kernel
theorem dX4_readGate_103 : decode cX4_readGate 103 = .ok (.getfield 87, 3) := by decide +kernel
theorem dX4_readGate_106 : decode cX4_readGate 106 = .ok (.iload_n 1, 1) := by decide +kernel
theorem dX4_readGate_107 : decode cX4_readGate 107 = .ok (.invokevirtual 81, 3) := by decide +kernel
theorem dX4_readGate_110 : decode cX4_readGate 110 = .ok (.ifCond .ne 5, 3) := by decide +kernel
theorem dX4_readGate_113 : decode cX4_readGate 113 = .ok (.iconst 0, 1) := by decide +kernel
theorem dX4_readGate_114 : decode cX4_readGate 114 = .ok (.ireturn, 1) := by decide +kernel
theorem dX4_readGate_115 : decode cX4_readGate 115 = .ok (.aload_n 0, 1) := by decide +kernel
theorem dX4_readGate_116 : decode cX4_readGate 116 = .ok (.getfield 50, 3) := by decide +kernel
theorem dX4_readGate_119 : decode cX4_readGate 119 = .ok (.iconst 3, 1) := by decide +kernel
theorem dX4_readGate_120 : decode cX4_readGate 120 = .ok (.if_icmp .eq 9, 3) := by decide +kernel
theorem dX4_readGate_123 : decode cX4_readGate 123 = .ok (.aload_n 0, 1) := by decide +kernel
theorem dX4_readGate_124 : decode cX4_readGate 124 = .ok (.iconst 2, 1) := by decide +kernel
theorem dX4_readGate_125 : decode cX4_readGate 125 = .ok (.invokevirtual 63, 3) := by decide +kernel
theorem dX4_readGate_128 : decode cX4_readGate 128 = .ok (.ireturn, 1) := by decide +kernel
theorem dX4_readGate_129 : decode cX4_readGate 129 = .ok (.aload_n 0, 1) := by decide +kernel
theorem dX4_readGate_130 : decode cX4_readGate 130 = .ok (.getfield 22, 3) := by decide +kernel
theorem dX4_readGate_133 : decode cX4_readGate 133 = .ok (.dup, 1) := by decide +kernel
theorem dX4_readGate_134 : decode cX4_readGate 134 = .ok (.getfield 44, 3) := by decide +kernel
theorem dX4_readGate_137 : decode cX4_readGate 137 = .ok (.iconst 1, 1) := by decide +kernel
theorem dX4_readGate_138 : decode cX4_readGate 138 = .ok (.iadd, 1) := by decide +kernel
theorem dX4_readGate_139 : decode cX4_readGate 139 = .ok (.putfield 44, 3) := by decide +kernel
theorem dX4_readGate_142 : decode cX4_readGate 142 = .ok (.aload_n 0, 1) := by decide +kernel
theorem dX4_readGate_143 : decode cX4_readGate 143 = .ok (.invokevirtual 47, 3) := by decide +kernel
theorem dX4_readGate_146 : decode cX4_readGate 146 = .ok (.iconst 1, 1) := by decide +kernel
theorem dX4_readGate_147 : decode cX4_readGate 147 = .ok (.ireturn, 1) := by decide +kernel
theorem dX4_readMeasure_0 : decode cX4_readMeasure 0 = .ok (.aload_n 0, 1) := by decide +kernel
theorem dX4_readMeasure_1 : decode cX4_readMeasure 1 = .ok (.ldc 89, 2) := by decide +kernel
theorem dX4_readMeasure_3 : decode cX4_readMeasure 3 = .ok (.invokevirtual 59, 3) := by decide +kernel
theorem dX4_readMeasure_6 : decode cX4_readMeasure 6 = .ok (.ifCond .eq 16, 3) := by decide +kernel
theorem dX4_readMeasure_9 : decode cX4_readMeasure 9 = .ok (.aload_n 0, 1) := by decide +kernel
theorem dX4_readMeasure_10 : decode cX4_readMeasure 10 = .ok (.getfield 22, 3) := by decide +kernel
theorem dX4_readMeasure_13 : decode cX4_readMeasure 13 = .ok (.getfield 91, 3) := by decide +kernel
theorem dX4_readMeasure_16 : decode cX4_readMeasure 16 = .ok (.iload_n 1, 1) := by decide +kernel
theorem dX4_readMeasure_17 : decode cX4_readMeasure 17 = .ok (.iconst 0, 1) := by decide +kernel
theorem dX4_readMeasure_18 : decode cX4_readMeasure 18 = .ok (.iastore, 1) := by decide +kernel
theorem dX4_readMeasure_19 : decode cX4_readMeasure 19 = .ok (.goto 53, 3) := by decide +kernel
theorem dX4_readMeasure_22 : decode cX4_readMeasure 22 = .ok (.aload_n 0, 1) := by decide +kernel
theorem dX4_readMeasure_23 : decode cX4_readMeasure 23 = .ok (.ldc 94, 2) := by decide +kernel
theorem dX4_readMeasure_25 : decode cX4_readMeasure 25 = .ok (.invokevirtual 59, 3) := by decide +kernel
theorem dX4_readMeasure_28 : decode cX4_readMeasure 28 = .ok (.ifCond .eq 16, 3) := by decide +kernel
theorem dX4_readMeasure_31 : decode cX4_readMeasure 31 = .ok (.aload_n 0, 1) := by decide +kernel
theorem dX4_readMeasure_32 : decode cX4_readMeasure 32 = .ok (.getfield 22, 3) := by decide +kernel
theorem dX4_readMeasure_35 : decode cX4_readMeasure 35 = .ok (.getfield 91, 3) := by decide +kernel
theorem dX4_readMeasure_38 : decode cX4_readMeasure 38 = .ok (.iload_n 1, 1) := by decide +kernel
theorem dX4_readMeasure_39 : decode cX4_readMeasure 39 = .ok (.iconst 1, 1) := by decide +kernel
theorem dX4_readMeasure_40 : decode cX4_readMeasure 40 = .ok (.iastore, 1) := by decide +kernel
theorem dX4_readMeasure_41 : decode cX4_readMeasure 41 = .ok (.goto 31, 3) := by decide +kernel
theorem dX4_readMeasure_44 : decode cX4_readMeasure 44 = .ok (.aload_n 0, 1) := by decide +kernel
theorem dX4_readMeasure_45 : decode cX4_readMeasure 45 = .ok (.ldc 96, 2) := by decide +kernel
theorem dX4_readMeasure_47 : decode cX4_readMeasure 47 = .ok (.invokevirtual 59, 3) := by decide +kernel
theorem dX4_readMeasure_50 : decode cX4_readMeasure 50 = .ok (.ifCond .eq 16, 3) := by decide +kernel
theorem dX4_readMeasure_53 : decode cX4_readMeasure 53 = .ok (.aload_n 0, 1) := by decide +kernel
theorem dX4_readMeasure_54 : decode cX4_readMeasure 54 = .ok (.getfield 22, 3) := by decide +kernel
theorem dX4_readMeasure_57 : decode cX4_readMeasure 57 = .ok (.getfield 91, 3) := by decide +kernel
theorem dX4_readMeasure_60 : decode cX4_readMeasure 60 = .ok (.iload_n 1, 1) := by decide +kernel
theorem dX4_readMeasure_61 : decode cX4_readMeasure 61 = .ok (.iconst 2, 1) := by decide +kernel
theorem dX4_readMeasure_62 : decode cX4_readMeasure 62 = .ok (.iastore, 1) := by decide +kernel
theorem dX4_readMeasure_63 : decode cX4_readMeasure 63 = .ok (.goto 9, 3) := by decide +kernel
theorem dX4_readMeasure_66 : decode cX4_readMeasure 66 = .ok (.aload_n 0, 1) := by decide +kernel
theorem dX4_readMeasure_67 : decode cX4_readMeasure 67 = .ok (.iconst 2, 1) := by decide +kernel
theorem dX4_readMeasure_68 : decode cX4_readMeasure 68 = .ok (.invokevirtual 63, 3) := by decide +kernel
theorem dX4_readMeasure_71 : decode cX4_readMeasure 71 = .ok (.ireturn, 1) := by decide +kernel
theorem dX4_readMeasure_72 : decode cX4_readMeasure 72 = .ok (.aload_n 0, 1) := by decide +kernel
theorem dX4_readMeasure_73 : decode cX4_readMeasure 73 = .ok (.invokevirtual 47, 3) := by decide +kernel
theorem dX4_readMeasure_76 : decode cX4_readMeasure 76 = .ok (.iconst 1, 1) := by decide +kernel
theorem dX4_readMeasure_77 : decode cX4_readMeasure 77 = .ok (.ireturn, 1) := by decide +kernel
theorem dX4_readBounds_0 : decode cX4_readBounds 0 = .ok (.aload_n 0, 1) := by decide +kernel
theorem dX4_readBounds_1 : decode cX4_readBounds 1 = .ok (.getfield 50, 3) := by decide +kernel
theorem dX4_readBounds_4 : decode cX4_readBounds 4 = .ok (.iconst 2, 1) := by decide +kernel
theorem dX4_readBounds_5 : decode cX4_readBounds 5 = .ok (.if_icmp .eq 9, 3) := by decide +kernel
theorem dX4_readBounds_8 : decode cX4_readBounds 8 = .ok (.aload_n 0, 1) := by decide +kernel
theorem dX4_readBounds_9 : decode cX4_readBounds 9 = .ok (.iconst 2, 1) := by decide +kernel
theorem dX4_readBounds_10 : decode cX4_readBounds 10 = .ok (.invokevirtual 63, 3) := by decide +kernel
theorem dX4_readBounds_13 : decode cX4_readBounds 13 = .ok (.ireturn, 1) := by decide +kernel
theorem dX4_readBounds_14 : decode cX4_readBounds 14 = .ok (.aload_n 0, 1) := by decide +kernel
theorem dX4_readBounds_15 : decode cX4_readBounds 15 = .ok (.getfield 22, 3) := by decide +kernel
theorem dX4_readBounds_18 : decode cX4_readBounds 18 = .ok (.getfield 98, 3) := by decide +kernel
theorem dX4_readBounds_21 : decode cX4_readBounds 21 = .ok (.iload_n 1, 1) := by decide +kernel
theorem dX4_readBounds_22 : decode cX4_readBounds 22 = .ok (.aload_n 0, 1) := by decide +kernel
theorem dX4_readBounds_23 : decode cX4_readBounds 23 = .ok (.getfield 101, 3) := by decide +kernel
theorem dX4_readBounds_26 : decode cX4_readBounds 26 = .ok (.iastore, 1) := by decide +kernel
theorem dX4_readBounds_27 : decode cX4_readBounds 27 = .ok (.aload_n 0, 1) := by decide +kernel
theorem dX4_readBounds_28 : decode cX4_readBounds 28 = .ok (.invokevirtual 47, 3) := by decide +kernel
theorem dX4_readBounds_31 : decode cX4_readBounds 31 = .ok (.aload_n 0, 1) := by decide +kernel
theorem dX4_readBounds_32 : decode cX4_readBounds 32 = .ok (.getfield 50, 3) := by decide +kernel
theorem dX4_readBounds_35 : decode cX4_readBounds 35 = .ok (.iconst 2, 1) := by decide +kernel
theorem dX4_readBounds_36 : decode cX4_readBounds 36 = .ok (.if_icmp .eq 9, 3) := by decide +kernel
theorem dX4_readBounds_39 : decode cX4_readBounds 39 = .ok (.aload_n 0, 1) := by decide +kernel
theorem dX4_readBounds_40 : decode cX4_readBounds 40 = .ok (.iconst 2, 1) := by decide +kernel
theorem dX4_readBounds_41 : decode cX4_readBounds 41 = .ok (.invokevirtual 63, 3) := by decide +kernel
theorem dX4_readBounds_44 : decode cX4_readBounds 44 = .ok (.ireturn, 1) := by decide +kernel
theorem dX4_readBounds_45 : decode cX4_readBounds 45 = .ok (.aload_n 0, 1) := by decide +kernel
theorem dX4_readBounds_46 : decode cX4_readBounds 46 = .ok (.getfield 101, 3) := by decide +kernel
theorem dX4_readBounds_49 : decode cX4_readBounds 49 = .ok (.aload_n 0, 1) := by decide +kernel
theorem dX4_readBounds_50 : decode cX4_readBounds 50 = .ok (.getfield 22, 3) := by decide +kernel
theorem dX4_readBounds_53 : decode cX4_readBounds 53 = .ok (.getfield 98, 3) := by decide +kernel
theorem dX4_readBounds_56 : decode cX4_readBounds 56 = .ok (.iload_n 1, 1) := by decide +kernel
theorem dX4_readBounds_57 : decode cX4_readBounds 57 = .ok (.iaload, 1) := by decide +kernel
theorem dX4_readBounds_58 : decode cX4_readBounds 58 = .ok (.if_icmp .ge 9, 3) := by decide +kernel
theorem dX4_readBounds_61 : decode cX4_readBounds 61 = .ok (.aload_n 0, 1) := by decide +kernel
theorem dX4_readBounds_62 : decode cX4_readBounds 62 = .ok (.iconst 4, 1) := by decide +kernel
theorem dX4_readBounds_63 : decode cX4_readBounds 63 = .ok (.invokevirtual 63, 3) := by decide +kernel
theorem dX4_readBounds_66 : decode cX4_readBounds 66 = .ok (.ireturn, 1) := by decide +kernel
theorem dX4_readBounds_67 : decode cX4_readBounds 67 = .ok (.aload_n 0, 1) := by decide +kernel
theorem dX4_readBounds_68 : decode cX4_readBounds 68 = .ok (.getfield 22, 3) := by decide +kernel
theorem dX4_readBounds_71 : decode cX4_readBounds 71 = .ok (.getfield 104, 3) := by decide +kernel
theorem dX4_readBounds_74 : decode cX4_readBounds 74 = .ok (.iload_n 1, 1) := by decide +kernel
theorem dX4_readBounds_75 : decode cX4_readBounds 75 = .ok (.aload_n 0, 1) := by decide +kernel
theorem dX4_readBounds_76 : decode cX4_readBounds 76 = .ok (.getfield 101, 3) := by decide +kernel
theorem dX4_readBounds_79 : decode cX4_readBounds 79 = .ok (.iastore, 1) := by decide +kernel
theorem dX4_readBounds_80 : decode cX4_readBounds 80 = .ok (.aload_n 0, 1) := by decide +kernel
theorem dX4_readBounds_81 : decode cX4_readBounds 81 = .ok (.invokevirtual 47, 3) := by decide +kernel
theorem dX4_readBounds_84 : decode cX4_readBounds 84 = .ok (.iconst 1, 1) := by decide +kernel
theorem dX4_readBounds_85 : decode cX4_readBounds 85 = .ok (.ireturn, 1) := by decide +kernel
theorem dX4_readGoal_0 : decode cX4_readGoal 0 = .ok (.aload_n 0, 1) := by decide +kernel
theorem dX4_readGoal_1 : decode cX4_readGoal 1 = .ok (.ldc 107, 2) := by decide +kernel
theorem dX4_readGoal_3 : decode cX4_readGoal 3 = .ok (.invokevirtual 59, 3) := by decide +kernel
theorem dX4_readGoal_6 : decode cX4_readGoal 6 = .ok (.ifCond .eq 46, 3) := by decide +kernel
theorem dX4_readGoal_9 : decode cX4_readGoal 9 = .ok (.aload_n 0, 1) := by decide +kernel
theorem dX4_readGoal_10 : decode cX4_readGoal 10 = .ok (.invokevirtual 47, 3) := by decide +kernel
theorem dX4_readGoal_13 : decode cX4_readGoal 13 = .ok (.aload_n 0, 1) := by decide +kernel
theorem dX4_readGoal_14 : decode cX4_readGoal 14 = .ok (.getfield 50, 3) := by decide +kernel
theorem dX4_readGoal_17 : decode cX4_readGoal 17 = .ok (.iconst 2, 1) := by decide +kernel
theorem dX4_readGoal_18 : decode cX4_readGoal 18 = .ok (.if_icmp .eq 9, 3) := by decide +kernel
theorem dX4_readGoal_21 : decode cX4_readGoal 21 = .ok (.aload_n 0, 1) := by decide +kernel
theorem dX4_readGoal_22 : decode cX4_readGoal 22 = .ok (.iconst 2, 1) := by decide +kernel
theorem dX4_readGoal_23 : decode cX4_readGoal 23 = .ok (.invokevirtual 63, 3) := by decide +kernel
theorem dX4_readGoal_26 : decode cX4_readGoal 26 = .ok (.ireturn, 1) := by decide +kernel
theorem dX4_readGoal_27 : decode cX4_readGoal 27 = .ok (.aload_n 0, 1) := by decide +kernel
theorem dX4_readGoal_28 : decode cX4_readGoal 28 = .ok (.getfield 101, 3) := by decide +kernel
theorem dX4_readGoal_31 : decode cX4_readGoal 31 = .ok (.bipush 8, 2) := by decide +kernel
theorem dX4_readGoal_33 : decode cX4_readGoal 33 = .ok (.if_icmp .lt 9, 3) := by decide +kernel
theorem dX4_readGoal_36 : decode cX4_readGoal 36 = .ok (.aload_n 0, 1) := by decide +kernel
theorem dX4_readGoal_37 : decode cX4_readGoal 37 = .ok (.iconst 3, 1) := by decide +kernel
theorem dX4_readGoal_38 : decode cX4_readGoal 38 = .ok (.invokevirtual 63, 3) := by decide +kernel
theorem dX4_readGoal_41 : decode cX4_readGoal 41 = .ok (.ireturn, 1) := by decide +kernel
theorem dX4_readGoal_42 : decode cX4_readGoal 42 = .ok (.aload_n 1, 1) := by decide +kernel
theorem dX4_readGoal_43 : decode cX4_readGoal 43 = .ok (.iload_n 2, 1) := by decide +kernel
theorem dX4_readGoal_44 : decode cX4_readGoal 44 = .ok (.aload_n 0, 1) := by decide +kernel
theorem dX4_readGoal_45 : decode cX4_readGoal 45 = .ok (.getfield 101, 3) := by decide +kernel
theorem dX4_readGoal_48 : decode cX4_readGoal 48 = .ok (.iastore, 1) := by decide +kernel
theorem dX4_readGoal_49 : decode cX4_readGoal 49 = .ok (.goto 59, 3) := by decide +kernel
theorem dX4_readGoal_52 : decode cX4_readGoal 52 = .ok (.aload_n 0, 1) := by decide +kernel
theorem dX4_readGoal_53 : decode cX4_readGoal 53 = .ok (.ldc 109, 2) := by decide +kernel
theorem dX4_readGoal_55 : decode cX4_readGoal 55 = .ok (.invokevirtual 59, 3) := by decide +kernel
theorem dX4_readGoal_58 : decode cX4_readGoal 58 = .ok (.ifCond .eq 11, 3) := by decide +kernel
theorem dX4_readGoal_61 : decode cX4_readGoal 61 = .ok (.aload_n 1, 1) := by decide +kernel
theorem dX4_readGoal_62 : decode cX4_readGoal 62 = .ok (.iload_n 2, 1) := by decide +kernel
theorem dX4_readGoal_63 : decode cX4_readGoal 63 = .ok (.bipush (-2), 2) := by decide +kernel
theorem dX4_readGoal_65 : decode cX4_readGoal 65 = .ok (.iastore, 1) := by decide +kernel
theorem dX4_readGoal_66 : decode cX4_readGoal 66 = .ok (.goto 42, 3) := by decide +kernel
theorem dX4_readGoal_69 : decode cX4_readGoal 69 = .ok (.aload_n 0, 1) := by decide +kernel
theorem dX4_readGoal_70 : decode cX4_readGoal 70 = .ok (.ldc 111, 2) := by decide +kernel
theorem dX4_readGoal_72 : decode cX4_readGoal 72 = .ok (.invokevirtual 59, 3) := by decide +kernel
theorem dX4_readGoal_75 : decode cX4_readGoal 75 = .ok (.ifCond .eq 11, 3) := by decide +kernel
theorem dX4_readGoal_78 : decode cX4_readGoal 78 = .ok (.aload_n 1, 1) := by decide +kernel
theorem dX4_readGoal_79 : decode cX4_readGoal 79 = .ok (.iload_n 2, 1) := by decide +kernel
theorem dX4_readGoal_80 : decode cX4_readGoal 80 = .ok (.bipush (-3), 2) := by decide +kernel
theorem dX4_readGoal_82 : decode cX4_readGoal 82 = .ok (.iastore, 1) := by decide +kernel
theorem dX4_readGoal_83 : decode cX4_readGoal 83 = .ok (.goto 25, 3) := by decide +kernel
theorem dX4_readGoal_86 : decode cX4_readGoal 86 = .ok (.aload_n 0, 1) := by decide +kernel
theorem dX4_readGoal_87 : decode cX4_readGoal 87 = .ok (.ldc 113, 2) := by decide +kernel
theorem dX4_readGoal_89 : decode cX4_readGoal 89 = .ok (.invokevirtual 59, 3) := by decide +kernel
theorem dX4_readGoal_92 : decode cX4_readGoal 92 = .ok (.ifCond .eq 10, 3) := by decide +kernel
theorem dX4_readGoal_95 : decode cX4_readGoal 95 = .ok (.aload_n 1, 1) := by decide +kernel
theorem dX4_readGoal_96 : decode cX4_readGoal 96 = .ok (.iload_n 2, 1) := by decide +kernel
theorem dX4_readGoal_97 : decode cX4_readGoal 97 = .ok (.iconst (-1), 1) := by decide +kernel
theorem dX4_readGoal_98 : decode cX4_readGoal 98 = .ok (.iastore, 1) := by decide +kernel
theorem dX4_readGoal_99 : decode cX4_readGoal 99 = .ok (.goto 9, 3) := by decide +kernel
theorem dX4_readGoal_102 : decode cX4_readGoal 102 = .ok (.aload_n 0, 1) := by decide +kernel
theorem dX4_readGoal_103 : decode cX4_readGoal 103 = .ok (.iconst 2, 1) := by decide +kernel
theorem dX4_readGoal_104 : decode cX4_readGoal 104 = .ok (.invokevirtual 63, 3) := by decide +kernel
theorem dX4_readGoal_107 : decode cX4_readGoal 107 = .ok (.ireturn, 1) := by decide +kernel
theorem dX4_readGoal_108 : decode cX4_readGoal 108 = .ok (.aload_n 0, 1) := by decide +kernel
theorem dX4_readGoal_109 : decode cX4_readGoal 109 = .ok (.invokevirtual 47, 3) := by decide +kernel
theorem dX4_readGoal_112 : decode cX4_readGoal 112 = .ok (.iconst 1, 1) := by decide +kernel
theorem dX4_readGoal_113 : decode cX4_readGoal 113 = .ok (.ireturn, 1) := by decide +kernel
theorem dX4_passWord_0 : decode cX4_passWord 0 = .ok (.aload_n 0, 1) := by decide +kernel
theorem dX4_passWord_1 : decode cX4_passWord 1 = .ok (.aload_n 1, 1) := by decide +kernel
theorem dX4_passWord_2 : decode cX4_passWord 2 = .ok (.invokevirtual 59, 3) := by decide +kernel
theorem dX4_passWord_5 : decode cX4_passWord 5 = .ok (.ifCond .ne 9, 3) := by decide +kernel
theorem dX4_passWord_8 : decode cX4_passWord 8 = .ok (.aload_n 0, 1) := by decide +kernel
theorem dX4_passWord_9 : decode cX4_passWord 9 = .ok (.iconst 2, 1) := by decide +kernel
theorem dX4_passWord_10 : decode cX4_passWord 10 = .ok (.invokevirtual 63, 3) := by decide +kernel
theorem dX4_passWord_13 : decode cX4_passWord 13 = .ok (.ireturn, 1) := by decide +kernel
theorem dX4_passWord_14 : decode cX4_passWord 14 = .ok (.aload_n 0, 1) := by decide +kernel
theorem dX4_passWord_15 : decode cX4_passWord 15 = .ok (.invokevirtual 47, 3) := by decide +kernel
theorem dX4_passWord_18 : decode cX4_passWord 18 = .ok (.iconst 1, 1) := by decide +kernel
theorem dX4_passWord_19 : decode cX4_passWord 19 = .ok (.ireturn, 1) := by decide +kernel
theorem dX4_blame_0 : decode cX4_blame 0 = .ok (.aload_n 0, 1) := by decide +kernel
theorem dX4_blame_1 : decode cX4_blame 1 = .ok (.aload_n 0, 1) := by decide +kernel
theorem dX4_blame_2 : decode cX4_blame 2 = .ok (.getfield 50, 3) := by decide +kernel
theorem dX4_blame_5 : decode cX4_blame 5 = .ok (.iconst 4, 1) := by decide +kernel
theorem dX4_blame_6 : decode cX4_blame 6 = .ok (.if_icmp .ne 7, 3) := by decide +kernel
theorem dX4_blame_9 : decode cX4_blame 9 = .ok (.iconst 1, 1) := by decide +kernel
theorem dX4_blame_10 : decode cX4_blame 10 = .ok (.goto 4, 3) := by decide +kernel
theorem dX4_blame_13 : decode cX4_blame 13 = .ok (.iload_n 1, 1) := by decide +kernel
theorem dX4_blame_14 : decode cX4_blame 14 = .ok (.putfield 41, 3) := by decide +kernel
theorem dX4_blame_17 : decode cX4_blame 17 = .ok (.aload_n 0, 1) := by decide +kernel
theorem dX4_blame_18 : decode cX4_blame 18 = .ok (.aload_n 0, 1) := by decide +kernel
theorem dX4_blame_19 : decode cX4_blame 19 = .ok (.getfield 115, 3) := by decide +kernel
theorem dX4_blame_22 : decode cX4_blame 22 = .ok (.putfield 15, 3) := by decide +kernel
theorem dX4_blame_25 : decode cX4_blame 25 = .ok (.iconst 0, 1) := by decide +kernel
theorem dX4_blame_26 : decode cX4_blame 26 = .ok (.ireturn, 1) := by decide +kernel
theorem dX4_isWord_0 : decode cX4_isWord 0 = .ok (.aload_n 0, 1) := by decide +kernel
theorem dX4_isWord_1 : decode cX4_isWord 1 = .ok (.getfield 50, 3) := by decide +kernel
theorem dX4_isWord_4 : decode cX4_isWord 4 = .ok (.iconst 1, 1) := by decide +kernel
theorem dX4_isWord_5 : decode cX4_isWord 5 = .ok (.if_icmp .ne 19, 3) := by decide +kernel
theorem dX4_isWord_8 : decode cX4_isWord 8 = .ok (.aload_n 0, 1) := by decide +kernel
theorem dX4_isWord_9 : decode cX4_isWord 9 = .ok (.getfield 38, 3) := by decide +kernel
theorem dX4_isWord_12 : decode cX4_isWord 12 = .ok (.aload_n 0, 1) := by decide +kernel
theorem dX4_isWord_13 : decode cX4_isWord 13 = .ok (.getfield 115, 3) := by decide +kernel
theorem dX4_isWord_16 : decode cX4_isWord 16 = .ok (.isub, 1) := by decide +kernel
theorem dX4_isWord_17 : decode cX4_isWord 17 = .ok (.aload_n 1, 1) := by decide +kernel
theorem dX4_isWord_18 : decode cX4_isWord 18 = .ok (.invokevirtual 118, 3) := by decide +kernel
theorem dX4_isWord_21 : decode cX4_isWord 21 = .ok (.if_icmp .eq 5, 3) := by decide +kernel
theorem dX4_isWord_24 : decode cX4_isWord 24 = .ok (.iconst 0, 1) := by decide +kernel
theorem dX4_isWord_25 : decode cX4_isWord 25 = .ok (.ireturn, 1) := by decide +kernel
theorem dX4_isWord_26 : decode cX4_isWord 26 = .ok (.iconst 0, 1) := by decide +kernel
theorem dX4_isWord_27 : decode cX4_isWord 27 = .ok (.istore_n 2, 1) := by decide +kernel
theorem dX4_isWord_28 : decode cX4_isWord 28 = .ok (.iload_n 2, 1) := by decide +kernel
theorem dX4_isWord_29 : decode cX4_isWord 29 = .ok (.aload_n 1, 1) := by decide +kernel
theorem dX4_isWord_30 : decode cX4_isWord 30 = .ok (.invokevirtual 118, 3) := by decide +kernel
theorem dX4_isWord_33 : decode cX4_isWord 33 = .ok (.if_icmp .ge 30, 3) := by decide +kernel
theorem dX4_isWord_36 : decode cX4_isWord 36 = .ok (.aload_n 0, 1) := by decide +kernel
theorem dX4_isWord_37 : decode cX4_isWord 37 = .ok (.getfield 9, 3) := by decide +kernel
theorem dX4_isWord_40 : decode cX4_isWord 40 = .ok (.aload_n 0, 1) := by decide +kernel
theorem dX4_isWord_41 : decode cX4_isWord 41 = .ok (.getfield 115, 3) := by decide +kernel
theorem dX4_isWord_44 : decode cX4_isWord 44 = .ok (.iload_n 2, 1) := by decide +kernel
theorem dX4_isWord_45 : decode cX4_isWord 45 = .ok (.iadd, 1) := by decide +kernel
theorem dX4_isWord_46 : decode cX4_isWord 46 = .ok (.baload, 1) := by decide +kernel
theorem dX4_isWord_47 : decode cX4_isWord 47 = .ok (.aload_n 1, 1) := by decide +kernel
theorem dX4_isWord_48 : decode cX4_isWord 48 = .ok (.iload_n 2, 1) := by decide +kernel
theorem dX4_isWord_49 : decode cX4_isWord 49 = .ok (.invokevirtual 123, 3) := by decide +kernel
theorem dX4_isWord_52 : decode cX4_isWord 52 = .ok (.if_icmp .eq 5, 3) := by decide +kernel
theorem dX4_isWord_55 : decode cX4_isWord 55 = .ok (.iconst 0, 1) := by decide +kernel
theorem dX4_isWord_56 : decode cX4_isWord 56 = .ok (.ireturn, 1) := by decide +kernel
theorem dX4_isWord_57 : decode cX4_isWord 57 = .ok (.iinc 2 1, 3) := by decide +kernel
theorem dX4_isWord_60 : decode cX4_isWord 60 = .ok (.goto (-32), 3) := by decide +kernel
theorem dX4_isWord_63 : decode cX4_isWord 63 = .ok (.iconst 1, 1) := by decide +kernel
theorem dX4_isWord_64 : decode cX4_isWord 64 = .ok (.ireturn, 1) := by decide +kernel
theorem dX4_advance_0 : decode cX4_advance 0 = .ok (.aload_n 0, 1) := by decide +kernel
theorem dX4_advance_1 : decode cX4_advance 1 = .ok (.aload_n 0, 1) := by decide +kernel
theorem dX4_advance_2 : decode cX4_advance 2 = .ok (.getfield 38, 3) := by decide +kernel
theorem dX4_advance_5 : decode cX4_advance 5 = .ok (.putfield 115, 3) := by decide +kernel
theorem dX4_advance_8 : decode cX4_advance 8 = .ok (.aload_n 0, 1) := by decide +kernel
theorem dX4_advance_9 : decode cX4_advance 9 = .ok (.getfield 115, 3) := by decide +kernel
theorem dX4_advance_12 : decode cX4_advance 12 = .ok (.aload_n 0, 1) := by decide +kernel
theorem dX4_advance_13 : decode cX4_advance 13 = .ok (.getfield 35, 3) := by decide +kernel
theorem dX4_advance_16 : decode cX4_advance 16 = .ok (.if_icmp .ge 44, 3) := by decide +kernel
theorem dX4_advance_19 : decode cX4_advance 19 = .ok (.aload_n 0, 1) := by decide +kernel
theorem dX4_advance_20 : decode cX4_advance 20 = .ok (.getfield 9, 3) := by decide +kernel
theorem dX4_advance_23 : decode cX4_advance 23 = .ok (.aload_n 0, 1) := by decide +kernel
theorem dX4_advance_24 : decode cX4_advance 24 = .ok (.getfield 115, 3) := by decide +kernel
theorem dX4_advance_27 : decode cX4_advance 27 = .ok (.baload, 1) := by decide +kernel
theorem dX4_advance_28 : decode cX4_advance 28 = .ok (.bipush 10, 2) := by decide +kernel
theorem dX4_advance_30 : decode cX4_advance 30 = .ok (.if_icmp .eq 17, 3) := by decide +kernel
theorem dX4_advance_33 : decode cX4_advance 33 = .ok (.aload_n 0, 1) := by decide +kernel
theorem dX4_advance_34 : decode cX4_advance 34 = .ok (.getfield 9, 3) := by decide +kernel
theorem dX4_advance_37 : decode cX4_advance 37 = .ok (.aload_n 0, 1) := by decide +kernel
theorem dX4_advance_38 : decode cX4_advance 38 = .ok (.getfield 115, 3) := by decide +kernel
theorem dX4_advance_41 : decode cX4_advance 41 = .ok (.baload, 1) := by decide +kernel
theorem dX4_advance_42 : decode cX4_advance 42 = .ok (.bipush 32, 2) := by decide +kernel
theorem dX4_advance_44 : decode cX4_advance 44 = .ok (.if_icmp .ne 16, 3) := by decide +kernel
theorem dX4_advance_47 : decode cX4_advance 47 = .ok (.aload_n 0, 1) := by decide +kernel
theorem dX4_advance_48 : decode cX4_advance 48 = .ok (.dup, 1) := by decide +kernel
theorem dX4_advance_49 : decode cX4_advance 49 = .ok (.getfield 115, 3) := by decide +kernel
theorem dX4_advance_52 : decode cX4_advance 52 = .ok (.iconst 1, 1) := by decide +kernel
theorem dX4_advance_53 : decode cX4_advance 53 = .ok (.iadd, 1) := by decide +kernel
theorem dX4_advance_54 : decode cX4_advance 54 = .ok (.putfield 115, 3) := by decide +kernel
theorem dX4_advance_57 : decode cX4_advance 57 = .ok (.goto (-49), 3) := by decide +kernel
theorem dX4_advance_60 : decode cX4_advance 60 = .ok (.aload_n 0, 1) := by decide +kernel
theorem dX4_advance_61 : decode cX4_advance 61 = .ok (.aload_n 0, 1) := by decide +kernel
theorem dX4_advance_62 : decode cX4_advance 62 = .ok (.getfield 115, 3) := by decide +kernel
theorem dX4_advance_65 : decode cX4_advance 65 = .ok (.putfield 38, 3) := by decide +kernel
theorem dX4_advance_68 : decode cX4_advance 68 = .ok (.aload_n 0, 1) := by decide +kernel
theorem dX4_advance_69 : decode cX4_advance 69 = .ok (.getfield 115, 3) := by decide +kernel
theorem dX4_advance_72 : decode cX4_advance 72 = .ok (.aload_n 0, 1) := by decide +kernel
theorem dX4_advance_73 : decode cX4_advance 73 = .ok (.getfield 35, 3) := by decide +kernel
theorem dX4_advance_76 : decode cX4_advance 76 = .ok (.if_icmp .lt 11, 3) := by decide +kernel
theorem dX4_advance_79 : decode cX4_advance 79 = .ok (.aload_n 0, 1) := by decide +kernel
theorem dX4_advance_80 : decode cX4_advance 80 = .ok (.iconst 0, 1) := by decide +kernel
theorem dX4_advance_81 : decode cX4_advance 81 = .ok (.putfield 50, 3) := by decide +kernel
theorem dX4_advance_84 : decode cX4_advance 84 = .ok (.goto 105, 3) := by decide +kernel
theorem dX4_advance_87 : decode cX4_advance 87 = .ok (.aload_n 0, 1) := by decide +kernel
theorem dX4_advance_88 : decode cX4_advance 88 = .ok (.aload_n 0, 1) := by decide +kernel
theorem dX4_advance_89 : decode cX4_advance 89 = .ok (.getfield 115, 3) := by decide +kernel
theorem dX4_advance_92 : decode cX4_advance 92 = .ok (.invokevirtual 127, 3) := by decide +kernel
theorem dX4_advance_95 : decode cX4_advance 95 = .ok (.ifCond .eq 43, 3) := by decide +kernel
theorem dX4_advance_98 : decode cX4_advance 98 = .ok (.aload_n 0, 1) := by decide +kernel
theorem dX4_advance_99 : decode cX4_advance 99 = .ok (.iconst 1, 1) := by decide +kernel
theorem dX4_advance_100 : decode cX4_advance 100 = .ok (.putfield 50, 3) := by decide +kernel
theorem dX4_advance_103 : decode cX4_advance 103 = .ok (.aload_n 0, 1) := by decide +kernel
theorem dX4_advance_104 : decode cX4_advance 104 = .ok (.getfield 38, 3) := by decide +kernel
theorem dX4_advance_107 : decode cX4_advance 107 = .ok (.aload_n 0, 1) := by decide +kernel
theorem dX4_advance_108 : decode cX4_advance 108 = .ok (.getfield 35, 3) := by decide +kernel
theorem dX4_advance_111 : decode cX4_advance 111 = .ok (.if_icmp .ge 78, 3) := by decide +kernel
theorem dX4_advance_114 : decode cX4_advance 114 = .ok (.aload_n 0, 1) := by decide +kernel
theorem dX4_advance_115 : decode cX4_advance 115 = .ok (.aload_n 0, 1) := by decide +kernel
theorem dX4_advance_116 : decode cX4_advance 116 = .ok (.getfield 38, 3) := by decide +kernel
theorem dX4_advance_119 : decode cX4_advance 119 = .ok (.invokevirtual 127, 3) := by decide +kernel
theorem dX4_advance_122 : decode cX4_advance 122 = .ok (.ifCond .eq 67, 3) := by decide +kernel
theorem dX4_advance_125 : decode cX4_advance 125 = .ok (.aload_n 0, 1) := by decide +kernel
theorem dX4_advance_126 : decode cX4_advance 126 = .ok (.dup, 1) := by decide +kernel
theorem dX4_advance_127 : decode cX4_advance 127 = .ok (.getfield 38, 3) := by decide +kernel
theorem dX4_advance_130 : decode cX4_advance 130 = .ok (.iconst 1, 1) := by decide +kernel
theorem dX4_advance_131 : decode cX4_advance 131 = .ok (.iadd, 1) := by decide +kernel
theorem dX4_advance_132 : decode cX4_advance 132 = .ok (.putfield 38, 3) := by decide +kernel
theorem dX4_advance_135 : decode cX4_advance 135 = .ok (.goto (-32), 3) := by decide +kernel
theorem dX4_advance_138 : decode cX4_advance 138 = .ok (.aload_n 0, 1) := by decide +kernel
theorem dX4_advance_139 : decode cX4_advance 139 = .ok (.aload_n 0, 1) := by decide +kernel
theorem dX4_advance_140 : decode cX4_advance 140 = .ok (.getfield 115, 3) := by decide +kernel
theorem dX4_advance_143 : decode cX4_advance 143 = .ok (.invokevirtual 130, 3) := by decide +kernel
theorem dX4_advance_146 : decode cX4_advance 146 = .ok (.ifCond .eq 10, 3) := by decide +kernel
theorem dX4_advance_149 : decode cX4_advance 149 = .ok (.aload_n 0, 1) := by decide +kernel
theorem dX4_advance_150 : decode cX4_advance 150 = .ok (.invokevirtual 133, 3) := by decide +kernel
theorem dX4_advance_153 : decode cX4_advance 153 = .ok (.goto 36, 3) := by decide +kernel
theorem dX4_advance_156 : decode cX4_advance 156 = .ok (.aload_n 0, 1) := by decide +kernel
theorem dX4_advance_157 : decode cX4_advance 157 = .ok (.aload_n 0, 1) := by decide +kernel
theorem dX4_advance_158 : decode cX4_advance 158 = .ok (.getfield 9, 3) := by decide +kernel
theorem dX4_advance_161 : decode cX4_advance 161 = .ok (.aload_n 0, 1) := by decide +kernel
theorem dX4_advance_162 : decode cX4_advance 162 = .ok (.getfield 115, 3) := by decide +kernel
theorem dX4_advance_165 : decode cX4_advance 165 = .ok (.baload, 1) := by decide +kernel
theorem dX4_advance_166 : decode cX4_advance 166 = .ok (.bipush 59, 2) := by decide +kernel
theorem dX4_advance_168 : decode cX4_advance 168 = .ok (.if_icmp .ne 7, 3) := by decide +kernel
theorem dX4_advance_171 : decode cX4_advance 171 = .ok (.iconst 3, 1) := by decide +kernel
theorem dX4_advance_172 : decode cX4_advance 172 = .ok (.goto 4, 3) := by decide +kernel
theorem dX4_advance_175 : decode cX4_advance 175 = .ok (.iconst 4, 1) := by decide +kernel
theorem dX4_advance_176 : decode cX4_advance 176 = .ok (.putfield 50, 3) := by decide +kernel
theorem dX4_advance_179 : decode cX4_advance 179 = .ok (.aload_n 0, 1) := by decide +kernel
theorem dX4_advance_180 : decode cX4_advance 180 = .ok (.dup, 1) := by decide +kernel
theorem dX4_advance_181 : decode cX4_advance 181 = .ok (.getfield 38, 3) := by decide +kernel
theorem dX4_advance_184 : decode cX4_advance 184 = .ok (.iconst 1, 1) := by decide +kernel
theorem dX4_advance_185 : decode cX4_advance 185 = .ok (.iadd, 1) := by decide +kernel
theorem dX4_advance_186 : decode cX4_advance 186 = .ok (.putfield 38, 3) := by decide +kernel
theorem dX4_advance_189 : decode cX4_advance 189 = .ok (.return_, 1) := by decide +kernel
theorem dX4_readNumber_0 : decode cX4_readNumber 0 = .ok (.aload_n 0, 1) := by decide +kernel
theorem dX4_readNumber_1 : decode cX4_readNumber 1 = .ok (.iconst 0, 1) := by decide +kernel
theorem dX4_readNumber_2 : decode cX4_readNumber 2 = .ok (.putfield 101, 3) := by decide +kernel
theorem dX4_readNumber_5 : decode cX4_readNumber 5 = .ok (.aload_n 0, 1) := by decide +kernel
theorem dX4_readNumber_6 : decode cX4_readNumber 6 = .ok (.getfield 38, 3) := by decide +kernel
theorem dX4_readNumber_9 : decode cX4_readNumber 9 = .ok (.aload_n 0, 1) := by decide +kernel
theorem dX4_readNumber_10 : decode cX4_readNumber 10 = .ok (.getfield 35, 3) := by decide +kernel
theorem dX4_readNumber_13 : decode cX4_readNumber 13 = .ok (.if_icmp .ge 55, 3) := by decide +kernel
theorem dX4_readNumber_16 : decode cX4_readNumber 16 = .ok (.aload_n 0, 1) := by decide +kernel
theorem dX4_readNumber_17 : decode cX4_readNumber 17 = .ok (.aload_n 0, 1) := by decide +kernel
theorem dX4_readNumber_18 : decode cX4_readNumber 18 = .ok (.getfield 38, 3) := by decide +kernel
theorem dX4_readNumber_21 : decode cX4_readNumber 21 = .ok (.invokevirtual 130, 3) := by decide +kernel
theorem dX4_readNumber_24 : decode cX4_readNumber 24 = .ok (.ifCond .eq 44, 3) := by decide +kernel
theorem dX4_readNumber_27 : decode cX4_readNumber 27 = .ok (.aload_n 0, 1) := by decide +kernel
theorem dX4_readNumber_28 : decode cX4_readNumber 28 = .ok (.aload_n 0, 1) := by decide +kernel
theorem dX4_readNumber_29 : decode cX4_readNumber 29 = .ok (.getfield 101, 3) := by decide +kernel
theorem dX4_readNumber_32 : decode cX4_readNumber 32 = .ok (.bipush 10, 2) := by decide +kernel
theorem dX4_readNumber_34 : decode cX4_readNumber 34 = .ok (.imul, 1) := by decide +kernel
theorem dX4_readNumber_35 : decode cX4_readNumber 35 = .ok (.sipush 1000, 3) := by decide +kernel
theorem dX4_readNumber_38 : decode cX4_readNumber 38 = .ok (.irem, 1) := by decide +kernel
theorem dX4_readNumber_39 : decode cX4_readNumber 39 = .ok (.aload_n 0, 1) := by decide +kernel
theorem dX4_readNumber_40 : decode cX4_readNumber 40 = .ok (.getfield 9, 3) := by decide +kernel
theorem dX4_readNumber_43 : decode cX4_readNumber 43 = .ok (.aload_n 0, 1) := by decide +kernel
theorem dX4_readNumber_44 : decode cX4_readNumber 44 = .ok (.getfield 38, 3) := by decide +kernel
theorem dX4_readNumber_47 : decode cX4_readNumber 47 = .ok (.baload, 1) := by decide +kernel
theorem dX4_readNumber_48 : decode cX4_readNumber 48 = .ok (.iadd, 1) := by decide +kernel
theorem dX4_readNumber_49 : decode cX4_readNumber 49 = .ok (.bipush 48, 2) := by decide +kernel
theorem dX4_readNumber_51 : decode cX4_readNumber 51 = .ok (.isub, 1) := by decide +kernel
theorem dX4_readNumber_52 : decode cX4_readNumber 52 = .ok (.putfield 101, 3) := by decide +kernel
theorem dX4_readNumber_55 : decode cX4_readNumber 55 = .ok (.aload_n 0, 1) := by decide +kernel
theorem dX4_readNumber_56 : decode cX4_readNumber 56 = .ok (.dup, 1) := by decide +kernel
theorem dX4_readNumber_57 : decode cX4_readNumber 57 = .ok (.getfield 38, 3) := by decide +kernel
theorem dX4_readNumber_60 : decode cX4_readNumber 60 = .ok (.iconst 1, 1) := by decide +kernel
theorem dX4_readNumber_61 : decode cX4_readNumber 61 = .ok (.iadd, 1) := by decide +kernel
theorem dX4_readNumber_62 : decode cX4_readNumber 62 = .ok (.putfield 38, 3) := by decide +kernel
theorem dX4_readNumber_65 : decode cX4_readNumber 65 = .ok (.goto (-60), 3) := by decide +kernel
theorem dX4_readNumber_68 : decode cX4_readNumber 68 = .ok (.aload_n 0, 1) := by decide +kernel
theorem dX4_readNumber_69 : decode cX4_readNumber 69 = .ok (.aload_n 0, 1) := by decide +kernel
theorem dX4_readNumber_70 : decode cX4_readNumber 70 = .ok (.getfield 38, 3) := by decide +kernel
theorem dX4_readNumber_73 : decode cX4_readNumber 73 = .ok (.aload_n 0, 1) := by decide +kernel
theorem dX4_readNumber_74 : decode cX4_readNumber 74 = .ok (.getfield 115, 3) := by decide +kernel
theorem dX4_readNumber_77 : decode cX4_readNumber 77 = .ok (.isub, 1) := by decide +kernel
theorem dX4_readNumber_78 : decode cX4_readNumber 78 = .ok (.iconst 2, 1) := by decide +kernel
theorem dX4_readNumber_79 : decode cX4_readNumber 79 = .ok (.if_icmp .le 7, 3) := by decide +kernel
theorem dX4_readNumber_82 : decode cX4_readNumber 82 = .ok (.iconst 4, 1) := by decide +kernel
theorem dX4_readNumber_83 : decode cX4_readNumber 83 = .ok (.goto 4, 3) := by decide +kernel
theorem dX4_readNumber_86 : decode cX4_readNumber 86 = .ok (.iconst 2, 1) := by decide +kernel
theorem dX4_readNumber_87 : decode cX4_readNumber 87 = .ok (.putfield 50, 3) := by decide +kernel
theorem dX4_readNumber_90 : decode cX4_readNumber 90 = .ok (.return_, 1) := by decide +kernel
theorem dX4_isLetter_0 : decode cX4_isLetter 0 = .ok (.aload_n 0, 1) := by decide +kernel
theorem dX4_isLetter_1 : decode cX4_isLetter 1 = .ok (.getfield 9, 3) := by decide +kernel
theorem dX4_isLetter_4 : decode cX4_isLetter 4 = .ok (.iload_n 1, 1) := by decide +kernel
theorem dX4_isLetter_5 : decode cX4_isLetter 5 = .ok (.baload, 1) := by decide +kernel
theorem dX4_isLetter_6 : decode cX4_isLetter 6 = .ok (.bipush 97, 2) := by decide +kernel
theorem dX4_isLetter_8 : decode cX4_isLetter 8 = .ok (.if_icmp .lt 18, 3) := by decide +kernel
theorem dX4_isLetter_11 : decode cX4_isLetter 11 = .ok (.aload_n 0, 1) := by decide +kernel
theorem dX4_isLetter_12 : decode cX4_isLetter 12 = .ok (.getfield 9, 3) := by decide +kernel
theorem dX4_isLetter_15 : decode cX4_isLetter 15 = .ok (.iload_n 1, 1) := by decide +kernel
theorem dX4_isLetter_16 : decode cX4_isLetter 16 = .ok (.baload, 1) := by decide +kernel
theorem dX4_isLetter_17 : decode cX4_isLetter 17 = .ok (.bipush 122, 2) := by decide +kernel
theorem dX4_isLetter_19 : decode cX4_isLetter 19 = .ok (.if_icmp .gt 7, 3) := by decide +kernel
theorem dX4_isLetter_22 : decode cX4_isLetter 22 = .ok (.iconst 1, 1) := by decide +kernel
theorem dX4_isLetter_23 : decode cX4_isLetter 23 = .ok (.goto 4, 3) := by decide +kernel
theorem dX4_isLetter_26 : decode cX4_isLetter 26 = .ok (.iconst 0, 1) := by decide +kernel
theorem dX4_isLetter_27 : decode cX4_isLetter 27 = .ok (.ireturn, 1) := by decide +kernel
theorem dX4_isDigit_0 : decode cX4_isDigit 0 = .ok (.aload_n 0, 1) := by decide +kernel
theorem dX4_isDigit_1 : decode cX4_isDigit 1 = .ok (.getfield 9, 3) := by decide +kernel
theorem dX4_isDigit_4 : decode cX4_isDigit 4 = .ok (.iload_n 1, 1) := by decide +kernel
theorem dX4_isDigit_5 : decode cX4_isDigit 5 = .ok (.baload, 1) := by decide +kernel
theorem dX4_isDigit_6 : decode cX4_isDigit 6 = .ok (.bipush 48, 2) := by decide +kernel
theorem dX4_isDigit_8 : decode cX4_isDigit 8 = .ok (.if_icmp .lt 18, 3) := by decide +kernel
theorem dX4_isDigit_11 : decode cX4_isDigit 11 = .ok (.aload_n 0, 1) := by decide +kernel
theorem dX4_isDigit_12 : decode cX4_isDigit 12 = .ok (.getfield 9, 3) := by decide +kernel
theorem dX4_isDigit_15 : decode cX4_isDigit 15 = .ok (.iload_n 1, 1) := by decide +kernel
theorem dX4_isDigit_16 : decode cX4_isDigit 16 = .ok (.baload, 1) := by decide +kernel
theorem dX4_isDigit_17 : decode cX4_isDigit 17 = .ok (.bipush 57, 2) := by decide +kernel
theorem dX4_isDigit_19 : decode cX4_isDigit 19 = .ok (.if_icmp .gt 7, 3) := by decide +kernel
theorem dX4_isDigit_22 : decode cX4_isDigit 22 = .ok (.iconst 1, 1) := by decide +kernel
theorem dX4_isDigit_23 : decode cX4_isDigit 23 = .ok (.goto 4, 3) := by decide +kernel
theorem dX4_isDigit_26 : decode cX4_isDigit 26 = .ok (.iconst 0, 1) := by decide +kernel
theorem dX4_isDigit_27 : decode cX4_isDigit 27 = .ok (.ireturn, 1) := by decide +kernel
