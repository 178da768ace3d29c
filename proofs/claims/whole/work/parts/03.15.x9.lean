theorem dX9_init_0 : decode cX9_init 0 = .ok (.aload_n 0, 1) := by decide +kernel
theorem dX9_init_1 : decode cX9_init 1 = .ok (.invokespecial 3, 3) := by decide +kernel
theorem dX9_init_4 : decode cX9_init 4 = .ok (.aload_n 0, 1) := by decide +kernel
theorem dX9_init_5 : decode cX9_init 5 = .ok (.sipush 160, 3) := by decide +kernel
theorem dX9_init_8 : decode cX9_init 8 = .ok (.newarray .int, 2) := by decide +kernel
theorem dX9_init_10 : decode cX9_init 10 = .ok (.putfield 9, 3) := by decide +kernel
theorem dX9_init_13 : decode cX9_init 13 = .ok (.aload_n 0, 1) := by decide +kernel
theorem dX9_init_14 : decode cX9_init 14 = .ok (.bipush 8, 2) := by decide +kernel
theorem dX9_init_16 : decode cX9_init 16 = .ok (.newarray .int, 2) := by decide +kernel
theorem dX9_init_18 : decode cX9_init 18 = .ok (.putfield 15, 3) := by decide +kernel
theorem dX9_init_21 : decode cX9_init 21 = .ok (.aload_n 0, 1) := by decide +kernel
theorem dX9_init_22 : decode cX9_init 22 = .ok (.bipush 8, 2) := by decide +kernel
theorem dX9_init_24 : decode cX9_init 24 = .ok (.newarray .int, 2) := by decide +kernel
theorem dX9_init_26 : decode cX9_init 26 = .ok (.putfield 18, 3) := by decide +kernel
theorem dX9_init_29 : decode cX9_init 29 = .ok (.aload_n 0, 1) := by decide +kernel
theorem dX9_init_30 : decode cX9_init 30 = .ok (.bipush 8, 2) := by decide +kernel
theorem dX9_init_32 : decode cX9_init 32 = .ok (.newarray .int, 2) := by decide +kernel
theorem dX9_init_34 : decode cX9_init 34 = .ok (.putfield 21, 3) := by decide +kernel
theorem dX9_init_37 : decode cX9_init 37 = .ok (.aload_n 0, 1) := by decide +kernel
theorem dX9_init_38 : decode cX9_init 38 = .ok (.bipush 8, 2) := by decide +kernel
theorem dX9_init_40 : decode cX9_init 40 = .ok (.newarray .int, 2) := by decide +kernel
theorem dX9_init_42 : decode cX9_init 42 = .ok (.putfield 24, 3) := by decide +kernel
theorem dX9_init_45 : decode cX9_init 45 = .ok (.aload_n 0, 1) := by decide +kernel
theorem dX9_init_46 : decode cX9_init 46 = .ok (.iconst 4, 1) := by decide +kernel
theorem dX9_init_47 : decode cX9_init 47 = .ok (.newarray .int, 2) := by decide +kernel
theorem dX9_init_49 : decode cX9_init 49 = .ok (.dup, 1) := by decide +kernel
theorem dX9_init_50 : decode cX9_init 50 = .ok (.iconst 0, 1) := by decide +kernel
theorem dX9_init_51 : decode cX9_init 51 = .ok (.iconst 1, 1) := by decide +kernel
theorem dX9_init_52 : decode cX9_init 52 = .ok (.iastore, 1) := by decide +kernel
theorem dX9_init_53 : decode cX9_init 53 = .ok (.dup, 1) := by decide +kernel
theorem dX9_init_54 : decode cX9_init 54 = .ok (.iconst 1, 1) := by decide +kernel
theorem dX9_init_55 : decode cX9_init 55 = .ok (.iconst 1, 1) := by decide +kernel
theorem dX9_init_56 : decode cX9_init 56 = .ok (.iastore, 1) := by decide +kernel
theorem dX9_init_57 : decode cX9_init 57 = .ok (.dup, 1) := by decide +kernel
theorem dX9_init_58 : decode cX9_init 58 = .ok (.iconst 2, 1) := by decide +kernel
theorem dX9_init_59 : decode cX9_init 59 = .ok (.iconst 1, 1) := by decide +kernel
theorem dX9_init_60 : decode cX9_init 60 = .ok (.iastore, 1) := by decide +kernel
theorem dX9_init_61 : decode cX9_init 61 = .ok (.dup, 1) := by decide +kernel
theorem dX9_init_62 : decode cX9_init 62 = .ok (.iconst 3, 1) := by decide +kernel
theorem dX9_init_63 : decode cX9_init 63 = .ok (.iconst 1, 1) := by decide +kernel
theorem dX9_init_64 : decode cX9_init 64 = .ok (.iastore, 1) := by decide +kernel
theorem dX9_init_65 : decode cX9_init 65 = .ok (.putfield 27, 3) := by decide +kernel
theorem dX9_init_68 : decode cX9_init 68 = .ok (.aload_n 0, 1) := by decide +kernel
theorem dX9_init_69 : decode cX9_init 69 = .ok (.bipush 12, 2) := by decide +kernel
theorem dX9_init_71 : decode cX9_init 71 = .ok (.newarray .int, 2) := by decide +kernel
theorem dX9_init_73 : decode cX9_init 73 = .ok (.putfield 30, 3) := by decide +kernel
theorem dX9_init_76 : decode cX9_init 76 = .ok (.aload_n 0, 1) := by decide +kernel
theorem dX9_init_77 : decode cX9_init 77 = .ok (.bipush 12, 2) := by decide +kernel
theorem dX9_init_79 : decode cX9_init 79 = .ok (.newarray .int, 2) := by decide +kernel
theorem dX9_init_81 : decode cX9_init 81 = .ok (.putfield 33, 3) := by decide +kernel
theorem dX9_init_84 : decode cX9_init 84 = .ok (.aload_n 0, 1) := by decide +kernel
theorem dX9_init_85 : decode cX9_init 85 = .ok (.bipush 12, 2) := by decide +kernel
theorem dX9_init_87 : decode cX9_init 87 = .ok (.newarray .int, 2) := by decide +kernel
theorem dX9_init_89 : decode cX9_init 89 = .ok (.putfield 36, 3) := by decide +kernel
theorem dX9_init_92 : decode cX9_init 92 = .ok (.aload_n 0, 1) := by decide +kernel
theorem dX9_init_93 : decode cX9_init 93 = .ok (.bipush 12, 2) := by decide +kernel
theorem dX9_init_95 : decode cX9_init 95 = .ok (.newarray .int, 2) := by decide +kernel
theorem dX9_init_97 : decode cX9_init 97 = .ok (.putfield 39, 3) := by decide +kernel
theorem dX9_init_100 : decode cX9_init 100 = .ok (.aload_n 0, 1) := by decide +kernel
theorem dX9_init_101 : decode cX9_init 101 = .ok (.sipush 160, 3) := by decide +kernel
theorem dX9_init_104 : decode cX9_init 104 = .ok (.newarray .int, 2) := by decide +kernel
theorem dX9_init_106 : decode cX9_init 106 = .ok (.putfield 42, 3) := by decide +kernel
theorem dX9_init_109 : decode cX9_init 109 = .ok (.return_, 1) := by decide +kernel
theorem dX9_hasRoom_0 : decode cX9_hasRoom 0 = .ok (.aload_n 0, 1) := by decide +kernel
theorem dX9_hasRoom_1 : decode cX9_hasRoom 1 = .ok (.getfield 15, 3) := by decide +kernel
theorem dX9_hasRoom_4 : decode cX9_hasRoom 4 = .ok (.iload_n 1, 1) := by decide +kernel
theorem dX9_hasRoom_5 : decode cX9_hasRoom 5 = .ok (.iaload, 1) := by decide +kernel
theorem dX9_hasRoom_6 : decode cX9_hasRoom 6 = .ok (.iload_n 2, 1) := by decide +kernel
theorem dX9_hasRoom_7 : decode cX9_hasRoom 7 = .ok (.iadd, 1) := by decide +kernel
theorem dX9_hasRoom_8 : decode cX9_hasRoom 8 = .ok (.bipush 20, 2) := by decide +kernel
theorem dX9_hasRoom_10 : decode cX9_hasRoom 10 = .ok (.if_icmp .gt 7, 3) := by decide +kernel
theorem dX9_hasRoom_13 : decode cX9_hasRoom 13 = .ok (.iconst 1, 1) := by decide +kernel
theorem dX9_hasRoom_14 : decode cX9_hasRoom 14 = .ok (.goto 4, 3) := by decide +kernel
theorem dX9_hasRoom_17 : decode cX9_hasRoom 17 = .ok (.iconst 0, 1) := by decide +kernel
theorem dX9_hasRoom_18 : decode cX9_hasRoom 18 = .ok (.ireturn, 1) := by decide +kernel
theorem dX9_loadOne_0 : decode cX9_loadOne 0 = .ok (.aload_n 0, 1) := by decide +kernel
theorem dX9_loadOne_1 : decode cX9_loadOne 1 = .ok (.iload_n 1, 1) := by decide +kernel
theorem dX9_loadOne_2 : decode cX9_loadOne 2 = .ok (.iload_n 2, 1) := by decide +kernel
theorem dX9_loadOne_3 : decode cX9_loadOne 3 = .ok (.invokevirtual 45, 3) := by decide +kernel
theorem dX9_loadOne_6 : decode cX9_loadOne 6 = .ok (.aload_n 0, 1) := by decide +kernel
theorem dX9_loadOne_7 : decode cX9_loadOne 7 = .ok (.getfield 21, 3) := by decide +kernel
theorem dX9_loadOne_10 : decode cX9_loadOne 10 = .ok (.iload_n 1, 1) := by decide +kernel
theorem dX9_loadOne_11 : decode cX9_loadOne 11 = .ok (.dup2, 1) := by decide +kernel
theorem dX9_loadOne_12 : decode cX9_loadOne 12 = .ok (.iaload, 1) := by decide +kernel
theorem dX9_loadOne_13 : decode cX9_loadOne 13 = .ok (.iconst 1, 1) := by decide +kernel
theorem dX9_loadOne_14 : decode cX9_loadOne 14 = .ok (.iadd, 1) := by decide +kernel
theorem dX9_loadOne_15 : decode cX9_loadOne 15 = .ok (.iastore, 1) := by decide +kernel
theorem dX9_loadOne_16 : decode cX9_loadOne 16 = .ok (.return_, 1) := by decide +kernel
theorem dX9_layOn_0 : decode cX9_layOn 0 = .ok (.aload_n 0, 1) := by decide +kernel
theorem dX9_layOn_1 : decode cX9_layOn 1 = .ok (.getfield 15, 3) := by decide +kernel
theorem dX9_layOn_4 : decode cX9_layOn 4 = .ok (.iload_n 1, 1) := by decide +kernel
theorem dX9_layOn_5 : decode cX9_layOn 5 = .ok (.iaload, 1) := by decide +kernel
theorem dX9_layOn_6 : decode cX9_layOn 6 = .ok (.bipush 20, 2) := by decide +kernel
theorem dX9_layOn_8 : decode cX9_layOn 8 = .ok (.if_icmp .lt 14, 3) := by decide +kernel
theorem dX9_layOn_11 : decode cX9_layOn 11 = .ok (.aload_n 0, 1) := by decide +kernel
theorem dX9_layOn_12 : decode cX9_layOn 12 = .ok (.getfield 18, 3) := by decide +kernel
theorem dX9_layOn_15 : decode cX9_layOn 15 = .ok (.iload_n 2, 1) := by decide +kernel
theorem dX9_layOn_16 : decode cX9_layOn 16 = .ok (.dup2, 1) := by decide +kernel
theorem dX9_layOn_17 : decode cX9_layOn 17 = .ok (.iaload, 1) := by decide +kernel
theorem dX9_layOn_18 : decode cX9_layOn 18 = .ok (.iconst 1, 1) := by decide +kernel
theorem dX9_layOn_19 : decode cX9_layOn 19 = .ok (.iadd, 1) := by decide +kernel
theorem dX9_layOn_20 : decode cX9_layOn 20 = .ok (.iastore, 1) := by decide +kernel
theorem dX9_layOn_21 : decode cX9_layOn 21 = .ok (.return_, 1) := by decide +kernel
theorem dX9_layOn_22 : decode cX9_layOn 22 = .ok (.aload_n 0, 1) := by decide +kernel
theorem dX9_layOn_23 : decode cX9_layOn 23 = .ok (.getfield 9, 3) := by decide +kernel
theorem dX9_layOn_26 : decode cX9_layOn 26 = .ok (.iload_n 1, 1) := by decide +kernel
theorem dX9_layOn_27 : decode cX9_layOn 27 = .ok (.bipush 20, 2) := by decide +kernel
theorem dX9_layOn_29 : decode cX9_layOn 29 = .ok (.imul, 1) := by decide +kernel
theorem dX9_layOn_30 : decode cX9_layOn 30 = .ok (.aload_n 0, 1) := by decide +kernel
theorem dX9_layOn_31 : decode cX9_layOn 31 = .ok (.getfield 15, 3) := by decide +kernel
theorem dX9_layOn_34 : decode cX9_layOn 34 = .ok (.iload_n 1, 1) := by decide +kernel
theorem dX9_layOn_35 : decode cX9_layOn 35 = .ok (.iaload, 1) := by decide +kernel
theorem dX9_layOn_36 : decode cX9_layOn 36 = .ok (.iadd, 1) := by decide +kernel
theorem dX9_layOn_37 : decode cX9_layOn 37 = .ok (.iload_n 2, 1) := by decide +kernel
theorem dX9_layOn_38 : decode cX9_layOn 38 = .ok (.iastore, 1) := by decide +kernel
theorem dX9_layOn_39 : decode cX9_layOn 39 = .ok (.aload_n 0, 1) := by decide +kernel
theorem dX9_layOn_40 : decode cX9_layOn 40 = .ok (.getfield 15, 3) := by decide +kernel
theorem dX9_layOn_43 : decode cX9_layOn 43 = .ok (.iload_n 1, 1) := by decide +kernel
theorem dX9_layOn_44 : decode cX9_layOn 44 = .ok (.dup2, 1) := by decide +kernel
theorem dX9_layOn_45 : decode cX9_layOn 45 = .ok (.iaload, 1) := by decide +kernel
theorem dX9_layOn_46 : decode cX9_layOn 46 = .ok (.iconst 1, 1) := by decide +kernel
theorem dX9_layOn_47 : decode cX9_layOn 47 = .ok (.iadd, 1) := by decide +kernel
theorem dX9_layOn_48 : decode cX9_layOn 48 = .ok (.iastore, 1) := by decide +kernel
theorem dX9_layOn_49 : decode cX9_layOn 49 = .ok (.return_, 1) := by decide +kernel
theorem dX9_top_0 : decode cX9_top 0 = .ok (.aload_n 0, 1) := by decide +kernel
theorem dX9_top_1 : decode cX9_top 1 = .ok (.getfield 15, 3) := by decide +kernel
theorem dX9_top_4 : decode cX9_top 4 = .ok (.iload_n 1, 1) := by decide +kernel
theorem dX9_top_5 : decode cX9_top 5 = .ok (.iaload, 1) := by decide +kernel
theorem dX9_top_6 : decode cX9_top 6 = .ok (.ifCond .ne 7, 3) := by decide +kernel
theorem dX9_top_9 : decode cX9_top 9 = .ok (.iconst (-1), 1) := by decide +kernel
theorem dX9_top_10 : decode cX9_top 10 = .ok (.goto 21, 3) := by decide +kernel
theorem dX9_top_13 : decode cX9_top 13 = .ok (.aload_n 0, 1) := by decide +kernel
theorem dX9_top_14 : decode cX9_top 14 = .ok (.getfield 9, 3) := by decide +kernel
theorem dX9_top_17 : decode cX9_top 17 = .ok (.iload_n 1, 1) := by decide +kernel
theorem dX9_top_18 : decode cX9_top 18 = .ok (.bipush 20, 2) := by decide +kernel
theorem dX9_top_20 : decode cX9_top 20 = .ok (.imul, 1) := by decide +kernel
theorem dX9_top_21 : decode cX9_top 21 = .ok (.aload_n 0, 1) := by decide +kernel
theorem dX9_top_22 : decode cX9_top 22 = .ok (.getfield 15, 3) := by decide +kernel
theorem dX9_top_25 : decode cX9_top 25 = .ok (.iload_n 1, 1) := by decide +kernel
theorem dX9_top_26 : decode cX9_top 26 = .ok (.iaload, 1) := by decide +kernel
theorem dX9_top_27 : decode cX9_top 27 = .ok (.iadd, 1) := by decide +kernel
theorem dX9_top_28 : decode cX9_top 28 = .ok (.iconst 1, 1) := by decide +kernel
theorem dX9_top_29 : decode cX9_top 29 = .ok (.isub, 1) := by decide +kernel
theorem dX9_top_30 : decode cX9_top 30 = .ok (.iaload, 1) := by decide +kernel
theorem dX9_top_31 : decode cX9_top 31 = .ok (.ireturn, 1) := by decide +kernel
theorem dX9_strangers_0 : decode cX9_strangers 0 = .ok (.aload_n 0, 1) := by decide +kernel
theorem dX9_strangers_1 : decode cX9_strangers 1 = .ok (.getfield 15, 3) := by decide +kernel
theorem dX9_strangers_4 : decode cX9_strangers 4 = .ok (.iload_n 1, 1) := by decide +kernel
theorem dX9_strangers_5 : decode cX9_strangers 5 = .ok (.iaload, 1) := by decide +kernel
theorem dX9_strangers_6 : decode cX9_strangers 6 = .ok (.aload_n 0, 1) := by decide +kernel
theorem dX9_strangers_7 : decode cX9_strangers 7 = .ok (.iload_n 1, 1) := by decide +kernel
theorem dX9_strangers_8 : decode cX9_strangers 8 = .ok (.iload_n 1, 1) := by decide +kernel
theorem dX9_strangers_9 : decode cX9_strangers 9 = .ok (.invokevirtual 49, 3) := by decide +kernel
theorem dX9_strangers_12 : decode cX9_strangers 12 = .ok (.isub, 1) := by decide +kernel
theorem dX9_strangers_13 : decode cX9_strangers 13 = .ok (.ireturn, 1) := by decide +kernel
theorem dX9_coinsIn_0 : decode cX9_coinsIn 0 = .ok (.iconst 0, 1) := by decide +kernel
theorem dX9_coinsIn_1 : decode cX9_coinsIn 1 = .ok (.istore_n 3, 1) := by decide +kernel
theorem dX9_coinsIn_2 : decode cX9_coinsIn 2 = .ok (.iconst 0, 1) := by decide +kernel
theorem dX9_coinsIn_3 : decode cX9_coinsIn 3 = .ok (.istore 4, 2) := by decide +kernel
theorem dX9_coinsIn_5 : decode cX9_coinsIn 5 = .ok (.iload 4, 2) := by decide +kernel
theorem dX9_coinsIn_7 : decode cX9_coinsIn 7 = .ok (.aload_n 0, 1) := by decide +kernel
theorem dX9_coinsIn_8 : decode cX9_coinsIn 8 = .ok (.getfield 15, 3) := by decide +kernel
theorem dX9_coinsIn_11 : decode cX9_coinsIn 11 = .ok (.iload_n 1, 1) := by decide +kernel
theorem dX9_coinsIn_12 : decode cX9_coinsIn 12 = .ok (.iaload, 1) := by decide +kernel
theorem dX9_coinsIn_13 : decode cX9_coinsIn 13 = .ok (.if_icmp .ge 28, 3) := by decide +kernel
theorem dX9_coinsIn_16 : decode cX9_coinsIn 16 = .ok (.aload_n 0, 1) := by decide +kernel
theorem dX9_coinsIn_17 : decode cX9_coinsIn 17 = .ok (.getfield 9, 3) := by decide +kernel
theorem dX9_coinsIn_20 : decode cX9_coinsIn 20 = .ok (.iload_n 1, 1) := by decide +kernel
theorem dX9_coinsIn_21 : decode cX9_coinsIn 21 = .ok (.bipush 20, 2) := by decide +kernel
theorem dX9_coinsIn_23 : decode cX9_coinsIn 23 = .ok (.imul, 1) := by decide +kernel
theorem dX9_coinsIn_24 : decode cX9_coinsIn 24 = .ok (.iload 4, 2) := by decide +kernel
theorem dX9_coinsIn_26 : decode cX9_coinsIn 26 = .ok (.iadd, 1) := by decide +kernel
theorem dX9_coinsIn_27 : decode cX9_coinsIn 27 = .ok (.iaload, 1) := by decide +kernel
theorem dX9_coinsIn_28 : decode cX9_coinsIn 28 = .ok (.iload_n 2, 1) := by decide +kernel
theorem dX9_coinsIn_29 : decode cX9_coinsIn 29 = .ok (.if_icmp .ne 6, 3) := by decide +kernel
theorem dX9_coinsIn_32 : decode cX9_coinsIn 32 = .ok (.iinc 3 1, 3) := by decide +kernel
theorem dX9_coinsIn_35 : decode cX9_coinsIn 35 = .ok (.iinc 4 1, 3) := by decide +kernel
theorem dX9_coinsIn_38 : decode cX9_coinsIn 38 = .ok (.goto (-33), 3) := by decide +kernel
theorem dX9_coinsIn_41 : decode cX9_coinsIn 41 = .ok (.iload_n 3, 1) := by decide +kernel
theorem dX9_coinsIn_42 : decode cX9_coinsIn 42 = .ok (.ireturn, 1) := by decide +kernel
theorem dX9_tubeToBag_0 : decode cX9_tubeToBag 0 = .ok (.iconst 0, 1) := by decide +kernel
theorem dX9_tubeToBag_1 : decode cX9_tubeToBag 1 = .ok (.istore_n 2, 1) := by decide +kernel
theorem dX9_tubeToBag_2 : decode cX9_tubeToBag 2 = .ok (.iload_n 2, 1) := by decide +kernel
theorem dX9_tubeToBag_3 : decode cX9_tubeToBag 3 = .ok (.aload_n 0, 1) := by decide +kernel
theorem dX9_tubeToBag_4 : decode cX9_tubeToBag 4 = .ok (.getfield 15, 3) := by decide +kernel
theorem dX9_tubeToBag_7 : decode cX9_tubeToBag 7 = .ok (.iload_n 1, 1) := by decide +kernel
theorem dX9_tubeToBag_8 : decode cX9_tubeToBag 8 = .ok (.iaload, 1) := by decide +kernel
theorem dX9_tubeToBag_9 : decode cX9_tubeToBag 9 = .ok (.if_icmp .ge 29, 3) := by decide +kernel
theorem dX9_tubeToBag_12 : decode cX9_tubeToBag 12 = .ok (.aload_n 0, 1) := by decide +kernel
theorem dX9_tubeToBag_13 : decode cX9_tubeToBag 13 = .ok (.getfield 18, 3) := by decide +kernel
theorem dX9_tubeToBag_16 : decode cX9_tubeToBag 16 = .ok (.aload_n 0, 1) := by decide +kernel
theorem dX9_tubeToBag_17 : decode cX9_tubeToBag 17 = .ok (.getfield 9, 3) := by decide +kernel
theorem dX9_tubeToBag_20 : decode cX9_tubeToBag 20 = .ok (.iload_n 1, 1) := by decide +kernel
theorem dX9_tubeToBag_21 : decode cX9_tubeToBag 21 = .ok (.bipush 20, 2) := by decide +kernel
theorem dX9_tubeToBag_23 : decode cX9_tubeToBag 23 = .ok (.imul, 1) := by decide +kernel
theorem dX9_tubeToBag_24 : decode cX9_tubeToBag 24 = .ok (.iload_n 2, 1) := by decide +kernel
theorem dX9_tubeToBag_25 : decode cX9_tubeToBag 25 = .ok (.iadd, 1) := by decide +kernel
theorem dX9_tubeToBag_26 : decode cX9_tubeToBag 26 = .ok (.iaload, 1) := by decide +kernel
theorem dX9_tubeToBag_27 : decode cX9_tubeToBag 27 = .ok (.dup2, 1) := by decide +kernel
theorem dX9_tubeToBag_28 : decode cX9_tubeToBag 28 = .ok (.iaload, 1) := by decide +kernel
theorem dX9_tubeToBag_29 : decode cX9_tubeToBag 29 = .ok (.iconst 1, 1) := by decide +kernel
theorem dX9_tubeToBag_30 : decode cX9_tubeToBag 30 = .ok (.iadd, 1) := by decide +kernel
theorem dX9_tubeToBag_31 : decode cX9_tubeToBag 31 = .ok (.iastore, 1) := by decide +kernel
theorem dX9_tubeToBag_32 : decode cX9_tubeToBag 32 = .ok (.iinc 2 1, 3) := by decide +kernel
theorem dX9_tubeToBag_35 : decode cX9_tubeToBag 35 = .ok (.goto (-33), 3) := by decide +kernel
theorem dX9_tubeToBag_38 : decode cX9_tubeToBag 38 = .ok (.aload_n 0, 1) := by decide +kernel
theorem dX9_tubeToBag_39 : decode cX9_tubeToBag 39 = .ok (.getfield 15, 3) := by decide +kernel
theorem dX9_tubeToBag_42 : decode cX9_tubeToBag 42 = .ok (.iload_n 1, 1) := by decide +kernel
theorem dX9_tubeToBag_43 : decode cX9_tubeToBag 43 = .ok (.iconst 0, 1) := by decide +kernel
theorem dX9_tubeToBag_44 : decode cX9_tubeToBag 44 = .ok (.iastore, 1) := by decide +kernel
theorem dX9_tubeToBag_45 : decode cX9_tubeToBag 45 = .ok (.return_, 1) := by decide +kernel
theorem dX9_slideIn_0 : decode cX9_slideIn 0 = .ok (.aload_n 0, 1) := by decide +kernel
theorem dX9_slideIn_1 : decode cX9_slideIn 1 = .ok (.getfield 30, 3) := by decide +kernel
theorem dX9_slideIn_4 : decode cX9_slideIn 4 = .ok (.aload_n 0, 1) := by decide +kernel
theorem dX9_slideIn_5 : decode cX9_slideIn 5 = .ok (.getfield 53, 3) := by decide +kernel
theorem dX9_slideIn_8 : decode cX9_slideIn 8 = .ok (.iload_n 1, 1) := by decide +kernel
theorem dX9_slideIn_9 : decode cX9_slideIn 9 = .ok (.iastore, 1) := by decide +kernel
theorem dX9_slideIn_10 : decode cX9_slideIn 10 = .ok (.aload_n 0, 1) := by decide +kernel
theorem dX9_slideIn_11 : decode cX9_slideIn 11 = .ok (.getfield 33, 3) := by decide +kernel
theorem dX9_slideIn_14 : decode cX9_slideIn 14 = .ok (.aload_n 0, 1) := by decide +kernel
theorem dX9_slideIn_15 : decode cX9_slideIn 15 = .ok (.getfield 53, 3) := by decide +kernel
theorem dX9_slideIn_18 : decode cX9_slideIn 18 = .ok (.iload_n 2, 1) := by decide +kernel
theorem dX9_slideIn_19 : decode cX9_slideIn 19 = .ok (.iastore, 1) := by decide +kernel
theorem dX9_slideIn_20 : decode cX9_slideIn 20 = .ok (.aload_n 0, 1) := by decide +kernel
theorem dX9_slideIn_21 : decode cX9_slideIn 21 = .ok (.getfield 36, 3) := by decide +kernel
theorem dX9_slideIn_24 : decode cX9_slideIn 24 = .ok (.aload_n 0, 1) := by decide +kernel
theorem dX9_slideIn_25 : decode cX9_slideIn 25 = .ok (.getfield 53, 3) := by decide +kernel
theorem dX9_slideIn_28 : decode cX9_slideIn 28 = .ok (.iload_n 3, 1) := by decide +kernel
theorem dX9_slideIn_29 : decode cX9_slideIn 29 = .ok (.iastore, 1) := by decide +kernel
theorem dX9_slideIn_30 : decode cX9_slideIn 30 = .ok (.aload_n 0, 1) := by decide +kernel
theorem dX9_slideIn_31 : decode cX9_slideIn 31 = .ok (.getfield 39, 3) := by decide +kernel
theorem dX9_slideIn_34 : decode cX9_slideIn 34 = .ok (.aload_n 0, 1) := by decide +kernel
theorem dX9_slideIn_35 : decode cX9_slideIn 35 = .ok (.getfield 53, 3) := by decide +kernel
theorem dX9_slideIn_38 : decode cX9_slideIn 38 = .ok (.iload 4, 2) := by decide +kernel
theorem dX9_slideIn_40 : decode cX9_slideIn 40 = .ok (.iastore, 1) := by decide +kernel
theorem dX9_slideIn_41 : decode cX9_slideIn 41 = .ok (.aload_n 0, 1) := by decide +kernel
theorem dX9_slideIn_42 : decode cX9_slideIn 42 = .ok (.dup, 1) := by decide +kernel
theorem dX9_slideIn_43 : decode cX9_slideIn 43 = .ok (.getfield 53, 3) := by decide +kernel
theorem dX9_slideIn_46 : decode cX9_slideIn 46 = .ok (.iconst 1, 1) := by decide +kernel
theorem dX9_slideIn_47 : decode cX9_slideIn 47 = .ok (.iadd, 1) := by decide +kernel
theorem dX9_slideIn_48 : decode cX9_slideIn 48 = .ok (.putfield 53, 3) := by decide +kernel
theorem dX9_slideIn_51 : decode cX9_slideIn 51 = .ok (.aload_n 0, 1) := by decide +kernel
theorem dX9_slideIn_52 : decode cX9_slideIn 52 = .ok (.getfield 24, 3) := by decide +kernel
theorem dX9_slideIn_55 : decode cX9_slideIn 55 = .ok (.iload_n 2, 1) := by decide +kernel
theorem dX9_slideIn_56 : decode cX9_slideIn 56 = .ok (.dup2, 1) := by decide +kernel
theorem dX9_slideIn_57 : decode cX9_slideIn 57 = .ok (.iaload, 1) := by decide +kernel
theorem dX9_slideIn_58 : decode cX9_slideIn 58 = .ok (.iload_n 3, 1) := by decide +kernel
theorem dX9_slideIn_59 : decode cX9_slideIn 59 = .ok (.iadd, 1) := by decide +kernel
theorem dX9_slideIn_60 : decode cX9_slideIn 60 = .ok (.iastore, 1) := by decide +kernel
theorem dX9_slideIn_61 : decode cX9_slideIn 61 = .ok (.return_, 1) := by decide +kernel
theorem dX9_allCredit_0 : decode cX9_allCredit 0 = .ok (.iconst 0, 1) := by decide +kernel
theorem dX9_allCredit_1 : decode cX9_allCredit 1 = .ok (.istore_n 1, 1) := by decide +kernel
theorem dX9_allCredit_2 : decode cX9_allCredit 2 = .ok (.iconst 0, 1) := by decide +kernel
theorem dX9_allCredit_3 : decode cX9_allCredit 3 = .ok (.istore_n 2, 1) := by decide +kernel
theorem dX9_allCredit_4 : decode cX9_allCredit 4 = .ok (.iload_n 2, 1) := by decide +kernel
theorem dX9_allCredit_5 : decode cX9_allCredit 5 = .ok (.aload_n 0, 1) := by decide +kernel
theorem dX9_allCredit_6 : decode cX9_allCredit 6 = .ok (.getfield 53, 3) := by decide +kernel
theorem dX9_allCredit_9 : decode cX9_allCredit 9 = .ok (.if_icmp .ge 18, 3) := by decide +kernel
theorem dX9_allCredit_12 : decode cX9_allCredit 12 = .ok (.iload_n 1, 1) := by decide +kernel
theorem dX9_allCredit_13 : decode cX9_allCredit 13 = .ok (.aload_n 0, 1) := by decide +kernel
theorem dX9_allCredit_14 : decode cX9_allCredit 14 = .ok (.getfield 39, 3) := by decide +kernel
theorem dX9_allCredit_17 : decode cX9_allCredit 17 = .ok (.iload_n 2, 1) := by decide +kernel
theorem dX9_allCredit_18 : decode cX9_allCredit 18 = .ok (.iaload, 1) := by decide +kernel
theorem dX9_allCredit_19 : decode cX9_allCredit 19 = .ok (.iadd, 1) := by decide +kernel
theorem dX9_allCredit_20 : decode cX9_allCredit 20 = .ok (.istore_n 1, 1) := by decide +kernel
theorem dX9_allCredit_21 : decode cX9_allCredit 21 = .ok (.iinc 2 1, 3) := by decide +kernel
theorem dX9_allCredit_24 : decode cX9_allCredit 24 = .ok (.goto (-20), 3) := by decide +kernel
theorem dX9_allCredit_27 : decode cX9_allCredit 27 = .ok (.iload_n 1, 1) := by decide +kernel
theorem dX9_allCredit_28 : decode cX9_allCredit 28 = .ok (.ireturn, 1) := by decide +kernel
theorem dX9_giveFrom_0 : decode cX9_giveFrom 0 = .ok (.iconst 0, 1) := by decide +kernel
theorem dX9_giveFrom_1 : decode cX9_giveFrom 1 = .ok (.istore_n 3, 1) := by decide +kernel
theorem dX9_giveFrom_2 : decode cX9_giveFrom 2 = .ok (.iload_n 3, 1) := by decide +kernel
theorem dX9_giveFrom_3 : decode cX9_giveFrom 3 = .ok (.iload_n 2, 1) := by decide +kernel
theorem dX9_giveFrom_4 : decode cX9_giveFrom 4 = .ok (.if_icmp .ge 47, 3) := by decide +kernel
theorem dX9_giveFrom_7 : decode cX9_giveFrom 7 = .ok (.aload_n 0, 1) := by decide +kernel
theorem dX9_giveFrom_8 : decode cX9_giveFrom 8 = .ok (.getfield 15, 3) := by decide +kernel
theorem dX9_giveFrom_11 : decode cX9_giveFrom 11 = .ok (.iload_n 1, 1) := by decide +kernel
theorem dX9_giveFrom_12 : decode cX9_giveFrom 12 = .ok (.iaload, 1) := by decide +kernel
theorem dX9_giveFrom_13 : decode cX9_giveFrom 13 = .ok (.ifCond .le 38, 3) := by decide +kernel
theorem dX9_giveFrom_16 : decode cX9_giveFrom 16 = .ok (.aload_n 0, 1) := by decide +kernel
theorem dX9_giveFrom_17 : decode cX9_giveFrom 17 = .ok (.aload_n 0, 1) := by decide +kernel
theorem dX9_giveFrom_18 : decode cX9_giveFrom 18 = .ok (.iload_n 1, 1) := by decide +kernel
theorem dX9_giveFrom_19 : decode cX9_giveFrom 19 = .ok (.invokevirtual 57, 3) := by decide +kernel
theorem dX9_giveFrom_22 : decode cX9_giveFrom 22 = .ok (.invokevirtual 61, 3) := by decide +kernel
theorem dX9_giveFrom_25 : decode cX9_giveFrom 25 = .ok (.aload_n 0, 1) := by decide +kernel
theorem dX9_giveFrom_26 : decode cX9_giveFrom 26 = .ok (.getfield 15, 3) := by decide +kernel
theorem dX9_giveFrom_29 : decode cX9_giveFrom 29 = .ok (.iload_n 1, 1) := by decide +kernel
theorem dX9_giveFrom_30 : decode cX9_giveFrom 30 = .ok (.dup2, 1) := by decide +kernel
theorem dX9_giveFrom_31 : decode cX9_giveFrom 31 = .ok (.iaload, 1) := by decide +kernel
theorem dX9_giveFrom_32 : decode cX9_giveFrom 32 = .ok (.iconst 1, 1) := by decide +kernel
theorem dX9_giveFrom_33 : decode cX9_giveFrom 33 = .ok (.isub, 1) := by decide +kernel
theorem dX9_giveFrom_34 : decode cX9_giveFrom 34 = .ok (.iastore, 1) := by decide +kernel
theorem dX9_giveFrom_35 : decode cX9_giveFrom 35 = .ok (.aload_n 0, 1) := by decide +kernel
theorem dX9_giveFrom_36 : decode cX9_giveFrom 36 = .ok (.getfield 24, 3) := by decide +kernel
theorem dX9_giveFrom_39 : decode cX9_giveFrom 39 = .ok (.iload_n 1, 1) := by decide +kernel
theorem dX9_giveFrom_40 : decode cX9_giveFrom 40 = .ok (.dup2, 1) := by decide +kernel
theorem dX9_giveFrom_41 : decode cX9_giveFrom 41 = .ok (.iaload, 1) := by decide +kernel
theorem dX9_giveFrom_42 : decode cX9_giveFrom 42 = .ok (.iconst 1, 1) := by decide +kernel
theorem dX9_giveFrom_43 : decode cX9_giveFrom 43 = .ok (.isub, 1) := by decide +kernel
theorem dX9_giveFrom_44 : decode cX9_giveFrom 44 = .ok (.iastore, 1) := by decide +kernel
theorem dX9_giveFrom_45 : decode cX9_giveFrom 45 = .ok (.iinc 3 1, 3) := by decide +kernel
theorem dX9_giveFrom_48 : decode cX9_giveFrom 48 = .ok (.goto (-46), 3) := by decide +kernel
theorem dX9_giveFrom_51 : decode cX9_giveFrom 51 = .ok (.return_, 1) := by decide +kernel
theorem dX9_giveOut_0 : decode cX9_giveOut 0 = .ok (.aload_n 0, 1) := by decide +kernel
theorem dX9_giveOut_1 : decode cX9_giveOut 1 = .ok (.getfield 65, 3) := by decide +kernel
theorem dX9_giveOut_4 : decode cX9_giveOut 4 = .ok (.aload_n 0, 1) := by decide +kernel
theorem dX9_giveOut_5 : decode cX9_giveOut 5 = .ok (.getfield 42, 3) := by decide +kernel
theorem dX9_giveOut_8 : decode cX9_giveOut 8 = .ok (.arraylength, 1) := by decide +kernel
theorem dX9_giveOut_9 : decode cX9_giveOut 9 = .ok (.if_icmp .ge 23, 3) := by decide +kernel
theorem dX9_giveOut_12 : decode cX9_giveOut 12 = .ok (.aload_n 0, 1) := by decide +kernel
theorem dX9_giveOut_13 : decode cX9_giveOut 13 = .ok (.getfield 42, 3) := by decide +kernel
theorem dX9_giveOut_16 : decode cX9_giveOut 16 = .ok (.aload_n 0, 1) := by decide +kernel
theorem dX9_giveOut_17 : decode cX9_giveOut 17 = .ok (.getfield 65, 3) := by decide +kernel
theorem dX9_giveOut_20 : decode cX9_giveOut 20 = .ok (.iload_n 1, 1) := by decide +kernel
theorem dX9_giveOut_21 : decode cX9_giveOut 21 = .ok (.iastore, 1) := by decide +kernel
theorem dX9_giveOut_22 : decode cX9_giveOut 22 = .ok (.aload_n 0, 1) := by decide +kernel
theorem dX9_giveOut_23 : decode cX9_giveOut 23 = .ok (.dup, 1) := by decide +kernel
theorem dX9_giveOut_24 : decode cX9_giveOut 24 = .ok (.getfield 65, 3) := by decide +kernel
theorem dX9_giveOut_27 : decode cX9_giveOut 27 = .ok (.iconst 1, 1) := by decide +kernel
theorem dX9_giveOut_28 : decode cX9_giveOut 28 = .ok (.iadd, 1) := by decide +kernel
theorem dX9_giveOut_29 : decode cX9_giveOut 29 = .ok (.putfield 65, 3) := by decide +kernel
theorem dX9_giveOut_32 : decode cX9_giveOut 32 = .ok (.return_, 1) := by decide +kernel
theorem dX9_slideToTubes_0 : decode cX9_slideToTubes 0 = .ok (.iconst 0, 1) := by decide +kernel
theorem dX9_slideToTubes_1 : decode cX9_slideToTubes 1 = .ok (.istore_n 1, 1) := by decide +kernel
theorem dX9_slideToTubes_2 : decode cX9_slideToTubes 2 = .ok (.iload_n 1, 1) := by decide +kernel
theorem dX9_slideToTubes_3 : decode cX9_slideToTubes 3 = .ok (.aload_n 0, 1) := by decide +kernel
theorem dX9_slideToTubes_4 : decode cX9_slideToTubes 4 = .ok (.getfield 53, 3) := by decide +kernel
theorem dX9_slideToTubes_7 : decode cX9_slideToTubes 7 = .ok (.if_icmp .ge 35, 3) := by decide +kernel
theorem dX9_slideToTubes_10 : decode cX9_slideToTubes 10 = .ok (.aload_n 0, 1) := by decide +kernel
theorem dX9_slideToTubes_11 : decode cX9_slideToTubes 11 = .ok (.getfield 30, 3) := by decide +kernel
theorem dX9_slideToTubes_14 : decode cX9_slideToTubes 14 = .ok (.iload_n 1, 1) := by decide +kernel
theorem dX9_slideToTubes_15 : decode cX9_slideToTubes 15 = .ok (.iaload, 1) := by decide +kernel
theorem dX9_slideToTubes_16 : decode cX9_slideToTubes 16 = .ok (.iconst (-1), 1) := by decide +kernel
theorem dX9_slideToTubes_17 : decode cX9_slideToTubes 17 = .ok (.if_icmp .eq 19, 3) := by decide +kernel
theorem dX9_slideToTubes_20 : decode cX9_slideToTubes 20 = .ok (.aload_n 0, 1) := by decide +kernel
theorem dX9_slideToTubes_21 : decode cX9_slideToTubes 21 = .ok (.aload_n 0, 1) := by decide +kernel
theorem dX9_slideToTubes_22 : decode cX9_slideToTubes 22 = .ok (.getfield 33, 3) := by decide +kernel
theorem dX9_slideToTubes_25 : decode cX9_slideToTubes 25 = .ok (.iload_n 1, 1) := by decide +kernel
theorem dX9_slideToTubes_26 : decode cX9_slideToTubes 26 = .ok (.iaload, 1) := by decide +kernel
theorem dX9_slideToTubes_27 : decode cX9_slideToTubes 27 = .ok (.aload_n 0, 1) := by decide +kernel
theorem dX9_slideToTubes_28 : decode cX9_slideToTubes 28 = .ok (.getfield 30, 3) := by decide +kernel
theorem dX9_slideToTubes_31 : decode cX9_slideToTubes 31 = .ok (.iload_n 1, 1) := by decide +kernel
theorem dX9_slideToTubes_32 : decode cX9_slideToTubes 32 = .ok (.iaload, 1) := by decide +kernel
theorem dX9_slideToTubes_33 : decode cX9_slideToTubes 33 = .ok (.invokevirtual 45, 3) := by decide +kernel
theorem dX9_slideToTubes_36 : decode cX9_slideToTubes 36 = .ok (.iinc 1 1, 3) := by decide +kernel
theorem dX9_slideToTubes_39 : decode cX9_slideToTubes 39 = .ok (.goto (-37), 3) := by decide +kernel
theorem dX9_slideToTubes_42 : decode cX9_slideToTubes 42 = .ok (.aload_n 0, 1) := by decide +kernel
theorem dX9_slideToTubes_43 : decode cX9_slideToTubes 43 = .ok (.iconst 0, 1) := by decide +kernel
theorem dX9_slideToTubes_44 : decode cX9_slideToTubes 44 = .ok (.putfield 53, 3) := by decide +kernel
theorem dX9_slideToTubes_47 : decode cX9_slideToTubes 47 = .ok (.return_, 1) := by decide +kernel
theorem dX9_slideBack_0 : decode cX9_slideBack 0 = .ok (.aload_n 0, 1) := by decide +kernel
theorem dX9_slideBack_1 : decode cX9_slideBack 1 = .ok (.iconst 0, 1) := by decide +kernel
theorem dX9_slideBack_2 : decode cX9_slideBack 2 = .ok (.putfield 65, 3) := by decide +kernel
theorem dX9_slideBack_5 : decode cX9_slideBack 5 = .ok (.iconst 0, 1) := by decide +kernel
theorem dX9_slideBack_6 : decode cX9_slideBack 6 = .ok (.istore_n 1, 1) := by decide +kernel
theorem dX9_slideBack_7 : decode cX9_slideBack 7 = .ok (.iload_n 1, 1) := by decide +kernel
theorem dX9_slideBack_8 : decode cX9_slideBack 8 = .ok (.aload_n 0, 1) := by decide +kernel
theorem dX9_slideBack_9 : decode cX9_slideBack 9 = .ok (.getfield 53, 3) := by decide +kernel
theorem dX9_slideBack_12 : decode cX9_slideBack 12 = .ok (.if_icmp .ge 49, 3) := by decide +kernel
theorem dX9_slideBack_15 : decode cX9_slideBack 15 = .ok (.aload_n 0, 1) := by decide +kernel
theorem dX9_slideBack_16 : decode cX9_slideBack 16 = .ok (.getfield 24, 3) := by decide +kernel
theorem dX9_slideBack_19 : decode cX9_slideBack 19 = .ok (.aload_n 0, 1) := by decide +kernel
theorem dX9_slideBack_20 : decode cX9_slideBack 20 = .ok (.getfield 33, 3) := by decide +kernel
theorem dX9_slideBack_23 : decode cX9_slideBack 23 = .ok (.iload_n 1, 1) := by decide +kernel
theorem dX9_slideBack_24 : decode cX9_slideBack 24 = .ok (.iaload, 1) := by decide +kernel
theorem dX9_slideBack_25 : decode cX9_slideBack 25 = .ok (.dup2, 1) := by decide +kernel
theorem dX9_slideBack_26 : decode cX9_slideBack 26 = .ok (.iaload, 1) := by decide +kernel
theorem dX9_slideBack_27 : decode cX9_slideBack 27 = .ok (.aload_n 0, 1) := by decide +kernel
theorem dX9_slideBack_28 : decode cX9_slideBack 28 = .ok (.getfield 36, 3) := by decide +kernel
theorem dX9_slideBack_31 : decode cX9_slideBack 31 = .ok (.iload_n 1, 1) := by decide +kernel
theorem dX9_slideBack_32 : decode cX9_slideBack 32 = .ok (.iaload, 1) := by decide +kernel
theorem dX9_slideBack_33 : decode cX9_slideBack 33 = .ok (.isub, 1) := by decide +kernel
theorem dX9_slideBack_34 : decode cX9_slideBack 34 = .ok (.iastore, 1) := by decide +kernel
theorem dX9_slideBack_35 : decode cX9_slideBack 35 = .ok (.aload_n 0, 1) := by decide +kernel
theorem dX9_slideBack_36 : decode cX9_slideBack 36 = .ok (.getfield 30, 3) := by decide +kernel
theorem dX9_slideBack_39 : decode cX9_slideBack 39 = .ok (.iload_n 1, 1) := by decide +kernel
theorem dX9_slideBack_40 : decode cX9_slideBack 40 = .ok (.iaload, 1) := by decide +kernel
theorem dX9_slideBack_41 : decode cX9_slideBack 41 = .ok (.iconst (-1), 1) := by decide +kernel
theorem dX9_slideBack_42 : decode cX9_slideBack 42 = .ok (.if_icmp .eq 13, 3) := by decide +kernel
theorem dX9_slideBack_45 : decode cX9_slideBack 45 = .ok (.aload_n 0, 1) := by decide +kernel
theorem dX9_slideBack_46 : decode cX9_slideBack 46 = .ok (.aload_n 0, 1) := by decide +kernel
theorem dX9_slideBack_47 : decode cX9_slideBack 47 = .ok (.getfield 30, 3) := by decide +kernel
theorem dX9_slideBack_50 : decode cX9_slideBack 50 = .ok (.iload_n 1, 1) := by decide +kernel
theorem dX9_slideBack_51 : decode cX9_slideBack 51 = .ok (.iaload, 1) := by decide +kernel
theorem dX9_slideBack_52 : decode cX9_slideBack 52 = .ok (.invokevirtual 61, 3) := by decide +kernel
theorem dX9_slideBack_55 : decode cX9_slideBack 55 = .ok (.iinc 1 1, 3) := by decide +kernel
theorem dX9_slideBack_58 : decode cX9_slideBack 58 = .ok (.goto (-51), 3) := by decide +kernel
theorem dX9_slideBack_61 : decode cX9_slideBack 61 = .ok (.aload_n 0, 1) := by decide +kernel
theorem dX9_slideBack_62 : decode cX9_slideBack 62 = .ok (.iconst 0, 1) := by decide +kernel
theorem dX9_slideBack_63 : decode cX9_slideBack 63 = .ok (.putfield 53, 3) := by decide +kernel
theorem dX9_slideBack_66 : decode cX9_slideBack 66 = .ok (.return_, 1) := by decide +kernel
theorem dX9_due_0 : decode cX9_due 0 = .ok (.aload_n 0, 1) := by decide +kernel
theorem dX9_due_1 : decode cX9_due 1 = .ok (.getfield 21, 3) := by decide +kernel
theorem dX9_due_4 : decode cX9_due 4 = .ok (.iload_n 1, 1) := by decide +kernel
theorem dX9_due_5 : decode cX9_due 5 = .ok (.iaload, 1) := by decide +kernel
theorem dX9_due_6 : decode cX9_due 6 = .ok (.aload_n 0, 1) := by decide +kernel
theorem dX9_due_7 : decode cX9_due 7 = .ok (.getfield 24, 3) := by decide +kernel
theorem dX9_due_10 : decode cX9_due 10 = .ok (.iload_n 1, 1) := by decide +kernel
theorem dX9_due_11 : decode cX9_due 11 = .ok (.iaload, 1) := by decide +kernel
theorem dX9_due_12 : decode cX9_due 12 = .ok (.iadd, 1) := by decide +kernel
theorem dX9_due_13 : decode cX9_due 13 = .ok (.ireturn, 1) := by decide +kernel
theorem dX9_there_0 : decode cX9_there 0 = .ok (.aload_n 0, 1) := by decide +kernel
theorem dX9_there_1 : decode cX9_there 1 = .ok (.getfield 18, 3) := by decide +kernel
theorem dX9_there_4 : decode cX9_there 4 = .ok (.iload_n 1, 1) := by decide +kernel
theorem dX9_there_5 : decode cX9_there 5 = .ok (.iaload, 1) := by decide +kernel
theorem dX9_there_6 : decode cX9_there 6 = .ok (.istore_n 2, 1) := by decide +kernel
theorem dX9_there_7 : decode cX9_there 7 = .ok (.iconst 0, 1) := by decide +kernel
theorem dX9_there_8 : decode cX9_there 8 = .ok (.istore_n 3, 1) := by decide +kernel
theorem dX9_there_9 : decode cX9_there 9 = .ok (.iload_n 3, 1) := by decide +kernel
theorem dX9_there_10 : decode cX9_there 10 = .ok (.bipush 8, 2) := by decide +kernel
theorem dX9_there_12 : decode cX9_there 12 = .ok (.if_icmp .ge 18, 3) := by decide +kernel
theorem dX9_there_15 : decode cX9_there 15 = .ok (.iload_n 2, 1) := by decide +kernel
theorem dX9_there_16 : decode cX9_there 16 = .ok (.aload_n 0, 1) := by decide +kernel
theorem dX9_there_17 : decode cX9_there 17 = .ok (.iload_n 3, 1) := by decide +kernel
theorem dX9_there_18 : decode cX9_there 18 = .ok (.iload_n 1, 1) := by decide +kernel
theorem dX9_there_19 : decode cX9_there 19 = .ok (.invokevirtual 49, 3) := by decide +kernel
theorem dX9_there_22 : decode cX9_there 22 = .ok (.iadd, 1) := by decide +kernel
theorem dX9_there_23 : decode cX9_there 23 = .ok (.istore_n 2, 1) := by decide +kernel
theorem dX9_there_24 : decode cX9_there 24 = .ok (.iinc 3 1, 3) := by decide +kernel
theorem dX9_there_27 : decode cX9_there 27 = .ok (.goto (-18), 3) := by decide +kernel
theorem dX9_there_30 : decode cX9_there 30 = .ok (.iload_n 2, 1) := by decide +kernel
theorem dX9_there_31 : decode cX9_there 31 = .ok (.ireturn, 1) := by decide +kernel
theorem dX9_odd_0 : decode cX9_odd 0 = .ok (.aload_n 0, 1) := by decide +kernel
theorem dX9_odd_1 : decode cX9_odd 1 = .ok (.iload_n 1, 1) := by decide +kernel
theorem dX9_odd_2 : decode cX9_odd 2 = .ok (.invokevirtual 68, 3) := by decide +kernel
theorem dX9_odd_5 : decode cX9_odd 5 = .ok (.aload_n 0, 1) := by decide +kernel
theorem dX9_odd_6 : decode cX9_odd 6 = .ok (.iload_n 1, 1) := by decide +kernel
theorem dX9_odd_7 : decode cX9_odd 7 = .ok (.invokevirtual 71, 3) := by decide +kernel
theorem dX9_odd_10 : decode cX9_odd 10 = .ok (.isub, 1) := by decide +kernel
theorem dX9_odd_11 : decode cX9_odd 11 = .ok (.ireturn, 1) := by decide +kernel
theorem dX9_copyFrom_0 : decode cX9_copyFrom 0 = .ok (.aload_n 1, 1) := by decide +kernel
theorem dX9_copyFrom_1 : decode cX9_copyFrom 1 = .ok (.getfield 9, 3) := by decide +kernel
theorem dX9_copyFrom_4 : decode cX9_copyFrom 4 = .ok (.aload_n 0, 1) := by decide +kernel
theorem dX9_copyFrom_5 : decode cX9_copyFrom 5 = .ok (.getfield 9, 3) := by decide +kernel
theorem dX9_copyFrom_8 : decode cX9_copyFrom 8 = .ok (.invokestatic 74, 3) := by decide +kernel
theorem dX9_copyFrom_11 : decode cX9_copyFrom 11 = .ok (.aload_n 1, 1) := by decide +kernel
theorem dX9_copyFrom_12 : decode cX9_copyFrom 12 = .ok (.getfield 15, 3) := by decide +kernel
theorem dX9_copyFrom_15 : decode cX9_copyFrom 15 = .ok (.aload_n 0, 1) := by decide +kernel
theorem dX9_copyFrom_16 : decode cX9_copyFrom 16 = .ok (.getfield 15, 3) := by decide +kernel
theorem dX9_copyFrom_19 : decode cX9_copyFrom 19 = .ok (.invokestatic 74, 3) := by decide +kernel
theorem dX9_copyFrom_22 : decode cX9_copyFrom 22 = .ok (.aload_n 1, 1) := by decide +kernel
theorem dX9_copyFrom_23 : decode cX9_copyFrom 23 = .ok (.getfield 18, 3) := by decide +kernel
theorem dX9_copyFrom_26 : decode cX9_copyFrom 26 = .ok (.aload_n 0, 1) := by decide +kernel
theorem dX9_copyFrom_27 : decode cX9_copyFrom 27 = .ok (.getfield 18, 3) := by decide +kernel
theorem dX9_copyFrom_30 : decode cX9_copyFrom 30 = .ok (.invokestatic 74, 3) := by decide +kernel
theorem dX9_copyFrom_33 : decode cX9_copyFrom 33 = .ok (.aload_n 1, 1) := by decide +kernel
theorem dX9_copyFrom_34 : decode cX9_copyFrom 34 = .ok (.getfield 21, 3) := by decide +kernel
theorem dX9_copyFrom_37 : decode cX9_copyFrom 37 = .ok (.aload_n 0, 1) := by decide +kernel
theorem dX9_copyFrom_38 : decode cX9_copyFrom 38 = .ok (.getfield 21, 3) := by decide +kernel
theorem dX9_copyFrom_41 : decode cX9_copyFrom 41 = .ok (.invokestatic 74, 3) := by decide +kernel
theorem dX9_copyFrom_44 : decode cX9_copyFrom 44 = .ok (.aload_n 1, 1) := by decide +kernel
theorem dX9_copyFrom_45 : decode cX9_copyFrom 45 = .ok (.getfield 24, 3) := by decide +kernel
theorem dX9_copyFrom_48 : decode cX9_copyFrom 48 = .ok (.aload_n 0, 1) := by decide +kernel
theorem dX9_copyFrom_49 : decode cX9_copyFrom 49 = .ok (.getfield 24, 3) := by decide +kernel
theorem dX9_copyFrom_52 : decode cX9_copyFrom 52 = .ok (.invokestatic 74, 3) := by decide +kernel
theorem dX9_copyFrom_55 : decode cX9_copyFrom 55 = .ok (.aload_n 1, 1) := by decide +kernel
theorem dX9_copyFrom_56 : decode cX9_copyFrom 56 = .ok (.getfield 27, 3) := by decide +kernel
theorem dX9_copyFrom_59 : decode cX9_copyFrom 59 = .ok (.aload_n 0, 1) := by decide +kernel
theorem dX9_copyFrom_60 : decode cX9_copyFrom 60 = .ok (.getfield 27, 3) := by decide +kernel
theorem dX9_copyFrom_63 : decode cX9_copyFrom 63 = .ok (.invokestatic 74, 3) := by decide +kernel
theorem dX9_copyFrom_66 : decode cX9_copyFrom 66 = .ok (.aload_n 0, 1) := by decide +kernel
theorem dX9_copyFrom_67 : decode cX9_copyFrom 67 = .ok (.aload_n 1, 1) := by decide +kernel
theorem dX9_copyFrom_68 : decode cX9_copyFrom 68 = .ok (.getfield 53, 3) := by decide +kernel
theorem dX9_copyFrom_71 : decode cX9_copyFrom 71 = .ok (.putfield 53, 3) := by decide +kernel
theorem dX9_copyFrom_74 : decode cX9_copyFrom 74 = .ok (.aload_n 1, 1) := by decide +kernel
theorem dX9_copyFrom_75 : decode cX9_copyFrom 75 = .ok (.getfield 30, 3) := by decide +kernel
theorem dX9_copyFrom_78 : decode cX9_copyFrom 78 = .ok (.aload_n 0, 1) := by decide +kernel
theorem dX9_copyFrom_79 : decode cX9_copyFrom 79 = .ok (.getfield 30, 3) := by decide +kernel
theorem dX9_copyFrom_82 : decode cX9_copyFrom 82 = .ok (.invokestatic 74, 3) := by decide +kernel
theorem dX9_copyFrom_85 : decode cX9_copyFrom 85 = .ok (.aload_n 1, 1) := by decide +kernel
theorem dX9_copyFrom_86 : decode cX9_copyFrom 86 = .ok (.getfield 33, 3) := by decide +kernel
theorem dX9_copyFrom_89 : decode cX9_copyFrom 89 = .ok (.aload_n 0, 1) := by decide +kernel
theorem dX9_copyFrom_90 : decode cX9_copyFrom 90 = .ok (.getfield 33, 3) := by decide +kernel
theorem dX9_copyFrom_93 : decode cX9_copyFrom 93 = .ok (.invokestatic 74, 3) := by decide +kernel
theorem dX9_copyFrom_96 : decode cX9_copyFrom 96 = .ok (.aload_n 1, 1) := by decide +kernel
theorem dX9_copyFrom_97 : decode cX9_copyFrom 97 = .ok (.getfield 36, 3) := by decide +kernel
theorem dX9_copyFrom_100 : decode cX9_copyFrom 100 = .ok (.aload_n 0, 1) := by decide +kernel
theorem dX9_copyFrom_101 : decode cX9_copyFrom 101 = .ok (.getfield 36, 3) := by decide +kernel
theorem dX9_copyFrom_104 : decode cX9_copyFrom 104 = .ok (.invokestatic 74, 3) := by decide +kernel
theorem dX9_copyFrom_107 : decode cX9_copyFrom 107 = .ok (.aload_n 1, 1) := by decide +kernel
theorem dX9_copyFrom_108 : decode cX9_copyFrom 108 = .ok (.getfield 39, 3) := by decide +kernel
theorem dX9_copyFrom_111 : decode cX9_copyFrom 111 = .ok (.aload_n 0, 1) := by decide +kernel
theorem dX9_copyFrom_112 : decode cX9_copyFrom 112 = .ok (.getfield 39, 3) := by decide +kernel
theorem dX9_copyFrom_115 : decode cX9_copyFrom 115 = .ok (.invokestatic 74, 3) := by decide +kernel
theorem dX9_copyFrom_118 : decode cX9_copyFrom 118 = .ok (.aload_n 0, 1) := by decide +kernel
theorem dX9_copyFrom_119 : decode cX9_copyFrom 119 = .ok (.aload_n 1, 1) := by decide +kernel
theorem dX9_copyFrom_120 : decode cX9_copyFrom 120 = .ok (.getfield 65, 3) := by decide +kernel
theorem dX9_copyFrom_123 : decode cX9_copyFrom 123 = .ok (.putfield 65, 3) := by decide +kernel
theorem dX9_copyFrom_126 : decode cX9_copyFrom 126 = .ok (.aload_n 1, 1) := by decide +kernel
theorem dX9_copyFrom_127 : decode cX9_copyFrom 127 = .ok (.getfield 42, 3) := by decide +kernel
theorem dX9_copyFrom_130 : decode cX9_copyFrom 130 = .ok (.aload_n 0, 1) := by decide +kernel
theorem dX9_copyFrom_131 : decode cX9_copyFrom 131 = .ok (.getfield 42, 3) := by decide +kernel
theorem dX9_copyFrom_134 : decode cX9_copyFrom 134 = .ok (.invokestatic 74, 3) := by decide +kernel
theorem dX9_copyFrom_137 : decode cX9_copyFrom 137 = .ok (.return_, 1) := by decide +kernel
