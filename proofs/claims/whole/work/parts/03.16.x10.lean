theorem dX10_init_0 : decode cX10_init 0 = .ok (.aload_n 0, 1) := by decide +kernel
theorem dX10_init_1 : decode cX10_init 1 = .ok (.invokespecial 3, 3) := by decide +kernel
theorem dX10_init_4 : decode cX10_init 4 = .ok (.aload_n 0, 1) := by decide +kernel
theorem dX10_init_5 : decode cX10_init 5 = .ok (.iconst (-1), 1) := by decide +kernel
theorem dX10_init_6 : decode cX10_init 6 = .ok (.putfield 9, 3) := by decide +kernel
theorem dX10_init_9 : decode cX10_init 9 = .ok (.aload_n 0, 1) := by decide +kernel
theorem dX10_init_10 : decode cX10_init 10 = .ok (.bipush 20, 2) := by decide +kernel
theorem dX10_init_12 : decode cX10_init 12 = .ok (.newarray .long, 2) := by decide +kernel
theorem dX10_init_14 : decode cX10_init 14 = .ok (.putfield 15, 3) := by decide +kernel
theorem dX10_init_17 : decode cX10_init 17 = .ok (.return_, 1) := by decide +kernel
theorem dX10_lay_0 : decode cX10_lay 0 = .ok (.aload_n 0, 1) := by decide +kernel
theorem dX10_lay_1 : decode cX10_lay 1 = .ok (.iload_n 1, 1) := by decide +kernel
theorem dX10_lay_2 : decode cX10_lay 2 = .ok (.putfield 9, 3) := by decide +kernel
theorem dX10_lay_5 : decode cX10_lay 5 = .ok (.aload_n 0, 1) := by decide +kernel
theorem dX10_lay_6 : decode cX10_lay 6 = .ok (.iload_n 2, 1) := by decide +kernel
theorem dX10_lay_7 : decode cX10_lay 7 = .ok (.putfield 19, 3) := by decide +kernel
theorem dX10_lay_10 : decode cX10_lay 10 = .ok (.aload_n 0, 1) := by decide +kernel
theorem dX10_lay_11 : decode cX10_lay 11 = .ok (.getfield 15, 3) := by decide +kernel
theorem dX10_lay_14 : decode cX10_lay 14 = .ok (.lconst 0, 1) := by decide +kernel
theorem dX10_lay_15 : decode cX10_lay 15 = .ok (.invokestatic 22, 3) := by decide +kernel
theorem dX10_lay_18 : decode cX10_lay 18 = .ok (.return_, 1) := by decide +kernel
theorem dX10_cut_0 : decode cX10_cut 0 = .ok (.aload_n 0, 1) := by decide +kernel
theorem dX10_cut_1 : decode cX10_cut 1 = .ok (.getfield 9, 3) := by decide +kernel
theorem dX10_cut_4 : decode cX10_cut 4 = .ok (.tableswitch 42 0 2 #[28, 33, 38], 28) := by decide +kernel
theorem dX10_cut_32 : decode cX10_cut 32 = .ok (.lload_n 1, 1) := by decide +kernel
theorem dX10_cut_33 : decode cX10_cut 33 = .ok (.l2i, 1) := by decide +kernel
theorem dX10_cut_34 : decode cX10_cut 34 = .ok (.i2b, 1) := by decide +kernel
theorem dX10_cut_35 : decode cX10_cut 35 = .ok (.i2l, 1) := by decide +kernel
theorem dX10_cut_36 : decode cX10_cut 36 = .ok (.lreturn, 1) := by decide +kernel
theorem dX10_cut_37 : decode cX10_cut 37 = .ok (.lload_n 1, 1) := by decide +kernel
theorem dX10_cut_38 : decode cX10_cut 38 = .ok (.l2i, 1) := by decide +kernel
theorem dX10_cut_39 : decode cX10_cut 39 = .ok (.i2s, 1) := by decide +kernel
theorem dX10_cut_40 : decode cX10_cut 40 = .ok (.i2l, 1) := by decide +kernel
theorem dX10_cut_41 : decode cX10_cut 41 = .ok (.lreturn, 1) := by decide +kernel
theorem dX10_cut_42 : decode cX10_cut 42 = .ok (.lload_n 1, 1) := by decide +kernel
theorem dX10_cut_43 : decode cX10_cut 43 = .ok (.l2i, 1) := by decide +kernel
theorem dX10_cut_44 : decode cX10_cut 44 = .ok (.i2l, 1) := by decide +kernel
theorem dX10_cut_45 : decode cX10_cut 45 = .ok (.lreturn, 1) := by decide +kernel
theorem dX10_cut_46 : decode cX10_cut 46 = .ok (.lload_n 1, 1) := by decide +kernel
theorem dX10_cut_47 : decode cX10_cut 47 = .ok (.lreturn, 1) := by decide +kernel
theorem dX10_holdsSorts_0 : decode cX10_holdsSorts 0 = .ok (.iconst 0, 1) := by decide +kernel
theorem dX10_holdsSorts_1 : decode cX10_holdsSorts 1 = .ok (.istore_n 2, 1) := by decide +kernel
theorem dX10_holdsSorts_2 : decode cX10_holdsSorts 2 = .ok (.iload_n 2, 1) := by decide +kernel
theorem dX10_holdsSorts_3 : decode cX10_holdsSorts 3 = .ok (.aload_n 0, 1) := by decide +kernel
theorem dX10_holdsSorts_4 : decode cX10_holdsSorts 4 = .ok (.getfield 19, 3) := by decide +kernel
theorem dX10_holdsSorts_7 : decode cX10_holdsSorts 7 = .ok (.if_icmp .ge 28, 3) := by decide +kernel
theorem dX10_holdsSorts_10 : decode cX10_holdsSorts 10 = .ok (.aload_n 0, 1) := by decide +kernel
theorem dX10_holdsSorts_11 : decode cX10_holdsSorts 11 = .ok (.getfield 15, 3) := by decide +kernel
theorem dX10_holdsSorts_14 : decode cX10_holdsSorts 14 = .ok (.iload_n 2, 1) := by decide +kernel
theorem dX10_holdsSorts_15 : decode cX10_holdsSorts 15 = .ok (.laload, 1) := by decide +kernel
theorem dX10_holdsSorts_16 : decode cX10_holdsSorts 16 = .ok (.lconst 0, 1) := by decide +kernel
theorem dX10_holdsSorts_17 : decode cX10_holdsSorts 17 = .ok (.iload_n 1, 1) := by decide +kernel
theorem dX10_holdsSorts_18 : decode cX10_holdsSorts 18 = .ok (.iconst 1, 1) := by decide +kernel
theorem dX10_holdsSorts_19 : decode cX10_holdsSorts 19 = .ok (.isub, 1) := by decide +kernel
theorem dX10_holdsSorts_20 : decode cX10_holdsSorts 20 = .ok (.i2l, 1) := by decide +kernel
theorem dX10_holdsSorts_21 : decode cX10_holdsSorts 21 = .ok (.invokestatic 28, 3) := by decide +kernel
theorem dX10_holdsSorts_24 : decode cX10_holdsSorts 24 = .ok (.ifCond .ne 5, 3) := by decide +kernel
theorem dX10_holdsSorts_27 : decode cX10_holdsSorts 27 = .ok (.iconst 0, 1) := by decide +kernel
theorem dX10_holdsSorts_28 : decode cX10_holdsSorts 28 = .ok (.ireturn, 1) := by decide +kernel
theorem dX10_holdsSorts_29 : decode cX10_holdsSorts 29 = .ok (.iinc 2 1, 3) := by decide +kernel
theorem dX10_holdsSorts_32 : decode cX10_holdsSorts 32 = .ok (.goto (-30), 3) := by decide +kernel
theorem dX10_holdsSorts_35 : decode cX10_holdsSorts 35 = .ok (.iconst 1, 1) := by decide +kernel
theorem dX10_holdsSorts_36 : decode cX10_holdsSorts 36 = .ok (.ireturn, 1) := by decide +kernel
