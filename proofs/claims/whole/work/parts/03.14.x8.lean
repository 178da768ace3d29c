theorem dX8_init_0 : decode cX8_init 0 = .ok (.aload_n 0, 1) := by decide +kernel
theorem dX8_init_1 : decode cX8_init 1 = .ok (.invokespecial 3, 3) := by decide +kernel
theorem dX8_init_4 : decode cX8_init 4 = .ok (.aload_n 0, 1) := by decide +kernel
theorem dX8_init_5 : decode cX8_init 5 = .ok (.new 9, 3) := by decide +kernel
theorem dX8_init_8 : decode cX8_init 8 = .ok (.dup, 1) := by decide +kernel
theorem dX8_init_9 : decode cX8_init 9 = .ok (.invokespecial 11, 3) := by decide +kernel
theorem dX8_init_12 : decode cX8_init 12 = .ok (.putfield 12, 3) := by decide +kernel
theorem dX8_init_15 : decode cX8_init 15 = .ok (.aload_n 0, 1) := by decide +kernel
theorem dX8_init_16 : decode cX8_init 16 = .ok (.new 18, 3) := by decide +kernel
theorem dX8_init_19 : decode cX8_init 19 = .ok (.dup, 1) := by decide +kernel
theorem dX8_init_20 : decode cX8_init 20 = .ok (.invokespecial 20, 3) := by decide +kernel
theorem dX8_init_23 : decode cX8_init 23 = .ok (.putfield 21, 3) := by decide +kernel
theorem dX8_init_26 : decode cX8_init 26 = .ok (.aload_n 0, 1) := by decide +kernel
theorem dX8_init_27 : decode cX8_init 27 = .ok (.new 25, 3) := by decide +kernel
theorem dX8_init_30 : decode cX8_init 30 = .ok (.dup, 1) := by decide +kernel
theorem dX8_init_31 : decode cX8_init 31 = .ok (.invokespecial 27, 3) := by decide +kernel
theorem dX8_init_34 : decode cX8_init 34 = .ok (.putfield 28, 3) := by decide +kernel
theorem dX8_init_37 : decode cX8_init 37 = .ok (.aload_n 0, 1) := by decide +kernel
theorem dX8_init_38 : decode cX8_init 38 = .ok (.bipush 6, 2) := by decide +kernel
theorem dX8_init_40 : decode cX8_init 40 = .ok (.newarray .int, 2) := by decide +kernel
theorem dX8_init_42 : decode cX8_init 42 = .ok (.putfield 32, 3) := by decide +kernel
theorem dX8_init_45 : decode cX8_init 45 = .ok (.aload_n 0, 1) := by decide +kernel
theorem dX8_init_46 : decode cX8_init 46 = .ok (.iconst 5, 1) := by decide +kernel
theorem dX8_init_47 : decode cX8_init 47 = .ok (.newarray .int, 2) := by decide +kernel
theorem dX8_init_49 : decode cX8_init 49 = .ok (.putfield 36, 3) := by decide +kernel
theorem dX8_init_52 : decode cX8_init 52 = .ok (.aload_n 0, 1) := by decide +kernel
theorem dX8_init_53 : decode cX8_init 53 = .ok (.bipush 20, 2) := by decide +kernel
theorem dX8_init_55 : decode cX8_init 55 = .ok (.newarray .int, 2) := by decide +kernel
theorem dX8_init_57 : decode cX8_init 57 = .ok (.putfield 39, 3) := by decide +kernel
theorem dX8_init_60 : decode cX8_init 60 = .ok (.aload_n 0, 1) := by decide +kernel
theorem dX8_init_61 : decode cX8_init 61 = .ok (.iconst 5, 1) := by decide +kernel
theorem dX8_init_62 : decode cX8_init 62 = .ok (.newarray .int, 2) := by decide +kernel
theorem dX8_init_64 : decode cX8_init 64 = .ok (.putfield 42, 3) := by decide +kernel
theorem dX8_init_67 : decode cX8_init 67 = .ok (.aload_n 0, 1) := by decide +kernel
theorem dX8_init_68 : decode cX8_init 68 = .ok (.iconst 5, 1) := by decide +kernel
theorem dX8_init_69 : decode cX8_init 69 = .ok (.newarray .int, 2) := by decide +kernel
theorem dX8_init_71 : decode cX8_init 71 = .ok (.putfield 45, 3) := by decide +kernel
theorem dX8_init_74 : decode cX8_init 74 = .ok (.aload_n 0, 1) := by decide +kernel
theorem dX8_init_75 : decode cX8_init 75 = .ok (.iconst 4, 1) := by decide +kernel
theorem dX8_init_76 : decode cX8_init 76 = .ok (.newarray .int, 2) := by decide +kernel
theorem dX8_init_78 : decode cX8_init 78 = .ok (.putfield 48, 3) := by decide +kernel
theorem dX8_init_81 : decode cX8_init 81 = .ok (.aload_n 0, 1) := by decide +kernel
theorem dX8_init_82 : decode cX8_init 82 = .ok (.iconst 4, 1) := by decide +kernel
theorem dX8_init_83 : decode cX8_init 83 = .ok (.newarray .int, 2) := by decide +kernel
theorem dX8_init_85 : decode cX8_init 85 = .ok (.putfield 51, 3) := by decide +kernel
theorem dX8_init_88 : decode cX8_init 88 = .ok (.return_, 1) := by decide +kernel
theorem dX8_addGood_0 : decode cX8_addGood 0 = .ok (.aload_n 0, 1) := by decide +kernel
theorem dX8_addGood_1 : decode cX8_addGood 1 = .ok (.getfield 54, 3) := by decide +kernel
theorem dX8_addGood_4 : decode cX8_addGood 4 = .ok (.bipush 6, 2) := by decide +kernel
theorem dX8_addGood_6 : decode cX8_addGood 6 = .ok (.if_icmp .lt 5, 3) := by decide +kernel
theorem dX8_addGood_9 : decode cX8_addGood 9 = .ok (.iconst (-1), 1) := by decide +kernel
theorem dX8_addGood_10 : decode cX8_addGood 10 = .ok (.ireturn, 1) := by decide +kernel
theorem dX8_addGood_11 : decode cX8_addGood 11 = .ok (.aload_n 0, 1) := by decide +kernel
theorem dX8_addGood_12 : decode cX8_addGood 12 = .ok (.getfield 32, 3) := by decide +kernel
theorem dX8_addGood_15 : decode cX8_addGood 15 = .ok (.aload_n 0, 1) := by decide +kernel
theorem dX8_addGood_16 : decode cX8_addGood 16 = .ok (.getfield 54, 3) := by decide +kernel
theorem dX8_addGood_19 : decode cX8_addGood 19 = .ok (.iload_n 1, 1) := by decide +kernel
theorem dX8_addGood_20 : decode cX8_addGood 20 = .ok (.iastore, 1) := by decide +kernel
theorem dX8_addGood_21 : decode cX8_addGood 21 = .ok (.aload_n 0, 1) := by decide +kernel
theorem dX8_addGood_22 : decode cX8_addGood 22 = .ok (.dup, 1) := by decide +kernel
theorem dX8_addGood_23 : decode cX8_addGood 23 = .ok (.getfield 54, 3) := by decide +kernel
theorem dX8_addGood_26 : decode cX8_addGood 26 = .ok (.iconst 1, 1) := by decide +kernel
theorem dX8_addGood_27 : decode cX8_addGood 27 = .ok (.iadd, 1) := by decide +kernel
theorem dX8_addGood_28 : decode cX8_addGood 28 = .ok (.putfield 54, 3) := by decide +kernel
theorem dX8_addGood_31 : decode cX8_addGood 31 = .ok (.aload_n 0, 1) := by decide +kernel
theorem dX8_addGood_32 : decode cX8_addGood 32 = .ok (.getfield 54, 3) := by decide +kernel
theorem dX8_addGood_35 : decode cX8_addGood 35 = .ok (.iconst 1, 1) := by decide +kernel
theorem dX8_addGood_36 : decode cX8_addGood 36 = .ok (.isub, 1) := by decide +kernel
theorem dX8_addGood_37 : decode cX8_addGood 37 = .ok (.ireturn, 1) := by decide +kernel
theorem dX8_addBuyer_0 : decode cX8_addBuyer 0 = .ok (.aload_n 0, 1) := by decide +kernel
theorem dX8_addBuyer_1 : decode cX8_addBuyer 1 = .ok (.getfield 58, 3) := by decide +kernel
theorem dX8_addBuyer_4 : decode cX8_addBuyer 4 = .ok (.iconst 5, 1) := by decide +kernel
theorem dX8_addBuyer_5 : decode cX8_addBuyer 5 = .ok (.if_icmp .lt 5, 3) := by decide +kernel
theorem dX8_addBuyer_8 : decode cX8_addBuyer 8 = .ok (.iconst (-1), 1) := by decide +kernel
theorem dX8_addBuyer_9 : decode cX8_addBuyer 9 = .ok (.ireturn, 1) := by decide +kernel
theorem dX8_addBuyer_10 : decode cX8_addBuyer 10 = .ok (.aload_n 0, 1) := by decide +kernel
theorem dX8_addBuyer_11 : decode cX8_addBuyer 11 = .ok (.getfield 36, 3) := by decide +kernel
theorem dX8_addBuyer_14 : decode cX8_addBuyer 14 = .ok (.aload_n 0, 1) := by decide +kernel
theorem dX8_addBuyer_15 : decode cX8_addBuyer 15 = .ok (.getfield 58, 3) := by decide +kernel
theorem dX8_addBuyer_18 : decode cX8_addBuyer 18 = .ok (.iload_n 1, 1) := by decide +kernel
theorem dX8_addBuyer_19 : decode cX8_addBuyer 19 = .ok (.iastore, 1) := by decide +kernel
theorem dX8_addBuyer_20 : decode cX8_addBuyer 20 = .ok (.aload_n 0, 1) := by decide +kernel
theorem dX8_addBuyer_21 : decode cX8_addBuyer 21 = .ok (.getfield 42, 3) := by decide +kernel
theorem dX8_addBuyer_24 : decode cX8_addBuyer 24 = .ok (.aload_n 0, 1) := by decide +kernel
theorem dX8_addBuyer_25 : decode cX8_addBuyer 25 = .ok (.getfield 58, 3) := by decide +kernel
theorem dX8_addBuyer_28 : decode cX8_addBuyer 28 = .ok (.iload_n 2, 1) := by decide +kernel
theorem dX8_addBuyer_29 : decode cX8_addBuyer 29 = .ok (.iastore, 1) := by decide +kernel
theorem dX8_addBuyer_30 : decode cX8_addBuyer 30 = .ok (.aload_n 0, 1) := by decide +kernel
theorem dX8_addBuyer_31 : decode cX8_addBuyer 31 = .ok (.getfield 45, 3) := by decide +kernel
theorem dX8_addBuyer_34 : decode cX8_addBuyer 34 = .ok (.aload_n 0, 1) := by decide +kernel
theorem dX8_addBuyer_35 : decode cX8_addBuyer 35 = .ok (.getfield 58, 3) := by decide +kernel
theorem dX8_addBuyer_38 : decode cX8_addBuyer 38 = .ok (.iload_n 3, 1) := by decide +kernel
theorem dX8_addBuyer_39 : decode cX8_addBuyer 39 = .ok (.iastore, 1) := by decide +kernel
theorem dX8_addBuyer_40 : decode cX8_addBuyer 40 = .ok (.aload_n 0, 1) := by decide +kernel
theorem dX8_addBuyer_41 : decode cX8_addBuyer 41 = .ok (.dup, 1) := by decide +kernel
theorem dX8_addBuyer_42 : decode cX8_addBuyer 42 = .ok (.getfield 58, 3) := by decide +kernel
theorem dX8_addBuyer_45 : decode cX8_addBuyer 45 = .ok (.iconst 1, 1) := by decide +kernel
theorem dX8_addBuyer_46 : decode cX8_addBuyer 46 = .ok (.iadd, 1) := by decide +kernel
theorem dX8_addBuyer_47 : decode cX8_addBuyer 47 = .ok (.putfield 58, 3) := by decide +kernel
theorem dX8_addBuyer_50 : decode cX8_addBuyer 50 = .ok (.aload_n 0, 1) := by decide +kernel
theorem dX8_addBuyer_51 : decode cX8_addBuyer 51 = .ok (.getfield 58, 3) := by decide +kernel
theorem dX8_addBuyer_54 : decode cX8_addBuyer 54 = .ok (.iconst 1, 1) := by decide +kernel
theorem dX8_addBuyer_55 : decode cX8_addBuyer 55 = .ok (.isub, 1) := by decide +kernel
theorem dX8_addBuyer_56 : decode cX8_addBuyer 56 = .ok (.ireturn, 1) := by decide +kernel
theorem dX8_tellCoins_0 : decode cX8_tellCoins 0 = .ok (.iload_n 1, 1) := by decide +kernel
theorem dX8_tellCoins_1 : decode cX8_tellCoins 1 = .ok (.iconst 4, 1) := by decide +kernel
theorem dX8_tellCoins_2 : decode cX8_tellCoins 2 = .ok (.imul, 1) := by decide +kernel
theorem dX8_tellCoins_3 : decode cX8_tellCoins 3 = .ok (.istore 6, 2) := by decide +kernel
theorem dX8_tellCoins_5 : decode cX8_tellCoins 5 = .ok (.aload_n 0, 1) := by decide +kernel
theorem dX8_tellCoins_6 : decode cX8_tellCoins 6 = .ok (.getfield 39, 3) := by decide +kernel
theorem dX8_tellCoins_9 : decode cX8_tellCoins 9 = .ok (.iload 6, 2) := by decide +kernel
theorem dX8_tellCoins_11 : decode cX8_tellCoins 11 = .ok (.iload_n 2, 1) := by decide +kernel
theorem dX8_tellCoins_12 : decode cX8_tellCoins 12 = .ok (.iastore, 1) := by decide +kernel
theorem dX8_tellCoins_13 : decode cX8_tellCoins 13 = .ok (.aload_n 0, 1) := by decide +kernel
theorem dX8_tellCoins_14 : decode cX8_tellCoins 14 = .ok (.getfield 39, 3) := by decide +kernel
theorem dX8_tellCoins_17 : decode cX8_tellCoins 17 = .ok (.iload 6, 2) := by decide +kernel
theorem dX8_tellCoins_19 : decode cX8_tellCoins 19 = .ok (.iconst 1, 1) := by decide +kernel
theorem dX8_tellCoins_20 : decode cX8_tellCoins 20 = .ok (.iadd, 1) := by decide +kernel
theorem dX8_tellCoins_21 : decode cX8_tellCoins 21 = .ok (.iload_n 3, 1) := by decide +kernel
theorem dX8_tellCoins_22 : decode cX8_tellCoins 22 = .ok (.iastore, 1) := by decide +kernel
theorem dX8_tellCoins_23 : decode cX8_tellCoins 23 = .ok (.aload_n 0, 1) := by decide +kernel
theorem dX8_tellCoins_24 : decode cX8_tellCoins 24 = .ok (.getfield 39, 3) := by decide +kernel
theorem dX8_tellCoins_27 : decode cX8_tellCoins 27 = .ok (.iload 6, 2) := by decide +kernel
theorem dX8_tellCoins_29 : decode cX8_tellCoins 29 = .ok (.iconst 2, 1) := by decide +kernel
theorem dX8_tellCoins_30 : decode cX8_tellCoins 30 = .ok (.iadd, 1) := by decide +kernel
theorem dX8_tellCoins_31 : decode cX8_tellCoins 31 = .ok (.iload 4, 2) := by decide +kernel
theorem dX8_tellCoins_33 : decode cX8_tellCoins 33 = .ok (.iastore, 1) := by decide +kernel
theorem dX8_tellCoins_34 : decode cX8_tellCoins 34 = .ok (.aload_n 0, 1) := by decide +kernel
theorem dX8_tellCoins_35 : decode cX8_tellCoins 35 = .ok (.getfield 39, 3) := by decide +kernel
theorem dX8_tellCoins_38 : decode cX8_tellCoins 38 = .ok (.iload 6, 2) := by decide +kernel
theorem dX8_tellCoins_40 : decode cX8_tellCoins 40 = .ok (.iconst 3, 1) := by decide +kernel
theorem dX8_tellCoins_41 : decode cX8_tellCoins 41 = .ok (.iadd, 1) := by decide +kernel
theorem dX8_tellCoins_42 : decode cX8_tellCoins 42 = .ok (.iload 5, 2) := by decide +kernel
theorem dX8_tellCoins_44 : decode cX8_tellCoins 44 = .ok (.iastore, 1) := by decide +kernel
theorem dX8_tellCoins_45 : decode cX8_tellCoins 45 = .ok (.return_, 1) := by decide +kernel
theorem dX8_addMachine_0 : decode cX8_addMachine 0 = .ok (.aload_n 0, 1) := by decide +kernel
theorem dX8_addMachine_1 : decode cX8_addMachine 1 = .ok (.getfield 61, 3) := by decide +kernel
theorem dX8_addMachine_4 : decode cX8_addMachine 4 = .ok (.iconst 4, 1) := by decide +kernel
theorem dX8_addMachine_5 : decode cX8_addMachine 5 = .ok (.if_icmp .lt 5, 3) := by decide +kernel
theorem dX8_addMachine_8 : decode cX8_addMachine 8 = .ok (.iconst (-1), 1) := by decide +kernel
theorem dX8_addMachine_9 : decode cX8_addMachine 9 = .ok (.ireturn, 1) := by decide +kernel
theorem dX8_addMachine_10 : decode cX8_addMachine 10 = .ok (.aload_n 0, 1) := by decide +kernel
theorem dX8_addMachine_11 : decode cX8_addMachine 11 = .ok (.getfield 48, 3) := by decide +kernel
theorem dX8_addMachine_14 : decode cX8_addMachine 14 = .ok (.aload_n 0, 1) := by decide +kernel
theorem dX8_addMachine_15 : decode cX8_addMachine 15 = .ok (.getfield 61, 3) := by decide +kernel
theorem dX8_addMachine_18 : decode cX8_addMachine 18 = .ok (.iload_n 1, 1) := by decide +kernel
theorem dX8_addMachine_19 : decode cX8_addMachine 19 = .ok (.iastore, 1) := by decide +kernel
theorem dX8_addMachine_20 : decode cX8_addMachine 20 = .ok (.aload_n 0, 1) := by decide +kernel
theorem dX8_addMachine_21 : decode cX8_addMachine 21 = .ok (.getfield 51, 3) := by decide +kernel
theorem dX8_addMachine_24 : decode cX8_addMachine 24 = .ok (.aload_n 0, 1) := by decide +kernel
theorem dX8_addMachine_25 : decode cX8_addMachine 25 = .ok (.getfield 61, 3) := by decide +kernel
theorem dX8_addMachine_28 : decode cX8_addMachine 28 = .ok (.iload_n 2, 1) := by decide +kernel
theorem dX8_addMachine_29 : decode cX8_addMachine 29 = .ok (.iastore, 1) := by decide +kernel
theorem dX8_addMachine_30 : decode cX8_addMachine 30 = .ok (.aload_n 0, 1) := by decide +kernel
theorem dX8_addMachine_31 : decode cX8_addMachine 31 = .ok (.dup, 1) := by decide +kernel
theorem dX8_addMachine_32 : decode cX8_addMachine 32 = .ok (.getfield 61, 3) := by decide +kernel
theorem dX8_addMachine_35 : decode cX8_addMachine 35 = .ok (.iconst 1, 1) := by decide +kernel
theorem dX8_addMachine_36 : decode cX8_addMachine 36 = .ok (.iadd, 1) := by decide +kernel
theorem dX8_addMachine_37 : decode cX8_addMachine 37 = .ok (.putfield 61, 3) := by decide +kernel
theorem dX8_addMachine_40 : decode cX8_addMachine 40 = .ok (.aload_n 0, 1) := by decide +kernel
theorem dX8_addMachine_41 : decode cX8_addMachine 41 = .ok (.getfield 61, 3) := by decide +kernel
theorem dX8_addMachine_44 : decode cX8_addMachine 44 = .ok (.iconst 1, 1) := by decide +kernel
theorem dX8_addMachine_45 : decode cX8_addMachine 45 = .ok (.isub, 1) := by decide +kernel
theorem dX8_addMachine_46 : decode cX8_addMachine 46 = .ok (.ireturn, 1) := by decide +kernel
theorem dX8_copyFrom_0 : decode cX8_copyFrom 0 = .ok (.aload_n 0, 1) := by decide +kernel
theorem dX8_copyFrom_1 : decode cX8_copyFrom 1 = .ok (.getfield 12, 3) := by decide +kernel
theorem dX8_copyFrom_4 : decode cX8_copyFrom 4 = .ok (.aload_n 1, 1) := by decide +kernel
theorem dX8_copyFrom_5 : decode cX8_copyFrom 5 = .ok (.getfield 12, 3) := by decide +kernel
theorem dX8_copyFrom_8 : decode cX8_copyFrom 8 = .ok (.invokevirtual 64, 3) := by decide +kernel
theorem dX8_copyFrom_11 : decode cX8_copyFrom 11 = .ok (.aload_n 0, 1) := by decide +kernel
theorem dX8_copyFrom_12 : decode cX8_copyFrom 12 = .ok (.getfield 21, 3) := by decide +kernel
theorem dX8_copyFrom_15 : decode cX8_copyFrom 15 = .ok (.aload_n 1, 1) := by decide +kernel
theorem dX8_copyFrom_16 : decode cX8_copyFrom 16 = .ok (.getfield 21, 3) := by decide +kernel
theorem dX8_copyFrom_19 : decode cX8_copyFrom 19 = .ok (.invokevirtual 68, 3) := by decide +kernel
theorem dX8_copyFrom_22 : decode cX8_copyFrom 22 = .ok (.aload_n 0, 1) := by decide +kernel
theorem dX8_copyFrom_23 : decode cX8_copyFrom 23 = .ok (.getfield 28, 3) := by decide +kernel
theorem dX8_copyFrom_26 : decode cX8_copyFrom 26 = .ok (.aload_n 1, 1) := by decide +kernel
theorem dX8_copyFrom_27 : decode cX8_copyFrom 27 = .ok (.getfield 28, 3) := by decide +kernel
theorem dX8_copyFrom_30 : decode cX8_copyFrom 30 = .ok (.invokevirtual 71, 3) := by decide +kernel
theorem dX8_copyFrom_33 : decode cX8_copyFrom 33 = .ok (.aload_n 0, 1) := by decide +kernel
theorem dX8_copyFrom_34 : decode cX8_copyFrom 34 = .ok (.aload_n 1, 1) := by decide +kernel
theorem dX8_copyFrom_35 : decode cX8_copyFrom 35 = .ok (.getfield 54, 3) := by decide +kernel
theorem dX8_copyFrom_38 : decode cX8_copyFrom 38 = .ok (.putfield 54, 3) := by decide +kernel
theorem dX8_copyFrom_41 : decode cX8_copyFrom 41 = .ok (.aload_n 1, 1) := by decide +kernel
theorem dX8_copyFrom_42 : decode cX8_copyFrom 42 = .ok (.getfield 32, 3) := by decide +kernel
theorem dX8_copyFrom_45 : decode cX8_copyFrom 45 = .ok (.aload_n 0, 1) := by decide +kernel
theorem dX8_copyFrom_46 : decode cX8_copyFrom 46 = .ok (.getfield 32, 3) := by decide +kernel
theorem dX8_copyFrom_49 : decode cX8_copyFrom 49 = .ok (.invokestatic 74, 3) := by decide +kernel
theorem dX8_copyFrom_52 : decode cX8_copyFrom 52 = .ok (.aload_n 0, 1) := by decide +kernel
theorem dX8_copyFrom_53 : decode cX8_copyFrom 53 = .ok (.aload_n 1, 1) := by decide +kernel
theorem dX8_copyFrom_54 : decode cX8_copyFrom 54 = .ok (.getfield 58, 3) := by decide +kernel
theorem dX8_copyFrom_57 : decode cX8_copyFrom 57 = .ok (.putfield 58, 3) := by decide +kernel
theorem dX8_copyFrom_60 : decode cX8_copyFrom 60 = .ok (.aload_n 1, 1) := by decide +kernel
theorem dX8_copyFrom_61 : decode cX8_copyFrom 61 = .ok (.getfield 36, 3) := by decide +kernel
theorem dX8_copyFrom_64 : decode cX8_copyFrom 64 = .ok (.aload_n 0, 1) := by decide +kernel
theorem dX8_copyFrom_65 : decode cX8_copyFrom 65 = .ok (.getfield 36, 3) := by decide +kernel
theorem dX8_copyFrom_68 : decode cX8_copyFrom 68 = .ok (.invokestatic 74, 3) := by decide +kernel
theorem dX8_copyFrom_71 : decode cX8_copyFrom 71 = .ok (.aload_n 1, 1) := by decide +kernel
theorem dX8_copyFrom_72 : decode cX8_copyFrom 72 = .ok (.getfield 39, 3) := by decide +kernel
theorem dX8_copyFrom_75 : decode cX8_copyFrom 75 = .ok (.aload_n 0, 1) := by decide +kernel
theorem dX8_copyFrom_76 : decode cX8_copyFrom 76 = .ok (.getfield 39, 3) := by decide +kernel
theorem dX8_copyFrom_79 : decode cX8_copyFrom 79 = .ok (.invokestatic 74, 3) := by decide +kernel
theorem dX8_copyFrom_82 : decode cX8_copyFrom 82 = .ok (.aload_n 1, 1) := by decide +kernel
theorem dX8_copyFrom_83 : decode cX8_copyFrom 83 = .ok (.getfield 42, 3) := by decide +kernel
theorem dX8_copyFrom_86 : decode cX8_copyFrom 86 = .ok (.aload_n 0, 1) := by decide +kernel
theorem dX8_copyFrom_87 : decode cX8_copyFrom 87 = .ok (.getfield 42, 3) := by decide +kernel
theorem dX8_copyFrom_90 : decode cX8_copyFrom 90 = .ok (.invokestatic 74, 3) := by decide +kernel
theorem dX8_copyFrom_93 : decode cX8_copyFrom 93 = .ok (.aload_n 1, 1) := by decide +kernel
theorem dX8_copyFrom_94 : decode cX8_copyFrom 94 = .ok (.getfield 45, 3) := by decide +kernel
theorem dX8_copyFrom_97 : decode cX8_copyFrom 97 = .ok (.aload_n 0, 1) := by decide +kernel
theorem dX8_copyFrom_98 : decode cX8_copyFrom 98 = .ok (.getfield 45, 3) := by decide +kernel
theorem dX8_copyFrom_101 : decode cX8_copyFrom 101 = .ok (.invokestatic 74, 3) := by decide +kernel
theorem dX8_copyFrom_104 : decode cX8_copyFrom 104 = .ok (.aload_n 0, 1) := by decide +kernel
theorem dX8_copyFrom_105 : decode cX8_copyFrom 105 = .ok (.aload_n 1, 1) := by decide +kernel
theorem dX8_copyFrom_106 : decode cX8_copyFrom 106 = .ok (.getfield 61, 3) := by decide +kernel
theorem dX8_copyFrom_109 : decode cX8_copyFrom 109 = .ok (.putfield 61, 3) := by decide +kernel
theorem dX8_copyFrom_112 : decode cX8_copyFrom 112 = .ok (.aload_n 1, 1) := by decide +kernel
theorem dX8_copyFrom_113 : decode cX8_copyFrom 113 = .ok (.getfield 48, 3) := by decide +kernel
theorem dX8_copyFrom_116 : decode cX8_copyFrom 116 = .ok (.aload_n 0, 1) := by decide +kernel
theorem dX8_copyFrom_117 : decode cX8_copyFrom 117 = .ok (.getfield 48, 3) := by decide +kernel
theorem dX8_copyFrom_120 : decode cX8_copyFrom 120 = .ok (.invokestatic 74, 3) := by decide +kernel
theorem dX8_copyFrom_123 : decode cX8_copyFrom 123 = .ok (.aload_n 1, 1) := by decide +kernel
theorem dX8_copyFrom_124 : decode cX8_copyFrom 124 = .ok (.getfield 51, 3) := by decide +kernel
theorem dX8_copyFrom_127 : decode cX8_copyFrom 127 = .ok (.aload_n 0, 1) := by decide +kernel
theorem dX8_copyFrom_128 : decode cX8_copyFrom 128 = .ok (.getfield 51, 3) := by decide +kernel
theorem dX8_copyFrom_131 : decode cX8_copyFrom 131 = .ok (.invokestatic 74, 3) := by decide +kernel
theorem dX8_copyFrom_134 : decode cX8_copyFrom 134 = .ok (.return_, 1) := by decide +kernel
