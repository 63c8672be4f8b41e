theorem dX0_init_0 : decode cX0_init 0 = .ok (.aload_n 0, 1) := by decide +kernel
theorem dX0_init_1 : decode cX0_init 1 = .ok (.invokespecial 3, 3) := by decide +kernel
theorem dX0_init_4 : decode cX0_init 4 = .ok (.aload_n 0, 1) := by decide +kernel
theorem dX0_init_5 : decode cX0_init 5 = .ok (.bipush 14, 2) := by decide +kernel
theorem dX0_init_7 : decode cX0_init 7 = .ok (.invokestatic 9, 3) := by decide +kernel
theorem dX0_init_10 : decode cX0_init 10 = .ok (.putfield 13, 3) := by decide +kernel
theorem dX0_init_13 : decode cX0_init 13 = .ok (.aload_n 0, 1) := by decide +kernel
theorem dX0_init_14 : decode cX0_init 14 = .ok (.iconst 0, 1) := by decide +kernel
theorem dX0_init_15 : decode cX0_init 15 = .ok (.putfield 19, 3) := by decide +kernel
theorem dX0_init_18 : decode cX0_init 18 = .ok (.aload_n 0, 1) := by decide +kernel
theorem dX0_init_19 : decode cX0_init 19 = .ok (.iconst 0, 1) := by decide +kernel
theorem dX0_init_20 : decode cX0_init 20 = .ok (.putfield 23, 3) := by decide +kernel
theorem dX0_init_23 : decode cX0_init 23 = .ok (.return_, 1) := by decide +kernel
theorem dX0_remember_0 : decode cX0_remember 0 = .ok (.aload_n 0, 1) := by decide +kernel
theorem dX0_remember_1 : decode cX0_remember 1 = .ok (.getfield 13, 3) := by decide +kernel
theorem dX0_remember_4 : decode cX0_remember 4 = .ok (.aload_n 0, 1) := by decide +kernel
theorem dX0_remember_5 : decode cX0_remember 5 = .ok (.getfield 19, 3) := by decide +kernel
theorem dX0_remember_8 : decode cX0_remember 8 = .ok (.aload_n 0, 1) := by decide +kernel
theorem dX0_remember_9 : decode cX0_remember 9 = .ok (.getfield 23, 3) := by decide +kernel
theorem dX0_remember_12 : decode cX0_remember 12 = .ok (.iadd, 1) := by decide +kernel
theorem dX0_remember_13 : decode cX0_remember 13 = .ok (.bipush 14, 2) := by decide +kernel
theorem dX0_remember_15 : decode cX0_remember 15 = .ok (.irem, 1) := by decide +kernel
theorem dX0_remember_16 : decode cX0_remember 16 = .ok (.aaload, 1) := by decide +kernel
theorem dX0_remember_17 : decode cX0_remember 17 = .ok (.aload_n 1, 1) := by decide +kernel
theorem dX0_remember_18 : decode cX0_remember 18 = .ok (.invokevirtual 26, 3) := by decide +kernel
theorem dX0_remember_21 : decode cX0_remember 21 = .ok (.aload_n 0, 1) := by decide +kernel
theorem dX0_remember_22 : decode cX0_remember 22 = .ok (.getfield 23, 3) := by decide +kernel
theorem dX0_remember_25 : decode cX0_remember 25 = .ok (.bipush 14, 2) := by decide +kernel
theorem dX0_remember_27 : decode cX0_remember 27 = .ok (.if_icmp .ge 16, 3) := by decide +kernel
theorem dX0_remember_30 : decode cX0_remember 30 = .ok (.aload_n 0, 1) := by decide +kernel
theorem dX0_remember_31 : decode cX0_remember 31 = .ok (.dup, 1) := by decide +kernel
theorem dX0_remember_32 : decode cX0_remember 32 = .ok (.getfield 23, 3) := by decide +kernel
theorem dX0_remember_35 : decode cX0_remember 35 = .ok (.iconst 1, 1) := by decide +kernel
theorem dX0_remember_36 : decode cX0_remember 36 = .ok (.iadd, 1) := by decide +kernel
theorem dX0_remember_37 : decode cX0_remember 37 = .ok (.putfield 23, 3) := by decide +kernel
theorem dX0_remember_40 : decode cX0_remember 40 = .ok (.goto 16, 3) := by decide +kernel
theorem dX0_remember_43 : decode cX0_remember 43 = .ok (.aload_n 0, 1) := by decide +kernel
theorem dX0_remember_44 : decode cX0_remember 44 = .ok (.aload_n 0, 1) := by decide +kernel
theorem dX0_remember_45 : decode cX0_remember 45 = .ok (.getfield 19, 3) := by decide +kernel
theorem dX0_remember_48 : decode cX0_remember 48 = .ok (.iconst 1, 1) := by decide +kernel
theorem dX0_remember_49 : decode cX0_remember 49 = .ok (.iadd, 1) := by decide +kernel
theorem dX0_remember_50 : decode cX0_remember 50 = .ok (.bipush 14, 2) := by decide +kernel
theorem dX0_remember_52 : decode cX0_remember 52 = .ok (.irem, 1) := by decide +kernel
theorem dX0_remember_53 : decode cX0_remember 53 = .ok (.putfield 19, 3) := by decide +kernel
theorem dX0_remember_56 : decode cX0_remember 56 = .ok (.return_, 1) := by decide +kernel
theorem dX0_takeBack_0 : decode cX0_takeBack 0 = .ok (.aload_n 0, 1) := by decide +kernel
theorem dX0_takeBack_1 : decode cX0_takeBack 1 = .ok (.getfield 23, 3) := by decide +kernel
theorem dX0_takeBack_4 : decode cX0_takeBack 4 = .ok (.ifCond .ne 5, 3) := by decide +kernel
theorem dX0_takeBack_7 : decode cX0_takeBack 7 = .ok (.iconst 0, 1) := by decide +kernel
theorem dX0_takeBack_8 : decode cX0_takeBack 8 = .ok (.ireturn, 1) := by decide +kernel
theorem dX0_takeBack_9 : decode cX0_takeBack 9 = .ok (.aload_n 0, 1) := by decide +kernel
theorem dX0_takeBack_10 : decode cX0_takeBack 10 = .ok (.dup, 1) := by decide +kernel
theorem dX0_takeBack_11 : decode cX0_takeBack 11 = .ok (.getfield 23, 3) := by decide +kernel
theorem dX0_takeBack_14 : decode cX0_takeBack 14 = .ok (.iconst 1, 1) := by decide +kernel
theorem dX0_takeBack_15 : decode cX0_takeBack 15 = .ok (.isub, 1) := by decide +kernel
theorem dX0_takeBack_16 : decode cX0_takeBack 16 = .ok (.putfield 23, 3) := by decide +kernel
theorem dX0_takeBack_19 : decode cX0_takeBack 19 = .ok (.aload_n 1, 1) := by decide +kernel
theorem dX0_takeBack_20 : decode cX0_takeBack 20 = .ok (.aload_n 0, 1) := by decide +kernel
theorem dX0_takeBack_21 : decode cX0_takeBack 21 = .ok (.getfield 13, 3) := by decide +kernel
theorem dX0_takeBack_24 : decode cX0_takeBack 24 = .ok (.aload_n 0, 1) := by decide +kernel
theorem dX0_takeBack_25 : decode cX0_takeBack 25 = .ok (.getfield 19, 3) := by decide +kernel
theorem dX0_takeBack_28 : decode cX0_takeBack 28 = .ok (.aload_n 0, 1) := by decide +kernel
theorem dX0_takeBack_29 : decode cX0_takeBack 29 = .ok (.getfield 23, 3) := by decide +kernel
theorem dX0_takeBack_32 : decode cX0_takeBack 32 = .ok (.iadd, 1) := by decide +kernel
theorem dX0_takeBack_33 : decode cX0_takeBack 33 = .ok (.bipush 14, 2) := by decide +kernel
theorem dX0_takeBack_35 : decode cX0_takeBack 35 = .ok (.irem, 1) := by decide +kernel
theorem dX0_takeBack_36 : decode cX0_takeBack 36 = .ok (.aaload, 1) := by decide +kernel
theorem dX0_takeBack_37 : decode cX0_takeBack 37 = .ok (.invokevirtual 26, 3) := by decide +kernel
theorem dX0_takeBack_40 : decode cX0_takeBack 40 = .ok (.iconst 1, 1) := by decide +kernel
theorem dX0_takeBack_41 : decode cX0_takeBack 41 = .ok (.ireturn, 1) := by decide +kernel
theorem dX0_forgetAll_0 : decode cX0_forgetAll 0 = .ok (.aload_n 0, 1) := by decide +kernel
theorem dX0_forgetAll_1 : decode cX0_forgetAll 1 = .ok (.iconst 0, 1) := by decide +kernel
theorem dX0_forgetAll_2 : decode cX0_forgetAll 2 = .ok (.putfield 19, 3) := by decide +kernel
theorem dX0_forgetAll_5 : decode cX0_forgetAll 5 = .ok (.aload_n 0, 1) := by decide +kernel
theorem dX0_forgetAll_6 : decode cX0_forgetAll 6 = .ok (.iconst 0, 1) := by decide +kernel
theorem dX0_forgetAll_7 : decode cX0_forgetAll 7 = .ok (.putfield 23, 3) := by decide +kernel
theorem dX0_forgetAll_10 : decode cX0_forgetAll 10 = .ok (.return_, 1) := by decide +kernel
theorem dX1_init_0 : decode cX1_init 0 = .ok (.aload_n 0, 1) := by decide +kernel
theorem dX1_init_1 : decode cX1_init 1 = .ok (.invokespecial 3, 3) := by decide +kernel
theorem dX1_init_4 : decode cX1_init 4 = .ok (.aload_n 0, 1) := by decide +kernel
theorem dX1_init_5 : decode cX1_init 5 = .ok (.iconst 5, 1) := by decide +kernel
theorem dX1_init_6 : decode cX1_init 6 = .ok (.newarray .int, 2) := by decide +kernel
theorem dX1_init_8 : decode cX1_init 8 = .ok (.putfield 9, 3) := by decide +kernel
theorem dX1_init_11 : decode cX1_init 11 = .ok (.aload_n 0, 1) := by decide +kernel
theorem dX1_init_12 : decode cX1_init 12 = .ok (.iconst 5, 1) := by decide +kernel
theorem dX1_init_13 : decode cX1_init 13 = .ok (.newarray .int, 2) := by decide +kernel
theorem dX1_init_15 : decode cX1_init 15 = .ok (.putfield 15, 3) := by decide +kernel
theorem dX1_init_18 : decode cX1_init 18 = .ok (.aload_n 0, 1) := by decide +kernel
theorem dX1_init_19 : decode cX1_init 19 = .ok (.iconst 5, 1) := by decide +kernel
theorem dX1_init_20 : decode cX1_init 20 = .ok (.newarray .int, 2) := by decide +kernel
theorem dX1_init_22 : decode cX1_init 22 = .ok (.putfield 18, 3) := by decide +kernel
theorem dX1_init_25 : decode cX1_init 25 = .ok (.aload_n 0, 1) := by decide +kernel
theorem dX1_init_26 : decode cX1_init 26 = .ok (.iconst 4, 1) := by decide +kernel
theorem dX1_init_27 : decode cX1_init 27 = .ok (.newarray .int, 2) := by decide +kernel
theorem dX1_init_29 : decode cX1_init 29 = .ok (.putfield 21, 3) := by decide +kernel
theorem dX1_init_32 : decode cX1_init 32 = .ok (.aload_n 0, 1) := by decide +kernel
theorem dX1_init_33 : decode cX1_init 33 = .ok (.iconst 4, 1) := by decide +kernel
theorem dX1_init_34 : decode cX1_init 34 = .ok (.newarray .int, 2) := by decide +kernel
theorem dX1_init_36 : decode cX1_init 36 = .ok (.putfield 24, 3) := by decide +kernel
theorem dX1_init_39 : decode cX1_init 39 = .ok (.aload_n 0, 1) := by decide +kernel
theorem dX1_init_40 : decode cX1_init 40 = .ok (.iconst 4, 1) := by decide +kernel
theorem dX1_init_41 : decode cX1_init 41 = .ok (.newarray .int, 2) := by decide +kernel
theorem dX1_init_43 : decode cX1_init 43 = .ok (.putfield 27, 3) := by decide +kernel
theorem dX1_init_46 : decode cX1_init 46 = .ok (.aload_n 0, 1) := by decide +kernel
theorem dX1_init_47 : decode cX1_init 47 = .ok (.iconst 4, 1) := by decide +kernel
theorem dX1_init_48 : decode cX1_init 48 = .ok (.newarray .int, 2) := by decide +kernel
theorem dX1_init_50 : decode cX1_init 50 = .ok (.putfield 30, 3) := by decide +kernel
theorem dX1_init_53 : decode cX1_init 53 = .ok (.aload_n 0, 1) := by decide +kernel
theorem dX1_init_54 : decode cX1_init 54 = .ok (.iconst 4, 1) := by decide +kernel
theorem dX1_init_55 : decode cX1_init 55 = .ok (.newarray .int, 2) := by decide +kernel
theorem dX1_init_57 : decode cX1_init 57 = .ok (.putfield 33, 3) := by decide +kernel
theorem dX1_init_60 : decode cX1_init 60 = .ok (.aload_n 0, 1) := by decide +kernel
theorem dX1_init_61 : decode cX1_init 61 = .ok (.iconst 4, 1) := by decide +kernel
theorem dX1_init_62 : decode cX1_init 62 = .ok (.newarray .int, 2) := by decide +kernel
theorem dX1_init_64 : decode cX1_init 64 = .ok (.putfield 36, 3) := by decide +kernel
theorem dX1_init_67 : decode cX1_init 67 = .ok (.aload_n 0, 1) := by decide +kernel
theorem dX1_init_68 : decode cX1_init 68 = .ok (.iconst 0, 1) := by decide +kernel
theorem dX1_init_69 : decode cX1_init 69 = .ok (.putfield 39, 3) := by decide +kernel
theorem dX1_init_72 : decode cX1_init 72 = .ok (.aload_n 0, 1) := by decide +kernel
theorem dX1_init_73 : decode cX1_init 73 = .ok (.iconst 0, 1) := by decide +kernel
theorem dX1_init_74 : decode cX1_init 74 = .ok (.putfield 43, 3) := by decide +kernel
theorem dX1_init_77 : decode cX1_init 77 = .ok (.aload_n 0, 1) := by decide +kernel
theorem dX1_init_78 : decode cX1_init 78 = .ok (.iconst 0, 1) := by decide +kernel
theorem dX1_init_79 : decode cX1_init 79 = .ok (.putfield 46, 3) := by decide +kernel
theorem dX1_init_82 : decode cX1_init 82 = .ok (.aload_n 0, 1) := by decide +kernel
theorem dX1_init_83 : decode cX1_init 83 = .ok (.iconst 1, 1) := by decide +kernel
theorem dX1_init_84 : decode cX1_init 84 = .ok (.putfield 49, 3) := by decide +kernel
theorem dX1_init_87 : decode cX1_init 87 = .ok (.aload_n 0, 1) := by decide +kernel
theorem dX1_init_88 : decode cX1_init 88 = .ok (.iconst 0, 1) := by decide +kernel
theorem dX1_init_89 : decode cX1_init 89 = .ok (.putfield 52, 3) := by decide +kernel
theorem dX1_init_92 : decode cX1_init 92 = .ok (.return_, 1) := by decide +kernel
theorem dX1_isHusk_0 : decode cX1_isHusk 0 = .ok (.iload_n 1, 1) := by decide +kernel
theorem dX1_isHusk_1 : decode cX1_isHusk 1 = .ok (.ifCond .lt 15, 3) := by decide +kernel
theorem dX1_isHusk_4 : decode cX1_isHusk 4 = .ok (.iload_n 1, 1) := by decide +kernel
theorem dX1_isHusk_5 : decode cX1_isHusk 5 = .ok (.aload_n 0, 1) := by decide +kernel
theorem dX1_isHusk_6 : decode cX1_isHusk 6 = .ok (.getfield 39, 3) := by decide +kernel
theorem dX1_isHusk_9 : decode cX1_isHusk 9 = .ok (.if_icmp .ge 7, 3) := by decide +kernel
theorem dX1_isHusk_12 : decode cX1_isHusk 12 = .ok (.iconst 1, 1) := by decide +kernel
theorem dX1_isHusk_13 : decode cX1_isHusk 13 = .ok (.goto 4, 3) := by decide +kernel
theorem dX1_isHusk_16 : decode cX1_isHusk 16 = .ok (.iconst 0, 1) := by decide +kernel
theorem dX1_isHusk_17 : decode cX1_isHusk 17 = .ok (.ireturn, 1) := by decide +kernel
theorem dX1_isThrower_0 : decode cX1_isThrower 0 = .ok (.iload_n 1, 1) := by decide +kernel
theorem dX1_isThrower_1 : decode cX1_isThrower 1 = .ok (.ifCond .lt 15, 3) := by decide +kernel
theorem dX1_isThrower_4 : decode cX1_isThrower 4 = .ok (.iload_n 1, 1) := by decide +kernel
theorem dX1_isThrower_5 : decode cX1_isThrower 5 = .ok (.aload_n 0, 1) := by decide +kernel
theorem dX1_isThrower_6 : decode cX1_isThrower 6 = .ok (.getfield 43, 3) := by decide +kernel
theorem dX1_isThrower_9 : decode cX1_isThrower 9 = .ok (.if_icmp .ge 7, 3) := by decide +kernel
theorem dX1_isThrower_12 : decode cX1_isThrower 12 = .ok (.iconst 1, 1) := by decide +kernel
theorem dX1_isThrower_13 : decode cX1_isThrower 13 = .ok (.goto 4, 3) := by decide +kernel
theorem dX1_isThrower_16 : decode cX1_isThrower 16 = .ok (.iconst 0, 1) := by decide +kernel
theorem dX1_isThrower_17 : decode cX1_isThrower 17 = .ok (.ireturn, 1) := by decide +kernel
theorem dX1_readFrom_0 : decode cX1_readFrom 0 = .ok (.aload_n 0, 1) := by decide +kernel
theorem dX1_readFrom_1 : decode cX1_readFrom 1 = .ok (.iconst 0, 1) := by decide +kernel
theorem dX1_readFrom_2 : decode cX1_readFrom 2 = .ok (.putfield 39, 3) := by decide +kernel
theorem dX1_readFrom_5 : decode cX1_readFrom 5 = .ok (.aload_n 0, 1) := by decide +kernel
theorem dX1_readFrom_6 : decode cX1_readFrom 6 = .ok (.iconst 0, 1) := by decide +kernel
theorem dX1_readFrom_7 : decode cX1_readFrom 7 = .ok (.putfield 43, 3) := by decide +kernel
theorem dX1_readFrom_10 : decode cX1_readFrom 10 = .ok (.aload_n 0, 1) := by decide +kernel
theorem dX1_readFrom_11 : decode cX1_readFrom 11 = .ok (.iconst 0, 1) := by decide +kernel
theorem dX1_readFrom_12 : decode cX1_readFrom 12 = .ok (.putfield 46, 3) := by decide +kernel
theorem dX1_readFrom_15 : decode cX1_readFrom 15 = .ok (.aload_n 1, 1) := by decide +kernel
theorem dX1_readFrom_16 : decode cX1_readFrom 16 = .ok (.iconst 0, 1) := by decide +kernel
theorem dX1_readFrom_17 : decode cX1_readFrom 17 = .ok (.invokevirtual 55, 3) := by decide +kernel
theorem dX1_readFrom_20 : decode cX1_readFrom 20 = .ok (.bipush 83, 2) := by decide +kernel
theorem dX1_readFrom_22 : decode cX1_readFrom 22 = .ok (.if_icmp .eq 5, 3) := by decide +kernel
theorem dX1_readFrom_25 : decode cX1_readFrom 25 = .ok (.iconst 0, 1) := by decide +kernel
theorem dX1_readFrom_26 : decode cX1_readFrom 26 = .ok (.ireturn, 1) := by decide +kernel
theorem dX1_readFrom_27 : decode cX1_readFrom 27 = .ok (.aload_n 0, 1) := by decide +kernel
theorem dX1_readFrom_28 : decode cX1_readFrom 28 = .ok (.aload_n 1, 1) := by decide +kernel
theorem dX1_readFrom_29 : decode cX1_readFrom 29 = .ok (.iconst 1, 1) := by decide +kernel
theorem dX1_readFrom_30 : decode cX1_readFrom 30 = .ok (.iconst 0, 1) := by decide +kernel
theorem dX1_readFrom_31 : decode cX1_readFrom 31 = .ok (.iconst 2, 1) := by decide +kernel
theorem dX1_readFrom_32 : decode cX1_readFrom 32 = .ok (.invokevirtual 61, 3) := by decide +kernel
theorem dX1_readFrom_35 : decode cX1_readFrom 35 = .ok (.putfield 49, 3) := by decide +kernel
theorem dX1_readFrom_38 : decode cX1_readFrom 38 = .ok (.aload_n 0, 1) := by decide +kernel
theorem dX1_readFrom_39 : decode cX1_readFrom 39 = .ok (.getfield 49, 3) := by decide +kernel
theorem dX1_readFrom_42 : decode cX1_readFrom 42 = .ok (.bipush (-9), 2) := by decide +kernel
theorem dX1_readFrom_44 : decode cX1_readFrom 44 = .ok (.if_icmp .ne 5, 3) := by decide +kernel
theorem dX1_readFrom_47 : decode cX1_readFrom 47 = .ok (.iconst 1, 1) := by decide +kernel
theorem dX1_readFrom_48 : decode cX1_readFrom 48 = .ok (.ireturn, 1) := by decide +kernel
theorem dX1_readFrom_49 : decode cX1_readFrom 49 = .ok (.aload_n 0, 1) := by decide +kernel
theorem dX1_readFrom_50 : decode cX1_readFrom 50 = .ok (.aload_n 1, 1) := by decide +kernel
theorem dX1_readFrom_51 : decode cX1_readFrom 51 = .ok (.iconst 2, 1) := by decide +kernel
theorem dX1_readFrom_52 : decode cX1_readFrom 52 = .ok (.iconst 0, 1) := by decide +kernel
theorem dX1_readFrom_53 : decode cX1_readFrom 53 = .ok (.bipush 9, 2) := by decide +kernel
theorem dX1_readFrom_55 : decode cX1_readFrom 55 = .ok (.invokevirtual 61, 3) := by decide +kernel
theorem dX1_readFrom_58 : decode cX1_readFrom 58 = .ok (.putfield 52, 3) := by decide +kernel
theorem dX1_readFrom_61 : decode cX1_readFrom 61 = .ok (.aload_n 0, 1) := by decide +kernel
theorem dX1_readFrom_62 : decode cX1_readFrom 62 = .ok (.getfield 52, 3) := by decide +kernel
theorem dX1_readFrom_65 : decode cX1_readFrom 65 = .ok (.bipush (-9), 2) := by decide +kernel
theorem dX1_readFrom_67 : decode cX1_readFrom 67 = .ok (.if_icmp .ne 5, 3) := by decide +kernel
theorem dX1_readFrom_70 : decode cX1_readFrom 70 = .ok (.iconst 2, 1) := by decide +kernel
theorem dX1_readFrom_71 : decode cX1_readFrom 71 = .ok (.ireturn, 1) := by decide +kernel
theorem dX1_readFrom_72 : decode cX1_readFrom 72 = .ok (.iconst 3, 1) := by decide +kernel
theorem dX1_readFrom_73 : decode cX1_readFrom 73 = .ok (.istore_n 2, 1) := by decide +kernel
theorem dX1_readFrom_74 : decode cX1_readFrom 74 = .ok (.iload_n 2, 1) := by decide +kernel
theorem dX1_readFrom_75 : decode cX1_readFrom 75 = .ok (.aload_n 1, 1) := by decide +kernel
theorem dX1_readFrom_76 : decode cX1_readFrom 76 = .ok (.getfield 65, 3) := by decide +kernel
theorem dX1_readFrom_79 : decode cX1_readFrom 79 = .ok (.if_icmp .ge 24, 3) := by decide +kernel
theorem dX1_readFrom_82 : decode cX1_readFrom 82 = .ok (.aload_n 0, 1) := by decide +kernel
theorem dX1_readFrom_83 : decode cX1_readFrom 83 = .ok (.aload_n 1, 1) := by decide +kernel
theorem dX1_readFrom_84 : decode cX1_readFrom 84 = .ok (.iload_n 2, 1) := by decide +kernel
theorem dX1_readFrom_85 : decode cX1_readFrom 85 = .ok (.invokevirtual 68, 3) := by decide +kernel
theorem dX1_readFrom_88 : decode cX1_readFrom 88 = .ok (.istore_n 3, 1) := by decide +kernel
theorem dX1_readFrom_89 : decode cX1_readFrom 89 = .ok (.iload_n 3, 1) := by decide +kernel
theorem dX1_readFrom_90 : decode cX1_readFrom 90 = .ok (.bipush (-9), 2) := by decide +kernel
theorem dX1_readFrom_92 : decode cX1_readFrom 92 = .ok (.if_icmp .eq 5, 3) := by decide +kernel
theorem dX1_readFrom_95 : decode cX1_readFrom 95 = .ok (.iload_n 3, 1) := by decide +kernel
theorem dX1_readFrom_96 : decode cX1_readFrom 96 = .ok (.ireturn, 1) := by decide +kernel
theorem dX1_readFrom_97 : decode cX1_readFrom 97 = .ok (.iinc 2 4, 3) := by decide +kernel
theorem dX1_readFrom_100 : decode cX1_readFrom 100 = .ok (.goto (-26), 3) := by decide +kernel
theorem dX1_readFrom_103 : decode cX1_readFrom 103 = .ok (.bipush (-9), 2) := by decide +kernel
theorem dX1_readFrom_105 : decode cX1_readFrom 105 = .ok (.ireturn, 1) := by decide +kernel
theorem dX1_readPart_0 : decode cX1_readPart 0 = .ok (.aload_n 1, 1) := by decide +kernel
theorem dX1_readPart_1 : decode cX1_readPart 1 = .ok (.iload_n 2, 1) := by decide +kernel
theorem dX1_readPart_2 : decode cX1_readPart 2 = .ok (.invokevirtual 55, 3) := by decide +kernel
theorem dX1_readPart_5 : decode cX1_readPart 5 = .ok (.lookupswitch 56 #[(72, 35), (76, 49), (84, 42)], 35) := by decide +kernel
theorem dX1_readPart_40 : decode cX1_readPart 40 = .ok (.aload_n 0, 1) := by decide +kernel
theorem dX1_readPart_41 : decode cX1_readPart 41 = .ok (.aload_n 1, 1) := by decide +kernel
theorem dX1_readPart_42 : decode cX1_readPart 42 = .ok (.iload_n 2, 1) := by decide +kernel
theorem dX1_readPart_43 : decode cX1_readPart 43 = .ok (.invokevirtual 72, 3) := by decide +kernel
theorem dX1_readPart_46 : decode cX1_readPart 46 = .ok (.ireturn, 1) := by decide +kernel
theorem dX1_readPart_47 : decode cX1_readPart 47 = .ok (.aload_n 0, 1) := by decide +kernel
theorem dX1_readPart_48 : decode cX1_readPart 48 = .ok (.aload_n 1, 1) := by decide +kernel
theorem dX1_readPart_49 : decode cX1_readPart 49 = .ok (.iload_n 2, 1) := by decide +kernel
theorem dX1_readPart_50 : decode cX1_readPart 50 = .ok (.invokevirtual 75, 3) := by decide +kernel
theorem dX1_readPart_53 : decode cX1_readPart 53 = .ok (.ireturn, 1) := by decide +kernel
theorem dX1_readPart_54 : decode cX1_readPart 54 = .ok (.aload_n 0, 1) := by decide +kernel
theorem dX1_readPart_55 : decode cX1_readPart 55 = .ok (.aload_n 1, 1) := by decide +kernel
theorem dX1_readPart_56 : decode cX1_readPart 56 = .ok (.iload_n 2, 1) := by decide +kernel
theorem dX1_readPart_57 : decode cX1_readPart 57 = .ok (.invokevirtual 78, 3) := by decide +kernel
theorem dX1_readPart_60 : decode cX1_readPart 60 = .ok (.ireturn, 1) := by decide +kernel
theorem dX1_readPart_61 : decode cX1_readPart 61 = .ok (.iload_n 2, 1) := by decide +kernel
theorem dX1_readPart_62 : decode cX1_readPart 62 = .ok (.ireturn, 1) := by decide +kernel
theorem dX1_readHusk_0 : decode cX1_readHusk 0 = .ok (.aload_n 0, 1) := by decide +kernel
theorem dX1_readHusk_1 : decode cX1_readHusk 1 = .ok (.getfield 39, 3) := by decide +kernel
theorem dX1_readHusk_4 : decode cX1_readHusk 4 = .ok (.iconst 5, 1) := by decide +kernel
theorem dX1_readHusk_5 : decode cX1_readHusk 5 = .ok (.if_icmp .lt 5, 3) := by decide +kernel
theorem dX1_readHusk_8 : decode cX1_readHusk 8 = .ok (.iload_n 2, 1) := by decide +kernel
theorem dX1_readHusk_9 : decode cX1_readHusk 9 = .ok (.ireturn, 1) := by decide +kernel
theorem dX1_readHusk_10 : decode cX1_readHusk 10 = .ok (.aload_n 1, 1) := by decide +kernel
theorem dX1_readHusk_11 : decode cX1_readHusk 11 = .ok (.iload_n 2, 1) := by decide +kernel
theorem dX1_readHusk_12 : decode cX1_readHusk 12 = .ok (.iconst 1, 1) := by decide +kernel
theorem dX1_readHusk_13 : decode cX1_readHusk 13 = .ok (.iadd, 1) := by decide +kernel
theorem dX1_readHusk_14 : decode cX1_readHusk 14 = .ok (.iconst 0, 1) := by decide +kernel
theorem dX1_readHusk_15 : decode cX1_readHusk 15 = .ok (.bipush 7, 2) := by decide +kernel
theorem dX1_readHusk_17 : decode cX1_readHusk 17 = .ok (.invokevirtual 61, 3) := by decide +kernel
theorem dX1_readHusk_20 : decode cX1_readHusk 20 = .ok (.istore_n 3, 1) := by decide +kernel
theorem dX1_readHusk_21 : decode cX1_readHusk 21 = .ok (.iload_n 3, 1) := by decide +kernel
theorem dX1_readHusk_22 : decode cX1_readHusk 22 = .ok (.bipush (-9), 2) := by decide +kernel
theorem dX1_readHusk_24 : decode cX1_readHusk 24 = .ok (.if_icmp .eq 13, 3) := by decide +kernel
theorem dX1_readHusk_27 : decode cX1_readHusk 27 = .ok (.aload_n 0, 1) := by decide +kernel
theorem dX1_readHusk_28 : decode cX1_readHusk 28 = .ok (.iload_n 3, 1) := by decide +kernel
theorem dX1_readHusk_29 : decode cX1_readHusk 29 = .ok (.invokevirtual 81, 3) := by decide +kernel
theorem dX1_readHusk_32 : decode cX1_readHusk 32 = .ok (.bipush (-9), 2) := by decide +kernel
theorem dX1_readHusk_34 : decode cX1_readHusk 34 = .ok (.if_icmp .eq 7, 3) := by decide +kernel
theorem dX1_readHusk_37 : decode cX1_readHusk 37 = .ok (.iload_n 2, 1) := by decide +kernel
theorem dX1_readHusk_38 : decode cX1_readHusk 38 = .ok (.iconst 1, 1) := by decide +kernel
theorem dX1_readHusk_39 : decode cX1_readHusk 39 = .ok (.iadd, 1) := by decide +kernel
theorem dX1_readHusk_40 : decode cX1_readHusk 40 = .ok (.ireturn, 1) := by decide +kernel
theorem dX1_readHusk_41 : decode cX1_readHusk 41 = .ok (.aload_n 1, 1) := by decide +kernel
theorem dX1_readHusk_42 : decode cX1_readHusk 42 = .ok (.iload_n 2, 1) := by decide +kernel
theorem dX1_readHusk_43 : decode cX1_readHusk 43 = .ok (.iconst 2, 1) := by decide +kernel
theorem dX1_readHusk_44 : decode cX1_readHusk 44 = .ok (.iadd, 1) := by decide +kernel
theorem dX1_readHusk_45 : decode cX1_readHusk 45 = .ok (.iconst 1, 1) := by decide +kernel
theorem dX1_readHusk_46 : decode cX1_readHusk 46 = .ok (.bipush 9, 2) := by decide +kernel
theorem dX1_readHusk_48 : decode cX1_readHusk 48 = .ok (.invokevirtual 61, 3) := by decide +kernel
theorem dX1_readHusk_51 : decode cX1_readHusk 51 = .ok (.istore 4, 2) := by decide +kernel
theorem dX1_readHusk_53 : decode cX1_readHusk 53 = .ok (.iload 4, 2) := by decide +kernel
theorem dX1_readHusk_55 : decode cX1_readHusk 55 = .ok (.bipush (-9), 2) := by decide +kernel
theorem dX1_readHusk_57 : decode cX1_readHusk 57 = .ok (.if_icmp .ne 7, 3) := by decide +kernel
theorem dX1_readHusk_60 : decode cX1_readHusk 60 = .ok (.iload_n 2, 1) := by decide +kernel
theorem dX1_readHusk_61 : decode cX1_readHusk 61 = .ok (.iconst 2, 1) := by decide +kernel
theorem dX1_readHusk_62 : decode cX1_readHusk 62 = .ok (.iadd, 1) := by decide +kernel
theorem dX1_readHusk_63 : decode cX1_readHusk 63 = .ok (.ireturn, 1) := by decide +kernel
theorem dX1_readHusk_64 : decode cX1_readHusk 64 = .ok (.aload_n 1, 1) := by decide +kernel
theorem dX1_readHusk_65 : decode cX1_readHusk 65 = .ok (.iload_n 2, 1) := by decide +kernel
theorem dX1_readHusk_66 : decode cX1_readHusk 66 = .ok (.iconst 3, 1) := by decide +kernel
theorem dX1_readHusk_67 : decode cX1_readHusk 67 = .ok (.iadd, 1) := by decide +kernel
theorem dX1_readHusk_68 : decode cX1_readHusk 68 = .ok (.iconst 0, 1) := by decide +kernel
theorem dX1_readHusk_69 : decode cX1_readHusk 69 = .ok (.iconst 3, 1) := by decide +kernel
theorem dX1_readHusk_70 : decode cX1_readHusk 70 = .ok (.invokevirtual 61, 3) := by decide +kernel
theorem dX1_readHusk_73 : decode cX1_readHusk 73 = .ok (.istore 5, 2) := by decide +kernel
theorem dX1_readHusk_75 : decode cX1_readHusk 75 = .ok (.iload 5, 2) := by decide +kernel
theorem dX1_readHusk_77 : decode cX1_readHusk 77 = .ok (.bipush (-9), 2) := by decide +kernel
theorem dX1_readHusk_79 : decode cX1_readHusk 79 = .ok (.if_icmp .ne 7, 3) := by decide +kernel
theorem dX1_readHusk_82 : decode cX1_readHusk 82 = .ok (.iload_n 2, 1) := by decide +kernel
theorem dX1_readHusk_83 : decode cX1_readHusk 83 = .ok (.iconst 3, 1) := by decide +kernel
theorem dX1_readHusk_84 : decode cX1_readHusk 84 = .ok (.iadd, 1) := by decide +kernel
theorem dX1_readHusk_85 : decode cX1_readHusk 85 = .ok (.ireturn, 1) := by decide +kernel
theorem dX1_readHusk_86 : decode cX1_readHusk 86 = .ok (.aload_n 0, 1) := by decide +kernel
theorem dX1_readHusk_87 : decode cX1_readHusk 87 = .ok (.getfield 9, 3) := by decide +kernel
theorem dX1_readHusk_90 : decode cX1_readHusk 90 = .ok (.aload_n 0, 1) := by decide +kernel
theorem dX1_readHusk_91 : decode cX1_readHusk 91 = .ok (.getfield 39, 3) := by decide +kernel
theorem dX1_readHusk_94 : decode cX1_readHusk 94 = .ok (.iload_n 3, 1) := by decide +kernel
theorem dX1_readHusk_95 : decode cX1_readHusk 95 = .ok (.iastore, 1) := by decide +kernel
theorem dX1_readHusk_96 : decode cX1_readHusk 96 = .ok (.aload_n 0, 1) := by decide +kernel
theorem dX1_readHusk_97 : decode cX1_readHusk 97 = .ok (.getfield 15, 3) := by decide +kernel
theorem dX1_readHusk_100 : decode cX1_readHusk 100 = .ok (.aload_n 0, 1) := by decide +kernel
theorem dX1_readHusk_101 : decode cX1_readHusk 101 = .ok (.getfield 39, 3) := by decide +kernel
theorem dX1_readHusk_104 : decode cX1_readHusk 104 = .ok (.iload 4, 2) := by decide +kernel
theorem dX1_readHusk_106 : decode cX1_readHusk 106 = .ok (.iastore, 1) := by decide +kernel
theorem dX1_readHusk_107 : decode cX1_readHusk 107 = .ok (.aload_n 0, 1) := by decide +kernel
theorem dX1_readHusk_108 : decode cX1_readHusk 108 = .ok (.getfield 18, 3) := by decide +kernel
theorem dX1_readHusk_111 : decode cX1_readHusk 111 = .ok (.aload_n 0, 1) := by decide +kernel
theorem dX1_readHusk_112 : decode cX1_readHusk 112 = .ok (.getfield 39, 3) := by decide +kernel
theorem dX1_readHusk_115 : decode cX1_readHusk 115 = .ok (.iload 5, 2) := by decide +kernel
theorem dX1_readHusk_117 : decode cX1_readHusk 117 = .ok (.iastore, 1) := by decide +kernel
theorem dX1_readHusk_118 : decode cX1_readHusk 118 = .ok (.aload_n 0, 1) := by decide +kernel
theorem dX1_readHusk_119 : decode cX1_readHusk 119 = .ok (.dup, 1) := by decide +kernel
theorem dX1_readHusk_120 : decode cX1_readHusk 120 = .ok (.getfield 39, 3) := by decide +kernel
theorem dX1_readHusk_123 : decode cX1_readHusk 123 = .ok (.iconst 1, 1) := by decide +kernel
theorem dX1_readHusk_124 : decode cX1_readHusk 124 = .ok (.iadd, 1) := by decide +kernel
theorem dX1_readHusk_125 : decode cX1_readHusk 125 = .ok (.putfield 39, 3) := by decide +kernel
theorem dX1_readHusk_128 : decode cX1_readHusk 128 = .ok (.bipush (-9), 2) := by decide +kernel
theorem dX1_readHusk_130 : decode cX1_readHusk 130 = .ok (.ireturn, 1) := by decide +kernel
theorem dX1_readThrower_0 : decode cX1_readThrower 0 = .ok (.aload_n 0, 1) := by decide +kernel
theorem dX1_readThrower_1 : decode cX1_readThrower 1 = .ok (.getfield 43, 3) := by decide +kernel
theorem dX1_readThrower_4 : decode cX1_readThrower 4 = .ok (.iconst 4, 1) := by decide +kernel
theorem dX1_readThrower_5 : decode cX1_readThrower 5 = .ok (.if_icmp .lt 5, 3) := by decide +kernel
theorem dX1_readThrower_8 : decode cX1_readThrower 8 = .ok (.iload_n 2, 1) := by decide +kernel
theorem dX1_readThrower_9 : decode cX1_readThrower 9 = .ok (.ireturn, 1) := by decide +kernel
theorem dX1_readThrower_10 : decode cX1_readThrower 10 = .ok (.aload_n 1, 1) := by decide +kernel
theorem dX1_readThrower_11 : decode cX1_readThrower 11 = .ok (.iload_n 2, 1) := by decide +kernel
theorem dX1_readThrower_12 : decode cX1_readThrower 12 = .ok (.iconst 1, 1) := by decide +kernel
theorem dX1_readThrower_13 : decode cX1_readThrower 13 = .ok (.iadd, 1) := by decide +kernel
theorem dX1_readThrower_14 : decode cX1_readThrower 14 = .ok (.iconst 0, 1) := by decide +kernel
theorem dX1_readThrower_15 : decode cX1_readThrower 15 = .ok (.iconst 3, 1) := by decide +kernel
theorem dX1_readThrower_16 : decode cX1_readThrower 16 = .ok (.invokevirtual 61, 3) := by decide +kernel
theorem dX1_readThrower_19 : decode cX1_readThrower 19 = .ok (.istore_n 3, 1) := by decide +kernel
theorem dX1_readThrower_20 : decode cX1_readThrower 20 = .ok (.iload_n 3, 1) := by decide +kernel
theorem dX1_readThrower_21 : decode cX1_readThrower 21 = .ok (.bipush (-9), 2) := by decide +kernel
theorem dX1_readThrower_23 : decode cX1_readThrower 23 = .ok (.if_icmp .ne 7, 3) := by decide +kernel
theorem dX1_readThrower_26 : decode cX1_readThrower 26 = .ok (.iload_n 2, 1) := by decide +kernel
theorem dX1_readThrower_27 : decode cX1_readThrower 27 = .ok (.iconst 1, 1) := by decide +kernel
theorem dX1_readThrower_28 : decode cX1_readThrower 28 = .ok (.iadd, 1) := by decide +kernel
theorem dX1_readThrower_29 : decode cX1_readThrower 29 = .ok (.ireturn, 1) := by decide +kernel
theorem dX1_readThrower_30 : decode cX1_readThrower 30 = .ok (.aload_n 1, 1) := by decide +kernel
theorem dX1_readThrower_31 : decode cX1_readThrower 31 = .ok (.iload_n 2, 1) := by decide +kernel
theorem dX1_readThrower_32 : decode cX1_readThrower 32 = .ok (.iconst 2, 1) := by decide +kernel
theorem dX1_readThrower_33 : decode cX1_readThrower 33 = .ok (.iadd, 1) := by decide +kernel
theorem dX1_readThrower_34 : decode cX1_readThrower 34 = .ok (.iconst 1, 1) := by decide +kernel
theorem dX1_readThrower_35 : decode cX1_readThrower 35 = .ok (.bipush 9, 2) := by decide +kernel
theorem dX1_readThrower_37 : decode cX1_readThrower 37 = .ok (.invokevirtual 61, 3) := by decide +kernel
theorem dX1_readThrower_40 : decode cX1_readThrower 40 = .ok (.istore 4, 2) := by decide +kernel
theorem dX1_readThrower_42 : decode cX1_readThrower 42 = .ok (.iload 4, 2) := by decide +kernel
theorem dX1_readThrower_44 : decode cX1_readThrower 44 = .ok (.bipush (-9), 2) := by decide +kernel
theorem dX1_readThrower_46 : decode cX1_readThrower 46 = .ok (.if_icmp .ne 7, 3) := by decide +kernel
theorem dX1_readThrower_49 : decode cX1_readThrower 49 = .ok (.iload_n 2, 1) := by decide +kernel
theorem dX1_readThrower_50 : decode cX1_readThrower 50 = .ok (.iconst 2, 1) := by decide +kernel
theorem dX1_readThrower_51 : decode cX1_readThrower 51 = .ok (.iadd, 1) := by decide +kernel
theorem dX1_readThrower_52 : decode cX1_readThrower 52 = .ok (.ireturn, 1) := by decide +kernel
theorem dX1_readThrower_53 : decode cX1_readThrower 53 = .ok (.aload_n 1, 1) := by decide +kernel
theorem dX1_readThrower_54 : decode cX1_readThrower 54 = .ok (.iload_n 2, 1) := by decide +kernel
theorem dX1_readThrower_55 : decode cX1_readThrower 55 = .ok (.iconst 3, 1) := by decide +kernel
theorem dX1_readThrower_56 : decode cX1_readThrower 56 = .ok (.iadd, 1) := by decide +kernel
theorem dX1_readThrower_57 : decode cX1_readThrower 57 = .ok (.iconst 0, 1) := by decide +kernel
theorem dX1_readThrower_58 : decode cX1_readThrower 58 = .ok (.iconst 3, 1) := by decide +kernel
theorem dX1_readThrower_59 : decode cX1_readThrower 59 = .ok (.invokevirtual 61, 3) := by decide +kernel
theorem dX1_readThrower_62 : decode cX1_readThrower 62 = .ok (.istore 5, 2) := by decide +kernel
theorem dX1_readThrower_64 : decode cX1_readThrower 64 = .ok (.iload 5, 2) := by decide +kernel
theorem dX1_readThrower_66 : decode cX1_readThrower 66 = .ok (.bipush (-9), 2) := by decide +kernel
theorem dX1_readThrower_68 : decode cX1_readThrower 68 = .ok (.if_icmp .ne 7, 3) := by decide +kernel
theorem dX1_readThrower_71 : decode cX1_readThrower 71 = .ok (.iload_n 2, 1) := by decide +kernel
theorem dX1_readThrower_72 : decode cX1_readThrower 72 = .ok (.iconst 3, 1) := by decide +kernel
theorem dX1_readThrower_73 : decode cX1_readThrower 73 = .ok (.iadd, 1) := by decide +kernel
theorem dX1_readThrower_74 : decode cX1_readThrower 74 = .ok (.ireturn, 1) := by decide +kernel
theorem dX1_readThrower_75 : decode cX1_readThrower 75 = .ok (.aload_n 0, 1) := by decide +kernel
theorem dX1_readThrower_76 : decode cX1_readThrower 76 = .ok (.getfield 21, 3) := by decide +kernel
theorem dX1_readThrower_79 : decode cX1_readThrower 79 = .ok (.aload_n 0, 1) := by decide +kernel
theorem dX1_readThrower_80 : decode cX1_readThrower 80 = .ok (.getfield 43, 3) := by decide +kernel
theorem dX1_readThrower_83 : decode cX1_readThrower 83 = .ok (.iload_n 3, 1) := by decide +kernel
theorem dX1_readThrower_84 : decode cX1_readThrower 84 = .ok (.iastore, 1) := by decide +kernel
theorem dX1_readThrower_85 : decode cX1_readThrower 85 = .ok (.aload_n 0, 1) := by decide +kernel
theorem dX1_readThrower_86 : decode cX1_readThrower 86 = .ok (.getfield 24, 3) := by decide +kernel
theorem dX1_readThrower_89 : decode cX1_readThrower 89 = .ok (.aload_n 0, 1) := by decide +kernel
theorem dX1_readThrower_90 : decode cX1_readThrower 90 = .ok (.getfield 43, 3) := by decide +kernel
theorem dX1_readThrower_93 : decode cX1_readThrower 93 = .ok (.iload 4, 2) := by decide +kernel
theorem dX1_readThrower_95 : decode cX1_readThrower 95 = .ok (.iastore, 1) := by decide +kernel
theorem dX1_readThrower_96 : decode cX1_readThrower 96 = .ok (.aload_n 0, 1) := by decide +kernel
theorem dX1_readThrower_97 : decode cX1_readThrower 97 = .ok (.getfield 27, 3) := by decide +kernel
theorem dX1_readThrower_100 : decode cX1_readThrower 100 = .ok (.aload_n 0, 1) := by decide +kernel
theorem dX1_readThrower_101 : decode cX1_readThrower 101 = .ok (.getfield 43, 3) := by decide +kernel
theorem dX1_readThrower_104 : decode cX1_readThrower 104 = .ok (.iload 5, 2) := by decide +kernel
theorem dX1_readThrower_106 : decode cX1_readThrower 106 = .ok (.iastore, 1) := by decide +kernel
theorem dX1_readThrower_107 : decode cX1_readThrower 107 = .ok (.aload_n 0, 1) := by decide +kernel
theorem dX1_readThrower_108 : decode cX1_readThrower 108 = .ok (.dup, 1) := by decide +kernel
theorem dX1_readThrower_109 : decode cX1_readThrower 109 = .ok (.getfield 43, 3) := by decide +kernel
theorem dX1_readThrower_112 : decode cX1_readThrower 112 = .ok (.iconst 1, 1) := by decide +kernel
theorem dX1_readThrower_113 : decode cX1_readThrower 113 = .ok (.iadd, 1) := by decide +kernel
theorem dX1_readThrower_114 : decode cX1_readThrower 114 = .ok (.putfield 43, 3) := by decide +kernel
theorem dX1_readThrower_117 : decode cX1_readThrower 117 = .ok (.bipush (-9), 2) := by decide +kernel
theorem dX1_readThrower_119 : decode cX1_readThrower 119 = .ok (.ireturn, 1) := by decide +kernel
theorem dX1_readLaw_0 : decode cX1_readLaw 0 = .ok (.aload_n 0, 1) := by decide +kernel
theorem dX1_readLaw_1 : decode cX1_readLaw 1 = .ok (.getfield 46, 3) := by decide +kernel
theorem dX1_readLaw_4 : decode cX1_readLaw 4 = .ok (.iconst 4, 1) := by decide +kernel
theorem dX1_readLaw_5 : decode cX1_readLaw 5 = .ok (.if_icmp .ge 11, 3) := by decide +kernel
theorem dX1_readLaw_8 : decode cX1_readLaw 8 = .ok (.aload_n 0, 1) := by decide +kernel
theorem dX1_readLaw_9 : decode cX1_readLaw 9 = .ok (.getfield 39, 3) := by decide +kernel
theorem dX1_readLaw_12 : decode cX1_readLaw 12 = .ok (.iconst 2, 1) := by decide +kernel
theorem dX1_readLaw_13 : decode cX1_readLaw 13 = .ok (.if_icmp .ge 5, 3) := by decide +kernel
theorem dX1_readLaw_16 : decode cX1_readLaw 16 = .ok (.iload_n 2, 1) := by decide +kernel
theorem dX1_readLaw_17 : decode cX1_readLaw 17 = .ok (.ireturn, 1) := by decide +kernel
theorem dX1_readLaw_18 : decode cX1_readLaw 18 = .ok (.aload_n 1, 1) := by decide +kernel
theorem dX1_readLaw_19 : decode cX1_readLaw 19 = .ok (.iload_n 2, 1) := by decide +kernel
theorem dX1_readLaw_20 : decode cX1_readLaw 20 = .ok (.iconst 1, 1) := by decide +kernel
theorem dX1_readLaw_21 : decode cX1_readLaw 21 = .ok (.iadd, 1) := by decide +kernel
theorem dX1_readLaw_22 : decode cX1_readLaw 22 = .ok (.iconst 0, 1) := by decide +kernel
theorem dX1_readLaw_23 : decode cX1_readLaw 23 = .ok (.aload_n 0, 1) := by decide +kernel
theorem dX1_readLaw_24 : decode cX1_readLaw 24 = .ok (.getfield 39, 3) := by decide +kernel
theorem dX1_readLaw_27 : decode cX1_readLaw 27 = .ok (.iconst 1, 1) := by decide +kernel
theorem dX1_readLaw_28 : decode cX1_readLaw 28 = .ok (.isub, 1) := by decide +kernel
theorem dX1_readLaw_29 : decode cX1_readLaw 29 = .ok (.invokevirtual 61, 3) := by decide +kernel
theorem dX1_readLaw_32 : decode cX1_readLaw 32 = .ok (.istore_n 3, 1) := by decide +kernel
theorem dX1_readLaw_33 : decode cX1_readLaw 33 = .ok (.iload_n 3, 1) := by decide +kernel
theorem dX1_readLaw_34 : decode cX1_readLaw 34 = .ok (.bipush (-9), 2) := by decide +kernel
theorem dX1_readLaw_36 : decode cX1_readLaw 36 = .ok (.if_icmp .ne 7, 3) := by decide +kernel
theorem dX1_readLaw_39 : decode cX1_readLaw 39 = .ok (.iload_n 2, 1) := by decide +kernel
theorem dX1_readLaw_40 : decode cX1_readLaw 40 = .ok (.iconst 1, 1) := by decide +kernel
theorem dX1_readLaw_41 : decode cX1_readLaw 41 = .ok (.iadd, 1) := by decide +kernel
theorem dX1_readLaw_42 : decode cX1_readLaw 42 = .ok (.ireturn, 1) := by decide +kernel
theorem dX1_readLaw_43 : decode cX1_readLaw 43 = .ok (.aload_n 1, 1) := by decide +kernel
theorem dX1_readLaw_44 : decode cX1_readLaw 44 = .ok (.iload_n 2, 1) := by decide +kernel
theorem dX1_readLaw_45 : decode cX1_readLaw 45 = .ok (.iconst 2, 1) := by decide +kernel
theorem dX1_readLaw_46 : decode cX1_readLaw 46 = .ok (.iadd, 1) := by decide +kernel
theorem dX1_readLaw_47 : decode cX1_readLaw 47 = .ok (.iconst 0, 1) := by decide +kernel
theorem dX1_readLaw_48 : decode cX1_readLaw 48 = .ok (.aload_n 0, 1) := by decide +kernel
theorem dX1_readLaw_49 : decode cX1_readLaw 49 = .ok (.getfield 39, 3) := by decide +kernel
theorem dX1_readLaw_52 : decode cX1_readLaw 52 = .ok (.iconst 1, 1) := by decide +kernel
theorem dX1_readLaw_53 : decode cX1_readLaw 53 = .ok (.isub, 1) := by decide +kernel
theorem dX1_readLaw_54 : decode cX1_readLaw 54 = .ok (.invokevirtual 61, 3) := by decide +kernel
theorem dX1_readLaw_57 : decode cX1_readLaw 57 = .ok (.istore 4, 2) := by decide +kernel
theorem dX1_readLaw_59 : decode cX1_readLaw 59 = .ok (.iload 4, 2) := by decide +kernel
theorem dX1_readLaw_61 : decode cX1_readLaw 61 = .ok (.bipush (-9), 2) := by decide +kernel
theorem dX1_readLaw_63 : decode cX1_readLaw 63 = .ok (.if_icmp .eq 9, 3) := by decide +kernel
theorem dX1_readLaw_66 : decode cX1_readLaw 66 = .ok (.iload 4, 2) := by decide +kernel
theorem dX1_readLaw_68 : decode cX1_readLaw 68 = .ok (.iload_n 3, 1) := by decide +kernel
theorem dX1_readLaw_69 : decode cX1_readLaw 69 = .ok (.if_icmp .ne 7, 3) := by decide +kernel
theorem dX1_readLaw_72 : decode cX1_readLaw 72 = .ok (.iload_n 2, 1) := by decide +kernel
theorem dX1_readLaw_73 : decode cX1_readLaw 73 = .ok (.iconst 2, 1) := by decide +kernel
theorem dX1_readLaw_74 : decode cX1_readLaw 74 = .ok (.iadd, 1) := by decide +kernel
theorem dX1_readLaw_75 : decode cX1_readLaw 75 = .ok (.ireturn, 1) := by decide +kernel
theorem dX1_readLaw_76 : decode cX1_readLaw 76 = .ok (.aload_n 1, 1) := by decide +kernel
theorem dX1_readLaw_77 : decode cX1_readLaw 77 = .ok (.iload_n 2, 1) := by decide +kernel
theorem dX1_readLaw_78 : decode cX1_readLaw 78 = .ok (.iconst 3, 1) := by decide +kernel
theorem dX1_readLaw_79 : decode cX1_readLaw 79 = .ok (.iadd, 1) := by decide +kernel
theorem dX1_readLaw_80 : decode cX1_readLaw 80 = .ok (.iconst 0, 1) := by decide +kernel
theorem dX1_readLaw_81 : decode cX1_readLaw 81 = .ok (.iconst 1, 1) := by decide +kernel
theorem dX1_readLaw_82 : decode cX1_readLaw 82 = .ok (.invokevirtual 61, 3) := by decide +kernel
theorem dX1_readLaw_85 : decode cX1_readLaw 85 = .ok (.istore 5, 2) := by decide +kernel
theorem dX1_readLaw_87 : decode cX1_readLaw 87 = .ok (.iload 5, 2) := by decide +kernel
theorem dX1_readLaw_89 : decode cX1_readLaw 89 = .ok (.bipush (-9), 2) := by decide +kernel
theorem dX1_readLaw_91 : decode cX1_readLaw 91 = .ok (.if_icmp .ne 7, 3) := by decide +kernel
theorem dX1_readLaw_94 : decode cX1_readLaw 94 = .ok (.iload_n 2, 1) := by decide +kernel
theorem dX1_readLaw_95 : decode cX1_readLaw 95 = .ok (.iconst 3, 1) := by decide +kernel
theorem dX1_readLaw_96 : decode cX1_readLaw 96 = .ok (.iadd, 1) := by decide +kernel
theorem dX1_readLaw_97 : decode cX1_readLaw 97 = .ok (.ireturn, 1) := by decide +kernel
theorem dX1_readLaw_98 : decode cX1_readLaw 98 = .ok (.aload_n 0, 1) := by decide +kernel
theorem dX1_readLaw_99 : decode cX1_readLaw 99 = .ok (.getfield 30, 3) := by decide +kernel
theorem dX1_readLaw_102 : decode cX1_readLaw 102 = .ok (.aload_n 0, 1) := by decide +kernel
theorem dX1_readLaw_103 : decode cX1_readLaw 103 = .ok (.getfield 46, 3) := by decide +kernel
theorem dX1_readLaw_106 : decode cX1_readLaw 106 = .ok (.iload_n 3, 1) := by decide +kernel
theorem dX1_readLaw_107 : decode cX1_readLaw 107 = .ok (.iastore, 1) := by decide +kernel
theorem dX1_readLaw_108 : decode cX1_readLaw 108 = .ok (.aload_n 0, 1) := by decide +kernel
theorem dX1_readLaw_109 : decode cX1_readLaw 109 = .ok (.getfield 33, 3) := by decide +kernel
theorem dX1_readLaw_112 : decode cX1_readLaw 112 = .ok (.aload_n 0, 1) := by decide +kernel
theorem dX1_readLaw_113 : decode cX1_readLaw 113 = .ok (.getfield 46, 3) := by decide +kernel
theorem dX1_readLaw_116 : decode cX1_readLaw 116 = .ok (.iload 4, 2) := by decide +kernel
theorem dX1_readLaw_118 : decode cX1_readLaw 118 = .ok (.iastore, 1) := by decide +kernel
theorem dX1_readLaw_119 : decode cX1_readLaw 119 = .ok (.aload_n 0, 1) := by decide +kernel
theorem dX1_readLaw_120 : decode cX1_readLaw 120 = .ok (.getfield 36, 3) := by decide +kernel
theorem dX1_readLaw_123 : decode cX1_readLaw 123 = .ok (.aload_n 0, 1) := by decide +kernel
theorem dX1_readLaw_124 : decode cX1_readLaw 124 = .ok (.getfield 46, 3) := by decide +kernel
theorem dX1_readLaw_127 : decode cX1_readLaw 127 = .ok (.iload 5, 2) := by decide +kernel
theorem dX1_readLaw_129 : decode cX1_readLaw 129 = .ok (.iastore, 1) := by decide +kernel
theorem dX1_readLaw_130 : decode cX1_readLaw 130 = .ok (.aload_n 0, 1) := by decide +kernel
theorem dX1_readLaw_131 : decode cX1_readLaw 131 = .ok (.dup, 1) := by decide +kernel
theorem dX1_readLaw_132 : decode cX1_readLaw 132 = .ok (.getfield 46, 3) := by decide +kernel
theorem dX1_readLaw_135 : decode cX1_readLaw 135 = .ok (.iconst 1, 1) := by decide +kernel
theorem dX1_readLaw_136 : decode cX1_readLaw 136 = .ok (.iadd, 1) := by decide +kernel
theorem dX1_readLaw_137 : decode cX1_readLaw 137 = .ok (.putfield 46, 3) := by decide +kernel
theorem dX1_readLaw_140 : decode cX1_readLaw 140 = .ok (.bipush (-9), 2) := by decide +kernel
theorem dX1_readLaw_142 : decode cX1_readLaw 142 = .ok (.ireturn, 1) := by decide +kernel
theorem dX1_huskAt_0 : decode cX1_huskAt 0 = .ok (.iconst 0, 1) := by decide +kernel
theorem dX1_huskAt_1 : decode cX1_huskAt 1 = .ok (.istore_n 2, 1) := by decide +kernel
theorem dX1_huskAt_2 : decode cX1_huskAt 2 = .ok (.iload_n 2, 1) := by decide +kernel
theorem dX1_huskAt_3 : decode cX1_huskAt 3 = .ok (.aload_n 0, 1) := by decide +kernel
theorem dX1_huskAt_4 : decode cX1_huskAt 4 = .ok (.getfield 39, 3) := by decide +kernel
theorem dX1_huskAt_7 : decode cX1_huskAt 7 = .ok (.if_icmp .ge 21, 3) := by decide +kernel
theorem dX1_huskAt_10 : decode cX1_huskAt 10 = .ok (.aload_n 0, 1) := by decide +kernel
theorem dX1_huskAt_11 : decode cX1_huskAt 11 = .ok (.getfield 9, 3) := by decide +kernel
theorem dX1_huskAt_14 : decode cX1_huskAt 14 = .ok (.iload_n 2, 1) := by decide +kernel
theorem dX1_huskAt_15 : decode cX1_huskAt 15 = .ok (.iaload, 1) := by decide +kernel
theorem dX1_huskAt_16 : decode cX1_huskAt 16 = .ok (.iload_n 1, 1) := by decide +kernel
theorem dX1_huskAt_17 : decode cX1_huskAt 17 = .ok (.if_icmp .ne 5, 3) := by decide +kernel
theorem dX1_huskAt_20 : decode cX1_huskAt 20 = .ok (.iload_n 2, 1) := by decide +kernel
theorem dX1_huskAt_21 : decode cX1_huskAt 21 = .ok (.ireturn, 1) := by decide +kernel
theorem dX1_huskAt_22 : decode cX1_huskAt 22 = .ok (.iinc 2 1, 3) := by decide +kernel
theorem dX1_huskAt_25 : decode cX1_huskAt 25 = .ok (.goto (-23), 3) := by decide +kernel
theorem dX1_huskAt_28 : decode cX1_huskAt 28 = .ok (.bipush (-9), 2) := by decide +kernel
theorem dX1_huskAt_30 : decode cX1_huskAt 30 = .ok (.ireturn, 1) := by decide +kernel
theorem dX1_loosensBy_0 : decode cX1_loosensBy 0 = .ok (.aload_n 0, 1) := by decide +kernel
theorem dX1_loosensBy_1 : decode cX1_loosensBy 1 = .ok (.getfield 24, 3) := by decide +kernel
theorem dX1_loosensBy_4 : decode cX1_loosensBy 4 = .ok (.iload_n 1, 1) := by decide +kernel
theorem dX1_loosensBy_5 : decode cX1_loosensBy 5 = .ok (.iaload, 1) := by decide +kernel
theorem dX1_loosensBy_6 : decode cX1_loosensBy 6 = .ok (.aload_n 0, 1) := by decide +kernel
theorem dX1_loosensBy_7 : decode cX1_loosensBy 7 = .ok (.getfield 27, 3) := by decide +kernel
theorem dX1_loosensBy_10 : decode cX1_loosensBy 10 = .ok (.iload_n 1, 1) := by decide +kernel
theorem dX1_loosensBy_11 : decode cX1_loosensBy 11 = .ok (.iaload, 1) := by decide +kernel
theorem dX1_loosensBy_12 : decode cX1_loosensBy 12 = .ok (.iconst 3, 1) := by decide +kernel
theorem dX1_loosensBy_13 : decode cX1_loosensBy 13 = .ok (.if_icmp .ne 7, 3) := by decide +kernel
theorem dX1_loosensBy_16 : decode cX1_loosensBy 16 = .ok (.iconst 2, 1) := by decide +kernel
theorem dX1_loosensBy_17 : decode cX1_loosensBy 17 = .ok (.goto 4, 3) := by decide +kernel
theorem dX1_loosensBy_20 : decode cX1_loosensBy 20 = .ok (.iconst 0, 1) := by decide +kernel
theorem dX1_loosensBy_21 : decode cX1_loosensBy 21 = .ok (.iadd, 1) := by decide +kernel
theorem dX1_loosensBy_22 : decode cX1_loosensBy 22 = .ok (.ireturn, 1) := by decide +kernel
theorem dX1_landing_0 : decode cX1_landing 0 = .ok (.iload_n 2, 1) := by decide +kernel
theorem dX1_landing_1 : decode cX1_landing 1 = .ok (.aload_n 0, 1) := by decide +kernel
theorem dX1_landing_2 : decode cX1_landing 2 = .ok (.iload_n 1, 1) := by decide +kernel
theorem dX1_landing_3 : decode cX1_landing 3 = .ok (.iload_n 3, 1) := by decide +kernel
theorem dX1_landing_4 : decode cX1_landing 4 = .ok (.invokevirtual 84, 3) := by decide +kernel
theorem dX1_landing_7 : decode cX1_landing 7 = .ok (.iadd, 1) := by decide +kernel
theorem dX1_landing_8 : decode cX1_landing 8 = .ok (.aload_n 0, 1) := by decide +kernel
theorem dX1_landing_9 : decode cX1_landing 9 = .ok (.iload_n 1, 1) := by decide +kernel
theorem dX1_landing_10 : decode cX1_landing 10 = .ok (.iload 4, 2) := by decide +kernel
theorem dX1_landing_12 : decode cX1_landing 12 = .ok (.invokevirtual 88, 3) := by decide +kernel
theorem dX1_landing_15 : decode cX1_landing 15 = .ok (.iadd, 1) := by decide +kernel
theorem dX1_landing_16 : decode cX1_landing 16 = .ok (.istore 5, 2) := by decide +kernel
theorem dX1_landing_18 : decode cX1_landing 18 = .ok (.iload 5, 2) := by decide +kernel
theorem dX1_landing_20 : decode cX1_landing 20 = .ok (.invokestatic 91, 3) := by decide +kernel
theorem dX1_landing_23 : decode cX1_landing 23 = .ok (.ifCond .eq 8, 3) := by decide +kernel
theorem dX1_landing_26 : decode cX1_landing 26 = .ok (.iload 5, 2) := by decide +kernel
theorem dX1_landing_28 : decode cX1_landing 28 = .ok (.goto 5, 3) := by decide +kernel
theorem dX1_landing_31 : decode cX1_landing 31 = .ok (.bipush 8, 2) := by decide +kernel
theorem dX1_landing_33 : decode cX1_landing 33 = .ok (.ireturn, 1) := by decide +kernel
theorem dX1_reaches_0 : decode cX1_reaches 0 = .ok (.aload_n 0, 1) := by decide +kernel
theorem dX1_reaches_1 : decode cX1_reaches 1 = .ok (.getfield 9, 3) := by decide +kernel
theorem dX1_reaches_4 : decode cX1_reaches 4 = .ok (.iload_n 2, 1) := by decide +kernel
theorem dX1_reaches_5 : decode cX1_reaches 5 = .ok (.iaload, 1) := by decide +kernel
theorem dX1_reaches_6 : decode cX1_reaches 6 = .ok (.aload_n 0, 1) := by decide +kernel
theorem dX1_reaches_7 : decode cX1_reaches 7 = .ok (.iload_n 1, 1) := by decide +kernel
theorem dX1_reaches_8 : decode cX1_reaches 8 = .ok (.iload_n 3, 1) := by decide +kernel
theorem dX1_reaches_9 : decode cX1_reaches 9 = .ok (.invokevirtual 88, 3) := by decide +kernel
theorem dX1_reaches_12 : decode cX1_reaches 12 = .ok (.isub, 1) := by decide +kernel
theorem dX1_reaches_13 : decode cX1_reaches 13 = .ok (.invokestatic 91, 3) := by decide +kernel
theorem dX1_reaches_16 : decode cX1_reaches 16 = .ok (.ireturn, 1) := by decide +kernel
theorem dX1_astray_0 : decode cX1_astray 0 = .ok (.iload_n 2, 1) := by decide +kernel
theorem dX1_astray_1 : decode cX1_astray 1 = .ok (.ifCond .ne 5, 3) := by decide +kernel
theorem dX1_astray_4 : decode cX1_astray 4 = .ok (.iconst 0, 1) := by decide +kernel
theorem dX1_astray_5 : decode cX1_astray 5 = .ok (.ireturn, 1) := by decide +kernel
theorem dX1_astray_6 : decode cX1_astray 6 = .ok (.aload_n 0, 1) := by decide +kernel
theorem dX1_astray_7 : decode cX1_astray 7 = .ok (.getfield 21, 3) := by decide +kernel
theorem dX1_astray_10 : decode cX1_astray 10 = .ok (.iload_n 1, 1) := by decide +kernel
theorem dX1_astray_11 : decode cX1_astray 11 = .ok (.iaload, 1) := by decide +kernel
theorem dX1_astray_12 : decode cX1_astray 12 = .ok (.aload_n 0, 1) := by decide +kernel
theorem dX1_astray_13 : decode cX1_astray 13 = .ok (.getfield 27, 3) := by decide +kernel
theorem dX1_astray_16 : decode cX1_astray 16 = .ok (.iload_n 1, 1) := by decide +kernel
theorem dX1_astray_17 : decode cX1_astray 17 = .ok (.iaload, 1) := by decide +kernel
theorem dX1_astray_18 : decode cX1_astray 18 = .ok (.iconst 3, 1) := by decide +kernel
theorem dX1_astray_19 : decode cX1_astray 19 = .ok (.if_icmp .ne 7, 3) := by decide +kernel
theorem dX1_astray_22 : decode cX1_astray 22 = .ok (.iconst 1, 1) := by decide +kernel
theorem dX1_astray_23 : decode cX1_astray 23 = .ok (.goto 4, 3) := by decide +kernel
theorem dX1_astray_26 : decode cX1_astray 26 = .ok (.iconst 0, 1) := by decide +kernel
theorem dX1_astray_27 : decode cX1_astray 27 = .ok (.iadd, 1) := by decide +kernel
theorem dX1_astray_28 : decode cX1_astray 28 = .ok (.istore_n 3, 1) := by decide +kernel
theorem dX1_astray_29 : decode cX1_astray 29 = .ok (.aload_n 0, 1) := by decide +kernel
theorem dX1_astray_30 : decode cX1_astray 30 = .ok (.getfield 27, 3) := by decide +kernel
theorem dX1_astray_33 : decode cX1_astray 33 = .ok (.iload_n 1, 1) := by decide +kernel
theorem dX1_astray_34 : decode cX1_astray 34 = .ok (.iaload, 1) := by decide +kernel
theorem dX1_astray_35 : decode cX1_astray 35 = .ok (.iconst 2, 1) := by decide +kernel
theorem dX1_astray_36 : decode cX1_astray 36 = .ok (.if_icmp .ne 7, 3) := by decide +kernel
theorem dX1_astray_39 : decode cX1_astray 39 = .ok (.iconst 1, 1) := by decide +kernel
theorem dX1_astray_40 : decode cX1_astray 40 = .ok (.goto 4, 3) := by decide +kernel
theorem dX1_astray_43 : decode cX1_astray 43 = .ok (.iconst 0, 1) := by decide +kernel
theorem dX1_astray_44 : decode cX1_astray 44 = .ok (.istore 4, 2) := by decide +kernel
theorem dX1_astray_46 : decode cX1_astray 46 = .ok (.iload_n 2, 1) := by decide +kernel
theorem dX1_astray_47 : decode cX1_astray 47 = .ok (.iconst 1, 1) := by decide +kernel
theorem dX1_astray_48 : decode cX1_astray 48 = .ok (.if_icmp .ne 7, 3) := by decide +kernel
theorem dX1_astray_51 : decode cX1_astray 51 = .ok (.iconst 1, 1) := by decide +kernel
theorem dX1_astray_52 : decode cX1_astray 52 = .ok (.goto 4, 3) := by decide +kernel
theorem dX1_astray_55 : decode cX1_astray 55 = .ok (.iconst 0, 1) := by decide +kernel
theorem dX1_astray_56 : decode cX1_astray 56 = .ok (.iload 4, 2) := by decide +kernel
theorem dX1_astray_58 : decode cX1_astray 58 = .ok (.if_icmp .eq 7, 3) := by decide +kernel
theorem dX1_astray_61 : decode cX1_astray 61 = .ok (.iload_n 3, 1) := by decide +kernel
theorem dX1_astray_62 : decode cX1_astray 62 = .ok (.goto 5, 3) := by decide +kernel
theorem dX1_astray_65 : decode cX1_astray 65 = .ok (.iload_n 3, 1) := by decide +kernel
theorem dX1_astray_66 : decode cX1_astray 66 = .ok (.ineg, 1) := by decide +kernel
theorem dX1_astray_67 : decode cX1_astray 67 = .ok (.ireturn, 1) := by decide +kernel
theorem dX1_drift_0 : decode cX1_drift 0 = .ok (.aload_n 0, 1) := by decide +kernel
theorem dX1_drift_1 : decode cX1_drift 1 = .ok (.getfield 27, 3) := by decide +kernel
theorem dX1_drift_4 : decode cX1_drift 4 = .ok (.iload_n 1, 1) := by decide +kernel
theorem dX1_drift_5 : decode cX1_drift 5 = .ok (.iaload, 1) := by decide +kernel
theorem dX1_drift_6 : decode cX1_drift 6 = .ok (.iconst 1, 1) := by decide +kernel
theorem dX1_drift_7 : decode cX1_drift 7 = .ok (.if_icmp .ne 7, 3) := by decide +kernel
theorem dX1_drift_10 : decode cX1_drift 10 = .ok (.iconst 0, 1) := by decide +kernel
theorem dX1_drift_11 : decode cX1_drift 11 = .ok (.goto 6, 3) := by decide +kernel
theorem dX1_drift_14 : decode cX1_drift 14 = .ok (.iload_n 2, 1) := by decide +kernel
theorem dX1_drift_15 : decode cX1_drift 15 = .ok (.iconst 1, 1) := by decide +kernel
theorem dX1_drift_16 : decode cX1_drift 16 = .ok (.isub, 1) := by decide +kernel
theorem dX1_drift_17 : decode cX1_drift 17 = .ok (.ireturn, 1) := by decide +kernel
theorem dX2_init_0 : decode cX2_init 0 = .ok (.aload_n 0, 1) := by decide +kernel
theorem dX2_init_1 : decode cX2_init 1 = .ok (.invokespecial 3, 3) := by decide +kernel
theorem dX2_init_4 : decode cX2_init 4 = .ok (.aload_n 0, 1) := by decide +kernel
theorem dX2_init_5 : decode cX2_init 5 = .ok (.iconst 5, 1) := by decide +kernel
theorem dX2_init_6 : decode cX2_init 6 = .ok (.invokestatic 9, 3) := by decide +kernel
theorem dX2_init_9 : decode cX2_init 9 = .ok (.putfield 13, 3) := by decide +kernel
theorem dX2_init_12 : decode cX2_init 12 = .ok (.aload_n 0, 1) := by decide +kernel
theorem dX2_init_13 : decode cX2_init 13 = .ok (.iconst 0, 1) := by decide +kernel
theorem dX2_init_14 : decode cX2_init 14 = .ok (.putfield 19, 3) := by decide +kernel
theorem dX2_init_17 : decode cX2_init 17 = .ok (.aload_n 0, 1) := by decide +kernel
theorem dX2_init_18 : decode cX2_init 18 = .ok (.iconst 0, 1) := by decide +kernel
theorem dX2_init_19 : decode cX2_init 19 = .ok (.putfield 23, 3) := by decide +kernel
theorem dX2_init_22 : decode cX2_init 22 = .ok (.aload_n 0, 1) := by decide +kernel
theorem dX2_init_23 : decode cX2_init 23 = .ok (.iconst 0, 1) := by decide +kernel
theorem dX2_init_24 : decode cX2_init 24 = .ok (.putfield 26, 3) := by decide +kernel
theorem dX2_init_27 : decode cX2_init 27 = .ok (.return_, 1) := by decide +kernel
theorem dX2_waysDown_0 : decode cX2_waysDown 0 = .ok (.aload_n 0, 1) := by decide +kernel
theorem dX2_waysDown_1 : decode cX2_waysDown 1 = .ok (.getfield 13, 3) := by decide +kernel
theorem dX2_waysDown_4 : decode cX2_waysDown 4 = .ok (.iconst 0, 1) := by decide +kernel
theorem dX2_waysDown_5 : decode cX2_waysDown 5 = .ok (.aaload, 1) := by decide +kernel
theorem dX2_waysDown_6 : decode cX2_waysDown 6 = .ok (.aload_n 2, 1) := by decide +kernel
theorem dX2_waysDown_7 : decode cX2_waysDown 7 = .ok (.invokevirtual 29, 3) := by decide +kernel
theorem dX2_waysDown_10 : decode cX2_waysDown 10 = .ok (.aload_n 0, 1) := by decide +kernel
theorem dX2_waysDown_11 : decode cX2_waysDown 11 = .ok (.aload_n 1, 1) := by decide +kernel
theorem dX2_waysDown_12 : decode cX2_waysDown 12 = .ok (.iload_n 3, 1) := by decide +kernel
theorem dX2_waysDown_13 : decode cX2_waysDown 13 = .ok (.iconst 0, 1) := by decide +kernel
theorem dX2_waysDown_14 : decode cX2_waysDown 14 = .ok (.iload 4, 2) := by decide +kernel
theorem dX2_waysDown_16 : decode cX2_waysDown 16 = .ok (.invokestatic 35, 3) := by decide +kernel
theorem dX2_waysDown_19 : decode cX2_waysDown 19 = .ok (.ireturn, 1) := by decide +kernel
theorem dX2_allWays_0 : decode cX2_allWays 0 = .ok (.iconst 1, 1) := by decide +kernel
theorem dX2_allWays_1 : decode cX2_allWays 1 = .ok (.istore_n 1, 1) := by decide +kernel
theorem dX2_allWays_2 : decode cX2_allWays 2 = .ok (.iconst 0, 1) := by decide +kernel
theorem dX2_allWays_3 : decode cX2_allWays 3 = .ok (.istore_n 2, 1) := by decide +kernel
theorem dX2_allWays_4 : decode cX2_allWays 4 = .ok (.iload_n 2, 1) := by decide +kernel
theorem dX2_allWays_5 : decode cX2_allWays 5 = .ok (.iload_n 0, 1) := by decide +kernel
theorem dX2_allWays_6 : decode cX2_allWays 6 = .ok (.if_icmp .ge 14, 3) := by decide +kernel
theorem dX2_allWays_9 : decode cX2_allWays 9 = .ok (.iload_n 1, 1) := by decide +kernel
theorem dX2_allWays_10 : decode cX2_allWays 10 = .ok (.bipush 20, 2) := by decide +kernel
theorem dX2_allWays_12 : decode cX2_allWays 12 = .ok (.imul, 1) := by decide +kernel
theorem dX2_allWays_13 : decode cX2_allWays 13 = .ok (.istore_n 1, 1) := by decide +kernel
theorem dX2_allWays_14 : decode cX2_allWays 14 = .ok (.iinc 2 1, 3) := by decide +kernel
theorem dX2_allWays_17 : decode cX2_allWays 17 = .ok (.goto (-13), 3) := by decide +kernel
theorem dX2_allWays_20 : decode cX2_allWays 20 = .ok (.iload_n 1, 1) := by decide +kernel
theorem dX2_allWays_21 : decode cX2_allWays 21 = .ok (.ireturn, 1) := by decide +kernel
theorem dX2_waysFrom_0 : decode cX2_waysFrom 0 = .ok (.aload_n 0, 1) := by decide +kernel
theorem dX2_waysFrom_1 : decode cX2_waysFrom 1 = .ok (.getfield 13, 3) := by decide +kernel
theorem dX2_waysFrom_4 : decode cX2_waysFrom 4 = .ok (.iload_n 3, 1) := by decide +kernel
theorem dX2_waysFrom_5 : decode cX2_waysFrom 5 = .ok (.aaload, 1) := by decide +kernel
theorem dX2_waysFrom_6 : decode cX2_waysFrom 6 = .ok (.astore 5, 2) := by decide +kernel
theorem dX2_waysFrom_8 : decode cX2_waysFrom 8 = .ok (.iload_n 3, 1) := by decide +kernel
theorem dX2_waysFrom_9 : decode cX2_waysFrom 9 = .ok (.iload 4, 2) := by decide +kernel
theorem dX2_waysFrom_11 : decode cX2_waysFrom 11 = .ok (.if_icmp .ge 8, 3) := by decide +kernel
theorem dX2_waysFrom_14 : decode cX2_waysFrom 14 = .ok (.iload_n 3, 1) := by decide +kernel
theorem dX2_waysFrom_15 : decode cX2_waysFrom 15 = .ok (.iconst 4, 1) := by decide +kernel
theorem dX2_waysFrom_16 : decode cX2_waysFrom 16 = .ok (.if_icmp .lt 18, 3) := by decide +kernel
theorem dX2_waysFrom_19 : decode cX2_waysFrom 19 = .ok (.aload 5, 2) := by decide +kernel
theorem dX2_waysFrom_21 : decode cX2_waysFrom 21 = .ok (.iload_n 2, 1) := by decide +kernel
theorem dX2_waysFrom_22 : decode cX2_waysFrom 22 = .ok (.invokevirtual 39, 3) := by decide +kernel
theorem dX2_waysFrom_25 : decode cX2_waysFrom 25 = .ok (.ifCond .eq 7, 3) := by decide +kernel
theorem dX2_waysFrom_28 : decode cX2_waysFrom 28 = .ok (.iconst 0, 1) := by decide +kernel
theorem dX2_waysFrom_29 : decode cX2_waysFrom 29 = .ok (.goto 4, 3) := by decide +kernel
theorem dX2_waysFrom_32 : decode cX2_waysFrom 32 = .ok (.iconst 1, 1) := by decide +kernel
theorem dX2_waysFrom_33 : decode cX2_waysFrom 33 = .ok (.ireturn, 1) := by decide +kernel
theorem dX2_waysFrom_34 : decode cX2_waysFrom 34 = .ok (.iconst 0, 1) := by decide +kernel
theorem dX2_waysFrom_35 : decode cX2_waysFrom 35 = .ok (.istore 6, 2) := by decide +kernel
theorem dX2_waysFrom_37 : decode cX2_waysFrom 37 = .ok (.iconst 0, 1) := by decide +kernel
theorem dX2_waysFrom_38 : decode cX2_waysFrom 38 = .ok (.istore 7, 2) := by decide +kernel
theorem dX2_waysFrom_40 : decode cX2_waysFrom 40 = .ok (.iload 7, 2) := by decide +kernel
theorem dX2_waysFrom_42 : decode cX2_waysFrom 42 = .ok (.iconst 2, 1) := by decide +kernel
theorem dX2_waysFrom_43 : decode cX2_waysFrom 43 = .ok (.if_icmp .gt 85, 3) := by decide +kernel
theorem dX2_waysFrom_46 : decode cX2_waysFrom 46 = .ok (.aload_n 0, 1) := by decide +kernel
theorem dX2_waysFrom_47 : decode cX2_waysFrom 47 = .ok (.getfield 13, 3) := by decide +kernel
theorem dX2_waysFrom_50 : decode cX2_waysFrom 50 = .ok (.iload_n 3, 1) := by decide +kernel
theorem dX2_waysFrom_51 : decode cX2_waysFrom 51 = .ok (.iconst 1, 1) := by decide +kernel
theorem dX2_waysFrom_52 : decode cX2_waysFrom 52 = .ok (.iadd, 1) := by decide +kernel
theorem dX2_waysFrom_53 : decode cX2_waysFrom 53 = .ok (.aaload, 1) := by decide +kernel
theorem dX2_waysFrom_54 : decode cX2_waysFrom 54 = .ok (.astore 8, 2) := by decide +kernel
theorem dX2_waysFrom_56 : decode cX2_waysFrom 56 = .ok (.aload 8, 2) := by decide +kernel
theorem dX2_waysFrom_58 : decode cX2_waysFrom 58 = .ok (.aload 5, 2) := by decide +kernel
theorem dX2_waysFrom_60 : decode cX2_waysFrom 60 = .ok (.invokevirtual 29, 3) := by decide +kernel
theorem dX2_waysFrom_63 : decode cX2_waysFrom 63 = .ok (.aload 8, 2) := by decide +kernel
theorem dX2_waysFrom_65 : decode cX2_waysFrom 65 = .ok (.aload_n 1, 1) := by decide +kernel
theorem dX2_waysFrom_66 : decode cX2_waysFrom 66 = .ok (.aload_n 0, 1) := by decide +kernel
theorem dX2_waysFrom_67 : decode cX2_waysFrom 67 = .ok (.getfield 19, 3) := by decide +kernel
theorem dX2_waysFrom_70 : decode cX2_waysFrom 70 = .ok (.aload_n 0, 1) := by decide +kernel
theorem dX2_waysFrom_71 : decode cX2_waysFrom 71 = .ok (.getfield 23, 3) := by decide +kernel
theorem dX2_waysFrom_74 : decode cX2_waysFrom 74 = .ok (.iload 7, 2) := by decide +kernel
theorem dX2_waysFrom_76 : decode cX2_waysFrom 76 = .ok (.invokevirtual 43, 3) := by decide +kernel
theorem dX2_waysFrom_79 : decode cX2_waysFrom 79 = .ok (.pop, 1) := by decide +kernel
theorem dX2_waysFrom_80 : decode cX2_waysFrom 80 = .ok (.iload 7, 2) := by decide +kernel
theorem dX2_waysFrom_82 : decode cX2_waysFrom 82 = .ok (.ifCond .ne 12, 3) := by decide +kernel
theorem dX2_waysFrom_85 : decode cX2_waysFrom 85 = .ok (.iconst 2, 1) := by decide +kernel
theorem dX2_waysFrom_86 : decode cX2_waysFrom 86 = .ok (.aload_n 0, 1) := by decide +kernel
theorem dX2_waysFrom_87 : decode cX2_waysFrom 87 = .ok (.getfield 26, 3) := by decide +kernel
theorem dX2_waysFrom_90 : decode cX2_waysFrom 90 = .ok (.imul, 1) := by decide +kernel
theorem dX2_waysFrom_91 : decode cX2_waysFrom 91 = .ok (.goto 10, 3) := by decide +kernel
theorem dX2_waysFrom_94 : decode cX2_waysFrom 94 = .ok (.bipush 10, 2) := by decide +kernel
theorem dX2_waysFrom_96 : decode cX2_waysFrom 96 = .ok (.aload_n 0, 1) := by decide +kernel
theorem dX2_waysFrom_97 : decode cX2_waysFrom 97 = .ok (.getfield 26, 3) := by decide +kernel
theorem dX2_waysFrom_100 : decode cX2_waysFrom 100 = .ok (.isub, 1) := by decide +kernel
theorem dX2_waysFrom_101 : decode cX2_waysFrom 101 = .ok (.istore 9, 2) := by decide +kernel
theorem dX2_waysFrom_103 : decode cX2_waysFrom 103 = .ok (.iload 6, 2) := by decide +kernel
theorem dX2_waysFrom_105 : decode cX2_waysFrom 105 = .ok (.iload 9, 2) := by decide +kernel
theorem dX2_waysFrom_107 : decode cX2_waysFrom 107 = .ok (.aload_n 0, 1) := by decide +kernel
theorem dX2_waysFrom_108 : decode cX2_waysFrom 108 = .ok (.aload_n 1, 1) := by decide +kernel
theorem dX2_waysFrom_109 : decode cX2_waysFrom 109 = .ok (.iload_n 2, 1) := by decide +kernel
theorem dX2_waysFrom_110 : decode cX2_waysFrom 110 = .ok (.iload_n 3, 1) := by decide +kernel
theorem dX2_waysFrom_111 : decode cX2_waysFrom 111 = .ok (.iconst 1, 1) := by decide +kernel
theorem dX2_waysFrom_112 : decode cX2_waysFrom 112 = .ok (.iadd, 1) := by decide +kernel
theorem dX2_waysFrom_113 : decode cX2_waysFrom 113 = .ok (.iload 4, 2) := by decide +kernel
theorem dX2_waysFrom_115 : decode cX2_waysFrom 115 = .ok (.invokestatic 35, 3) := by decide +kernel
theorem dX2_waysFrom_118 : decode cX2_waysFrom 118 = .ok (.imul, 1) := by decide +kernel
theorem dX2_waysFrom_119 : decode cX2_waysFrom 119 = .ok (.iadd, 1) := by decide +kernel
theorem dX2_waysFrom_120 : decode cX2_waysFrom 120 = .ok (.istore 6, 2) := by decide +kernel
theorem dX2_waysFrom_122 : decode cX2_waysFrom 122 = .ok (.iinc 7 1, 3) := by decide +kernel
theorem dX2_waysFrom_125 : decode cX2_waysFrom 125 = .ok (.goto (-85), 3) := by decide +kernel
theorem dX2_waysFrom_128 : decode cX2_waysFrom 128 = .ok (.iload 6, 2) := by decide +kernel
theorem dX2_waysFrom_130 : decode cX2_waysFrom 130 = .ok (.ireturn, 1) := by decide +kernel
theorem dX2_startFrom_0 : decode cX2_startFrom 0 = .ok (.aload_n 0, 1) := by decide +kernel
theorem dX2_startFrom_1 : decode cX2_startFrom 1 = .ok (.getfield 13, 3) := by decide +kernel
theorem dX2_startFrom_4 : decode cX2_startFrom 4 = .ok (.iconst 0, 1) := by decide +kernel
theorem dX2_startFrom_5 : decode cX2_startFrom 5 = .ok (.aaload, 1) := by decide +kernel
theorem dX2_startFrom_6 : decode cX2_startFrom 6 = .ok (.aload_n 1, 1) := by decide +kernel
theorem dX2_startFrom_7 : decode cX2_startFrom 7 = .ok (.invokevirtual 29, 3) := by decide +kernel
theorem dX2_startFrom_10 : decode cX2_startFrom 10 = .ok (.return_, 1) := by decide +kernel
theorem dX2_downBehindDrawn_0 : decode cX2_downBehindDrawn 0 = .ok (.iload_n 2, 1) := by decide +kernel
theorem dX2_downBehindDrawn_1 : decode cX2_downBehindDrawn 1 = .ok (.bipush 24, 2) := by decide +kernel
theorem dX2_downBehindDrawn_3 : decode cX2_downBehindDrawn 3 = .ok (.idiv, 1) := by decide +kernel
theorem dX2_downBehindDrawn_4 : decode cX2_downBehindDrawn 4 = .ok (.istore_n 3, 1) := by decide +kernel
theorem dX2_downBehindDrawn_5 : decode cX2_downBehindDrawn 5 = .ok (.aload_n 1, 1) := by decide +kernel
theorem dX2_downBehindDrawn_6 : decode cX2_downBehindDrawn 6 = .ok (.iload_n 3, 1) := by decide +kernel
theorem dX2_downBehindDrawn_7 : decode cX2_downBehindDrawn 7 = .ok (.invokevirtual 47, 3) := by decide +kernel
theorem dX2_downBehindDrawn_10 : decode cX2_downBehindDrawn 10 = .ok (.ifCond .eq 24, 3) := by decide +kernel
theorem dX2_downBehindDrawn_13 : decode cX2_downBehindDrawn 13 = .ok (.aload_n 0, 1) := by decide +kernel
theorem dX2_downBehindDrawn_14 : decode cX2_downBehindDrawn 14 = .ok (.getfield 13, 3) := by decide +kernel
theorem dX2_downBehindDrawn_17 : decode cX2_downBehindDrawn 17 = .ok (.iconst 0, 1) := by decide +kernel
theorem dX2_downBehindDrawn_18 : decode cX2_downBehindDrawn 18 = .ok (.aaload, 1) := by decide +kernel
theorem dX2_downBehindDrawn_19 : decode cX2_downBehindDrawn 19 = .ok (.aload_n 1, 1) := by decide +kernel
theorem dX2_downBehindDrawn_20 : decode cX2_downBehindDrawn 20 = .ok (.iload_n 3, 1) := by decide +kernel
theorem dX2_downBehindDrawn_21 : decode cX2_downBehindDrawn 21 = .ok (.iload_n 2, 1) := by decide +kernel
theorem dX2_downBehindDrawn_22 : decode cX2_downBehindDrawn 22 = .ok (.bipush 24, 2) := by decide +kernel
theorem dX2_downBehindDrawn_24 : decode cX2_downBehindDrawn 24 = .ok (.irem, 1) := by decide +kernel
theorem dX2_downBehindDrawn_25 : decode cX2_downBehindDrawn 25 = .ok (.iconst 3, 1) := by decide +kernel
theorem dX2_downBehindDrawn_26 : decode cX2_downBehindDrawn 26 = .ok (.idiv, 1) := by decide +kernel
theorem dX2_downBehindDrawn_27 : decode cX2_downBehindDrawn 27 = .ok (.iload_n 2, 1) := by decide +kernel
theorem dX2_downBehindDrawn_28 : decode cX2_downBehindDrawn 28 = .ok (.iconst 3, 1) := by decide +kernel
theorem dX2_downBehindDrawn_29 : decode cX2_downBehindDrawn 29 = .ok (.irem, 1) := by decide +kernel
theorem dX2_downBehindDrawn_30 : decode cX2_downBehindDrawn 30 = .ok (.invokevirtual 43, 3) := by decide +kernel
theorem dX2_downBehindDrawn_33 : decode cX2_downBehindDrawn 33 = .ok (.pop, 1) := by decide +kernel
theorem dX2_downBehindDrawn_34 : decode cX2_downBehindDrawn 34 = .ok (.aload_n 0, 1) := by decide +kernel
theorem dX2_downBehindDrawn_35 : decode cX2_downBehindDrawn 35 = .ok (.getfield 13, 3) := by decide +kernel
theorem dX2_downBehindDrawn_38 : decode cX2_downBehindDrawn 38 = .ok (.iconst 0, 1) := by decide +kernel
theorem dX2_downBehindDrawn_39 : decode cX2_downBehindDrawn 39 = .ok (.aaload, 1) := by decide +kernel
theorem dX2_downBehindDrawn_40 : decode cX2_downBehindDrawn 40 = .ok (.invokevirtual 52, 3) := by decide +kernel
theorem dX2_downBehindDrawn_43 : decode cX2_downBehindDrawn 43 = .ok (.ireturn, 1) := by decide +kernel
theorem dX3_init_0 : decode cX3_init 0 = .ok (.aload_n 0, 1) := by decide +kernel
theorem dX3_init_1 : decode cX3_init 1 = .ok (.invokespecial 3, 3) := by decide +kernel
theorem dX3_init_4 : decode cX3_init 4 = .ok (.aload_n 0, 1) := by decide +kernel
theorem dX3_init_5 : decode cX3_init 5 = .ok (.bipush 36, 2) := by decide +kernel
theorem dX3_init_7 : decode cX3_init 7 = .ok (.newarray .int, 2) := by decide +kernel
theorem dX3_init_9 : decode cX3_init 9 = .ok (.putfield 11, 3) := by decide +kernel
theorem dX3_init_12 : decode cX3_init 12 = .ok (.aload_n 0, 1) := by decide +kernel
theorem dX3_init_13 : decode cX3_init 13 = .ok (.bipush 36, 2) := by decide +kernel
theorem dX3_init_15 : decode cX3_init 15 = .ok (.newarray .int, 2) := by decide +kernel
theorem dX3_init_17 : decode cX3_init 17 = .ok (.putfield 15, 3) := by decide +kernel
theorem dX3_init_20 : decode cX3_init 20 = .ok (.aload_n 0, 1) := by decide +kernel
theorem dX3_init_21 : decode cX3_init 21 = .ok (.new 18, 3) := by decide +kernel
theorem dX3_init_24 : decode cX3_init 24 = .ok (.dup, 1) := by decide +kernel
theorem dX3_init_25 : decode cX3_init 25 = .ok (.invokespecial 20, 3) := by decide +kernel
theorem dX3_init_28 : decode cX3_init 28 = .ok (.putfield 21, 3) := by decide +kernel
theorem dX3_init_31 : decode cX3_init 31 = .ok (.aload_n 0, 1) := by decide +kernel
theorem dX3_init_32 : decode cX3_init 32 = .ok (.iconst 0, 1) := by decide +kernel
theorem dX3_init_33 : decode cX3_init 33 = .ok (.putfield 25, 3) := by decide +kernel
theorem dX3_init_36 : decode cX3_init 36 = .ok (.aload_n 0, 1) := by decide +kernel
theorem dX3_init_37 : decode cX3_init 37 = .ok (.bipush (-9), 2) := by decide +kernel
theorem dX3_init_39 : decode cX3_init 39 = .ok (.putfield 29, 3) := by decide +kernel
theorem dX3_init_42 : decode cX3_init 42 = .ok (.return_, 1) := by decide +kernel
theorem dX3_settle_0 : decode cX3_settle 0 = .ok (.iconst 0, 1) := by decide +kernel
theorem dX3_settle_1 : decode cX3_settle 1 = .ok (.istore_n 3, 1) := by decide +kernel
theorem dX3_settle_2 : decode cX3_settle 2 = .ok (.iload_n 3, 1) := by decide +kernel
theorem dX3_settle_3 : decode cX3_settle 3 = .ok (.aload_n 1, 1) := by decide +kernel
theorem dX3_settle_4 : decode cX3_settle 4 = .ok (.getfield 32, 3) := by decide +kernel
theorem dX3_settle_7 : decode cX3_settle 7 = .ok (.if_icmp .gt 36, 3) := by decide +kernel
theorem dX3_settle_10 : decode cX3_settle 10 = .ok (.iconst 0, 1) := by decide +kernel
theorem dX3_settle_11 : decode cX3_settle 11 = .ok (.istore 4, 2) := by decide +kernel
theorem dX3_settle_13 : decode cX3_settle 13 = .ok (.iload 4, 2) := by decide +kernel
theorem dX3_settle_15 : decode cX3_settle 15 = .ok (.aload_n 1, 1) := by decide +kernel
theorem dX3_settle_16 : decode cX3_settle 16 = .ok (.getfield 32, 3) := by decide +kernel
theorem dX3_settle_19 : decode cX3_settle 19 = .ok (.if_icmp .gt 18, 3) := by decide +kernel
theorem dX3_settle_22 : decode cX3_settle 22 = .ok (.aload_n 0, 1) := by decide +kernel
theorem dX3_settle_23 : decode cX3_settle 23 = .ok (.aload_n 1, 1) := by decide +kernel
theorem dX3_settle_24 : decode cX3_settle 24 = .ok (.aload_n 2, 1) := by decide +kernel
theorem dX3_settle_25 : decode cX3_settle 25 = .ok (.iload_n 3, 1) := by decide +kernel
theorem dX3_settle_26 : decode cX3_settle 26 = .ok (.iload 4, 2) := by decide +kernel
theorem dX3_settle_28 : decode cX3_settle 28 = .ok (.invokevirtual 37, 3) := by decide +kernel
theorem dX3_settle_31 : decode cX3_settle 31 = .ok (.iinc 4 1, 3) := by decide +kernel
theorem dX3_settle_34 : decode cX3_settle 34 = .ok (.goto (-21), 3) := by decide +kernel
theorem dX3_settle_37 : decode cX3_settle 37 = .ok (.iinc 3 1, 3) := by decide +kernel
theorem dX3_settle_40 : decode cX3_settle 40 = .ok (.goto (-38), 3) := by decide +kernel
theorem dX3_settle_43 : decode cX3_settle 43 = .ok (.aload_n 0, 1) := by decide +kernel
theorem dX3_settle_44 : decode cX3_settle 44 = .ok (.iconst 0, 1) := by decide +kernel
theorem dX3_settle_45 : decode cX3_settle 45 = .ok (.putfield 25, 3) := by decide +kernel
theorem dX3_settle_48 : decode cX3_settle 48 = .ok (.aload_n 0, 1) := by decide +kernel
theorem dX3_settle_49 : decode cX3_settle 49 = .ok (.bipush (-9), 2) := by decide +kernel
theorem dX3_settle_51 : decode cX3_settle 51 = .ok (.putfield 29, 3) := by decide +kernel
theorem dX3_settle_54 : decode cX3_settle 54 = .ok (.iconst 0, 1) := by decide +kernel
theorem dX3_settle_55 : decode cX3_settle 55 = .ok (.istore_n 3, 1) := by decide +kernel
theorem dX3_settle_56 : decode cX3_settle 56 = .ok (.iload_n 3, 1) := by decide +kernel
theorem dX3_settle_57 : decode cX3_settle 57 = .ok (.aload_n 1, 1) := by decide +kernel
theorem dX3_settle_58 : decode cX3_settle 58 = .ok (.getfield 32, 3) := by decide +kernel
theorem dX3_settle_61 : decode cX3_settle 61 = .ok (.if_icmp .gt 76, 3) := by decide +kernel
theorem dX3_settle_64 : decode cX3_settle 64 = .ok (.iconst 0, 1) := by decide +kernel
theorem dX3_settle_65 : decode cX3_settle 65 = .ok (.istore 4, 2) := by decide +kernel
theorem dX3_settle_67 : decode cX3_settle 67 = .ok (.iload 4, 2) := by decide +kernel
theorem dX3_settle_69 : decode cX3_settle 69 = .ok (.aload_n 1, 1) := by decide +kernel
theorem dX3_settle_70 : decode cX3_settle 70 = .ok (.getfield 32, 3) := by decide +kernel
theorem dX3_settle_73 : decode cX3_settle 73 = .ok (.if_icmp .gt 58, 3) := by decide +kernel
theorem dX3_settle_76 : decode cX3_settle 76 = .ok (.aload_n 0, 1) := by decide +kernel
theorem dX3_settle_77 : decode cX3_settle 77 = .ok (.aload_n 1, 1) := by decide +kernel
theorem dX3_settle_78 : decode cX3_settle 78 = .ok (.getfield 32, 3) := by decide +kernel
theorem dX3_settle_81 : decode cX3_settle 81 = .ok (.iload_n 3, 1) := by decide +kernel
theorem dX3_settle_82 : decode cX3_settle 82 = .ok (.iload 4, 2) := by decide +kernel
theorem dX3_settle_84 : decode cX3_settle 84 = .ok (.invokevirtual 41, 3) := by decide +kernel
theorem dX3_settle_87 : decode cX3_settle 87 = .ok (.ifCond .eq 38, 3) := by decide +kernel
theorem dX3_settle_90 : decode cX3_settle 90 = .ok (.aload_n 0, 1) := by decide +kernel
theorem dX3_settle_91 : decode cX3_settle 91 = .ok (.aload_n 0, 1) := by decide +kernel
theorem dX3_settle_92 : decode cX3_settle 92 = .ok (.getfield 25, 3) := by decide +kernel
theorem dX3_settle_95 : decode cX3_settle 95 = .ok (.ifCond .ne 13, 3) := by decide +kernel
theorem dX3_settle_98 : decode cX3_settle 98 = .ok (.bipush 10, 2) := by decide +kernel
theorem dX3_settle_100 : decode cX3_settle 100 = .ok (.iload_n 3, 1) := by decide +kernel
theorem dX3_settle_101 : decode cX3_settle 101 = .ok (.imul, 1) := by decide +kernel
theorem dX3_settle_102 : decode cX3_settle 102 = .ok (.iload 4, 2) := by decide +kernel
theorem dX3_settle_104 : decode cX3_settle 104 = .ok (.iadd, 1) := by decide +kernel
theorem dX3_settle_105 : decode cX3_settle 105 = .ok (.goto 7, 3) := by decide +kernel
theorem dX3_settle_108 : decode cX3_settle 108 = .ok (.aload_n 0, 1) := by decide +kernel
theorem dX3_settle_109 : decode cX3_settle 109 = .ok (.getfield 29, 3) := by decide +kernel
theorem dX3_settle_112 : decode cX3_settle 112 = .ok (.putfield 29, 3) := by decide +kernel
theorem dX3_settle_115 : decode cX3_settle 115 = .ok (.aload_n 0, 1) := by decide +kernel
theorem dX3_settle_116 : decode cX3_settle 116 = .ok (.dup, 1) := by decide +kernel
theorem dX3_settle_117 : decode cX3_settle 117 = .ok (.getfield 25, 3) := by decide +kernel
theorem dX3_settle_120 : decode cX3_settle 120 = .ok (.iconst 1, 1) := by decide +kernel
theorem dX3_settle_121 : decode cX3_settle 121 = .ok (.iadd, 1) := by decide +kernel
theorem dX3_settle_122 : decode cX3_settle 122 = .ok (.putfield 25, 3) := by decide +kernel
theorem dX3_settle_125 : decode cX3_settle 125 = .ok (.iinc 4 1, 3) := by decide +kernel
theorem dX3_settle_128 : decode cX3_settle 128 = .ok (.goto (-61), 3) := by decide +kernel
theorem dX3_settle_131 : decode cX3_settle 131 = .ok (.iinc 3 1, 3) := by decide +kernel
theorem dX3_settle_134 : decode cX3_settle 134 = .ok (.goto (-78), 3) := by decide +kernel
theorem dX3_settle_137 : decode cX3_settle 137 = .ok (.return_, 1) := by decide +kernel
theorem dX3_weigh_0 : decode cX3_weigh 0 = .ok (.aload_n 0, 1) := by decide +kernel
theorem dX3_weigh_1 : decode cX3_weigh 1 = .ok (.getfield 21, 3) := by decide +kernel
theorem dX3_weigh_4 : decode cX3_weigh 4 = .ok (.aload_n 2, 1) := by decide +kernel
theorem dX3_weigh_5 : decode cX3_weigh 5 = .ok (.invokevirtual 45, 3) := by decide +kernel
theorem dX3_weigh_8 : decode cX3_weigh 8 = .ok (.iload_n 3, 1) := by decide +kernel
theorem dX3_weigh_9 : decode cX3_weigh 9 = .ok (.bipush 6, 2) := by decide +kernel
theorem dX3_weigh_11 : decode cX3_weigh 11 = .ok (.imul, 1) := by decide +kernel
theorem dX3_weigh_12 : decode cX3_weigh 12 = .ok (.iload 4, 2) := by decide +kernel
theorem dX3_weigh_14 : decode cX3_weigh 14 = .ok (.iadd, 1) := by decide +kernel
theorem dX3_weigh_15 : decode cX3_weigh 15 = .ok (.istore 5, 2) := by decide +kernel
theorem dX3_weigh_17 : decode cX3_weigh 17 = .ok (.aload_n 0, 1) := by decide +kernel
theorem dX3_weigh_18 : decode cX3_weigh 18 = .ok (.getfield 11, 3) := by decide +kernel
theorem dX3_weigh_21 : decode cX3_weigh 21 = .ok (.iload 5, 2) := by decide +kernel
theorem dX3_weigh_23 : decode cX3_weigh 23 = .ok (.aload_n 0, 1) := by decide +kernel
theorem dX3_weigh_24 : decode cX3_weigh 24 = .ok (.aload_n 1, 1) := by decide +kernel
theorem dX3_weigh_25 : decode cX3_weigh 25 = .ok (.iconst 0, 1) := by decide +kernel
theorem dX3_weigh_26 : decode cX3_weigh 26 = .ok (.iload_n 3, 1) := by decide +kernel
theorem dX3_weigh_27 : decode cX3_weigh 27 = .ok (.invokevirtual 49, 3) := by decide +kernel
theorem dX3_weigh_30 : decode cX3_weigh 30 = .ok (.ineg, 1) := by decide +kernel
theorem dX3_weigh_31 : decode cX3_weigh 31 = .ok (.iastore, 1) := by decide +kernel
theorem dX3_weigh_32 : decode cX3_weigh 32 = .ok (.aload_n 0, 1) := by decide +kernel
theorem dX3_weigh_33 : decode cX3_weigh 33 = .ok (.getfield 15, 3) := by decide +kernel
theorem dX3_weigh_36 : decode cX3_weigh 36 = .ok (.iload 5, 2) := by decide +kernel
theorem dX3_weigh_38 : decode cX3_weigh 38 = .ok (.aload_n 0, 1) := by decide +kernel
theorem dX3_weigh_39 : decode cX3_weigh 39 = .ok (.aload_n 1, 1) := by decide +kernel
theorem dX3_weigh_40 : decode cX3_weigh 40 = .ok (.iconst 1, 1) := by decide +kernel
theorem dX3_weigh_41 : decode cX3_weigh 41 = .ok (.iload 4, 2) := by decide +kernel
theorem dX3_weigh_43 : decode cX3_weigh 43 = .ok (.invokevirtual 49, 3) := by decide +kernel
theorem dX3_weigh_46 : decode cX3_weigh 46 = .ok (.ineg, 1) := by decide +kernel
theorem dX3_weigh_47 : decode cX3_weigh 47 = .ok (.iastore, 1) := by decide +kernel
theorem dX3_weigh_48 : decode cX3_weigh 48 = .ok (.iconst 0, 1) := by decide +kernel
theorem dX3_weigh_49 : decode cX3_weigh 49 = .ok (.istore 6, 2) := by decide +kernel
theorem dX3_weigh_51 : decode cX3_weigh 51 = .ok (.iload 6, 2) := by decide +kernel
theorem dX3_weigh_53 : decode cX3_weigh 53 = .ok (.aload_n 1, 1) := by decide +kernel
theorem dX3_weigh_54 : decode cX3_weigh 54 = .ok (.getfield 32, 3) := by decide +kernel
theorem dX3_weigh_57 : decode cX3_weigh 57 = .ok (.if_icmp .ge 49, 3) := by decide +kernel
theorem dX3_weigh_60 : decode cX3_weigh 60 = .ok (.aload_n 0, 1) := by decide +kernel
theorem dX3_weigh_61 : decode cX3_weigh 61 = .ok (.getfield 21, 3) := by decide +kernel
theorem dX3_weigh_64 : decode cX3_weigh 64 = .ok (.iload 6, 2) := by decide +kernel
theorem dX3_weigh_66 : decode cX3_weigh 66 = .ok (.invokevirtual 53, 3) := by decide +kernel
theorem dX3_weigh_69 : decode cX3_weigh 69 = .ok (.ifCond .ne 31, 3) := by decide +kernel
theorem dX3_weigh_72 : decode cX3_weigh 72 = .ok (.aload_n 0, 1) := by decide +kernel
theorem dX3_weigh_73 : decode cX3_weigh 73 = .ok (.getfield 11, 3) := by decide +kernel
theorem dX3_weigh_76 : decode cX3_weigh 76 = .ok (.iload 5, 2) := by decide +kernel
theorem dX3_weigh_78 : decode cX3_weigh 78 = .ok (.dup2, 1) := by decide +kernel
theorem dX3_weigh_79 : decode cX3_weigh 79 = .ok (.iaload, 1) := by decide +kernel
theorem dX3_weigh_80 : decode cX3_weigh 80 = .ok (.iload 6, 2) := by decide +kernel
theorem dX3_weigh_82 : decode cX3_weigh 82 = .ok (.iconst 1, 1) := by decide +kernel
theorem dX3_weigh_83 : decode cX3_weigh 83 = .ok (.iadd, 1) := by decide +kernel
theorem dX3_weigh_84 : decode cX3_weigh 84 = .ok (.iadd, 1) := by decide +kernel
theorem dX3_weigh_85 : decode cX3_weigh 85 = .ok (.iastore, 1) := by decide +kernel
theorem dX3_weigh_86 : decode cX3_weigh 86 = .ok (.aload_n 0, 1) := by decide +kernel
theorem dX3_weigh_87 : decode cX3_weigh 87 = .ok (.getfield 15, 3) := by decide +kernel
theorem dX3_weigh_90 : decode cX3_weigh 90 = .ok (.iload 5, 2) := by decide +kernel
theorem dX3_weigh_92 : decode cX3_weigh 92 = .ok (.dup2, 1) := by decide +kernel
theorem dX3_weigh_93 : decode cX3_weigh 93 = .ok (.iaload, 1) := by decide +kernel
theorem dX3_weigh_94 : decode cX3_weigh 94 = .ok (.iconst 5, 1) := by decide +kernel
theorem dX3_weigh_95 : decode cX3_weigh 95 = .ok (.iload 6, 2) := by decide +kernel
theorem dX3_weigh_97 : decode cX3_weigh 97 = .ok (.isub, 1) := by decide +kernel
theorem dX3_weigh_98 : decode cX3_weigh 98 = .ok (.iadd, 1) := by decide +kernel
theorem dX3_weigh_99 : decode cX3_weigh 99 = .ok (.iastore, 1) := by decide +kernel
theorem dX3_weigh_100 : decode cX3_weigh 100 = .ok (.iinc 6 1, 3) := by decide +kernel
theorem dX3_weigh_103 : decode cX3_weigh 103 = .ok (.goto (-52), 3) := by decide +kernel
theorem dX3_weigh_106 : decode cX3_weigh 106 = .ok (.return_, 1) := by decide +kernel
theorem dX3_costOf_0 : decode cX3_costOf 0 = .ok (.iload_n 3, 1) := by decide +kernel
theorem dX3_costOf_1 : decode cX3_costOf 1 = .ok (.iconst 1, 1) := by decide +kernel
theorem dX3_costOf_2 : decode cX3_costOf 2 = .ok (.isub, 1) := by decide +kernel
theorem dX3_costOf_3 : decode cX3_costOf 3 = .ok (.istore 4, 2) := by decide +kernel
theorem dX3_costOf_5 : decode cX3_costOf 5 = .ok (.aload_n 1, 1) := by decide +kernel
theorem dX3_costOf_6 : decode cX3_costOf 6 = .ok (.iload 4, 2) := by decide +kernel
theorem dX3_costOf_8 : decode cX3_costOf 8 = .ok (.invokevirtual 57, 3) := by decide +kernel
theorem dX3_costOf_11 : decode cX3_costOf 11 = .ok (.ifCond .eq 17, 3) := by decide +kernel
theorem dX3_costOf_14 : decode cX3_costOf 14 = .ok (.aload_n 0, 1) := by decide +kernel
theorem dX3_costOf_15 : decode cX3_costOf 15 = .ok (.getfield 21, 3) := by decide +kernel
theorem dX3_costOf_18 : decode cX3_costOf 18 = .ok (.aload_n 1, 1) := by decide +kernel
theorem dX3_costOf_19 : decode cX3_costOf 19 = .ok (.iload_n 2, 1) := by decide +kernel
theorem dX3_costOf_20 : decode cX3_costOf 20 = .ok (.iload 4, 2) := by decide +kernel
theorem dX3_costOf_22 : decode cX3_costOf 22 = .ok (.invokevirtual 60, 3) := by decide +kernel
theorem dX3_costOf_25 : decode cX3_costOf 25 = .ok (.ifCond .ne 5, 3) := by decide +kernel
theorem dX3_costOf_28 : decode cX3_costOf 28 = .ok (.iconst 0, 1) := by decide +kernel
theorem dX3_costOf_29 : decode cX3_costOf 29 = .ok (.ireturn, 1) := by decide +kernel
theorem dX3_costOf_30 : decode cX3_costOf 30 = .ok (.aload_n 0, 1) := by decide +kernel
theorem dX3_costOf_31 : decode cX3_costOf 31 = .ok (.getfield 21, 3) := by decide +kernel
theorem dX3_costOf_34 : decode cX3_costOf 34 = .ok (.aload_n 1, 1) := by decide +kernel
theorem dX3_costOf_35 : decode cX3_costOf 35 = .ok (.iload_n 2, 1) := by decide +kernel
theorem dX3_costOf_36 : decode cX3_costOf 36 = .ok (.iload 4, 2) := by decide +kernel
theorem dX3_costOf_38 : decode cX3_costOf 38 = .ok (.invokevirtual 64, 3) := by decide +kernel
theorem dX3_costOf_41 : decode cX3_costOf 41 = .ok (.pop, 1) := by decide +kernel
theorem dX3_costOf_42 : decode cX3_costOf 42 = .ok (.iconst 1, 1) := by decide +kernel
theorem dX3_costOf_43 : decode cX3_costOf 43 = .ok (.ireturn, 1) := by decide +kernel
theorem dX3_isRest_0 : decode cX3_isRest 0 = .ok (.iload_n 2, 1) := by decide +kernel
theorem dX3_isRest_1 : decode cX3_isRest 1 = .ok (.bipush 6, 2) := by decide +kernel
theorem dX3_isRest_3 : decode cX3_isRest 3 = .ok (.imul, 1) := by decide +kernel
theorem dX3_isRest_4 : decode cX3_isRest 4 = .ok (.iload_n 3, 1) := by decide +kernel
theorem dX3_isRest_5 : decode cX3_isRest 5 = .ok (.iadd, 1) := by decide +kernel
theorem dX3_isRest_6 : decode cX3_isRest 6 = .ok (.istore 4, 2) := by decide +kernel
theorem dX3_isRest_8 : decode cX3_isRest 8 = .ok (.iconst 0, 1) := by decide +kernel
theorem dX3_isRest_9 : decode cX3_isRest 9 = .ok (.istore 5, 2) := by decide +kernel
theorem dX3_isRest_11 : decode cX3_isRest 11 = .ok (.iload 5, 2) := by decide +kernel
theorem dX3_isRest_13 : decode cX3_isRest 13 = .ok (.iload_n 1, 1) := by decide +kernel
theorem dX3_isRest_14 : decode cX3_isRest 14 = .ok (.if_icmp .gt 55, 3) := by decide +kernel
theorem dX3_isRest_17 : decode cX3_isRest 17 = .ok (.aload_n 0, 1) := by decide +kernel
theorem dX3_isRest_18 : decode cX3_isRest 18 = .ok (.getfield 11, 3) := by decide +kernel
theorem dX3_isRest_21 : decode cX3_isRest 21 = .ok (.iload 5, 2) := by decide +kernel
theorem dX3_isRest_23 : decode cX3_isRest 23 = .ok (.bipush 6, 2) := by decide +kernel
theorem dX3_isRest_25 : decode cX3_isRest 25 = .ok (.imul, 1) := by decide +kernel
theorem dX3_isRest_26 : decode cX3_isRest 26 = .ok (.iload_n 3, 1) := by decide +kernel
theorem dX3_isRest_27 : decode cX3_isRest 27 = .ok (.iadd, 1) := by decide +kernel
theorem dX3_isRest_28 : decode cX3_isRest 28 = .ok (.iaload, 1) := by decide +kernel
theorem dX3_isRest_29 : decode cX3_isRest 29 = .ok (.aload_n 0, 1) := by decide +kernel
theorem dX3_isRest_30 : decode cX3_isRest 30 = .ok (.getfield 11, 3) := by decide +kernel
theorem dX3_isRest_33 : decode cX3_isRest 33 = .ok (.iload 4, 2) := by decide +kernel
theorem dX3_isRest_35 : decode cX3_isRest 35 = .ok (.iaload, 1) := by decide +kernel
theorem dX3_isRest_36 : decode cX3_isRest 36 = .ok (.if_icmp .gt 25, 3) := by decide +kernel
theorem dX3_isRest_39 : decode cX3_isRest 39 = .ok (.aload_n 0, 1) := by decide +kernel
theorem dX3_isRest_40 : decode cX3_isRest 40 = .ok (.getfield 15, 3) := by decide +kernel
theorem dX3_isRest_43 : decode cX3_isRest 43 = .ok (.iload_n 2, 1) := by decide +kernel
theorem dX3_isRest_44 : decode cX3_isRest 44 = .ok (.bipush 6, 2) := by decide +kernel
theorem dX3_isRest_46 : decode cX3_isRest 46 = .ok (.imul, 1) := by decide +kernel
theorem dX3_isRest_47 : decode cX3_isRest 47 = .ok (.iload 5, 2) := by decide +kernel
theorem dX3_isRest_49 : decode cX3_isRest 49 = .ok (.iadd, 1) := by decide +kernel
theorem dX3_isRest_50 : decode cX3_isRest 50 = .ok (.iaload, 1) := by decide +kernel
theorem dX3_isRest_51 : decode cX3_isRest 51 = .ok (.aload_n 0, 1) := by decide +kernel
theorem dX3_isRest_52 : decode cX3_isRest 52 = .ok (.getfield 15, 3) := by decide +kernel
theorem dX3_isRest_55 : decode cX3_isRest 55 = .ok (.iload 4, 2) := by decide +kernel
theorem dX3_isRest_57 : decode cX3_isRest 57 = .ok (.iaload, 1) := by decide +kernel
theorem dX3_isRest_58 : decode cX3_isRest 58 = .ok (.if_icmp .le 5, 3) := by decide +kernel
theorem dX3_isRest_61 : decode cX3_isRest 61 = .ok (.iconst 0, 1) := by decide +kernel
theorem dX3_isRest_62 : decode cX3_isRest 62 = .ok (.ireturn, 1) := by decide +kernel
theorem dX3_isRest_63 : decode cX3_isRest 63 = .ok (.iinc 5 1, 3) := by decide +kernel
theorem dX3_isRest_66 : decode cX3_isRest 66 = .ok (.goto (-55), 3) := by decide +kernel
theorem dX3_isRest_69 : decode cX3_isRest 69 = .ok (.iconst 1, 1) := by decide +kernel
theorem dX3_isRest_70 : decode cX3_isRest 70 = .ok (.ireturn, 1) := by decide +kernel
theorem dX4_init_0 : decode cX4_init 0 = .ok (.aload_n 0, 1) := by decide +kernel
theorem dX4_init_1 : decode cX4_init 1 = .ok (.invokespecial 3, 3) := by decide +kernel
theorem dX4_init_4 : decode cX4_init 4 = .ok (.aload_n 0, 1) := by decide +kernel
theorem dX4_init_5 : decode cX4_init 5 = .ok (.iconst 5, 1) := by decide +kernel
theorem dX4_init_6 : decode cX4_init 6 = .ok (.invokestatic 9, 3) := by decide +kernel
theorem dX4_init_9 : decode cX4_init 9 = .ok (.putfield 13, 3) := by decide +kernel
theorem dX4_init_12 : decode cX4_init 12 = .ok (.aload_n 0, 1) := by decide +kernel
theorem dX4_init_13 : decode cX4_init 13 = .ok (.iconst 0, 1) := by decide +kernel
theorem dX4_init_14 : decode cX4_init 14 = .ok (.putfield 19, 3) := by decide +kernel
theorem dX4_init_17 : decode cX4_init 17 = .ok (.aload_n 0, 1) := by decide +kernel
theorem dX4_init_18 : decode cX4_init 18 = .ok (.iconst 1, 1) := by decide +kernel
theorem dX4_init_19 : decode cX4_init 19 = .ok (.putfield 23, 3) := by decide +kernel
theorem dX4_init_22 : decode cX4_init 22 = .ok (.return_, 1) := by decide +kernel
theorem dX4_downBehind_0 : decode cX4_downBehind 0 = .ok (.aload_n 0, 1) := by decide +kernel
theorem dX4_downBehind_1 : decode cX4_downBehind 1 = .ok (.getfield 13, 3) := by decide +kernel
theorem dX4_downBehind_4 : decode cX4_downBehind 4 = .ok (.iconst 0, 1) := by decide +kernel
theorem dX4_downBehind_5 : decode cX4_downBehind 5 = .ok (.aaload, 1) := by decide +kernel
theorem dX4_downBehind_6 : decode cX4_downBehind 6 = .ok (.aload_n 2, 1) := by decide +kernel
theorem dX4_downBehind_7 : decode cX4_downBehind 7 = .ok (.invokevirtual 26, 3) := by decide +kernel
theorem dX4_downBehind_10 : decode cX4_downBehind 10 = .ok (.aload_n 0, 1) := by decide +kernel
theorem dX4_downBehind_11 : decode cX4_downBehind 11 = .ok (.getfield 13, 3) := by decide +kernel
theorem dX4_downBehind_14 : decode cX4_downBehind 14 = .ok (.iconst 0, 1) := by decide +kernel
theorem dX4_downBehind_15 : decode cX4_downBehind 15 = .ok (.aaload, 1) := by decide +kernel
theorem dX4_downBehind_16 : decode cX4_downBehind 16 = .ok (.aload_n 1, 1) := by decide +kernel
theorem dX4_downBehind_17 : decode cX4_downBehind 17 = .ok (.iload_n 3, 1) := by decide +kernel
theorem dX4_downBehind_18 : decode cX4_downBehind 18 = .ok (.iload 4, 2) := by decide +kernel
theorem dX4_downBehind_20 : decode cX4_downBehind 20 = .ok (.iload 5, 2) := by decide +kernel
theorem dX4_downBehind_22 : decode cX4_downBehind 22 = .ok (.invokevirtual 32, 3) := by decide +kernel
theorem dX4_downBehind_25 : decode cX4_downBehind 25 = .ok (.pop, 1) := by decide +kernel
theorem dX4_downBehind_26 : decode cX4_downBehind 26 = .ok (.aload_n 0, 1) := by decide +kernel
theorem dX4_downBehind_27 : decode cX4_downBehind 27 = .ok (.getfield 13, 3) := by decide +kernel
theorem dX4_downBehind_30 : decode cX4_downBehind 30 = .ok (.iconst 0, 1) := by decide +kernel
theorem dX4_downBehind_31 : decode cX4_downBehind 31 = .ok (.aaload, 1) := by decide +kernel
theorem dX4_downBehind_32 : decode cX4_downBehind 32 = .ok (.getfield 36, 3) := by decide +kernel
theorem dX4_downBehind_35 : decode cX4_downBehind 35 = .ok (.ireturn, 1) := by decide +kernel
theorem dX4_firstRow_0 : decode cX4_firstRow 0 = .ok (.aload_n 0, 1) := by decide +kernel
theorem dX4_firstRow_1 : decode cX4_firstRow 1 = .ok (.getfield 13, 3) := by decide +kernel
theorem dX4_firstRow_4 : decode cX4_firstRow 4 = .ok (.iconst 0, 1) := by decide +kernel
theorem dX4_firstRow_5 : decode cX4_firstRow 5 = .ok (.aaload, 1) := by decide +kernel
theorem dX4_firstRow_6 : decode cX4_firstRow 6 = .ok (.aload_n 2, 1) := by decide +kernel
theorem dX4_firstRow_7 : decode cX4_firstRow 7 = .ok (.invokevirtual 26, 3) := by decide +kernel
theorem dX4_firstRow_10 : decode cX4_firstRow 10 = .ok (.aload_n 0, 1) := by decide +kernel
theorem dX4_firstRow_11 : decode cX4_firstRow 11 = .ok (.getfield 13, 3) := by decide +kernel
theorem dX4_firstRow_14 : decode cX4_firstRow 14 = .ok (.aload_n 1, 1) := by decide +kernel
theorem dX4_firstRow_15 : decode cX4_firstRow 15 = .ok (.iload_n 3, 1) := by decide +kernel
theorem dX4_firstRow_16 : decode cX4_firstRow 16 = .ok (.iconst 0, 1) := by decide +kernel
theorem dX4_firstRow_17 : decode cX4_firstRow 17 = .ok (.iload 4, 2) := by decide +kernel
theorem dX4_firstRow_19 : decode cX4_firstRow 19 = .ok (.invokestatic 39, 3) := by decide +kernel
theorem dX4_firstRow_22 : decode cX4_firstRow 22 = .ok (.ireturn, 1) := by decide +kernel
theorem dX4_rowFrom_0 : decode cX4_rowFrom 0 = .ok (.aload_n 0, 1) := by decide +kernel
theorem dX4_rowFrom_1 : decode cX4_rowFrom 1 = .ok (.iload_n 3, 1) := by decide +kernel
theorem dX4_rowFrom_2 : decode cX4_rowFrom 2 = .ok (.aaload, 1) := by decide +kernel
theorem dX4_rowFrom_3 : decode cX4_rowFrom 3 = .ok (.astore 5, 2) := by decide +kernel
theorem dX4_rowFrom_5 : decode cX4_rowFrom 5 = .ok (.iload_n 3, 1) := by decide +kernel
theorem dX4_rowFrom_6 : decode cX4_rowFrom 6 = .ok (.iload 4, 2) := by decide +kernel
theorem dX4_rowFrom_8 : decode cX4_rowFrom 8 = .ok (.if_icmp .ge 8, 3) := by decide +kernel
theorem dX4_rowFrom_11 : decode cX4_rowFrom 11 = .ok (.iload_n 3, 1) := by decide +kernel
theorem dX4_rowFrom_12 : decode cX4_rowFrom 12 = .ok (.iconst 3, 1) := by decide +kernel
theorem dX4_rowFrom_13 : decode cX4_rowFrom 13 = .ok (.if_icmp .lt 19, 3) := by decide +kernel
theorem dX4_rowFrom_16 : decode cX4_rowFrom 16 = .ok (.aload 5, 2) := by decide +kernel
theorem dX4_rowFrom_18 : decode cX4_rowFrom 18 = .ok (.iload_n 2, 1) := by decide +kernel
theorem dX4_rowFrom_19 : decode cX4_rowFrom 19 = .ok (.invokevirtual 43, 3) := by decide +kernel
theorem dX4_rowFrom_22 : decode cX4_rowFrom 22 = .ok (.ifCond .eq 8, 3) := by decide +kernel
theorem dX4_rowFrom_25 : decode cX4_rowFrom 25 = .ok (.bipush (-9), 2) := by decide +kernel
theorem dX4_rowFrom_27 : decode cX4_rowFrom 27 = .ok (.goto 4, 3) := by decide +kernel
theorem dX4_rowFrom_30 : decode cX4_rowFrom 30 = .ok (.iconst 0, 1) := by decide +kernel
theorem dX4_rowFrom_31 : decode cX4_rowFrom 31 = .ok (.ireturn, 1) := by decide +kernel
theorem dX4_rowFrom_32 : decode cX4_rowFrom 32 = .ok (.iconst 0, 1) := by decide +kernel
theorem dX4_rowFrom_33 : decode cX4_rowFrom 33 = .ok (.istore 6, 2) := by decide +kernel
theorem dX4_rowFrom_35 : decode cX4_rowFrom 35 = .ok (.iload 6, 2) := by decide +kernel
theorem dX4_rowFrom_37 : decode cX4_rowFrom 37 = .ok (.aload_n 1, 1) := by decide +kernel
theorem dX4_rowFrom_38 : decode cX4_rowFrom 38 = .ok (.getfield 47, 3) := by decide +kernel
theorem dX4_rowFrom_41 : decode cX4_rowFrom 41 = .ok (.if_icmp .ge 113, 3) := by decide +kernel
theorem dX4_rowFrom_44 : decode cX4_rowFrom 44 = .ok (.iconst 0, 1) := by decide +kernel
theorem dX4_rowFrom_45 : decode cX4_rowFrom 45 = .ok (.istore 7, 2) := by decide +kernel
theorem dX4_rowFrom_47 : decode cX4_rowFrom 47 = .ok (.iload 7, 2) := by decide +kernel
theorem dX4_rowFrom_49 : decode cX4_rowFrom 49 = .ok (.aload_n 1, 1) := by decide +kernel
theorem dX4_rowFrom_50 : decode cX4_rowFrom 50 = .ok (.getfield 52, 3) := by decide +kernel
theorem dX4_rowFrom_53 : decode cX4_rowFrom 53 = .ok (.if_icmp .ge 95, 3) := by decide +kernel
theorem dX4_rowFrom_56 : decode cX4_rowFrom 56 = .ok (.aload 5, 2) := by decide +kernel
theorem dX4_rowFrom_58 : decode cX4_rowFrom 58 = .ok (.aload_n 1, 1) := by decide +kernel
theorem dX4_rowFrom_59 : decode cX4_rowFrom 59 = .ok (.iload 6, 2) := by decide +kernel
theorem dX4_rowFrom_61 : decode cX4_rowFrom 61 = .ok (.iload 7, 2) := by decide +kernel
theorem dX4_rowFrom_63 : decode cX4_rowFrom 63 = .ok (.invokevirtual 55, 3) := by decide +kernel
theorem dX4_rowFrom_66 : decode cX4_rowFrom 66 = .ok (.ifCond .ne 6, 3) := by decide +kernel
theorem dX4_rowFrom_69 : decode cX4_rowFrom 69 = .ok (.goto 73, 3) := by decide +kernel
theorem dX4_rowFrom_72 : decode cX4_rowFrom 72 = .ok (.aload_n 0, 1) := by decide +kernel
theorem dX4_rowFrom_73 : decode cX4_rowFrom 73 = .ok (.iload_n 3, 1) := by decide +kernel
theorem dX4_rowFrom_74 : decode cX4_rowFrom 74 = .ok (.iconst 1, 1) := by decide +kernel
theorem dX4_rowFrom_75 : decode cX4_rowFrom 75 = .ok (.iadd, 1) := by decide +kernel
theorem dX4_rowFrom_76 : decode cX4_rowFrom 76 = .ok (.aaload, 1) := by decide +kernel
theorem dX4_rowFrom_77 : decode cX4_rowFrom 77 = .ok (.aload 5, 2) := by decide +kernel
theorem dX4_rowFrom_79 : decode cX4_rowFrom 79 = .ok (.invokevirtual 26, 3) := by decide +kernel
theorem dX4_rowFrom_82 : decode cX4_rowFrom 82 = .ok (.aload_n 0, 1) := by decide +kernel
theorem dX4_rowFrom_83 : decode cX4_rowFrom 83 = .ok (.iload_n 3, 1) := by decide +kernel
theorem dX4_rowFrom_84 : decode cX4_rowFrom 84 = .ok (.iconst 1, 1) := by decide +kernel
theorem dX4_rowFrom_85 : decode cX4_rowFrom 85 = .ok (.iadd, 1) := by decide +kernel
theorem dX4_rowFrom_86 : decode cX4_rowFrom 86 = .ok (.aaload, 1) := by decide +kernel
theorem dX4_rowFrom_87 : decode cX4_rowFrom 87 = .ok (.aload_n 1, 1) := by decide +kernel
theorem dX4_rowFrom_88 : decode cX4_rowFrom 88 = .ok (.iload 6, 2) := by decide +kernel
theorem dX4_rowFrom_90 : decode cX4_rowFrom 90 = .ok (.iload 7, 2) := by decide +kernel
theorem dX4_rowFrom_92 : decode cX4_rowFrom 92 = .ok (.invokevirtual 59, 3) := by decide +kernel
theorem dX4_rowFrom_95 : decode cX4_rowFrom 95 = .ok (.pop, 1) := by decide +kernel
theorem dX4_rowFrom_96 : decode cX4_rowFrom 96 = .ok (.aload_n 0, 1) := by decide +kernel
theorem dX4_rowFrom_97 : decode cX4_rowFrom 97 = .ok (.aload_n 1, 1) := by decide +kernel
theorem dX4_rowFrom_98 : decode cX4_rowFrom 98 = .ok (.iload_n 2, 1) := by decide +kernel
theorem dX4_rowFrom_99 : decode cX4_rowFrom 99 = .ok (.iload_n 3, 1) := by decide +kernel
theorem dX4_rowFrom_100 : decode cX4_rowFrom 100 = .ok (.iconst 1, 1) := by decide +kernel
theorem dX4_rowFrom_101 : decode cX4_rowFrom 101 = .ok (.iadd, 1) := by decide +kernel
theorem dX4_rowFrom_102 : decode cX4_rowFrom 102 = .ok (.iload 4, 2) := by decide +kernel
theorem dX4_rowFrom_104 : decode cX4_rowFrom 104 = .ok (.invokestatic 39, 3) := by decide +kernel
theorem dX4_rowFrom_107 : decode cX4_rowFrom 107 = .ok (.istore 8, 2) := by decide +kernel
theorem dX4_rowFrom_109 : decode cX4_rowFrom 109 = .ok (.iload 8, 2) := by decide +kernel
theorem dX4_rowFrom_111 : decode cX4_rowFrom 111 = .ok (.bipush (-9), 2) := by decide +kernel
theorem dX4_rowFrom_113 : decode cX4_rowFrom 113 = .ok (.if_icmp .eq 29, 3) := by decide +kernel
theorem dX4_rowFrom_116 : decode cX4_rowFrom 116 = .ok (.bipush 10, 2) := by decide +kernel
theorem dX4_rowFrom_118 : decode cX4_rowFrom 118 = .ok (.iload 6, 2) := by decide +kernel
theorem dX4_rowFrom_120 : decode cX4_rowFrom 120 = .ok (.iconst 1, 1) := by decide +kernel
theorem dX4_rowFrom_121 : decode cX4_rowFrom 121 = .ok (.iadd, 1) := by decide +kernel
theorem dX4_rowFrom_122 : decode cX4_rowFrom 122 = .ok (.imul, 1) := by decide +kernel
theorem dX4_rowFrom_123 : decode cX4_rowFrom 123 = .ok (.iload 7, 2) := by decide +kernel
theorem dX4_rowFrom_125 : decode cX4_rowFrom 125 = .ok (.iadd, 1) := by decide +kernel
theorem dX4_rowFrom_126 : decode cX4_rowFrom 126 = .ok (.iconst 1, 1) := by decide +kernel
theorem dX4_rowFrom_127 : decode cX4_rowFrom 127 = .ok (.iadd, 1) := by decide +kernel
theorem dX4_rowFrom_128 : decode cX4_rowFrom 128 = .ok (.iload 4, 2) := by decide +kernel
theorem dX4_rowFrom_130 : decode cX4_rowFrom 130 = .ok (.iload_n 3, 1) := by decide +kernel
theorem dX4_rowFrom_131 : decode cX4_rowFrom 131 = .ok (.isub, 1) := by decide +kernel
theorem dX4_rowFrom_132 : decode cX4_rowFrom 132 = .ok (.iconst 1, 1) := by decide +kernel
theorem dX4_rowFrom_133 : decode cX4_rowFrom 133 = .ok (.isub, 1) := by decide +kernel
theorem dX4_rowFrom_134 : decode cX4_rowFrom 134 = .ok (.invokestatic 63, 3) := by decide +kernel
theorem dX4_rowFrom_137 : decode cX4_rowFrom 137 = .ok (.imul, 1) := by decide +kernel
theorem dX4_rowFrom_138 : decode cX4_rowFrom 138 = .ok (.iload 8, 2) := by decide +kernel
theorem dX4_rowFrom_140 : decode cX4_rowFrom 140 = .ok (.iadd, 1) := by decide +kernel
theorem dX4_rowFrom_141 : decode cX4_rowFrom 141 = .ok (.ireturn, 1) := by decide +kernel
theorem dX4_rowFrom_142 : decode cX4_rowFrom 142 = .ok (.iinc 7 1, 3) := by decide +kernel
theorem dX4_rowFrom_145 : decode cX4_rowFrom 145 = .ok (.goto (-98), 3) := by decide +kernel
theorem dX4_rowFrom_148 : decode cX4_rowFrom 148 = .ok (.iinc 6 1, 3) := by decide +kernel
theorem dX4_rowFrom_151 : decode cX4_rowFrom 151 = .ok (.goto (-116), 3) := by decide +kernel
theorem dX4_rowFrom_154 : decode cX4_rowFrom 154 = .ok (.bipush (-9), 2) := by decide +kernel
theorem dX4_rowFrom_156 : decode cX4_rowFrom 156 = .ok (.ireturn, 1) := by decide +kernel
theorem dX4_matchAmong_0 : decode cX4_matchAmong 0 = .ok (.aload_n 0, 1) := by decide +kernel
theorem dX4_matchAmong_1 : decode cX4_matchAmong 1 = .ok (.bipush (-9), 2) := by decide +kernel
theorem dX4_matchAmong_3 : decode cX4_matchAmong 3 = .ok (.putfield 19, 3) := by decide +kernel
theorem dX4_matchAmong_6 : decode cX4_matchAmong 6 = .ok (.aload_n 0, 1) := by decide +kernel
theorem dX4_matchAmong_7 : decode cX4_matchAmong 7 = .ok (.iconst 1, 1) := by decide +kernel
theorem dX4_matchAmong_8 : decode cX4_matchAmong 8 = .ok (.putfield 23, 3) := by decide +kernel
theorem dX4_matchAmong_11 : decode cX4_matchAmong 11 = .ok (.aload_n 0, 1) := by decide +kernel
theorem dX4_matchAmong_12 : decode cX4_matchAmong 12 = .ok (.getfield 13, 3) := by decide +kernel
theorem dX4_matchAmong_15 : decode cX4_matchAmong 15 = .ok (.iconst 0, 1) := by decide +kernel
theorem dX4_matchAmong_16 : decode cX4_matchAmong 16 = .ok (.aaload, 1) := by decide +kernel
theorem dX4_matchAmong_17 : decode cX4_matchAmong 17 = .ok (.aload_n 2, 1) := by decide +kernel
theorem dX4_matchAmong_18 : decode cX4_matchAmong 18 = .ok (.invokevirtual 26, 3) := by decide +kernel
theorem dX4_matchAmong_21 : decode cX4_matchAmong 21 = .ok (.aload_n 0, 1) := by decide +kernel
theorem dX4_matchAmong_22 : decode cX4_matchAmong 22 = .ok (.aload_n 1, 1) := by decide +kernel
theorem dX4_matchAmong_23 : decode cX4_matchAmong 23 = .ok (.iload_n 3, 1) := by decide +kernel
theorem dX4_matchAmong_24 : decode cX4_matchAmong 24 = .ok (.iconst 0, 1) := by decide +kernel
theorem dX4_matchAmong_25 : decode cX4_matchAmong 25 = .ok (.iconst 1, 1) := by decide +kernel
theorem dX4_matchAmong_26 : decode cX4_matchAmong 26 = .ok (.invokestatic 67, 3) := by decide +kernel
theorem dX4_matchAmong_29 : decode cX4_matchAmong 29 = .ok (.aload_n 0, 1) := by decide +kernel
theorem dX4_matchAmong_30 : decode cX4_matchAmong 30 = .ok (.getfield 19, 3) := by decide +kernel
theorem dX4_matchAmong_33 : decode cX4_matchAmong 33 = .ok (.ireturn, 1) := by decide +kernel
theorem dX4_matchFrom_0 : decode cX4_matchFrom 0 = .ok (.aload_n 0, 1) := by decide +kernel
theorem dX4_matchFrom_1 : decode cX4_matchFrom 1 = .ok (.getfield 13, 3) := by decide +kernel
theorem dX4_matchFrom_4 : decode cX4_matchFrom 4 = .ok (.iload_n 3, 1) := by decide +kernel
theorem dX4_matchFrom_5 : decode cX4_matchFrom 5 = .ok (.aaload, 1) := by decide +kernel
theorem dX4_matchFrom_6 : decode cX4_matchFrom 6 = .ok (.astore 5, 2) := by decide +kernel
theorem dX4_matchFrom_8 : decode cX4_matchFrom 8 = .ok (.iload_n 3, 1) := by decide +kernel
theorem dX4_matchFrom_9 : decode cX4_matchFrom 9 = .ok (.aload_n 1, 1) := by decide +kernel
theorem dX4_matchFrom_10 : decode cX4_matchFrom 10 = .ok (.getfield 47, 3) := by decide +kernel
theorem dX4_matchFrom_13 : decode cX4_matchFrom 13 = .ok (.if_icmp .ge 8, 3) := by decide +kernel
theorem dX4_matchFrom_16 : decode cX4_matchFrom 16 = .ok (.iload_n 3, 1) := by decide +kernel
theorem dX4_matchFrom_17 : decode cX4_matchFrom 17 = .ok (.iconst 4, 1) := by decide +kernel
theorem dX4_matchFrom_18 : decode cX4_matchFrom 18 = .ok (.if_icmp .lt 15, 3) := by decide +kernel
theorem dX4_matchFrom_21 : decode cX4_matchFrom 21 = .ok (.aload_n 0, 1) := by decide +kernel
theorem dX4_matchFrom_22 : decode cX4_matchFrom 22 = .ok (.aload 5, 2) := by decide +kernel
theorem dX4_matchFrom_24 : decode cX4_matchFrom 24 = .ok (.invokevirtual 71, 3) := by decide +kernel
theorem dX4_matchFrom_27 : decode cX4_matchFrom 27 = .ok (.iload 4, 2) := by decide +kernel
theorem dX4_matchFrom_29 : decode cX4_matchFrom 29 = .ok (.invokevirtual 75, 3) := by decide +kernel
theorem dX4_matchFrom_32 : decode cX4_matchFrom 32 = .ok (.return_, 1) := by decide +kernel
theorem dX4_matchFrom_33 : decode cX4_matchFrom 33 = .ok (.aload_n 0, 1) := by decide +kernel
theorem dX4_matchFrom_34 : decode cX4_matchFrom 34 = .ok (.getfield 13, 3) := by decide +kernel
theorem dX4_matchFrom_37 : decode cX4_matchFrom 37 = .ok (.iload_n 3, 1) := by decide +kernel
theorem dX4_matchFrom_38 : decode cX4_matchFrom 38 = .ok (.iconst 1, 1) := by decide +kernel
theorem dX4_matchFrom_39 : decode cX4_matchFrom 39 = .ok (.iadd, 1) := by decide +kernel
theorem dX4_matchFrom_40 : decode cX4_matchFrom 40 = .ok (.aaload, 1) := by decide +kernel
theorem dX4_matchFrom_41 : decode cX4_matchFrom 41 = .ok (.astore 6, 2) := by decide +kernel
theorem dX4_matchFrom_43 : decode cX4_matchFrom 43 = .ok (.aload 6, 2) := by decide +kernel
theorem dX4_matchFrom_45 : decode cX4_matchFrom 45 = .ok (.aload 5, 2) := by decide +kernel
theorem dX4_matchFrom_47 : decode cX4_matchFrom 47 = .ok (.invokevirtual 26, 3) := by decide +kernel
theorem dX4_matchFrom_50 : decode cX4_matchFrom 50 = .ok (.aload_n 0, 1) := by decide +kernel
theorem dX4_matchFrom_51 : decode cX4_matchFrom 51 = .ok (.aload_n 1, 1) := by decide +kernel
theorem dX4_matchFrom_52 : decode cX4_matchFrom 52 = .ok (.iload_n 2, 1) := by decide +kernel
theorem dX4_matchFrom_53 : decode cX4_matchFrom 53 = .ok (.iload_n 3, 1) := by decide +kernel
theorem dX4_matchFrom_54 : decode cX4_matchFrom 54 = .ok (.iconst 1, 1) := by decide +kernel
theorem dX4_matchFrom_55 : decode cX4_matchFrom 55 = .ok (.iadd, 1) := by decide +kernel
theorem dX4_matchFrom_56 : decode cX4_matchFrom 56 = .ok (.bipush 10, 2) := by decide +kernel
theorem dX4_matchFrom_58 : decode cX4_matchFrom 58 = .ok (.iload 4, 2) := by decide +kernel
theorem dX4_matchFrom_60 : decode cX4_matchFrom 60 = .ok (.imul, 1) := by decide +kernel
theorem dX4_matchFrom_61 : decode cX4_matchFrom 61 = .ok (.invokestatic 67, 3) := by decide +kernel
theorem dX4_matchFrom_64 : decode cX4_matchFrom 64 = .ok (.iload_n 2, 1) := by decide +kernel
theorem dX4_matchFrom_65 : decode cX4_matchFrom 65 = .ok (.iload_n 3, 1) := by decide +kernel
theorem dX4_matchFrom_66 : decode cX4_matchFrom 66 = .ok (.invokestatic 79, 3) := by decide +kernel
theorem dX4_matchFrom_69 : decode cX4_matchFrom 69 = .ok (.ifCond .ne 4, 3) := by decide +kernel
theorem dX4_matchFrom_72 : decode cX4_matchFrom 72 = .ok (.return_, 1) := by decide +kernel
theorem dX4_matchFrom_73 : decode cX4_matchFrom 73 = .ok (.iconst 0, 1) := by decide +kernel
theorem dX4_matchFrom_74 : decode cX4_matchFrom 74 = .ok (.istore 7, 2) := by decide +kernel
theorem dX4_matchFrom_76 : decode cX4_matchFrom 76 = .ok (.iload 7, 2) := by decide +kernel
theorem dX4_matchFrom_78 : decode cX4_matchFrom 78 = .ok (.aload_n 1, 1) := by decide +kernel
theorem dX4_matchFrom_79 : decode cX4_matchFrom 79 = .ok (.getfield 52, 3) := by decide +kernel
theorem dX4_matchFrom_82 : decode cX4_matchFrom 82 = .ok (.if_icmp .ge 57, 3) := by decide +kernel
theorem dX4_matchFrom_85 : decode cX4_matchFrom 85 = .ok (.aload 5, 2) := by decide +kernel
theorem dX4_matchFrom_87 : decode cX4_matchFrom 87 = .ok (.aload_n 1, 1) := by decide +kernel
theorem dX4_matchFrom_88 : decode cX4_matchFrom 88 = .ok (.iload_n 3, 1) := by decide +kernel
theorem dX4_matchFrom_89 : decode cX4_matchFrom 89 = .ok (.iload 7, 2) := by decide +kernel
theorem dX4_matchFrom_91 : decode cX4_matchFrom 91 = .ok (.invokevirtual 55, 3) := by decide +kernel
theorem dX4_matchFrom_94 : decode cX4_matchFrom 94 = .ok (.ifCond .eq 39, 3) := by decide +kernel
theorem dX4_matchFrom_97 : decode cX4_matchFrom 97 = .ok (.aload 6, 2) := by decide +kernel
theorem dX4_matchFrom_99 : decode cX4_matchFrom 99 = .ok (.aload 5, 2) := by decide +kernel
theorem dX4_matchFrom_101 : decode cX4_matchFrom 101 = .ok (.invokevirtual 26, 3) := by decide +kernel
theorem dX4_matchFrom_104 : decode cX4_matchFrom 104 = .ok (.aload 6, 2) := by decide +kernel
theorem dX4_matchFrom_106 : decode cX4_matchFrom 106 = .ok (.aload_n 1, 1) := by decide +kernel
theorem dX4_matchFrom_107 : decode cX4_matchFrom 107 = .ok (.iload_n 3, 1) := by decide +kernel
theorem dX4_matchFrom_108 : decode cX4_matchFrom 108 = .ok (.iload 7, 2) := by decide +kernel
theorem dX4_matchFrom_110 : decode cX4_matchFrom 110 = .ok (.invokevirtual 59, 3) := by decide +kernel
theorem dX4_matchFrom_113 : decode cX4_matchFrom 113 = .ok (.pop, 1) := by decide +kernel
theorem dX4_matchFrom_114 : decode cX4_matchFrom 114 = .ok (.aload_n 0, 1) := by decide +kernel
theorem dX4_matchFrom_115 : decode cX4_matchFrom 115 = .ok (.aload_n 1, 1) := by decide +kernel
theorem dX4_matchFrom_116 : decode cX4_matchFrom 116 = .ok (.iload_n 2, 1) := by decide +kernel
theorem dX4_matchFrom_117 : decode cX4_matchFrom 117 = .ok (.iload_n 3, 1) := by decide +kernel
theorem dX4_matchFrom_118 : decode cX4_matchFrom 118 = .ok (.iconst 1, 1) := by decide +kernel
theorem dX4_matchFrom_119 : decode cX4_matchFrom 119 = .ok (.iadd, 1) := by decide +kernel
theorem dX4_matchFrom_120 : decode cX4_matchFrom 120 = .ok (.bipush 10, 2) := by decide +kernel
theorem dX4_matchFrom_122 : decode cX4_matchFrom 122 = .ok (.iload 4, 2) := by decide +kernel
theorem dX4_matchFrom_124 : decode cX4_matchFrom 124 = .ok (.imul, 1) := by decide +kernel
theorem dX4_matchFrom_125 : decode cX4_matchFrom 125 = .ok (.iload 7, 2) := by decide +kernel
theorem dX4_matchFrom_127 : decode cX4_matchFrom 127 = .ok (.iadd, 1) := by decide +kernel
theorem dX4_matchFrom_128 : decode cX4_matchFrom 128 = .ok (.iconst 1, 1) := by decide +kernel
theorem dX4_matchFrom_129 : decode cX4_matchFrom 129 = .ok (.iadd, 1) := by decide +kernel
theorem dX4_matchFrom_130 : decode cX4_matchFrom 130 = .ok (.invokestatic 67, 3) := by decide +kernel
theorem dX4_matchFrom_133 : decode cX4_matchFrom 133 = .ok (.iinc 7 1, 3) := by decide +kernel
theorem dX4_matchFrom_136 : decode cX4_matchFrom 136 = .ok (.goto (-60), 3) := by decide +kernel
theorem dX4_matchFrom_139 : decode cX4_matchFrom 139 = .ok (.return_, 1) := by decide +kernel
theorem dX4_weigh_0 : decode cX4_weigh 0 = .ok (.iload_n 1, 1) := by decide +kernel
theorem dX4_weigh_1 : decode cX4_weigh 1 = .ok (.aload_n 0, 1) := by decide +kernel
theorem dX4_weigh_2 : decode cX4_weigh 2 = .ok (.getfield 19, 3) := by decide +kernel
theorem dX4_weigh_5 : decode cX4_weigh 5 = .ok (.if_icmp .le 13, 3) := by decide +kernel
theorem dX4_weigh_8 : decode cX4_weigh 8 = .ok (.aload_n 0, 1) := by decide +kernel
theorem dX4_weigh_9 : decode cX4_weigh 9 = .ok (.iload_n 1, 1) := by decide +kernel
theorem dX4_weigh_10 : decode cX4_weigh 10 = .ok (.putfield 19, 3) := by decide +kernel
theorem dX4_weigh_13 : decode cX4_weigh 13 = .ok (.aload_n 0, 1) := by decide +kernel
theorem dX4_weigh_14 : decode cX4_weigh 14 = .ok (.iload_n 2, 1) := by decide +kernel
theorem dX4_weigh_15 : decode cX4_weigh 15 = .ok (.putfield 23, 3) := by decide +kernel
theorem dX4_weigh_18 : decode cX4_weigh 18 = .ok (.return_, 1) := by decide +kernel
theorem dX4_fewestNails_0 : decode cX4_fewestNails 0 = .ok (.iconst 1, 1) := by decide +kernel
theorem dX4_fewestNails_1 : decode cX4_fewestNails 1 = .ok (.aload_n 1, 1) := by decide +kernel
theorem dX4_fewestNails_2 : decode cX4_fewestNails 2 = .ok (.getfield 52, 3) := by decide +kernel
theorem dX4_fewestNails_5 : decode cX4_fewestNails 5 = .ok (.ishl, 1) := by decide +kernel
theorem dX4_fewestNails_6 : decode cX4_fewestNails 6 = .ok (.iconst 1, 1) := by decide +kernel
theorem dX4_fewestNails_7 : decode cX4_fewestNails 7 = .ok (.isub, 1) := by decide +kernel
theorem dX4_fewestNails_8 : decode cX4_fewestNails 8 = .ok (.aload_n 2, 1) := by decide +kernel
theorem dX4_fewestNails_9 : decode cX4_fewestNails 9 = .ok (.getfield 36, 3) := by decide +kernel
theorem dX4_fewestNails_12 : decode cX4_fewestNails 12 = .ok (.iconst (-1), 1) := by decide +kernel
theorem dX4_fewestNails_13 : decode cX4_fewestNails 13 = .ok (.ixor, 1) := by decide +kernel
theorem dX4_fewestNails_14 : decode cX4_fewestNails 14 = .ok (.iand, 1) := by decide +kernel
theorem dX4_fewestNails_15 : decode cX4_fewestNails 15 = .ok (.aload_n 2, 1) := by decide +kernel
theorem dX4_fewestNails_16 : decode cX4_fewestNails 16 = .ok (.getfield 83, 3) := by decide +kernel
theorem dX4_fewestNails_19 : decode cX4_fewestNails 19 = .ok (.iconst (-1), 1) := by decide +kernel
theorem dX4_fewestNails_20 : decode cX4_fewestNails 20 = .ok (.ixor, 1) := by decide +kernel
theorem dX4_fewestNails_21 : decode cX4_fewestNails 21 = .ok (.iand, 1) := by decide +kernel
theorem dX4_fewestNails_22 : decode cX4_fewestNails 22 = .ok (.istore 4, 2) := by decide +kernel
theorem dX4_fewestNails_24 : decode cX4_fewestNails 24 = .ok (.iconst 0, 1) := by decide +kernel
theorem dX4_fewestNails_25 : decode cX4_fewestNails 25 = .ok (.istore 5, 2) := by decide +kernel
theorem dX4_fewestNails_27 : decode cX4_fewestNails 27 = .ok (.iload 5, 2) := by decide +kernel
theorem dX4_fewestNails_29 : decode cX4_fewestNails 29 = .ok (.aload_n 1, 1) := by decide +kernel
theorem dX4_fewestNails_30 : decode cX4_fewestNails 30 = .ok (.getfield 52, 3) := by decide +kernel
theorem dX4_fewestNails_33 : decode cX4_fewestNails 33 = .ok (.if_icmp .gt 64, 3) := by decide +kernel
theorem dX4_fewestNails_36 : decode cX4_fewestNails 36 = .ok (.iconst 0, 1) := by decide +kernel
theorem dX4_fewestNails_37 : decode cX4_fewestNails 37 = .ok (.istore 6, 2) := by decide +kernel
theorem dX4_fewestNails_39 : decode cX4_fewestNails 39 = .ok (.iload 6, 2) := by decide +kernel
theorem dX4_fewestNails_41 : decode cX4_fewestNails 41 = .ok (.iconst 1, 1) := by decide +kernel
theorem dX4_fewestNails_42 : decode cX4_fewestNails 42 = .ok (.aload_n 1, 1) := by decide +kernel
theorem dX4_fewestNails_43 : decode cX4_fewestNails 43 = .ok (.getfield 52, 3) := by decide +kernel
theorem dX4_fewestNails_46 : decode cX4_fewestNails 46 = .ok (.ishl, 1) := by decide +kernel
theorem dX4_fewestNails_47 : decode cX4_fewestNails 47 = .ok (.if_icmp .ge 44, 3) := by decide +kernel
theorem dX4_fewestNails_50 : decode cX4_fewestNails 50 = .ok (.iload 6, 2) := by decide +kernel
theorem dX4_fewestNails_52 : decode cX4_fewestNails 52 = .ok (.invokestatic 86, 3) := by decide +kernel
theorem dX4_fewestNails_55 : decode cX4_fewestNails 55 = .ok (.iload 5, 2) := by decide +kernel
theorem dX4_fewestNails_57 : decode cX4_fewestNails 57 = .ok (.if_icmp .ne 28, 3) := by decide +kernel
theorem dX4_fewestNails_60 : decode cX4_fewestNails 60 = .ok (.iload 6, 2) := by decide +kernel
theorem dX4_fewestNails_62 : decode cX4_fewestNails 62 = .ok (.iload 4, 2) := by decide +kernel
theorem dX4_fewestNails_64 : decode cX4_fewestNails 64 = .ok (.iconst (-1), 1) := by decide +kernel
theorem dX4_fewestNails_65 : decode cX4_fewestNails 65 = .ok (.ixor, 1) := by decide +kernel
theorem dX4_fewestNails_66 : decode cX4_fewestNails 66 = .ok (.iand, 1) := by decide +kernel
theorem dX4_fewestNails_67 : decode cX4_fewestNails 67 = .ok (.ifCond .ne 18, 3) := by decide +kernel
theorem dX4_fewestNails_70 : decode cX4_fewestNails 70 = .ok (.aload_n 0, 1) := by decide +kernel
theorem dX4_fewestNails_71 : decode cX4_fewestNails 71 = .ok (.aload_n 1, 1) := by decide +kernel
theorem dX4_fewestNails_72 : decode cX4_fewestNails 72 = .ok (.aload_n 2, 1) := by decide +kernel
theorem dX4_fewestNails_73 : decode cX4_fewestNails 73 = .ok (.iload_n 3, 1) := by decide +kernel
theorem dX4_fewestNails_74 : decode cX4_fewestNails 74 = .ok (.iload 6, 2) := by decide +kernel
theorem dX4_fewestNails_76 : decode cX4_fewestNails 76 = .ok (.invokevirtual 91, 3) := by decide +kernel
theorem dX4_fewestNails_79 : decode cX4_fewestNails 79 = .ok (.ifCond .eq 6, 3) := by decide +kernel
theorem dX4_fewestNails_82 : decode cX4_fewestNails 82 = .ok (.iload 6, 2) := by decide +kernel
theorem dX4_fewestNails_84 : decode cX4_fewestNails 84 = .ok (.ireturn, 1) := by decide +kernel
theorem dX4_fewestNails_85 : decode cX4_fewestNails 85 = .ok (.iinc 6 1, 3) := by decide +kernel
theorem dX4_fewestNails_88 : decode cX4_fewestNails 88 = .ok (.goto (-49), 3) := by decide +kernel
theorem dX4_fewestNails_91 : decode cX4_fewestNails 91 = .ok (.iinc 5 1, 3) := by decide +kernel
theorem dX4_fewestNails_94 : decode cX4_fewestNails 94 = .ok (.goto (-67), 3) := by decide +kernel
theorem dX4_fewestNails_97 : decode cX4_fewestNails 97 = .ok (.bipush (-9), 2) := by decide +kernel
theorem dX4_fewestNails_99 : decode cX4_fewestNails 99 = .ok (.ireturn, 1) := by decide +kernel
theorem dX4_staysUp_0 : decode cX4_staysUp 0 = .ok (.iconst 0, 1) := by decide +kernel
theorem dX4_staysUp_1 : decode cX4_staysUp 1 = .ok (.istore 5, 2) := by decide +kernel
theorem dX4_staysUp_3 : decode cX4_staysUp 3 = .ok (.iload 5, 2) := by decide +kernel
theorem dX4_staysUp_5 : decode cX4_staysUp 5 = .ok (.aload_n 1, 1) := by decide +kernel
theorem dX4_staysUp_6 : decode cX4_staysUp 6 = .ok (.getfield 47, 3) := by decide +kernel
theorem dX4_staysUp_9 : decode cX4_staysUp 9 = .ok (.if_icmp .ge 98, 3) := by decide +kernel
theorem dX4_staysUp_12 : decode cX4_staysUp 12 = .ok (.iconst 0, 1) := by decide +kernel
theorem dX4_staysUp_13 : decode cX4_staysUp 13 = .ok (.istore 6, 2) := by decide +kernel
theorem dX4_staysUp_15 : decode cX4_staysUp 15 = .ok (.iload 6, 2) := by decide +kernel
theorem dX4_staysUp_17 : decode cX4_staysUp 17 = .ok (.aload_n 1, 1) := by decide +kernel
theorem dX4_staysUp_18 : decode cX4_staysUp 18 = .ok (.getfield 52, 3) := by decide +kernel
theorem dX4_staysUp_21 : decode cX4_staysUp 21 = .ok (.if_icmp .ge 80, 3) := by decide +kernel
theorem dX4_staysUp_24 : decode cX4_staysUp 24 = .ok (.aload_n 2, 1) := by decide +kernel
theorem dX4_staysUp_25 : decode cX4_staysUp 25 = .ok (.aload_n 1, 1) := by decide +kernel
theorem dX4_staysUp_26 : decode cX4_staysUp 26 = .ok (.iload 5, 2) := by decide +kernel
theorem dX4_staysUp_28 : decode cX4_staysUp 28 = .ok (.iload 6, 2) := by decide +kernel
theorem dX4_staysUp_30 : decode cX4_staysUp 30 = .ok (.invokevirtual 55, 3) := by decide +kernel
theorem dX4_staysUp_33 : decode cX4_staysUp 33 = .ok (.ifCond .ne 6, 3) := by decide +kernel
theorem dX4_staysUp_36 : decode cX4_staysUp 36 = .ok (.goto 59, 3) := by decide +kernel
theorem dX4_staysUp_39 : decode cX4_staysUp 39 = .ok (.aload_n 0, 1) := by decide +kernel
theorem dX4_staysUp_40 : decode cX4_staysUp 40 = .ok (.getfield 13, 3) := by decide +kernel
theorem dX4_staysUp_43 : decode cX4_staysUp 43 = .ok (.iconst 0, 1) := by decide +kernel
theorem dX4_staysUp_44 : decode cX4_staysUp 44 = .ok (.aaload, 1) := by decide +kernel
theorem dX4_staysUp_45 : decode cX4_staysUp 45 = .ok (.aload_n 2, 1) := by decide +kernel
theorem dX4_staysUp_46 : decode cX4_staysUp 46 = .ok (.invokevirtual 26, 3) := by decide +kernel
theorem dX4_staysUp_49 : decode cX4_staysUp 49 = .ok (.aload_n 0, 1) := by decide +kernel
theorem dX4_staysUp_50 : decode cX4_staysUp 50 = .ok (.getfield 13, 3) := by decide +kernel
theorem dX4_staysUp_53 : decode cX4_staysUp 53 = .ok (.iconst 0, 1) := by decide +kernel
theorem dX4_staysUp_54 : decode cX4_staysUp 54 = .ok (.aaload, 1) := by decide +kernel
theorem dX4_staysUp_55 : decode cX4_staysUp 55 = .ok (.dup, 1) := by decide +kernel
theorem dX4_staysUp_56 : decode cX4_staysUp 56 = .ok (.getfield 83, 3) := by decide +kernel
theorem dX4_staysUp_59 : decode cX4_staysUp 59 = .ok (.iload 4, 2) := by decide +kernel
theorem dX4_staysUp_61 : decode cX4_staysUp 61 = .ok (.ior, 1) := by decide +kernel
theorem dX4_staysUp_62 : decode cX4_staysUp 62 = .ok (.putfield 83, 3) := by decide +kernel
theorem dX4_staysUp_65 : decode cX4_staysUp 65 = .ok (.aload_n 0, 1) := by decide +kernel
theorem dX4_staysUp_66 : decode cX4_staysUp 66 = .ok (.getfield 13, 3) := by decide +kernel
theorem dX4_staysUp_69 : decode cX4_staysUp 69 = .ok (.iconst 0, 1) := by decide +kernel
theorem dX4_staysUp_70 : decode cX4_staysUp 70 = .ok (.aaload, 1) := by decide +kernel
theorem dX4_staysUp_71 : decode cX4_staysUp 71 = .ok (.aload_n 1, 1) := by decide +kernel
theorem dX4_staysUp_72 : decode cX4_staysUp 72 = .ok (.iload 5, 2) := by decide +kernel
theorem dX4_staysUp_74 : decode cX4_staysUp 74 = .ok (.iload 6, 2) := by decide +kernel
theorem dX4_staysUp_76 : decode cX4_staysUp 76 = .ok (.invokevirtual 59, 3) := by decide +kernel
theorem dX4_staysUp_79 : decode cX4_staysUp 79 = .ok (.pop, 1) := by decide +kernel
theorem dX4_staysUp_80 : decode cX4_staysUp 80 = .ok (.aload_n 0, 1) := by decide +kernel
theorem dX4_staysUp_81 : decode cX4_staysUp 81 = .ok (.getfield 13, 3) := by decide +kernel
theorem dX4_staysUp_84 : decode cX4_staysUp 84 = .ok (.iconst 0, 1) := by decide +kernel
theorem dX4_staysUp_85 : decode cX4_staysUp 85 = .ok (.aaload, 1) := by decide +kernel
theorem dX4_staysUp_86 : decode cX4_staysUp 86 = .ok (.iload_n 3, 1) := by decide +kernel
theorem dX4_staysUp_87 : decode cX4_staysUp 87 = .ok (.invokevirtual 43, 3) := by decide +kernel
theorem dX4_staysUp_90 : decode cX4_staysUp 90 = .ok (.ifCond .ne 5, 3) := by decide +kernel
theorem dX4_staysUp_93 : decode cX4_staysUp 93 = .ok (.iconst 0, 1) := by decide +kernel
theorem dX4_staysUp_94 : decode cX4_staysUp 94 = .ok (.ireturn, 1) := by decide +kernel
theorem dX4_staysUp_95 : decode cX4_staysUp 95 = .ok (.iinc 6 1, 3) := by decide +kernel
theorem dX4_staysUp_98 : decode cX4_staysUp 98 = .ok (.goto (-83), 3) := by decide +kernel
theorem dX4_staysUp_101 : decode cX4_staysUp 101 = .ok (.iinc 5 1, 3) := by decide +kernel
theorem dX4_staysUp_104 : decode cX4_staysUp 104 = .ok (.goto (-101), 3) := by decide +kernel
theorem dX4_staysUp_107 : decode cX4_staysUp 107 = .ok (.iconst 1, 1) := by decide +kernel
theorem dX4_staysUp_108 : decode cX4_staysUp 108 = .ok (.ireturn, 1) := by decide +kernel
theorem dX4_firstThatCanNotBe_0 : decode cX4_firstThatCanNotBe 0 = .ok (.aload_n 0, 1) := by decide +kernel
theorem dX4_firstThatCanNotBe_1 : decode cX4_firstThatCanNotBe 1 = .ok (.getfield 13, 3) := by decide +kernel
theorem dX4_firstThatCanNotBe_4 : decode cX4_firstThatCanNotBe 4 = .ok (.iconst 0, 1) := by decide +kernel
theorem dX4_firstThatCanNotBe_5 : decode cX4_firstThatCanNotBe 5 = .ok (.aaload, 1) := by decide +kernel
theorem dX4_firstThatCanNotBe_6 : decode cX4_firstThatCanNotBe 6 = .ok (.aload_n 2, 1) := by decide +kernel
theorem dX4_firstThatCanNotBe_7 : decode cX4_firstThatCanNotBe 7 = .ok (.invokevirtual 26, 3) := by decide +kernel
theorem dX4_firstThatCanNotBe_10 : decode cX4_firstThatCanNotBe 10 = .ok (.iconst 0, 1) := by decide +kernel
theorem dX4_firstThatCanNotBe_11 : decode cX4_firstThatCanNotBe 11 = .ok (.istore 5, 2) := by decide +kernel
theorem dX4_firstThatCanNotBe_13 : decode cX4_firstThatCanNotBe 13 = .ok (.iload 5, 2) := by decide +kernel
theorem dX4_firstThatCanNotBe_15 : decode cX4_firstThatCanNotBe 15 = .ok (.iload_n 3, 1) := by decide +kernel
theorem dX4_firstThatCanNotBe_16 : decode cX4_firstThatCanNotBe 16 = .ok (.if_icmp .ge 52, 3) := by decide +kernel
theorem dX4_firstThatCanNotBe_19 : decode cX4_firstThatCanNotBe 19 = .ok (.iload 4, 2) := by decide +kernel
theorem dX4_firstThatCanNotBe_21 : decode cX4_firstThatCanNotBe 21 = .ok (.iload_n 3, 1) := by decide +kernel
theorem dX4_firstThatCanNotBe_22 : decode cX4_firstThatCanNotBe 22 = .ok (.iconst 1, 1) := by decide +kernel
theorem dX4_firstThatCanNotBe_23 : decode cX4_firstThatCanNotBe 23 = .ok (.isub, 1) := by decide +kernel
theorem dX4_firstThatCanNotBe_24 : decode cX4_firstThatCanNotBe 24 = .ok (.iload 5, 2) := by decide +kernel
theorem dX4_firstThatCanNotBe_26 : decode cX4_firstThatCanNotBe 26 = .ok (.isub, 1) := by decide +kernel
theorem dX4_firstThatCanNotBe_27 : decode cX4_firstThatCanNotBe 27 = .ok (.invokestatic 63, 3) := by decide +kernel
theorem dX4_firstThatCanNotBe_30 : decode cX4_firstThatCanNotBe 30 = .ok (.idiv, 1) := by decide +kernel
theorem dX4_firstThatCanNotBe_31 : decode cX4_firstThatCanNotBe 31 = .ok (.bipush 100, 2) := by decide +kernel
theorem dX4_firstThatCanNotBe_33 : decode cX4_firstThatCanNotBe 33 = .ok (.irem, 1) := by decide +kernel
theorem dX4_firstThatCanNotBe_34 : decode cX4_firstThatCanNotBe 34 = .ok (.istore 6, 2) := by decide +kernel
theorem dX4_firstThatCanNotBe_36 : decode cX4_firstThatCanNotBe 36 = .ok (.aload_n 1, 1) := by decide +kernel
theorem dX4_firstThatCanNotBe_37 : decode cX4_firstThatCanNotBe 37 = .ok (.aload_n 0, 1) := by decide +kernel
theorem dX4_firstThatCanNotBe_38 : decode cX4_firstThatCanNotBe 38 = .ok (.getfield 13, 3) := by decide +kernel
theorem dX4_firstThatCanNotBe_41 : decode cX4_firstThatCanNotBe 41 = .ok (.iconst 0, 1) := by decide +kernel
theorem dX4_firstThatCanNotBe_42 : decode cX4_firstThatCanNotBe 42 = .ok (.aaload, 1) := by decide +kernel
theorem dX4_firstThatCanNotBe_43 : decode cX4_firstThatCanNotBe 43 = .ok (.iload 6, 2) := by decide +kernel
theorem dX4_firstThatCanNotBe_45 : decode cX4_firstThatCanNotBe 45 = .ok (.bipush 10, 2) := by decide +kernel
theorem dX4_firstThatCanNotBe_47 : decode cX4_firstThatCanNotBe 47 = .ok (.idiv, 1) := by decide +kernel
theorem dX4_firstThatCanNotBe_48 : decode cX4_firstThatCanNotBe 48 = .ok (.iload 6, 2) := by decide +kernel
theorem dX4_firstThatCanNotBe_50 : decode cX4_firstThatCanNotBe 50 = .ok (.bipush 10, 2) := by decide +kernel
theorem dX4_firstThatCanNotBe_52 : decode cX4_firstThatCanNotBe 52 = .ok (.irem, 1) := by decide +kernel
theorem dX4_firstThatCanNotBe_53 : decode cX4_firstThatCanNotBe 53 = .ok (.invokestatic 95, 3) := by decide +kernel
theorem dX4_firstThatCanNotBe_56 : decode cX4_firstThatCanNotBe 56 = .ok (.ifCond .ne 6, 3) := by decide +kernel
theorem dX4_firstThatCanNotBe_59 : decode cX4_firstThatCanNotBe 59 = .ok (.iload 5, 2) := by decide +kernel
theorem dX4_firstThatCanNotBe_61 : decode cX4_firstThatCanNotBe 61 = .ok (.ireturn, 1) := by decide +kernel
theorem dX4_firstThatCanNotBe_62 : decode cX4_firstThatCanNotBe 62 = .ok (.iinc 5 1, 3) := by decide +kernel
theorem dX4_firstThatCanNotBe_65 : decode cX4_firstThatCanNotBe 65 = .ok (.goto (-52), 3) := by decide +kernel
theorem dX4_firstThatCanNotBe_68 : decode cX4_firstThatCanNotBe 68 = .ok (.bipush (-9), 2) := by decide +kernel
theorem dX4_firstThatCanNotBe_70 : decode cX4_firstThatCanNotBe 70 = .ok (.ireturn, 1) := by decide +kernel
theorem dX4_couldBeDone_0 : decode cX4_couldBeDone 0 = .ok (.iload_n 2, 1) := by decide +kernel
theorem dX4_couldBeDone_1 : decode cX4_couldBeDone 1 = .ok (.bipush 6, 2) := by decide +kernel
theorem dX4_couldBeDone_3 : decode cX4_couldBeDone 3 = .ok (.if_icmp .ne 20, 3) := by decide +kernel
theorem dX4_couldBeDone_6 : decode cX4_couldBeDone 6 = .ok (.iload_n 3, 1) := by decide +kernel
theorem dX4_couldBeDone_7 : decode cX4_couldBeDone 7 = .ok (.ifCond .ne 14, 3) := by decide +kernel
theorem dX4_couldBeDone_10 : decode cX4_couldBeDone 10 = .ok (.aload_n 1, 1) := by decide +kernel
theorem dX4_couldBeDone_11 : decode cX4_couldBeDone 11 = .ok (.invokevirtual 98, 3) := by decide +kernel
theorem dX4_couldBeDone_14 : decode cX4_couldBeDone 14 = .ok (.ifCond .eq 7, 3) := by decide +kernel
theorem dX4_couldBeDone_17 : decode cX4_couldBeDone 17 = .ok (.iconst 1, 1) := by decide +kernel
theorem dX4_couldBeDone_18 : decode cX4_couldBeDone 18 = .ok (.goto 4, 3) := by decide +kernel
theorem dX4_couldBeDone_21 : decode cX4_couldBeDone 21 = .ok (.iconst 0, 1) := by decide +kernel
theorem dX4_couldBeDone_22 : decode cX4_couldBeDone 22 = .ok (.ireturn, 1) := by decide +kernel
theorem dX4_couldBeDone_23 : decode cX4_couldBeDone 23 = .ok (.aload_n 0, 1) := by decide +kernel
theorem dX4_couldBeDone_24 : decode cX4_couldBeDone 24 = .ok (.iload_n 3, 1) := by decide +kernel
theorem dX4_couldBeDone_25 : decode cX4_couldBeDone 25 = .ok (.invokevirtual 102, 3) := by decide +kernel
theorem dX4_couldBeDone_28 : decode cX4_couldBeDone 28 = .ok (.ifCond .ne 5, 3) := by decide +kernel
theorem dX4_couldBeDone_31 : decode cX4_couldBeDone 31 = .ok (.iconst 0, 1) := by decide +kernel
theorem dX4_couldBeDone_32 : decode cX4_couldBeDone 32 = .ok (.ireturn, 1) := by decide +kernel
theorem dX4_couldBeDone_33 : decode cX4_couldBeDone 33 = .ok (.iload_n 2, 1) := by decide +kernel
theorem dX4_couldBeDone_34 : decode cX4_couldBeDone 34 = .ok (.ifCond .ne 9, 3) := by decide +kernel
theorem dX4_couldBeDone_37 : decode cX4_couldBeDone 37 = .ok (.aload_n 1, 1) := by decide +kernel
theorem dX4_couldBeDone_38 : decode cX4_couldBeDone 38 = .ok (.iload_n 3, 1) := by decide +kernel
theorem dX4_couldBeDone_39 : decode cX4_couldBeDone 39 = .ok (.invokevirtual 105, 3) := by decide +kernel
theorem dX4_couldBeDone_42 : decode cX4_couldBeDone 42 = .ok (.ireturn, 1) := by decide +kernel
theorem dX4_couldBeDone_43 : decode cX4_couldBeDone 43 = .ok (.iload_n 2, 1) := by decide +kernel
theorem dX4_couldBeDone_44 : decode cX4_couldBeDone 44 = .ok (.iconst 5, 1) := by decide +kernel
theorem dX4_couldBeDone_45 : decode cX4_couldBeDone 45 = .ok (.if_icmp .ne 9, 3) := by decide +kernel
theorem dX4_couldBeDone_48 : decode cX4_couldBeDone 48 = .ok (.aload_n 1, 1) := by decide +kernel
theorem dX4_couldBeDone_49 : decode cX4_couldBeDone 49 = .ok (.iload_n 3, 1) := by decide +kernel
theorem dX4_couldBeDone_50 : decode cX4_couldBeDone 50 = .ok (.invokevirtual 108, 3) := by decide +kernel
theorem dX4_couldBeDone_53 : decode cX4_couldBeDone 53 = .ok (.ireturn, 1) := by decide +kernel
theorem dX4_couldBeDone_54 : decode cX4_couldBeDone 54 = .ok (.iload_n 2, 1) := by decide +kernel
theorem dX4_couldBeDone_55 : decode cX4_couldBeDone 55 = .ok (.iconst 1, 1) := by decide +kernel
theorem dX4_couldBeDone_56 : decode cX4_couldBeDone 56 = .ok (.isub, 1) := by decide +kernel
theorem dX4_couldBeDone_57 : decode cX4_couldBeDone 57 = .ok (.istore 4, 2) := by decide +kernel
theorem dX4_couldBeDone_59 : decode cX4_couldBeDone 59 = .ok (.aload_n 0, 1) := by decide +kernel
theorem dX4_couldBeDone_60 : decode cX4_couldBeDone 60 = .ok (.iload 4, 2) := by decide +kernel
theorem dX4_couldBeDone_62 : decode cX4_couldBeDone 62 = .ok (.invokevirtual 111, 3) := by decide +kernel
theorem dX4_couldBeDone_65 : decode cX4_couldBeDone 65 = .ok (.ifCond .eq 21, 3) := by decide +kernel
theorem dX4_couldBeDone_68 : decode cX4_couldBeDone 68 = .ok (.aload_n 1, 1) := by decide +kernel
theorem dX4_couldBeDone_69 : decode cX4_couldBeDone 69 = .ok (.getfield 114, 3) := by decide +kernel
theorem dX4_couldBeDone_72 : decode cX4_couldBeDone 72 = .ok (.ifCond .eq 14, 3) := by decide +kernel
theorem dX4_couldBeDone_75 : decode cX4_couldBeDone 75 = .ok (.aload_n 1, 1) := by decide +kernel
theorem dX4_couldBeDone_76 : decode cX4_couldBeDone 76 = .ok (.aload_n 0, 1) := by decide +kernel
theorem dX4_couldBeDone_77 : decode cX4_couldBeDone 77 = .ok (.iload 4, 2) := by decide +kernel
theorem dX4_couldBeDone_79 : decode cX4_couldBeDone 79 = .ok (.iload_n 3, 1) := by decide +kernel
theorem dX4_couldBeDone_80 : decode cX4_couldBeDone 80 = .ok (.invokevirtual 55, 3) := by decide +kernel
theorem dX4_couldBeDone_83 : decode cX4_couldBeDone 83 = .ok (.ifCond .ne 5, 3) := by decide +kernel
theorem dX4_couldBeDone_86 : decode cX4_couldBeDone 86 = .ok (.iconst 0, 1) := by decide +kernel
theorem dX4_couldBeDone_87 : decode cX4_couldBeDone 87 = .ok (.ireturn, 1) := by decide +kernel
theorem dX4_couldBeDone_88 : decode cX4_couldBeDone 88 = .ok (.aload_n 1, 1) := by decide +kernel
theorem dX4_couldBeDone_89 : decode cX4_couldBeDone 89 = .ok (.dup, 1) := by decide +kernel
theorem dX4_couldBeDone_90 : decode cX4_couldBeDone 90 = .ok (.getfield 114, 3) := by decide +kernel
theorem dX4_couldBeDone_93 : decode cX4_couldBeDone 93 = .ok (.iconst 1, 1) := by decide +kernel
theorem dX4_couldBeDone_94 : decode cX4_couldBeDone 94 = .ok (.isub, 1) := by decide +kernel
theorem dX4_couldBeDone_95 : decode cX4_couldBeDone 95 = .ok (.putfield 114, 3) := by decide +kernel
theorem dX4_couldBeDone_98 : decode cX4_couldBeDone 98 = .ok (.aload_n 1, 1) := by decide +kernel
theorem dX4_couldBeDone_99 : decode cX4_couldBeDone 99 = .ok (.aload_n 0, 1) := by decide +kernel
theorem dX4_couldBeDone_100 : decode cX4_couldBeDone 100 = .ok (.iload 4, 2) := by decide +kernel
theorem dX4_couldBeDone_102 : decode cX4_couldBeDone 102 = .ok (.iload_n 3, 1) := by decide +kernel
theorem dX4_couldBeDone_103 : decode cX4_couldBeDone 103 = .ok (.invokevirtual 59, 3) := by decide +kernel
theorem dX4_couldBeDone_106 : decode cX4_couldBeDone 106 = .ok (.pop, 1) := by decide +kernel
theorem dX4_couldBeDone_107 : decode cX4_couldBeDone 107 = .ok (.iconst 1, 1) := by decide +kernel
theorem dX4_couldBeDone_108 : decode cX4_couldBeDone 108 = .ok (.ireturn, 1) := by decide +kernel
theorem dX5_init_0 : decode cX5_init 0 = .ok (.aload_n 0, 1) := by decide +kernel
theorem dX5_init_1 : decode cX5_init 1 = .ok (.invokespecial 3, 3) := by decide +kernel
theorem dX5_init_4 : decode cX5_init 4 = .ok (.aload_n 0, 1) := by decide +kernel
theorem dX5_init_5 : decode cX5_init 5 = .ok (.bipush 6, 2) := by decide +kernel
theorem dX5_init_7 : decode cX5_init 7 = .ok (.newarray .int, 2) := by decide +kernel
theorem dX5_init_9 : decode cX5_init 9 = .ok (.putfield 9, 3) := by decide +kernel
theorem dX5_init_12 : decode cX5_init 12 = .ok (.aload_n 0, 1) := by decide +kernel
theorem dX5_init_13 : decode cX5_init 13 = .ok (.bipush 6, 2) := by decide +kernel
theorem dX5_init_15 : decode cX5_init 15 = .ok (.newarray .int, 2) := by decide +kernel
theorem dX5_init_17 : decode cX5_init 17 = .ok (.putfield 15, 3) := by decide +kernel
theorem dX5_init_20 : decode cX5_init 20 = .ok (.aload_n 0, 1) := by decide +kernel
theorem dX5_init_21 : decode cX5_init 21 = .ok (.bipush 6, 2) := by decide +kernel
theorem dX5_init_23 : decode cX5_init 23 = .ok (.newarray .int, 2) := by decide +kernel
theorem dX5_init_25 : decode cX5_init 25 = .ok (.putfield 18, 3) := by decide +kernel
theorem dX5_init_28 : decode cX5_init 28 = .ok (.aload_n 0, 1) := by decide +kernel
theorem dX5_init_29 : decode cX5_init 29 = .ok (.iconst 0, 1) := by decide +kernel
theorem dX5_init_30 : decode cX5_init 30 = .ok (.putfield 21, 3) := by decide +kernel
theorem dX5_init_33 : decode cX5_init 33 = .ok (.return_, 1) := by decide +kernel
theorem dX5_append_0 : decode cX5_append 0 = .ok (.aload_n 0, 1) := by decide +kernel
theorem dX5_append_1 : decode cX5_append 1 = .ok (.getfield 21, 3) := by decide +kernel
theorem dX5_append_4 : decode cX5_append 4 = .ok (.bipush 6, 2) := by decide +kernel
theorem dX5_append_6 : decode cX5_append 6 = .ok (.if_icmp .lt 5, 3) := by decide +kernel
theorem dX5_append_9 : decode cX5_append 9 = .ok (.iconst 0, 1) := by decide +kernel
theorem dX5_append_10 : decode cX5_append 10 = .ok (.ireturn, 1) := by decide +kernel
theorem dX5_append_11 : decode cX5_append 11 = .ok (.aload_n 0, 1) := by decide +kernel
theorem dX5_append_12 : decode cX5_append 12 = .ok (.getfield 9, 3) := by decide +kernel
theorem dX5_append_15 : decode cX5_append 15 = .ok (.aload_n 0, 1) := by decide +kernel
theorem dX5_append_16 : decode cX5_append 16 = .ok (.getfield 21, 3) := by decide +kernel
theorem dX5_append_19 : decode cX5_append 19 = .ok (.iload_n 1, 1) := by decide +kernel
theorem dX5_append_20 : decode cX5_append 20 = .ok (.iastore, 1) := by decide +kernel
theorem dX5_append_21 : decode cX5_append 21 = .ok (.aload_n 0, 1) := by decide +kernel
theorem dX5_append_22 : decode cX5_append 22 = .ok (.getfield 15, 3) := by decide +kernel
theorem dX5_append_25 : decode cX5_append 25 = .ok (.aload_n 0, 1) := by decide +kernel
theorem dX5_append_26 : decode cX5_append 26 = .ok (.getfield 21, 3) := by decide +kernel
theorem dX5_append_29 : decode cX5_append 29 = .ok (.iload_n 2, 1) := by decide +kernel
theorem dX5_append_30 : decode cX5_append 30 = .ok (.iastore, 1) := by decide +kernel
theorem dX5_append_31 : decode cX5_append 31 = .ok (.aload_n 0, 1) := by decide +kernel
theorem dX5_append_32 : decode cX5_append 32 = .ok (.getfield 18, 3) := by decide +kernel
theorem dX5_append_35 : decode cX5_append 35 = .ok (.aload_n 0, 1) := by decide +kernel
theorem dX5_append_36 : decode cX5_append 36 = .ok (.getfield 21, 3) := by decide +kernel
theorem dX5_append_39 : decode cX5_append 39 = .ok (.iload_n 3, 1) := by decide +kernel
theorem dX5_append_40 : decode cX5_append 40 = .ok (.iastore, 1) := by decide +kernel
theorem dX5_append_41 : decode cX5_append 41 = .ok (.aload_n 0, 1) := by decide +kernel
theorem dX5_append_42 : decode cX5_append 42 = .ok (.dup, 1) := by decide +kernel
theorem dX5_append_43 : decode cX5_append 43 = .ok (.getfield 21, 3) := by decide +kernel
theorem dX5_append_46 : decode cX5_append 46 = .ok (.iconst 1, 1) := by decide +kernel
theorem dX5_append_47 : decode cX5_append 47 = .ok (.iadd, 1) := by decide +kernel
theorem dX5_append_48 : decode cX5_append 48 = .ok (.putfield 21, 3) := by decide +kernel
theorem dX5_append_51 : decode cX5_append 51 = .ok (.iconst 1, 1) := by decide +kernel
theorem dX5_append_52 : decode cX5_append 52 = .ok (.ireturn, 1) := by decide +kernel
theorem dX5_holdsOf_0 : decode cX5_holdsOf 0 = .ok (.iconst 0, 1) := by decide +kernel
theorem dX5_holdsOf_1 : decode cX5_holdsOf 1 = .ok (.istore_n 3, 1) := by decide +kernel
theorem dX5_holdsOf_2 : decode cX5_holdsOf 2 = .ok (.iconst 1, 1) := by decide +kernel
theorem dX5_holdsOf_3 : decode cX5_holdsOf 3 = .ok (.istore 4, 2) := by decide +kernel
theorem dX5_holdsOf_5 : decode cX5_holdsOf 5 = .ok (.iload 4, 2) := by decide +kernel
theorem dX5_holdsOf_7 : decode cX5_holdsOf 7 = .ok (.bipush 9, 2) := by decide +kernel
theorem dX5_holdsOf_9 : decode cX5_holdsOf 9 = .ok (.if_icmp .gt 28, 3) := by decide +kernel
theorem dX5_holdsOf_12 : decode cX5_holdsOf 12 = .ok (.aload_n 0, 1) := by decide +kernel
theorem dX5_holdsOf_13 : decode cX5_holdsOf 13 = .ok (.iload_n 1, 1) := by decide +kernel
theorem dX5_holdsOf_14 : decode cX5_holdsOf 14 = .ok (.iload 4, 2) := by decide +kernel
theorem dX5_holdsOf_16 : decode cX5_holdsOf 16 = .ok (.iload_n 2, 1) := by decide +kernel
theorem dX5_holdsOf_17 : decode cX5_holdsOf 17 = .ok (.iadd, 1) := by decide +kernel
theorem dX5_holdsOf_18 : decode cX5_holdsOf 18 = .ok (.invokevirtual 25, 3) := by decide +kernel
theorem dX5_holdsOf_21 : decode cX5_holdsOf 21 = .ok (.ifCond .eq 10, 3) := by decide +kernel
theorem dX5_holdsOf_24 : decode cX5_holdsOf 24 = .ok (.iload_n 3, 1) := by decide +kernel
theorem dX5_holdsOf_25 : decode cX5_holdsOf 25 = .ok (.iconst 1, 1) := by decide +kernel
theorem dX5_holdsOf_26 : decode cX5_holdsOf 26 = .ok (.iload 4, 2) := by decide +kernel
theorem dX5_holdsOf_28 : decode cX5_holdsOf 28 = .ok (.ishl, 1) := by decide +kernel
theorem dX5_holdsOf_29 : decode cX5_holdsOf 29 = .ok (.ior, 1) := by decide +kernel
theorem dX5_holdsOf_30 : decode cX5_holdsOf 30 = .ok (.istore_n 3, 1) := by decide +kernel
theorem dX5_holdsOf_31 : decode cX5_holdsOf 31 = .ok (.iinc 4 1, 3) := by decide +kernel
theorem dX5_holdsOf_34 : decode cX5_holdsOf 34 = .ok (.goto (-29), 3) := by decide +kernel
theorem dX5_holdsOf_37 : decode cX5_holdsOf 37 = .ok (.iload_n 3, 1) := by decide +kernel
theorem dX5_holdsOf_38 : decode cX5_holdsOf 38 = .ok (.ireturn, 1) := by decide +kernel
theorem dX5_agree_0 : decode cX5_agree 0 = .ok (.iconst 0, 1) := by decide +kernel
theorem dX5_agree_1 : decode cX5_agree 1 = .ok (.istore_n 3, 1) := by decide +kernel
theorem dX5_agree_2 : decode cX5_agree 2 = .ok (.iload_n 3, 1) := by decide +kernel
theorem dX5_agree_3 : decode cX5_agree 3 = .ok (.aload_n 0, 1) := by decide +kernel
theorem dX5_agree_4 : decode cX5_agree 4 = .ok (.getfield 21, 3) := by decide +kernel
theorem dX5_agree_7 : decode cX5_agree 7 = .ok (.if_icmp .ge 49, 3) := by decide +kernel
theorem dX5_agree_10 : decode cX5_agree 10 = .ok (.aload_n 0, 1) := by decide +kernel
theorem dX5_agree_11 : decode cX5_agree 11 = .ok (.getfield 15, 3) := by decide +kernel
theorem dX5_agree_14 : decode cX5_agree 14 = .ok (.iload_n 3, 1) := by decide +kernel
theorem dX5_agree_15 : decode cX5_agree 15 = .ok (.iaload, 1) := by decide +kernel
theorem dX5_agree_16 : decode cX5_agree 16 = .ok (.iload_n 2, 1) := by decide +kernel
theorem dX5_agree_17 : decode cX5_agree 17 = .ok (.if_icmp .lt 7, 3) := by decide +kernel
theorem dX5_agree_20 : decode cX5_agree 20 = .ok (.iconst 1, 1) := by decide +kernel
theorem dX5_agree_21 : decode cX5_agree 21 = .ok (.goto 4, 3) := by decide +kernel
theorem dX5_agree_24 : decode cX5_agree 24 = .ok (.iconst 0, 1) := by decide +kernel
theorem dX5_agree_25 : decode cX5_agree 25 = .ok (.istore 4, 2) := by decide +kernel
theorem dX5_agree_27 : decode cX5_agree 27 = .ok (.aload_n 0, 1) := by decide +kernel
theorem dX5_agree_28 : decode cX5_agree 28 = .ok (.getfield 9, 3) := by decide +kernel
theorem dX5_agree_31 : decode cX5_agree 31 = .ok (.iload_n 3, 1) := by decide +kernel
theorem dX5_agree_32 : decode cX5_agree 32 = .ok (.iaload, 1) := by decide +kernel
theorem dX5_agree_33 : decode cX5_agree 33 = .ok (.iload_n 1, 1) := by decide +kernel
theorem dX5_agree_34 : decode cX5_agree 34 = .ok (.if_icmp .ne 16, 3) := by decide +kernel
theorem dX5_agree_37 : decode cX5_agree 37 = .ok (.iload 4, 2) := by decide +kernel
theorem dX5_agree_39 : decode cX5_agree 39 = .ok (.aload_n 0, 1) := by decide +kernel
theorem dX5_agree_40 : decode cX5_agree 40 = .ok (.getfield 18, 3) := by decide +kernel
theorem dX5_agree_43 : decode cX5_agree 43 = .ok (.iload_n 3, 1) := by decide +kernel
theorem dX5_agree_44 : decode cX5_agree 44 = .ok (.iaload, 1) := by decide +kernel
theorem dX5_agree_45 : decode cX5_agree 45 = .ok (.if_icmp .eq 5, 3) := by decide +kernel
theorem dX5_agree_48 : decode cX5_agree 48 = .ok (.iconst 0, 1) := by decide +kernel
theorem dX5_agree_49 : decode cX5_agree 49 = .ok (.ireturn, 1) := by decide +kernel
theorem dX5_agree_50 : decode cX5_agree 50 = .ok (.iinc 3 1, 3) := by decide +kernel
theorem dX5_agree_53 : decode cX5_agree 53 = .ok (.goto (-51), 3) := by decide +kernel
theorem dX5_agree_56 : decode cX5_agree 56 = .ok (.iconst 1, 1) := by decide +kernel
theorem dX5_agree_57 : decode cX5_agree 57 = .ok (.ireturn, 1) := by decide +kernel
theorem dX6_init_0 : decode cX6_init 0 = .ok (.aload_n 0, 1) := by decide +kernel
theorem dX6_init_1 : decode cX6_init 1 = .ok (.invokespecial 3, 3) := by decide +kernel
theorem dX6_init_4 : decode cX6_init 4 = .ok (.aload_n 0, 1) := by decide +kernel
theorem dX6_init_5 : decode cX6_init 5 = .ok (.iconst 2, 1) := by decide +kernel
theorem dX6_init_6 : decode cX6_init 6 = .ok (.invokestatic 9, 3) := by decide +kernel
theorem dX6_init_9 : decode cX6_init 9 = .ok (.putfield 13, 3) := by decide +kernel
theorem dX6_init_12 : decode cX6_init 12 = .ok (.aload_n 0, 1) := by decide +kernel
theorem dX6_init_13 : decode cX6_init 13 = .ok (.iconst 2, 1) := by decide +kernel
theorem dX6_init_14 : decode cX6_init 14 = .ok (.newarray .boolean, 2) := by decide +kernel
theorem dX6_init_16 : decode cX6_init 16 = .ok (.putfield 19, 3) := by decide +kernel
theorem dX6_init_19 : decode cX6_init 19 = .ok (.return_, 1) := by decide +kernel
theorem dX6_put_0 : decode cX6_put 0 = .ok (.iload_n 1, 1) := by decide +kernel
theorem dX6_put_1 : decode cX6_put 1 = .ok (.ifCond .lt 8, 3) := by decide +kernel
theorem dX6_put_4 : decode cX6_put 4 = .ok (.iload_n 1, 1) := by decide +kernel
theorem dX6_put_5 : decode cX6_put 5 = .ok (.iconst 2, 1) := by decide +kernel
theorem dX6_put_6 : decode cX6_put 6 = .ok (.if_icmp .lt 5, 3) := by decide +kernel
theorem dX6_put_9 : decode cX6_put 9 = .ok (.iconst 0, 1) := by decide +kernel
theorem dX6_put_10 : decode cX6_put 10 = .ok (.ireturn, 1) := by decide +kernel
theorem dX6_put_11 : decode cX6_put 11 = .ok (.aload_n 0, 1) := by decide +kernel
theorem dX6_put_12 : decode cX6_put 12 = .ok (.getfield 13, 3) := by decide +kernel
theorem dX6_put_15 : decode cX6_put 15 = .ok (.iload_n 1, 1) := by decide +kernel
theorem dX6_put_16 : decode cX6_put 16 = .ok (.aaload, 1) := by decide +kernel
theorem dX6_put_17 : decode cX6_put 17 = .ok (.aload_n 2, 1) := by decide +kernel
theorem dX6_put_18 : decode cX6_put 18 = .ok (.invokevirtual 23, 3) := by decide +kernel
theorem dX6_put_21 : decode cX6_put 21 = .ok (.aload_n 0, 1) := by decide +kernel
theorem dX6_put_22 : decode cX6_put 22 = .ok (.getfield 19, 3) := by decide +kernel
theorem dX6_put_25 : decode cX6_put 25 = .ok (.iload_n 1, 1) := by decide +kernel
theorem dX6_put_26 : decode cX6_put 26 = .ok (.iconst 1, 1) := by decide +kernel
theorem dX6_put_27 : decode cX6_put 27 = .ok (.bastore, 1) := by decide +kernel
theorem dX6_put_28 : decode cX6_put 28 = .ok (.iconst 1, 1) := by decide +kernel
theorem dX6_put_29 : decode cX6_put 29 = .ok (.ireturn, 1) := by decide +kernel
theorem dX6_get_0 : decode cX6_get 0 = .ok (.iload_n 1, 1) := by decide +kernel
theorem dX6_get_1 : decode cX6_get 1 = .ok (.ifCond .lt 17, 3) := by decide +kernel
theorem dX6_get_4 : decode cX6_get 4 = .ok (.iload_n 1, 1) := by decide +kernel
theorem dX6_get_5 : decode cX6_get 5 = .ok (.iconst 2, 1) := by decide +kernel
theorem dX6_get_6 : decode cX6_get 6 = .ok (.if_icmp .ge 12, 3) := by decide +kernel
theorem dX6_get_9 : decode cX6_get 9 = .ok (.aload_n 0, 1) := by decide +kernel
theorem dX6_get_10 : decode cX6_get 10 = .ok (.getfield 19, 3) := by decide +kernel
theorem dX6_get_13 : decode cX6_get 13 = .ok (.iload_n 1, 1) := by decide +kernel
theorem dX6_get_14 : decode cX6_get 14 = .ok (.baload, 1) := by decide +kernel
theorem dX6_get_15 : decode cX6_get 15 = .ok (.ifCond .ne 5, 3) := by decide +kernel
theorem dX6_get_18 : decode cX6_get 18 = .ok (.iconst 0, 1) := by decide +kernel
theorem dX6_get_19 : decode cX6_get 19 = .ok (.ireturn, 1) := by decide +kernel
theorem dX6_get_20 : decode cX6_get 20 = .ok (.aload_n 2, 1) := by decide +kernel
theorem dX6_get_21 : decode cX6_get 21 = .ok (.aload_n 0, 1) := by decide +kernel
theorem dX6_get_22 : decode cX6_get 22 = .ok (.getfield 13, 3) := by decide +kernel
theorem dX6_get_25 : decode cX6_get 25 = .ok (.iload_n 1, 1) := by decide +kernel
theorem dX6_get_26 : decode cX6_get 26 = .ok (.aaload, 1) := by decide +kernel
theorem dX6_get_27 : decode cX6_get 27 = .ok (.invokevirtual 23, 3) := by decide +kernel
theorem dX6_get_30 : decode cX6_get 30 = .ok (.iconst 1, 1) := by decide +kernel
theorem dX6_get_31 : decode cX6_get 31 = .ok (.ireturn, 1) := by decide +kernel
theorem dX6_forgetAll_0 : decode cX6_forgetAll 0 = .ok (.iconst 0, 1) := by decide +kernel
theorem dX6_forgetAll_1 : decode cX6_forgetAll 1 = .ok (.istore_n 1, 1) := by decide +kernel
theorem dX6_forgetAll_2 : decode cX6_forgetAll 2 = .ok (.iload_n 1, 1) := by decide +kernel
theorem dX6_forgetAll_3 : decode cX6_forgetAll 3 = .ok (.iconst 2, 1) := by decide +kernel
theorem dX6_forgetAll_4 : decode cX6_forgetAll 4 = .ok (.if_icmp .ge 16, 3) := by decide +kernel
theorem dX6_forgetAll_7 : decode cX6_forgetAll 7 = .ok (.aload_n 0, 1) := by decide +kernel
theorem dX6_forgetAll_8 : decode cX6_forgetAll 8 = .ok (.getfield 19, 3) := by decide +kernel
theorem dX6_forgetAll_11 : decode cX6_forgetAll 11 = .ok (.iload_n 1, 1) := by decide +kernel
theorem dX6_forgetAll_12 : decode cX6_forgetAll 12 = .ok (.iconst 0, 1) := by decide +kernel
theorem dX6_forgetAll_13 : decode cX6_forgetAll 13 = .ok (.bastore, 1) := by decide +kernel
theorem dX6_forgetAll_14 : decode cX6_forgetAll 14 = .ok (.iinc 1 1, 3) := by decide +kernel
theorem dX6_forgetAll_17 : decode cX6_forgetAll 17 = .ok (.goto (-15), 3) := by decide +kernel
theorem dX6_forgetAll_20 : decode cX6_forgetAll 20 = .ok (.return_, 1) := by decide +kernel
theorem dX7_init_0 : decode cX7_init 0 = .ok (.aload_n 0, 1) := by decide +kernel
theorem dX7_init_1 : decode cX7_init 1 = .ok (.invokespecial 3, 3) := by decide +kernel
theorem dX7_init_4 : decode cX7_init 4 = .ok (.aload_n 0, 1) := by decide +kernel
theorem dX7_init_5 : decode cX7_init 5 = .ok (.iconst 5, 1) := by decide +kernel
theorem dX7_init_6 : decode cX7_init 6 = .ok (.newarray .int, 2) := by decide +kernel
theorem dX7_init_8 : decode cX7_init 8 = .ok (.putfield 9, 3) := by decide +kernel
theorem dX7_init_11 : decode cX7_init 11 = .ok (.aload_n 0, 1) := by decide +kernel
theorem dX7_init_12 : decode cX7_init 12 = .ok (.iconst 5, 1) := by decide +kernel
theorem dX7_init_13 : decode cX7_init 13 = .ok (.newarray .int, 2) := by decide +kernel
theorem dX7_init_15 : decode cX7_init 15 = .ok (.putfield 15, 3) := by decide +kernel
theorem dX7_init_18 : decode cX7_init 18 = .ok (.aload_n 0, 1) := by decide +kernel
theorem dX7_init_19 : decode cX7_init 19 = .ok (.iconst 0, 1) := by decide +kernel
theorem dX7_init_20 : decode cX7_init 20 = .ok (.putfield 18, 3) := by decide +kernel
theorem dX7_init_23 : decode cX7_init 23 = .ok (.aload_n 0, 1) := by decide +kernel
theorem dX7_init_24 : decode cX7_init 24 = .ok (.iconst 0, 1) := by decide +kernel
theorem dX7_init_25 : decode cX7_init 25 = .ok (.putfield 22, 3) := by decide +kernel
theorem dX7_init_28 : decode cX7_init 28 = .ok (.aload_n 0, 1) := by decide +kernel
theorem dX7_init_29 : decode cX7_init 29 = .ok (.iconst 0, 1) := by decide +kernel
theorem dX7_init_30 : decode cX7_init 30 = .ok (.putfield 25, 3) := by decide +kernel
theorem dX7_init_33 : decode cX7_init 33 = .ok (.aload_n 0, 1) := by decide +kernel
theorem dX7_init_34 : decode cX7_init 34 = .ok (.iconst 1, 1) := by decide +kernel
theorem dX7_init_35 : decode cX7_init 35 = .ok (.putfield 28, 3) := by decide +kernel
theorem dX7_init_38 : decode cX7_init 38 = .ok (.aload_n 0, 1) := by decide +kernel
theorem dX7_init_39 : decode cX7_init 39 = .ok (.iconst 0, 1) := by decide +kernel
theorem dX7_init_40 : decode cX7_init 40 = .ok (.putfield 31, 3) := by decide +kernel
theorem dX7_init_43 : decode cX7_init 43 = .ok (.return_, 1) := by decide +kernel
theorem dX7_makeAnew_0 : decode cX7_makeAnew 0 = .ok (.aload_n 0, 1) := by decide +kernel
theorem dX7_makeAnew_1 : decode cX7_makeAnew 1 = .ok (.iconst 0, 1) := by decide +kernel
theorem dX7_makeAnew_2 : decode cX7_makeAnew 2 = .ok (.putfield 18, 3) := by decide +kernel
theorem dX7_makeAnew_5 : decode cX7_makeAnew 5 = .ok (.aload_n 0, 1) := by decide +kernel
theorem dX7_makeAnew_6 : decode cX7_makeAnew 6 = .ok (.iconst 0, 1) := by decide +kernel
theorem dX7_makeAnew_7 : decode cX7_makeAnew 7 = .ok (.putfield 22, 3) := by decide +kernel
theorem dX7_makeAnew_10 : decode cX7_makeAnew 10 = .ok (.aload_n 0, 1) := by decide +kernel
theorem dX7_makeAnew_11 : decode cX7_makeAnew 11 = .ok (.iconst 0, 1) := by decide +kernel
theorem dX7_makeAnew_12 : decode cX7_makeAnew 12 = .ok (.putfield 25, 3) := by decide +kernel
theorem dX7_makeAnew_15 : decode cX7_makeAnew 15 = .ok (.aload_n 0, 1) := by decide +kernel
theorem dX7_makeAnew_16 : decode cX7_makeAnew 16 = .ok (.aload_n 1, 1) := by decide +kernel
theorem dX7_makeAnew_17 : decode cX7_makeAnew 17 = .ok (.getfield 34, 3) := by decide +kernel
theorem dX7_makeAnew_20 : decode cX7_makeAnew 20 = .ok (.putfield 28, 3) := by decide +kernel
theorem dX7_makeAnew_23 : decode cX7_makeAnew 23 = .ok (.aload_n 0, 1) := by decide +kernel
theorem dX7_makeAnew_24 : decode cX7_makeAnew 24 = .ok (.aload_n 1, 1) := by decide +kernel
theorem dX7_makeAnew_25 : decode cX7_makeAnew 25 = .ok (.getfield 39, 3) := by decide +kernel
theorem dX7_makeAnew_28 : decode cX7_makeAnew 28 = .ok (.putfield 31, 3) := by decide +kernel
theorem dX7_makeAnew_31 : decode cX7_makeAnew 31 = .ok (.iconst 0, 1) := by decide +kernel
theorem dX7_makeAnew_32 : decode cX7_makeAnew 32 = .ok (.istore_n 2, 1) := by decide +kernel
theorem dX7_makeAnew_33 : decode cX7_makeAnew 33 = .ok (.iload_n 2, 1) := by decide +kernel
theorem dX7_makeAnew_34 : decode cX7_makeAnew 34 = .ok (.iconst 5, 1) := by decide +kernel
theorem dX7_makeAnew_35 : decode cX7_makeAnew 35 = .ok (.if_icmp .ge 53, 3) := by decide +kernel
theorem dX7_makeAnew_38 : decode cX7_makeAnew 38 = .ok (.aload_n 0, 1) := by decide +kernel
theorem dX7_makeAnew_39 : decode cX7_makeAnew 39 = .ok (.getfield 9, 3) := by decide +kernel
theorem dX7_makeAnew_42 : decode cX7_makeAnew 42 = .ok (.iload_n 2, 1) := by decide +kernel
theorem dX7_makeAnew_43 : decode cX7_makeAnew 43 = .ok (.iconst 0, 1) := by decide +kernel
theorem dX7_makeAnew_44 : decode cX7_makeAnew 44 = .ok (.iastore, 1) := by decide +kernel
theorem dX7_makeAnew_45 : decode cX7_makeAnew 45 = .ok (.aload_n 0, 1) := by decide +kernel
theorem dX7_makeAnew_46 : decode cX7_makeAnew 46 = .ok (.getfield 15, 3) := by decide +kernel
theorem dX7_makeAnew_49 : decode cX7_makeAnew 49 = .ok (.iload_n 2, 1) := by decide +kernel
theorem dX7_makeAnew_50 : decode cX7_makeAnew 50 = .ok (.iconst 0, 1) := by decide +kernel
theorem dX7_makeAnew_51 : decode cX7_makeAnew 51 = .ok (.iastore, 1) := by decide +kernel
theorem dX7_makeAnew_52 : decode cX7_makeAnew 52 = .ok (.iload_n 2, 1) := by decide +kernel
theorem dX7_makeAnew_53 : decode cX7_makeAnew 53 = .ok (.aload_n 1, 1) := by decide +kernel
theorem dX7_makeAnew_54 : decode cX7_makeAnew 54 = .ok (.getfield 42, 3) := by decide +kernel
theorem dX7_makeAnew_57 : decode cX7_makeAnew 57 = .ok (.if_icmp .ge 25, 3) := by decide +kernel
theorem dX7_makeAnew_60 : decode cX7_makeAnew 60 = .ok (.aload_n 1, 1) := by decide +kernel
theorem dX7_makeAnew_61 : decode cX7_makeAnew 61 = .ok (.getfield 45, 3) := by decide +kernel
theorem dX7_makeAnew_64 : decode cX7_makeAnew 64 = .ok (.iload_n 2, 1) := by decide +kernel
theorem dX7_makeAnew_65 : decode cX7_makeAnew 65 = .ok (.iaload, 1) := by decide +kernel
theorem dX7_makeAnew_66 : decode cX7_makeAnew 66 = .ok (.iconst 1, 1) := by decide +kernel
theorem dX7_makeAnew_67 : decode cX7_makeAnew 67 = .ok (.if_icmp .ne 15, 3) := by decide +kernel
theorem dX7_makeAnew_70 : decode cX7_makeAnew 70 = .ok (.aload_n 0, 1) := by decide +kernel
theorem dX7_makeAnew_71 : decode cX7_makeAnew 71 = .ok (.dup, 1) := by decide +kernel
theorem dX7_makeAnew_72 : decode cX7_makeAnew 72 = .ok (.getfield 25, 3) := by decide +kernel
theorem dX7_makeAnew_75 : decode cX7_makeAnew 75 = .ok (.iconst 1, 1) := by decide +kernel
theorem dX7_makeAnew_76 : decode cX7_makeAnew 76 = .ok (.iload_n 2, 1) := by decide +kernel
theorem dX7_makeAnew_77 : decode cX7_makeAnew 77 = .ok (.ishl, 1) := by decide +kernel
theorem dX7_makeAnew_78 : decode cX7_makeAnew 78 = .ok (.ior, 1) := by decide +kernel
theorem dX7_makeAnew_79 : decode cX7_makeAnew 79 = .ok (.putfield 25, 3) := by decide +kernel
theorem dX7_makeAnew_82 : decode cX7_makeAnew 82 = .ok (.iinc 2 1, 3) := by decide +kernel
theorem dX7_makeAnew_85 : decode cX7_makeAnew 85 = .ok (.goto (-52), 3) := by decide +kernel
theorem dX7_makeAnew_88 : decode cX7_makeAnew 88 = .ok (.return_, 1) := by decide +kernel
theorem dX7_becomeAs_0 : decode cX7_becomeAs 0 = .ok (.aload_n 1, 1) := by decide +kernel
theorem dX7_becomeAs_1 : decode cX7_becomeAs 1 = .ok (.getfield 9, 3) := by decide +kernel
theorem dX7_becomeAs_4 : decode cX7_becomeAs 4 = .ok (.iconst 0, 1) := by decide +kernel
theorem dX7_becomeAs_5 : decode cX7_becomeAs 5 = .ok (.aload_n 0, 1) := by decide +kernel
theorem dX7_becomeAs_6 : decode cX7_becomeAs 6 = .ok (.getfield 9, 3) := by decide +kernel
theorem dX7_becomeAs_9 : decode cX7_becomeAs 9 = .ok (.iconst 0, 1) := by decide +kernel
theorem dX7_becomeAs_10 : decode cX7_becomeAs 10 = .ok (.iconst 5, 1) := by decide +kernel
theorem dX7_becomeAs_11 : decode cX7_becomeAs 11 = .ok (.invokestatic 48, 3) := by decide +kernel
theorem dX7_becomeAs_14 : decode cX7_becomeAs 14 = .ok (.aload_n 1, 1) := by decide +kernel
theorem dX7_becomeAs_15 : decode cX7_becomeAs 15 = .ok (.getfield 15, 3) := by decide +kernel
theorem dX7_becomeAs_18 : decode cX7_becomeAs 18 = .ok (.iconst 0, 1) := by decide +kernel
theorem dX7_becomeAs_19 : decode cX7_becomeAs 19 = .ok (.aload_n 0, 1) := by decide +kernel
theorem dX7_becomeAs_20 : decode cX7_becomeAs 20 = .ok (.getfield 15, 3) := by decide +kernel
theorem dX7_becomeAs_23 : decode cX7_becomeAs 23 = .ok (.iconst 0, 1) := by decide +kernel
theorem dX7_becomeAs_24 : decode cX7_becomeAs 24 = .ok (.iconst 5, 1) := by decide +kernel
theorem dX7_becomeAs_25 : decode cX7_becomeAs 25 = .ok (.invokestatic 48, 3) := by decide +kernel
theorem dX7_becomeAs_28 : decode cX7_becomeAs 28 = .ok (.aload_n 0, 1) := by decide +kernel
theorem dX7_becomeAs_29 : decode cX7_becomeAs 29 = .ok (.aload_n 1, 1) := by decide +kernel
theorem dX7_becomeAs_30 : decode cX7_becomeAs 30 = .ok (.getfield 18, 3) := by decide +kernel
theorem dX7_becomeAs_33 : decode cX7_becomeAs 33 = .ok (.putfield 18, 3) := by decide +kernel
theorem dX7_becomeAs_36 : decode cX7_becomeAs 36 = .ok (.aload_n 0, 1) := by decide +kernel
theorem dX7_becomeAs_37 : decode cX7_becomeAs 37 = .ok (.aload_n 1, 1) := by decide +kernel
theorem dX7_becomeAs_38 : decode cX7_becomeAs 38 = .ok (.getfield 22, 3) := by decide +kernel
theorem dX7_becomeAs_41 : decode cX7_becomeAs 41 = .ok (.putfield 22, 3) := by decide +kernel
theorem dX7_becomeAs_44 : decode cX7_becomeAs 44 = .ok (.aload_n 0, 1) := by decide +kernel
theorem dX7_becomeAs_45 : decode cX7_becomeAs 45 = .ok (.aload_n 1, 1) := by decide +kernel
theorem dX7_becomeAs_46 : decode cX7_becomeAs 46 = .ok (.getfield 25, 3) := by decide +kernel
theorem dX7_becomeAs_49 : decode cX7_becomeAs 49 = .ok (.putfield 25, 3) := by decide +kernel
theorem dX7_becomeAs_52 : decode cX7_becomeAs 52 = .ok (.aload_n 0, 1) := by decide +kernel
theorem dX7_becomeAs_53 : decode cX7_becomeAs 53 = .ok (.aload_n 1, 1) := by decide +kernel
theorem dX7_becomeAs_54 : decode cX7_becomeAs 54 = .ok (.getfield 28, 3) := by decide +kernel
theorem dX7_becomeAs_57 : decode cX7_becomeAs 57 = .ok (.putfield 28, 3) := by decide +kernel
theorem dX7_becomeAs_60 : decode cX7_becomeAs 60 = .ok (.aload_n 0, 1) := by decide +kernel
theorem dX7_becomeAs_61 : decode cX7_becomeAs 61 = .ok (.aload_n 1, 1) := by decide +kernel
theorem dX7_becomeAs_62 : decode cX7_becomeAs 62 = .ok (.getfield 31, 3) := by decide +kernel
theorem dX7_becomeAs_65 : decode cX7_becomeAs 65 = .ok (.putfield 31, 3) := by decide +kernel
theorem dX7_becomeAs_68 : decode cX7_becomeAs 68 = .ok (.return_, 1) := by decide +kernel
theorem dX7_isUp_0 : decode cX7_isUp 0 = .ok (.aload_n 0, 1) := by decide +kernel
theorem dX7_isUp_1 : decode cX7_isUp 1 = .ok (.getfield 18, 3) := by decide +kernel
theorem dX7_isUp_4 : decode cX7_isUp 4 = .ok (.iconst 1, 1) := by decide +kernel
theorem dX7_isUp_5 : decode cX7_isUp 5 = .ok (.iload_n 1, 1) := by decide +kernel
theorem dX7_isUp_6 : decode cX7_isUp 6 = .ok (.ishl, 1) := by decide +kernel
theorem dX7_isUp_7 : decode cX7_isUp 7 = .ok (.iand, 1) := by decide +kernel
theorem dX7_isUp_8 : decode cX7_isUp 8 = .ok (.ifCond .ne 7, 3) := by decide +kernel
theorem dX7_isUp_11 : decode cX7_isUp 11 = .ok (.iconst 1, 1) := by decide +kernel
theorem dX7_isUp_12 : decode cX7_isUp 12 = .ok (.goto 4, 3) := by decide +kernel
theorem dX7_isUp_15 : decode cX7_isUp 15 = .ok (.iconst 0, 1) := by decide +kernel
theorem dX7_isUp_16 : decode cX7_isUp 16 = .ok (.ireturn, 1) := by decide +kernel
theorem dX7_howManyDown_0 : decode cX7_howManyDown 0 = .ok (.aload_n 0, 1) := by decide +kernel
theorem dX7_howManyDown_1 : decode cX7_howManyDown 1 = .ok (.getfield 18, 3) := by decide +kernel
theorem dX7_howManyDown_4 : decode cX7_howManyDown 4 = .ok (.invokestatic 54, 3) := by decide +kernel
theorem dX7_howManyDown_7 : decode cX7_howManyDown 7 = .ok (.ireturn, 1) := by decide +kernel
theorem dX7_firmness_0 : decode cX7_firmness 0 = .ok (.aload_n 1, 1) := by decide +kernel
theorem dX7_firmness_1 : decode cX7_firmness 1 = .ok (.getfield 60, 3) := by decide +kernel
theorem dX7_firmness_4 : decode cX7_firmness 4 = .ok (.iload_n 2, 1) := by decide +kernel
theorem dX7_firmness_5 : decode cX7_firmness 5 = .ok (.iaload, 1) := by decide +kernel
theorem dX7_firmness_6 : decode cX7_firmness 6 = .ok (.iconst 4, 1) := by decide +kernel
theorem dX7_firmness_7 : decode cX7_firmness 7 = .ok (.aload_n 0, 1) := by decide +kernel
theorem dX7_firmness_8 : decode cX7_firmness 8 = .ok (.getfield 25, 3) := by decide +kernel
theorem dX7_firmness_11 : decode cX7_firmness 11 = .ok (.iload_n 2, 1) := by decide +kernel
theorem dX7_firmness_12 : decode cX7_firmness 12 = .ok (.invokestatic 63, 3) := by decide +kernel
theorem dX7_firmness_15 : decode cX7_firmness 15 = .ok (.imul, 1) := by decide +kernel
theorem dX7_firmness_16 : decode cX7_firmness 16 = .ok (.iadd, 1) := by decide +kernel
theorem dX7_firmness_17 : decode cX7_firmness 17 = .ok (.istore_n 3, 1) := by decide +kernel
theorem dX7_firmness_18 : decode cX7_firmness 18 = .ok (.aload_n 0, 1) := by decide +kernel
theorem dX7_firmness_19 : decode cX7_firmness 19 = .ok (.getfield 22, 3) := by decide +kernel
theorem dX7_firmness_22 : decode cX7_firmness 22 = .ok (.iload_n 2, 1) := by decide +kernel
theorem dX7_firmness_23 : decode cX7_firmness 23 = .ok (.invokestatic 63, 3) := by decide +kernel
theorem dX7_firmness_26 : decode cX7_firmness 26 = .ok (.iconst 1, 1) := by decide +kernel
theorem dX7_firmness_27 : decode cX7_firmness 27 = .ok (.if_icmp .ne 7, 3) := by decide +kernel
theorem dX7_firmness_30 : decode cX7_firmness 30 = .ok (.iload_n 3, 1) := by decide +kernel
theorem dX7_firmness_31 : decode cX7_firmness 31 = .ok (.iconst 2, 1) := by decide +kernel
theorem dX7_firmness_32 : decode cX7_firmness 32 = .ok (.idiv, 1) := by decide +kernel
theorem dX7_firmness_33 : decode cX7_firmness 33 = .ok (.istore_n 3, 1) := by decide +kernel
theorem dX7_firmness_34 : decode cX7_firmness 34 = .ok (.aload_n 1, 1) := by decide +kernel
theorem dX7_firmness_35 : decode cX7_firmness 35 = .ok (.getfield 45, 3) := by decide +kernel
theorem dX7_firmness_38 : decode cX7_firmness 38 = .ok (.iload_n 2, 1) := by decide +kernel
theorem dX7_firmness_39 : decode cX7_firmness 39 = .ok (.iaload, 1) := by decide +kernel
theorem dX7_firmness_40 : decode cX7_firmness 40 = .ok (.iconst 2, 1) := by decide +kernel
theorem dX7_firmness_41 : decode cX7_firmness 41 = .ok (.if_icmp .ne 12, 3) := by decide +kernel
theorem dX7_firmness_44 : decode cX7_firmness 44 = .ok (.iload_n 3, 1) := by decide +kernel
theorem dX7_firmness_45 : decode cX7_firmness 45 = .ok (.aload_n 0, 1) := by decide +kernel
theorem dX7_firmness_46 : decode cX7_firmness 46 = .ok (.getfield 15, 3) := by decide +kernel
theorem dX7_firmness_49 : decode cX7_firmness 49 = .ok (.iload_n 2, 1) := by decide +kernel
theorem dX7_firmness_50 : decode cX7_firmness 50 = .ok (.iaload, 1) := by decide +kernel
theorem dX7_firmness_51 : decode cX7_firmness 51 = .ok (.isub, 1) := by decide +kernel
theorem dX7_firmness_52 : decode cX7_firmness 52 = .ok (.istore_n 3, 1) := by decide +kernel
theorem dX7_firmness_53 : decode cX7_firmness 53 = .ok (.iconst 1, 1) := by decide +kernel
theorem dX7_firmness_54 : decode cX7_firmness 54 = .ok (.iload_n 3, 1) := by decide +kernel
theorem dX7_firmness_55 : decode cX7_firmness 55 = .ok (.invokestatic 67, 3) := by decide +kernel
theorem dX7_firmness_58 : decode cX7_firmness 58 = .ok (.ireturn, 1) := by decide +kernel
theorem dX7_setUp_0 : decode cX7_setUp 0 = .ok (.iconst 1, 1) := by decide +kernel
theorem dX7_setUp_1 : decode cX7_setUp 1 = .ok (.iload_n 1, 1) := by decide +kernel
theorem dX7_setUp_2 : decode cX7_setUp 2 = .ok (.ishl, 1) := by decide +kernel
theorem dX7_setUp_3 : decode cX7_setUp 3 = .ok (.istore_n 2, 1) := by decide +kernel
theorem dX7_setUp_4 : decode cX7_setUp 4 = .ok (.aload_n 0, 1) := by decide +kernel
theorem dX7_setUp_5 : decode cX7_setUp 5 = .ok (.getfield 18, 3) := by decide +kernel
theorem dX7_setUp_8 : decode cX7_setUp 8 = .ok (.iload_n 2, 1) := by decide +kernel
theorem dX7_setUp_9 : decode cX7_setUp 9 = .ok (.iand, 1) := by decide +kernel
theorem dX7_setUp_10 : decode cX7_setUp 10 = .ok (.ifCond .ne 5, 3) := by decide +kernel
theorem dX7_setUp_13 : decode cX7_setUp 13 = .ok (.iconst 0, 1) := by decide +kernel
theorem dX7_setUp_14 : decode cX7_setUp 14 = .ok (.ireturn, 1) := by decide +kernel
theorem dX7_setUp_15 : decode cX7_setUp 15 = .ok (.aload_n 0, 1) := by decide +kernel
theorem dX7_setUp_16 : decode cX7_setUp 16 = .ok (.dup, 1) := by decide +kernel
theorem dX7_setUp_17 : decode cX7_setUp 17 = .ok (.getfield 18, 3) := by decide +kernel
theorem dX7_setUp_20 : decode cX7_setUp 20 = .ok (.iload_n 2, 1) := by decide +kernel
theorem dX7_setUp_21 : decode cX7_setUp 21 = .ok (.ixor, 1) := by decide +kernel
theorem dX7_setUp_22 : decode cX7_setUp 22 = .ok (.putfield 18, 3) := by decide +kernel
theorem dX7_setUp_25 : decode cX7_setUp 25 = .ok (.aload_n 0, 1) := by decide +kernel
theorem dX7_setUp_26 : decode cX7_setUp 26 = .ok (.getfield 9, 3) := by decide +kernel
theorem dX7_setUp_29 : decode cX7_setUp 29 = .ok (.iload_n 1, 1) := by decide +kernel
theorem dX7_setUp_30 : decode cX7_setUp 30 = .ok (.iconst 0, 1) := by decide +kernel
theorem dX7_setUp_31 : decode cX7_setUp 31 = .ok (.iastore, 1) := by decide +kernel
theorem dX7_setUp_32 : decode cX7_setUp 32 = .ok (.iconst 1, 1) := by decide +kernel
theorem dX7_setUp_33 : decode cX7_setUp 33 = .ok (.ireturn, 1) := by decide +kernel
theorem dX7_turnNail_0 : decode cX7_turnNail 0 = .ok (.aload_n 0, 1) := by decide +kernel
theorem dX7_turnNail_1 : decode cX7_turnNail 1 = .ok (.iload_n 1, 1) := by decide +kernel
theorem dX7_turnNail_2 : decode cX7_turnNail 2 = .ok (.invokevirtual 72, 3) := by decide +kernel
theorem dX7_turnNail_5 : decode cX7_turnNail 5 = .ok (.ifCond .ne 5, 3) := by decide +kernel
theorem dX7_turnNail_8 : decode cX7_turnNail 8 = .ok (.iconst 0, 1) := by decide +kernel
theorem dX7_turnNail_9 : decode cX7_turnNail 9 = .ok (.ireturn, 1) := by decide +kernel
theorem dX7_turnNail_10 : decode cX7_turnNail 10 = .ok (.aload_n 0, 1) := by decide +kernel
theorem dX7_turnNail_11 : decode cX7_turnNail 11 = .ok (.dup, 1) := by decide +kernel
theorem dX7_turnNail_12 : decode cX7_turnNail 12 = .ok (.getfield 25, 3) := by decide +kernel
theorem dX7_turnNail_15 : decode cX7_turnNail 15 = .ok (.iconst 1, 1) := by decide +kernel
theorem dX7_turnNail_16 : decode cX7_turnNail 16 = .ok (.iload_n 1, 1) := by decide +kernel
theorem dX7_turnNail_17 : decode cX7_turnNail 17 = .ok (.ishl, 1) := by decide +kernel
theorem dX7_turnNail_18 : decode cX7_turnNail 18 = .ok (.ixor, 1) := by decide +kernel
theorem dX7_turnNail_19 : decode cX7_turnNail 19 = .ok (.putfield 25, 3) := by decide +kernel
theorem dX7_turnNail_22 : decode cX7_turnNail 22 = .ok (.iconst 1, 1) := by decide +kernel
theorem dX7_turnNail_23 : decode cX7_turnNail 23 = .ok (.ireturn, 1) := by decide +kernel
theorem dX7_takePenny_0 : decode cX7_takePenny 0 = .ok (.aload_n 0, 1) := by decide +kernel
theorem dX7_takePenny_1 : decode cX7_takePenny 1 = .ok (.getfield 31, 3) := by decide +kernel
theorem dX7_takePenny_4 : decode cX7_takePenny 4 = .ok (.bipush 9, 2) := by decide +kernel
theorem dX7_takePenny_6 : decode cX7_takePenny 6 = .ok (.if_icmp .lt 5, 3) := by decide +kernel
theorem dX7_takePenny_9 : decode cX7_takePenny 9 = .ok (.iconst 0, 1) := by decide +kernel
theorem dX7_takePenny_10 : decode cX7_takePenny 10 = .ok (.ireturn, 1) := by decide +kernel
theorem dX7_takePenny_11 : decode cX7_takePenny 11 = .ok (.aload_n 0, 1) := by decide +kernel
theorem dX7_takePenny_12 : decode cX7_takePenny 12 = .ok (.bipush 9, 2) := by decide +kernel
theorem dX7_takePenny_14 : decode cX7_takePenny 14 = .ok (.aload_n 0, 1) := by decide +kernel
theorem dX7_takePenny_15 : decode cX7_takePenny 15 = .ok (.getfield 31, 3) := by decide +kernel
theorem dX7_takePenny_18 : decode cX7_takePenny 18 = .ok (.iconst 3, 1) := by decide +kernel
theorem dX7_takePenny_19 : decode cX7_takePenny 19 = .ok (.iadd, 1) := by decide +kernel
theorem dX7_takePenny_20 : decode cX7_takePenny 20 = .ok (.invokestatic 76, 3) := by decide +kernel
theorem dX7_takePenny_23 : decode cX7_takePenny 23 = .ok (.putfield 31, 3) := by decide +kernel
theorem dX7_takePenny_26 : decode cX7_takePenny 26 = .ok (.iconst 1, 1) := by decide +kernel
theorem dX7_takePenny_27 : decode cX7_takePenny 27 = .ok (.ireturn, 1) := by decide +kernel
theorem dX7_throwBy_0 : decode cX7_throwBy 0 = .ok (.aload_n 1, 1) := by decide +kernel
theorem dX7_throwBy_1 : decode cX7_throwBy 1 = .ok (.aload_n 1, 1) := by decide +kernel
theorem dX7_throwBy_2 : decode cX7_throwBy 2 = .ok (.iload_n 2, 1) := by decide +kernel
theorem dX7_throwBy_3 : decode cX7_throwBy 3 = .ok (.iload_n 3, 1) := by decide +kernel
theorem dX7_throwBy_4 : decode cX7_throwBy 4 = .ok (.iload 4, 2) := by decide +kernel
theorem dX7_throwBy_6 : decode cX7_throwBy 6 = .ok (.aload_n 0, 1) := by decide +kernel
theorem dX7_throwBy_7 : decode cX7_throwBy 7 = .ok (.getfield 28, 3) := by decide +kernel
theorem dX7_throwBy_10 : decode cX7_throwBy 10 = .ok (.invokevirtual 79, 3) := by decide +kernel
theorem dX7_throwBy_13 : decode cX7_throwBy 13 = .ok (.invokevirtual 83, 3) := by decide +kernel
theorem dX7_throwBy_16 : decode cX7_throwBy 16 = .ok (.istore 5, 2) := by decide +kernel
theorem dX7_throwBy_18 : decode cX7_throwBy 18 = .ok (.iload 5, 2) := by decide +kernel
theorem dX7_throwBy_20 : decode cX7_throwBy 20 = .ok (.bipush (-9), 2) := by decide +kernel
theorem dX7_throwBy_22 : decode cX7_throwBy 22 = .ok (.if_icmp .eq 12, 3) := by decide +kernel
theorem dX7_throwBy_25 : decode cX7_throwBy 25 = .ok (.aload_n 0, 1) := by decide +kernel
theorem dX7_throwBy_26 : decode cX7_throwBy 26 = .ok (.iload 5, 2) := by decide +kernel
theorem dX7_throwBy_28 : decode cX7_throwBy 28 = .ok (.invokevirtual 72, 3) := by decide +kernel
theorem dX7_throwBy_31 : decode cX7_throwBy 31 = .ok (.ifCond .ne 5, 3) := by decide +kernel
theorem dX7_throwBy_34 : decode cX7_throwBy 34 = .ok (.iconst 0, 1) := by decide +kernel
theorem dX7_throwBy_35 : decode cX7_throwBy 35 = .ok (.ireturn, 1) := by decide +kernel
theorem dX7_throwBy_36 : decode cX7_throwBy 36 = .ok (.aload_n 0, 1) := by decide +kernel
theorem dX7_throwBy_37 : decode cX7_throwBy 37 = .ok (.aload_n 1, 1) := by decide +kernel
theorem dX7_throwBy_38 : decode cX7_throwBy 38 = .ok (.iload_n 2, 1) := by decide +kernel
theorem dX7_throwBy_39 : decode cX7_throwBy 39 = .ok (.iload 5, 2) := by decide +kernel
theorem dX7_throwBy_41 : decode cX7_throwBy 41 = .ok (.invokevirtual 86, 3) := by decide +kernel
theorem dX7_throwBy_44 : decode cX7_throwBy 44 = .ok (.ireturn, 1) := by decide +kernel
theorem dX7_canBeThrownAt_0 : decode cX7_canBeThrownAt 0 = .ok (.aload_n 0, 1) := by decide +kernel
theorem dX7_canBeThrownAt_1 : decode cX7_canBeThrownAt 1 = .ok (.iload_n 3, 1) := by decide +kernel
theorem dX7_canBeThrownAt_2 : decode cX7_canBeThrownAt 2 = .ok (.invokevirtual 72, 3) := by decide +kernel
theorem dX7_canBeThrownAt_5 : decode cX7_canBeThrownAt 5 = .ok (.ifCond .eq 20, 3) := by decide +kernel
theorem dX7_canBeThrownAt_8 : decode cX7_canBeThrownAt 8 = .ok (.aload_n 1, 1) := by decide +kernel
theorem dX7_canBeThrownAt_9 : decode cX7_canBeThrownAt 9 = .ok (.iload_n 2, 1) := by decide +kernel
theorem dX7_canBeThrownAt_10 : decode cX7_canBeThrownAt 10 = .ok (.iload_n 3, 1) := by decide +kernel
theorem dX7_canBeThrownAt_11 : decode cX7_canBeThrownAt 11 = .ok (.aload_n 0, 1) := by decide +kernel
theorem dX7_canBeThrownAt_12 : decode cX7_canBeThrownAt 12 = .ok (.getfield 28, 3) := by decide +kernel
theorem dX7_canBeThrownAt_15 : decode cX7_canBeThrownAt 15 = .ok (.invokevirtual 90, 3) := by decide +kernel
theorem dX7_canBeThrownAt_18 : decode cX7_canBeThrownAt 18 = .ok (.ifCond .eq 7, 3) := by decide +kernel
theorem dX7_canBeThrownAt_21 : decode cX7_canBeThrownAt 21 = .ok (.iconst 1, 1) := by decide +kernel
theorem dX7_canBeThrownAt_22 : decode cX7_canBeThrownAt 22 = .ok (.goto 4, 3) := by decide +kernel
theorem dX7_canBeThrownAt_25 : decode cX7_canBeThrownAt 25 = .ok (.iconst 0, 1) := by decide +kernel
theorem dX7_canBeThrownAt_26 : decode cX7_canBeThrownAt 26 = .ok (.ireturn, 1) := by decide +kernel
theorem dX7_strike_0 : decode cX7_strike 0 = .ok (.aload_n 0, 1) := by decide +kernel
theorem dX7_strike_1 : decode cX7_strike 1 = .ok (.getfield 9, 3) := by decide +kernel
theorem dX7_strike_4 : decode cX7_strike 4 = .ok (.iload_n 3, 1) := by decide +kernel
theorem dX7_strike_5 : decode cX7_strike 5 = .ok (.dup2, 1) := by decide +kernel
theorem dX7_strike_6 : decode cX7_strike 6 = .ok (.iaload, 1) := by decide +kernel
theorem dX7_strike_7 : decode cX7_strike 7 = .ok (.aload_n 1, 1) := by decide +kernel
theorem dX7_strike_8 : decode cX7_strike 8 = .ok (.iload_n 2, 1) := by decide +kernel
theorem dX7_strike_9 : decode cX7_strike 9 = .ok (.invokevirtual 94, 3) := by decide +kernel
theorem dX7_strike_12 : decode cX7_strike 12 = .ok (.iadd, 1) := by decide +kernel
theorem dX7_strike_13 : decode cX7_strike 13 = .ok (.iastore, 1) := by decide +kernel
theorem dX7_strike_14 : decode cX7_strike 14 = .ok (.aload_n 0, 1) := by decide +kernel
theorem dX7_strike_15 : decode cX7_strike 15 = .ok (.getfield 15, 3) := by decide +kernel
theorem dX7_strike_18 : decode cX7_strike 18 = .ok (.iload_n 3, 1) := by decide +kernel
theorem dX7_strike_19 : decode cX7_strike 19 = .ok (.dup2, 1) := by decide +kernel
theorem dX7_strike_20 : decode cX7_strike 20 = .ok (.iaload, 1) := by decide +kernel
theorem dX7_strike_21 : decode cX7_strike 21 = .ok (.iconst 1, 1) := by decide +kernel
theorem dX7_strike_22 : decode cX7_strike 22 = .ok (.iadd, 1) := by decide +kernel
theorem dX7_strike_23 : decode cX7_strike 23 = .ok (.iastore, 1) := by decide +kernel
theorem dX7_strike_24 : decode cX7_strike 24 = .ok (.aload_n 0, 1) := by decide +kernel
theorem dX7_strike_25 : decode cX7_strike 25 = .ok (.getfield 9, 3) := by decide +kernel
theorem dX7_strike_28 : decode cX7_strike 28 = .ok (.iload_n 3, 1) := by decide +kernel
theorem dX7_strike_29 : decode cX7_strike 29 = .ok (.iaload, 1) := by decide +kernel
theorem dX7_strike_30 : decode cX7_strike 30 = .ok (.aload_n 0, 1) := by decide +kernel
theorem dX7_strike_31 : decode cX7_strike 31 = .ok (.aload_n 1, 1) := by decide +kernel
theorem dX7_strike_32 : decode cX7_strike 32 = .ok (.iload_n 3, 1) := by decide +kernel
theorem dX7_strike_33 : decode cX7_strike 33 = .ok (.invokevirtual 97, 3) := by decide +kernel
theorem dX7_strike_36 : decode cX7_strike 36 = .ok (.if_icmp .ge 5, 3) := by decide +kernel
theorem dX7_strike_39 : decode cX7_strike 39 = .ok (.iconst 0, 1) := by decide +kernel
theorem dX7_strike_40 : decode cX7_strike 40 = .ok (.ireturn, 1) := by decide +kernel
theorem dX7_strike_41 : decode cX7_strike 41 = .ok (.aload_n 1, 1) := by decide +kernel
theorem dX7_strike_42 : decode cX7_strike 42 = .ok (.getfield 45, 3) := by decide +kernel
theorem dX7_strike_45 : decode cX7_strike 45 = .ok (.iload_n 3, 1) := by decide +kernel
theorem dX7_strike_46 : decode cX7_strike 46 = .ok (.iaload, 1) := by decide +kernel
theorem dX7_strike_47 : decode cX7_strike 47 = .ok (.iconst 3, 1) := by decide +kernel
theorem dX7_strike_48 : decode cX7_strike 48 = .ok (.if_icmp .ne 35, 3) := by decide +kernel
theorem dX7_strike_51 : decode cX7_strike 51 = .ok (.aload_n 0, 1) := by decide +kernel
theorem dX7_strike_52 : decode cX7_strike 52 = .ok (.getfield 22, 3) := by decide +kernel
theorem dX7_strike_55 : decode cX7_strike 55 = .ok (.iload_n 3, 1) := by decide +kernel
theorem dX7_strike_56 : decode cX7_strike 56 = .ok (.invokestatic 63, 3) := by decide +kernel
theorem dX7_strike_59 : decode cX7_strike 59 = .ok (.ifCond .ne 24, 3) := by decide +kernel
theorem dX7_strike_62 : decode cX7_strike 62 = .ok (.aload_n 0, 1) := by decide +kernel
theorem dX7_strike_63 : decode cX7_strike 63 = .ok (.dup, 1) := by decide +kernel
theorem dX7_strike_64 : decode cX7_strike 64 = .ok (.getfield 22, 3) := by decide +kernel
theorem dX7_strike_67 : decode cX7_strike 67 = .ok (.iconst 1, 1) := by decide +kernel
theorem dX7_strike_68 : decode cX7_strike 68 = .ok (.iload_n 3, 1) := by decide +kernel
theorem dX7_strike_69 : decode cX7_strike 69 = .ok (.ishl, 1) := by decide +kernel
theorem dX7_strike_70 : decode cX7_strike 70 = .ok (.ior, 1) := by decide +kernel
theorem dX7_strike_71 : decode cX7_strike 71 = .ok (.putfield 22, 3) := by decide +kernel
theorem dX7_strike_74 : decode cX7_strike 74 = .ok (.aload_n 0, 1) := by decide +kernel
theorem dX7_strike_75 : decode cX7_strike 75 = .ok (.getfield 9, 3) := by decide +kernel
theorem dX7_strike_78 : decode cX7_strike 78 = .ok (.iload_n 3, 1) := by decide +kernel
theorem dX7_strike_79 : decode cX7_strike 79 = .ok (.iconst 0, 1) := by decide +kernel
theorem dX7_strike_80 : decode cX7_strike 80 = .ok (.iastore, 1) := by decide +kernel
theorem dX7_strike_81 : decode cX7_strike 81 = .ok (.iconst 0, 1) := by decide +kernel
theorem dX7_strike_82 : decode cX7_strike 82 = .ok (.ireturn, 1) := by decide +kernel
theorem dX7_strike_83 : decode cX7_strike 83 = .ok (.aload_n 1, 1) := by decide +kernel
theorem dX7_strike_84 : decode cX7_strike 84 = .ok (.aload_n 0, 1) := by decide +kernel
theorem dX7_strike_85 : decode cX7_strike 85 = .ok (.iload_n 3, 1) := by decide +kernel
theorem dX7_strike_86 : decode cX7_strike 86 = .ok (.iconst 0, 1) := by decide +kernel
theorem dX7_strike_87 : decode cX7_strike 87 = .ok (.iconst 0, 1) := by decide +kernel
theorem dX7_strike_88 : decode cX7_strike 88 = .ok (.invokestatic 101, 3) := by decide +kernel
theorem dX7_strike_91 : decode cX7_strike 91 = .ok (.ireturn, 1) := by decide +kernel
theorem dX7_fall_0 : decode cX7_fall 0 = .ok (.iload 4, 2) := by decide +kernel
theorem dX7_fall_2 : decode cX7_fall 2 = .ok (.iconst 5, 1) := by decide +kernel
theorem dX7_fall_3 : decode cX7_fall 3 = .ok (.if_icmp .lt 5, 3) := by decide +kernel
theorem dX7_fall_6 : decode cX7_fall 6 = .ok (.iload_n 3, 1) := by decide +kernel
theorem dX7_fall_7 : decode cX7_fall 7 = .ok (.ireturn, 1) := by decide +kernel
theorem dX7_fall_8 : decode cX7_fall 8 = .ok (.aload_n 1, 1) := by decide +kernel
theorem dX7_fall_9 : decode cX7_fall 9 = .ok (.dup, 1) := by decide +kernel
theorem dX7_fall_10 : decode cX7_fall 10 = .ok (.getfield 18, 3) := by decide +kernel
theorem dX7_fall_13 : decode cX7_fall 13 = .ok (.iconst 1, 1) := by decide +kernel
theorem dX7_fall_14 : decode cX7_fall 14 = .ok (.iload_n 2, 1) := by decide +kernel
theorem dX7_fall_15 : decode cX7_fall 15 = .ok (.ishl, 1) := by decide +kernel
theorem dX7_fall_16 : decode cX7_fall 16 = .ok (.ior, 1) := by decide +kernel
theorem dX7_fall_17 : decode cX7_fall 17 = .ok (.putfield 18, 3) := by decide +kernel
theorem dX7_fall_20 : decode cX7_fall 20 = .ok (.iload_n 3, 1) := by decide +kernel
theorem dX7_fall_21 : decode cX7_fall 21 = .ok (.iconst 1, 1) := by decide +kernel
theorem dX7_fall_22 : decode cX7_fall 22 = .ok (.iload_n 2, 1) := by decide +kernel
theorem dX7_fall_23 : decode cX7_fall 23 = .ok (.ishl, 1) := by decide +kernel
theorem dX7_fall_24 : decode cX7_fall 24 = .ok (.ior, 1) := by decide +kernel
theorem dX7_fall_25 : decode cX7_fall 25 = .ok (.istore 5, 2) := by decide +kernel
theorem dX7_fall_27 : decode cX7_fall 27 = .ok (.iconst 0, 1) := by decide +kernel
theorem dX7_fall_28 : decode cX7_fall 28 = .ok (.istore 6, 2) := by decide +kernel
theorem dX7_fall_30 : decode cX7_fall 30 = .ok (.iload 6, 2) := by decide +kernel
theorem dX7_fall_32 : decode cX7_fall 32 = .ok (.aload_n 0, 1) := by decide +kernel
theorem dX7_fall_33 : decode cX7_fall 33 = .ok (.getfield 105, 3) := by decide +kernel
theorem dX7_fall_36 : decode cX7_fall 36 = .ok (.if_icmp .ge 87, 3) := by decide +kernel
theorem dX7_fall_39 : decode cX7_fall 39 = .ok (.aload_n 0, 1) := by decide +kernel
theorem dX7_fall_40 : decode cX7_fall 40 = .ok (.getfield 108, 3) := by decide +kernel
theorem dX7_fall_43 : decode cX7_fall 43 = .ok (.iload 6, 2) := by decide +kernel
theorem dX7_fall_45 : decode cX7_fall 45 = .ok (.iaload, 1) := by decide +kernel
theorem dX7_fall_46 : decode cX7_fall 46 = .ok (.iload_n 2, 1) := by decide +kernel
theorem dX7_fall_47 : decode cX7_fall 47 = .ok (.if_icmp .eq 6, 3) := by decide +kernel
theorem dX7_fall_50 : decode cX7_fall 50 = .ok (.goto 67, 3) := by decide +kernel
theorem dX7_fall_53 : decode cX7_fall 53 = .ok (.aload_n 0, 1) := by decide +kernel
theorem dX7_fall_54 : decode cX7_fall 54 = .ok (.getfield 111, 3) := by decide +kernel
theorem dX7_fall_57 : decode cX7_fall 57 = .ok (.iload 6, 2) := by decide +kernel
theorem dX7_fall_59 : decode cX7_fall 59 = .ok (.iaload, 1) := by decide +kernel
theorem dX7_fall_60 : decode cX7_fall 60 = .ok (.istore 7, 2) := by decide +kernel
theorem dX7_fall_62 : decode cX7_fall 62 = .ok (.aload_n 0, 1) := by decide +kernel
theorem dX7_fall_63 : decode cX7_fall 63 = .ok (.getfield 114, 3) := by decide +kernel
theorem dX7_fall_66 : decode cX7_fall 66 = .ok (.iload 6, 2) := by decide +kernel
theorem dX7_fall_68 : decode cX7_fall 68 = .ok (.iaload, 1) := by decide +kernel
theorem dX7_fall_69 : decode cX7_fall 69 = .ok (.iconst 1, 1) := by decide +kernel
theorem dX7_fall_70 : decode cX7_fall 70 = .ok (.if_icmp .ne 13, 3) := by decide +kernel
theorem dX7_fall_73 : decode cX7_fall 73 = .ok (.aload_n 1, 1) := by decide +kernel
theorem dX7_fall_74 : decode cX7_fall 74 = .ok (.iload 7, 2) := by decide +kernel
theorem dX7_fall_76 : decode cX7_fall 76 = .ok (.invokevirtual 117, 3) := by decide +kernel
theorem dX7_fall_79 : decode cX7_fall 79 = .ok (.pop, 1) := by decide +kernel
theorem dX7_fall_80 : decode cX7_fall 80 = .ok (.goto 37, 3) := by decide +kernel
theorem dX7_fall_83 : decode cX7_fall 83 = .ok (.aload_n 1, 1) := by decide +kernel
theorem dX7_fall_84 : decode cX7_fall 84 = .ok (.iload 7, 2) := by decide +kernel
theorem dX7_fall_86 : decode cX7_fall 86 = .ok (.invokevirtual 72, 3) := by decide +kernel
theorem dX7_fall_89 : decode cX7_fall 89 = .ok (.ifCond .eq 28, 3) := by decide +kernel
theorem dX7_fall_92 : decode cX7_fall 92 = .ok (.iload 5, 2) := by decide +kernel
theorem dX7_fall_94 : decode cX7_fall 94 = .ok (.iload 7, 2) := by decide +kernel
theorem dX7_fall_96 : decode cX7_fall 96 = .ok (.invokestatic 63, 3) := by decide +kernel
theorem dX7_fall_99 : decode cX7_fall 99 = .ok (.ifCond .ne 18, 3) := by decide +kernel
theorem dX7_fall_102 : decode cX7_fall 102 = .ok (.aload_n 0, 1) := by decide +kernel
theorem dX7_fall_103 : decode cX7_fall 103 = .ok (.aload_n 1, 1) := by decide +kernel
theorem dX7_fall_104 : decode cX7_fall 104 = .ok (.iload 7, 2) := by decide +kernel
theorem dX7_fall_106 : decode cX7_fall 106 = .ok (.iload 5, 2) := by decide +kernel
theorem dX7_fall_108 : decode cX7_fall 108 = .ok (.iload 4, 2) := by decide +kernel
theorem dX7_fall_110 : decode cX7_fall 110 = .ok (.iconst 1, 1) := by decide +kernel
theorem dX7_fall_111 : decode cX7_fall 111 = .ok (.iadd, 1) := by decide +kernel
theorem dX7_fall_112 : decode cX7_fall 112 = .ok (.invokestatic 101, 3) := by decide +kernel
theorem dX7_fall_115 : decode cX7_fall 115 = .ok (.istore 5, 2) := by decide +kernel
theorem dX7_fall_117 : decode cX7_fall 117 = .ok (.iinc 6 1, 3) := by decide +kernel
theorem dX7_fall_120 : decode cX7_fall 120 = .ok (.goto (-90), 3) := by decide +kernel
theorem dX7_fall_123 : decode cX7_fall 123 = .ok (.iload 5, 2) := by decide +kernel
theorem dX7_fall_125 : decode cX7_fall 125 = .ok (.ireturn, 1) := by decide +kernel
theorem dX8_init_0 : decode cX8_init 0 = .ok (.aload_n 0, 1) := by decide +kernel
theorem dX8_init_1 : decode cX8_init 1 = .ok (.invokespecial 3, 3) := by decide +kernel
theorem dX8_init_4 : decode cX8_init 4 = .ok (.aload_n 0, 1) := by decide +kernel
theorem dX8_init_5 : decode cX8_init 5 = .ok (.bipush 60, 2) := by decide +kernel
theorem dX8_init_7 : decode cX8_init 7 = .ok (.newarray .int, 2) := by decide +kernel
theorem dX8_init_9 : decode cX8_init 9 = .ok (.putfield 9, 3) := by decide +kernel
theorem dX8_init_12 : decode cX8_init 12 = .ok (.aload_n 0, 1) := by decide +kernel
theorem dX8_init_13 : decode cX8_init 13 = .ok (.iconst 0, 1) := by decide +kernel
theorem dX8_init_14 : decode cX8_init 14 = .ok (.putfield 15, 3) := by decide +kernel
theorem dX8_init_17 : decode cX8_init 17 = .ok (.return_, 1) := by decide +kernel
theorem dX8_append_0 : decode cX8_append 0 = .ok (.aload_n 0, 1) := by decide +kernel
theorem dX8_append_1 : decode cX8_append 1 = .ok (.getfield 15, 3) := by decide +kernel
theorem dX8_append_4 : decode cX8_append 4 = .ok (.bipush 60, 2) := by decide +kernel
theorem dX8_append_6 : decode cX8_append 6 = .ok (.if_icmp .lt 5, 3) := by decide +kernel
theorem dX8_append_9 : decode cX8_append 9 = .ok (.iconst 0, 1) := by decide +kernel
theorem dX8_append_10 : decode cX8_append 10 = .ok (.ireturn, 1) := by decide +kernel
theorem dX8_append_11 : decode cX8_append 11 = .ok (.aload_n 0, 1) := by decide +kernel
theorem dX8_append_12 : decode cX8_append 12 = .ok (.getfield 9, 3) := by decide +kernel
theorem dX8_append_15 : decode cX8_append 15 = .ok (.aload_n 0, 1) := by decide +kernel
theorem dX8_append_16 : decode cX8_append 16 = .ok (.getfield 15, 3) := by decide +kernel
theorem dX8_append_19 : decode cX8_append 19 = .ok (.iload_n 1, 1) := by decide +kernel
theorem dX8_append_20 : decode cX8_append 20 = .ok (.iastore, 1) := by decide +kernel
theorem dX8_append_21 : decode cX8_append 21 = .ok (.aload_n 0, 1) := by decide +kernel
theorem dX8_append_22 : decode cX8_append 22 = .ok (.dup, 1) := by decide +kernel
theorem dX8_append_23 : decode cX8_append 23 = .ok (.getfield 15, 3) := by decide +kernel
theorem dX8_append_26 : decode cX8_append 26 = .ok (.iconst 1, 1) := by decide +kernel
theorem dX8_append_27 : decode cX8_append 27 = .ok (.iadd, 1) := by decide +kernel
theorem dX8_append_28 : decode cX8_append 28 = .ok (.putfield 15, 3) := by decide +kernel
theorem dX8_append_31 : decode cX8_append 31 = .ok (.iconst 1, 1) := by decide +kernel
theorem dX8_append_32 : decode cX8_append 32 = .ok (.ireturn, 1) := by decide +kernel
theorem dX8_letterAt_0 : decode cX8_letterAt 0 = .ok (.iload_n 1, 1) := by decide +kernel
theorem dX8_letterAt_1 : decode cX8_letterAt 1 = .ok (.ifCond .lt 20, 3) := by decide +kernel
theorem dX8_letterAt_4 : decode cX8_letterAt 4 = .ok (.iload_n 1, 1) := by decide +kernel
theorem dX8_letterAt_5 : decode cX8_letterAt 5 = .ok (.aload_n 0, 1) := by decide +kernel
theorem dX8_letterAt_6 : decode cX8_letterAt 6 = .ok (.getfield 15, 3) := by decide +kernel
theorem dX8_letterAt_9 : decode cX8_letterAt 9 = .ok (.if_icmp .ge 12, 3) := by decide +kernel
theorem dX8_letterAt_12 : decode cX8_letterAt 12 = .ok (.aload_n 0, 1) := by decide +kernel
theorem dX8_letterAt_13 : decode cX8_letterAt 13 = .ok (.getfield 9, 3) := by decide +kernel
theorem dX8_letterAt_16 : decode cX8_letterAt 16 = .ok (.iload_n 1, 1) := by decide +kernel
theorem dX8_letterAt_17 : decode cX8_letterAt 17 = .ok (.iaload, 1) := by decide +kernel
theorem dX8_letterAt_18 : decode cX8_letterAt 18 = .ok (.goto 5, 3) := by decide +kernel
theorem dX8_letterAt_21 : decode cX8_letterAt 21 = .ok (.bipush (-9), 2) := by decide +kernel
theorem dX8_letterAt_23 : decode cX8_letterAt 23 = .ok (.ireturn, 1) := by decide +kernel
theorem dX8_figureAt_0 : decode cX8_figureAt 0 = .ok (.aload_n 0, 1) := by decide +kernel
theorem dX8_figureAt_1 : decode cX8_figureAt 1 = .ok (.iload_n 1, 1) := by decide +kernel
theorem dX8_figureAt_2 : decode cX8_figureAt 2 = .ok (.invokevirtual 19, 3) := by decide +kernel
theorem dX8_figureAt_5 : decode cX8_figureAt 5 = .ok (.bipush 48, 2) := by decide +kernel
theorem dX8_figureAt_7 : decode cX8_figureAt 7 = .ok (.isub, 1) := by decide +kernel
theorem dX8_figureAt_8 : decode cX8_figureAt 8 = .ok (.istore 4, 2) := by decide +kernel
theorem dX8_figureAt_10 : decode cX8_figureAt 10 = .ok (.iload 4, 2) := by decide +kernel
theorem dX8_figureAt_12 : decode cX8_figureAt 12 = .ok (.iload_n 2, 1) := by decide +kernel
theorem dX8_figureAt_13 : decode cX8_figureAt 13 = .ok (.if_icmp .lt 14, 3) := by decide +kernel
theorem dX8_figureAt_16 : decode cX8_figureAt 16 = .ok (.iload 4, 2) := by decide +kernel
theorem dX8_figureAt_18 : decode cX8_figureAt 18 = .ok (.iload_n 3, 1) := by decide +kernel
theorem dX8_figureAt_19 : decode cX8_figureAt 19 = .ok (.if_icmp .gt 8, 3) := by decide +kernel
theorem dX8_figureAt_22 : decode cX8_figureAt 22 = .ok (.iload 4, 2) := by decide +kernel
theorem dX8_figureAt_24 : decode cX8_figureAt 24 = .ok (.goto 5, 3) := by decide +kernel
theorem dX8_figureAt_27 : decode cX8_figureAt 27 = .ok (.bipush (-9), 2) := by decide +kernel
theorem dX8_figureAt_29 : decode cX8_figureAt 29 = .ok (.ireturn, 1) := by decide +kernel
theorem dX9_init_0 : decode cX9_init 0 = .ok (.aload_n 0, 1) := by decide +kernel
theorem dX9_init_1 : decode cX9_init 1 = .ok (.invokespecial 1, 3) := by decide +kernel
theorem dX9_init_4 : decode cX9_init 4 = .ok (.aload_n 0, 1) := by decide +kernel
theorem dX9_init_5 : decode cX9_init 5 = .ok (.new 7, 3) := by decide +kernel
theorem dX9_init_8 : decode cX9_init 8 = .ok (.dup, 1) := by decide +kernel
theorem dX9_init_9 : decode cX9_init 9 = .ok (.invokespecial 9, 3) := by decide +kernel
theorem dX9_init_12 : decode cX9_init 12 = .ok (.putfield 10, 3) := by decide +kernel
theorem dX9_init_15 : decode cX9_init 15 = .ok (.aload_n 0, 1) := by decide +kernel
theorem dX9_init_16 : decode cX9_init 16 = .ok (.new 16, 3) := by decide +kernel
theorem dX9_init_19 : decode cX9_init 19 = .ok (.dup, 1) := by decide +kernel
theorem dX9_init_20 : decode cX9_init 20 = .ok (.invokespecial 18, 3) := by decide +kernel
theorem dX9_init_23 : decode cX9_init 23 = .ok (.putfield 19, 3) := by decide +kernel
theorem dX9_init_26 : decode cX9_init 26 = .ok (.aload_n 0, 1) := by decide +kernel
theorem dX9_init_27 : decode cX9_init 27 = .ok (.new 23, 3) := by decide +kernel
theorem dX9_init_30 : decode cX9_init 30 = .ok (.dup, 1) := by decide +kernel
theorem dX9_init_31 : decode cX9_init 31 = .ok (.invokespecial 25, 3) := by decide +kernel
theorem dX9_init_34 : decode cX9_init 34 = .ok (.putfield 26, 3) := by decide +kernel
theorem dX9_init_37 : decode cX9_init 37 = .ok (.aload_n 0, 1) := by decide +kernel
theorem dX9_init_38 : decode cX9_init 38 = .ok (.new 30, 3) := by decide +kernel
theorem dX9_init_41 : decode cX9_init 41 = .ok (.dup, 1) := by decide +kernel
theorem dX9_init_42 : decode cX9_init 42 = .ok (.invokespecial 32, 3) := by decide +kernel
theorem dX9_init_45 : decode cX9_init 45 = .ok (.putfield 33, 3) := by decide +kernel
theorem dX9_init_48 : decode cX9_init 48 = .ok (.aload_n 0, 1) := by decide +kernel
theorem dX9_init_49 : decode cX9_init 49 = .ok (.new 37, 3) := by decide +kernel
theorem dX9_init_52 : decode cX9_init 52 = .ok (.dup, 1) := by decide +kernel
theorem dX9_init_53 : decode cX9_init 53 = .ok (.invokespecial 39, 3) := by decide +kernel
theorem dX9_init_56 : decode cX9_init 56 = .ok (.putfield 40, 3) := by decide +kernel
theorem dX9_init_59 : decode cX9_init 59 = .ok (.aload_n 0, 1) := by decide +kernel
theorem dX9_init_60 : decode cX9_init 60 = .ok (.new 44, 3) := by decide +kernel
theorem dX9_init_63 : decode cX9_init 63 = .ok (.dup, 1) := by decide +kernel
theorem dX9_init_64 : decode cX9_init 64 = .ok (.invokespecial 46, 3) := by decide +kernel
theorem dX9_init_67 : decode cX9_init 67 = .ok (.putfield 47, 3) := by decide +kernel
theorem dX9_init_70 : decode cX9_init 70 = .ok (.aload_n 0, 1) := by decide +kernel
theorem dX9_init_71 : decode cX9_init 71 = .ok (.new 51, 3) := by decide +kernel
theorem dX9_init_74 : decode cX9_init 74 = .ok (.dup, 1) := by decide +kernel
theorem dX9_init_75 : decode cX9_init 75 = .ok (.invokespecial 53, 3) := by decide +kernel
theorem dX9_init_78 : decode cX9_init 78 = .ok (.putfield 54, 3) := by decide +kernel
theorem dX9_init_81 : decode cX9_init 81 = .ok (.aload_n 0, 1) := by decide +kernel
theorem dX9_init_82 : decode cX9_init 82 = .ok (.new 58, 3) := by decide +kernel
theorem dX9_init_85 : decode cX9_init 85 = .ok (.dup, 1) := by decide +kernel
theorem dX9_init_86 : decode cX9_init 86 = .ok (.invokespecial 60, 3) := by decide +kernel
theorem dX9_init_89 : decode cX9_init 89 = .ok (.putfield 61, 3) := by decide +kernel
theorem dX9_init_92 : decode cX9_init 92 = .ok (.aload_n 0, 1) := by decide +kernel
theorem dX9_init_93 : decode cX9_init 93 = .ok (.new 65, 3) := by decide +kernel
theorem dX9_init_96 : decode cX9_init 96 = .ok (.dup, 1) := by decide +kernel
theorem dX9_init_97 : decode cX9_init 97 = .ok (.invokespecial 67, 3) := by decide +kernel
theorem dX9_init_100 : decode cX9_init 100 = .ok (.putfield 68, 3) := by decide +kernel
theorem dX9_init_103 : decode cX9_init 103 = .ok (.aload_n 0, 1) := by decide +kernel
theorem dX9_init_104 : decode cX9_init 104 = .ok (.new 65, 3) := by decide +kernel
theorem dX9_init_107 : decode cX9_init 107 = .ok (.dup, 1) := by decide +kernel
theorem dX9_init_108 : decode cX9_init 108 = .ok (.invokespecial 67, 3) := by decide +kernel
theorem dX9_init_111 : decode cX9_init 111 = .ok (.putfield 72, 3) := by decide +kernel
theorem dX9_init_114 : decode cX9_init 114 = .ok (.aload_n 0, 1) := by decide +kernel
theorem dX9_init_115 : decode cX9_init 115 = .ok (.lconst 0, 1) := by decide +kernel
theorem dX9_init_116 : decode cX9_init 116 = .ok (.putfield 75, 3) := by decide +kernel
theorem dX9_init_119 : decode cX9_init 119 = .ok (.return_, 1) := by decide +kernel
theorem dX9_write_0 : decode cX9_write 0 = .ok (.iload_n 1, 1) := by decide +kernel
theorem dX9_write_1 : decode cX9_write 1 = .ok (.ifCond .lt 10, 3) := by decide +kernel
theorem dX9_write_4 : decode cX9_write 4 = .ok (.iload_n 1, 1) := by decide +kernel
theorem dX9_write_5 : decode cX9_write 5 = .ok (.sipush 255, 3) := by decide +kernel
theorem dX9_write_8 : decode cX9_write 8 = .ok (.if_icmp .le 6, 3) := by decide +kernel
theorem dX9_write_11 : decode cX9_write 11 = .ok (.bipush (-2), 2) := by decide +kernel
theorem dX9_write_13 : decode cX9_write 13 = .ok (.ireturn, 1) := by decide +kernel
theorem dX9_write_14 : decode cX9_write 14 = .ok (.aload_n 0, 1) := by decide +kernel
theorem dX9_write_15 : decode cX9_write 15 = .ok (.getfield 10, 3) := by decide +kernel
theorem dX9_write_18 : decode cX9_write 18 = .ok (.iload_n 1, 1) := by decide +kernel
theorem dX9_write_19 : decode cX9_write 19 = .ok (.invokevirtual 79, 3) := by decide +kernel
theorem dX9_write_22 : decode cX9_write 22 = .ok (.ifCond .eq 13, 3) := by decide +kernel
theorem dX9_write_25 : decode cX9_write 25 = .ok (.aload_n 0, 1) := by decide +kernel
theorem dX9_write_26 : decode cX9_write 26 = .ok (.getfield 10, 3) := by decide +kernel
theorem dX9_write_29 : decode cX9_write 29 = .ok (.getfield 83, 3) := by decide +kernel
theorem dX9_write_32 : decode cX9_write 32 = .ok (.goto 5, 3) := by decide +kernel
theorem dX9_write_35 : decode cX9_write 35 = .ok (.bipush (-4), 2) := by decide +kernel
theorem dX9_write_37 : decode cX9_write 37 = .ok (.ireturn, 1) := by decide +kernel
theorem dX9_wipe_0 : decode cX9_wipe 0 = .ok (.aload_n 0, 1) := by decide +kernel
theorem dX9_wipe_1 : decode cX9_wipe 1 = .ok (.getfield 10, 3) := by decide +kernel
theorem dX9_wipe_4 : decode cX9_wipe 4 = .ok (.getfield 83, 3) := by decide +kernel
theorem dX9_wipe_7 : decode cX9_wipe 7 = .ok (.istore_n 1, 1) := by decide +kernel
theorem dX9_wipe_8 : decode cX9_wipe 8 = .ok (.aload_n 0, 1) := by decide +kernel
theorem dX9_wipe_9 : decode cX9_wipe 9 = .ok (.getfield 10, 3) := by decide +kernel
theorem dX9_wipe_12 : decode cX9_wipe 12 = .ok (.iconst 0, 1) := by decide +kernel
theorem dX9_wipe_13 : decode cX9_wipe 13 = .ok (.putfield 83, 3) := by decide +kernel
theorem dX9_wipe_16 : decode cX9_wipe 16 = .ok (.iload_n 1, 1) := by decide +kernel
theorem dX9_wipe_17 : decode cX9_wipe 17 = .ok (.ireturn, 1) := by decide +kernel
theorem dX9_fault_0 : decode cX9_fault 0 = .ok (.aload_n 0, 1) := by decide +kernel
theorem dX9_fault_1 : decode cX9_fault 1 = .ok (.getfield 72, 3) := by decide +kernel
theorem dX9_fault_4 : decode cX9_fault 4 = .ok (.aload_n 0, 1) := by decide +kernel
theorem dX9_fault_5 : decode cX9_fault 5 = .ok (.getfield 10, 3) := by decide +kernel
theorem dX9_fault_8 : decode cX9_fault 8 = .ok (.invokevirtual 87, 3) := by decide +kernel
theorem dX9_fault_11 : decode cX9_fault 11 = .ok (.ireturn, 1) := by decide +kernel
theorem dX9_fair_0 : decode cX9_fair 0 = .ok (.aload_n 0, 1) := by decide +kernel
theorem dX9_fair_1 : decode cX9_fair 1 = .ok (.getfield 72, 3) := by decide +kernel
theorem dX9_fair_4 : decode cX9_fair 4 = .ok (.aload_n 0, 1) := by decide +kernel
theorem dX9_fair_5 : decode cX9_fair 5 = .ok (.getfield 10, 3) := by decide +kernel
theorem dX9_fair_8 : decode cX9_fair 8 = .ok (.invokevirtual 87, 3) := by decide +kernel
theorem dX9_fair_11 : decode cX9_fair 11 = .ok (.bipush (-9), 2) := by decide +kernel
theorem dX9_fair_13 : decode cX9_fair 13 = .ok (.if_icmp .eq 6, 3) := by decide +kernel
theorem dX9_fair_16 : decode cX9_fair 16 = .ok (.bipush (-3), 2) := by decide +kernel
theorem dX9_fair_18 : decode cX9_fair 18 = .ok (.ireturn, 1) := by decide +kernel
theorem dX9_fair_19 : decode cX9_fair 19 = .ok (.aload_n 0, 1) := by decide +kernel
theorem dX9_fair_20 : decode cX9_fair 20 = .ok (.getfield 68, 3) := by decide +kernel
theorem dX9_fair_23 : decode cX9_fair 23 = .ok (.astore_n 1, 1) := by decide +kernel
theorem dX9_fair_24 : decode cX9_fair 24 = .ok (.aload_n 0, 1) := by decide +kernel
theorem dX9_fair_25 : decode cX9_fair 25 = .ok (.aload_n 0, 1) := by decide +kernel
theorem dX9_fair_26 : decode cX9_fair 26 = .ok (.getfield 72, 3) := by decide +kernel
theorem dX9_fair_29 : decode cX9_fair 29 = .ok (.putfield 68, 3) := by decide +kernel
theorem dX9_fair_32 : decode cX9_fair 32 = .ok (.aload_n 0, 1) := by decide +kernel
theorem dX9_fair_33 : decode cX9_fair 33 = .ok (.aload_n 1, 1) := by decide +kernel
theorem dX9_fair_34 : decode cX9_fair 34 = .ok (.putfield 72, 3) := by decide +kernel
theorem dX9_fair_37 : decode cX9_fair 37 = .ok (.aload_n 0, 1) := by decide +kernel
theorem dX9_fair_38 : decode cX9_fair 38 = .ok (.getfield 19, 3) := by decide +kernel
theorem dX9_fair_41 : decode cX9_fair 41 = .ok (.aload_n 0, 1) := by decide +kernel
theorem dX9_fair_42 : decode cX9_fair 42 = .ok (.getfield 68, 3) := by decide +kernel
theorem dX9_fair_45 : decode cX9_fair 45 = .ok (.invokevirtual 91, 3) := by decide +kernel
theorem dX9_fair_48 : decode cX9_fair 48 = .ok (.aload_n 0, 1) := by decide +kernel
theorem dX9_fair_49 : decode cX9_fair 49 = .ok (.getfield 26, 3) := by decide +kernel
theorem dX9_fair_52 : decode cX9_fair 52 = .ok (.invokevirtual 95, 3) := by decide +kernel
theorem dX9_fair_55 : decode cX9_fair 55 = .ok (.aload_n 0, 1) := by decide +kernel
theorem dX9_fair_56 : decode cX9_fair 56 = .ok (.getfield 40, 3) := by decide +kernel
theorem dX9_fair_59 : decode cX9_fair 59 = .ok (.invokevirtual 98, 3) := by decide +kernel
theorem dX9_fair_62 : decode cX9_fair 62 = .ok (.bipush 100, 2) := by decide +kernel
theorem dX9_fair_64 : decode cX9_fair 64 = .ok (.aload_n 0, 1) := by decide +kernel
theorem dX9_fair_65 : decode cX9_fair 65 = .ok (.getfield 68, 3) := by decide +kernel
theorem dX9_fair_68 : decode cX9_fair 68 = .ok (.getfield 99, 3) := by decide +kernel
theorem dX9_fair_71 : decode cX9_fair 71 = .ok (.imul, 1) := by decide +kernel
theorem dX9_fair_72 : decode cX9_fair 72 = .ok (.bipush 10, 2) := by decide +kernel
theorem dX9_fair_74 : decode cX9_fair 74 = .ok (.aload_n 0, 1) := by decide +kernel
theorem dX9_fair_75 : decode cX9_fair 75 = .ok (.getfield 68, 3) := by decide +kernel
theorem dX9_fair_78 : decode cX9_fair 78 = .ok (.getfield 102, 3) := by decide +kernel
theorem dX9_fair_81 : decode cX9_fair 81 = .ok (.imul, 1) := by decide +kernel
theorem dX9_fair_82 : decode cX9_fair 82 = .ok (.iadd, 1) := by decide +kernel
theorem dX9_fair_83 : decode cX9_fair 83 = .ok (.aload_n 0, 1) := by decide +kernel
theorem dX9_fair_84 : decode cX9_fair 84 = .ok (.getfield 68, 3) := by decide +kernel
theorem dX9_fair_87 : decode cX9_fair 87 = .ok (.getfield 105, 3) := by decide +kernel
theorem dX9_fair_90 : decode cX9_fair 90 = .ok (.iadd, 1) := by decide +kernel
theorem dX9_fair_91 : decode cX9_fair 91 = .ok (.ireturn, 1) := by decide +kernel
theorem dX9_about_0 : decode cX9_about 0 = .ok (.iload_n 1, 1) := by decide +kernel
theorem dX9_about_1 : decode cX9_about 1 = .ok (.tableswitch 123 0 8 #[51, 59, 67, 75, 83, 91, 99, 107, 115], 51) := by decide +kernel
theorem dX9_about_52 : decode cX9_about 52 = .ok (.aload_n 0, 1) := by decide +kernel
theorem dX9_about_53 : decode cX9_about 53 = .ok (.getfield 68, 3) := by decide +kernel
theorem dX9_about_56 : decode cX9_about 56 = .ok (.getfield 99, 3) := by decide +kernel
theorem dX9_about_59 : decode cX9_about 59 = .ok (.ireturn, 1) := by decide +kernel
theorem dX9_about_60 : decode cX9_about 60 = .ok (.aload_n 0, 1) := by decide +kernel
theorem dX9_about_61 : decode cX9_about 61 = .ok (.getfield 68, 3) := by decide +kernel
theorem dX9_about_64 : decode cX9_about 64 = .ok (.getfield 102, 3) := by decide +kernel
theorem dX9_about_67 : decode cX9_about 67 = .ok (.ireturn, 1) := by decide +kernel
theorem dX9_about_68 : decode cX9_about 68 = .ok (.aload_n 0, 1) := by decide +kernel
theorem dX9_about_69 : decode cX9_about 69 = .ok (.getfield 68, 3) := by decide +kernel
theorem dX9_about_72 : decode cX9_about 72 = .ok (.getfield 105, 3) := by decide +kernel
theorem dX9_about_75 : decode cX9_about 75 = .ok (.ireturn, 1) := by decide +kernel
theorem dX9_about_76 : decode cX9_about 76 = .ok (.aload_n 0, 1) := by decide +kernel
theorem dX9_about_77 : decode cX9_about 77 = .ok (.getfield 19, 3) := by decide +kernel
theorem dX9_about_80 : decode cX9_about 80 = .ok (.getfield 108, 3) := by decide +kernel
theorem dX9_about_83 : decode cX9_about 83 = .ok (.ireturn, 1) := by decide +kernel
theorem dX9_about_84 : decode cX9_about 84 = .ok (.aload_n 0, 1) := by decide +kernel
theorem dX9_about_85 : decode cX9_about 85 = .ok (.getfield 19, 3) := by decide +kernel
theorem dX9_about_88 : decode cX9_about 88 = .ok (.getfield 111, 3) := by decide +kernel
theorem dX9_about_91 : decode cX9_about 91 = .ok (.ireturn, 1) := by decide +kernel
theorem dX9_about_92 : decode cX9_about 92 = .ok (.aload_n 0, 1) := by decide +kernel
theorem dX9_about_93 : decode cX9_about 93 = .ok (.getfield 19, 3) := by decide +kernel
theorem dX9_about_96 : decode cX9_about 96 = .ok (.getfield 114, 3) := by decide +kernel
theorem dX9_about_99 : decode cX9_about 99 = .ok (.ireturn, 1) := by decide +kernel
theorem dX9_about_100 : decode cX9_about 100 = .ok (.aload_n 0, 1) := by decide +kernel
theorem dX9_about_101 : decode cX9_about 101 = .ok (.getfield 26, 3) := by decide +kernel
theorem dX9_about_104 : decode cX9_about 104 = .ok (.getfield 117, 3) := by decide +kernel
theorem dX9_about_107 : decode cX9_about 107 = .ok (.ireturn, 1) := by decide +kernel
theorem dX9_about_108 : decode cX9_about 108 = .ok (.aload_n 0, 1) := by decide +kernel
theorem dX9_about_109 : decode cX9_about 109 = .ok (.getfield 33, 3) := by decide +kernel
theorem dX9_about_112 : decode cX9_about 112 = .ok (.getfield 120, 3) := by decide +kernel
theorem dX9_about_115 : decode cX9_about 115 = .ok (.ireturn, 1) := by decide +kernel
theorem dX9_about_116 : decode cX9_about 116 = .ok (.aload_n 0, 1) := by decide +kernel
theorem dX9_about_117 : decode cX9_about 117 = .ok (.getfield 10, 3) := by decide +kernel
theorem dX9_about_120 : decode cX9_about 120 = .ok (.getfield 83, 3) := by decide +kernel
theorem dX9_about_123 : decode cX9_about 123 = .ok (.ireturn, 1) := by decide +kernel
theorem dX9_about_124 : decode cX9_about 124 = .ok (.bipush (-2), 2) := by decide +kernel
theorem dX9_about_126 : decode cX9_about 126 = .ok (.ireturn, 1) := by decide +kernel
theorem dX9_husk_0 : decode cX9_husk 0 = .ok (.aload_n 0, 1) := by decide +kernel
theorem dX9_husk_1 : decode cX9_husk 1 = .ok (.getfield 68, 3) := by decide +kernel
theorem dX9_husk_4 : decode cX9_husk 4 = .ok (.iload_n 1, 1) := by decide +kernel
theorem dX9_husk_5 : decode cX9_husk 5 = .ok (.invokevirtual 121, 3) := by decide +kernel
theorem dX9_husk_8 : decode cX9_husk 8 = .ok (.ifCond .ne 5, 3) := by decide +kernel
theorem dX9_husk_11 : decode cX9_husk 11 = .ok (.iconst (-1), 1) := by decide +kernel
theorem dX9_husk_12 : decode cX9_husk 12 = .ok (.ireturn, 1) := by decide +kernel
theorem dX9_husk_13 : decode cX9_husk 13 = .ok (.iload_n 2, 1) := by decide +kernel
theorem dX9_husk_14 : decode cX9_husk 14 = .ok (.tableswitch 149 0 8 #[50, 60, 70, 80, 93, 103, 113, 125, 137], 50) := by decide +kernel
theorem dX9_husk_64 : decode cX9_husk 64 = .ok (.aload_n 0, 1) := by decide +kernel
theorem dX9_husk_65 : decode cX9_husk 65 = .ok (.getfield 68, 3) := by decide +kernel
theorem dX9_husk_68 : decode cX9_husk 68 = .ok (.getfield 124, 3) := by decide +kernel
theorem dX9_husk_71 : decode cX9_husk 71 = .ok (.iload_n 1, 1) := by decide +kernel
theorem dX9_husk_72 : decode cX9_husk 72 = .ok (.iaload, 1) := by decide +kernel
theorem dX9_husk_73 : decode cX9_husk 73 = .ok (.ireturn, 1) := by decide +kernel
theorem dX9_husk_74 : decode cX9_husk 74 = .ok (.aload_n 0, 1) := by decide +kernel
theorem dX9_husk_75 : decode cX9_husk 75 = .ok (.getfield 68, 3) := by decide +kernel
theorem dX9_husk_78 : decode cX9_husk 78 = .ok (.getfield 128, 3) := by decide +kernel
theorem dX9_husk_81 : decode cX9_husk 81 = .ok (.iload_n 1, 1) := by decide +kernel
theorem dX9_husk_82 : decode cX9_husk 82 = .ok (.iaload, 1) := by decide +kernel
theorem dX9_husk_83 : decode cX9_husk 83 = .ok (.ireturn, 1) := by decide +kernel
theorem dX9_husk_84 : decode cX9_husk 84 = .ok (.aload_n 0, 1) := by decide +kernel
theorem dX9_husk_85 : decode cX9_husk 85 = .ok (.getfield 68, 3) := by decide +kernel
theorem dX9_husk_88 : decode cX9_husk 88 = .ok (.getfield 131, 3) := by decide +kernel
theorem dX9_husk_91 : decode cX9_husk 91 = .ok (.iload_n 1, 1) := by decide +kernel
theorem dX9_husk_92 : decode cX9_husk 92 = .ok (.iaload, 1) := by decide +kernel
theorem dX9_husk_93 : decode cX9_husk 93 = .ok (.ireturn, 1) := by decide +kernel
theorem dX9_husk_94 : decode cX9_husk 94 = .ok (.aload_n 0, 1) := by decide +kernel
theorem dX9_husk_95 : decode cX9_husk 95 = .ok (.getfield 19, 3) := by decide +kernel
theorem dX9_husk_98 : decode cX9_husk 98 = .ok (.aload_n 0, 1) := by decide +kernel
theorem dX9_husk_99 : decode cX9_husk 99 = .ok (.getfield 68, 3) := by decide +kernel
theorem dX9_husk_102 : decode cX9_husk 102 = .ok (.iload_n 1, 1) := by decide +kernel
theorem dX9_husk_103 : decode cX9_husk 103 = .ok (.invokevirtual 134, 3) := by decide +kernel
theorem dX9_husk_106 : decode cX9_husk 106 = .ok (.ireturn, 1) := by decide +kernel
theorem dX9_husk_107 : decode cX9_husk 107 = .ok (.aload_n 0, 1) := by decide +kernel
theorem dX9_husk_108 : decode cX9_husk 108 = .ok (.getfield 19, 3) := by decide +kernel
theorem dX9_husk_111 : decode cX9_husk 111 = .ok (.getfield 138, 3) := by decide +kernel
theorem dX9_husk_114 : decode cX9_husk 114 = .ok (.iload_n 1, 1) := by decide +kernel
theorem dX9_husk_115 : decode cX9_husk 115 = .ok (.iaload, 1) := by decide +kernel
theorem dX9_husk_116 : decode cX9_husk 116 = .ok (.ireturn, 1) := by decide +kernel
theorem dX9_husk_117 : decode cX9_husk 117 = .ok (.aload_n 0, 1) := by decide +kernel
theorem dX9_husk_118 : decode cX9_husk 118 = .ok (.getfield 19, 3) := by decide +kernel
theorem dX9_husk_121 : decode cX9_husk 121 = .ok (.getfield 141, 3) := by decide +kernel
theorem dX9_husk_124 : decode cX9_husk 124 = .ok (.iload_n 1, 1) := by decide +kernel
theorem dX9_husk_125 : decode cX9_husk 125 = .ok (.iaload, 1) := by decide +kernel
theorem dX9_husk_126 : decode cX9_husk 126 = .ok (.ireturn, 1) := by decide +kernel
theorem dX9_husk_127 : decode cX9_husk 127 = .ok (.aload_n 0, 1) := by decide +kernel
theorem dX9_husk_128 : decode cX9_husk 128 = .ok (.getfield 19, 3) := by decide +kernel
theorem dX9_husk_131 : decode cX9_husk 131 = .ok (.getfield 144, 3) := by decide +kernel
theorem dX9_husk_134 : decode cX9_husk 134 = .ok (.iload_n 1, 1) := by decide +kernel
theorem dX9_husk_135 : decode cX9_husk 135 = .ok (.invokestatic 147, 3) := by decide +kernel
theorem dX9_husk_138 : decode cX9_husk 138 = .ok (.ireturn, 1) := by decide +kernel
theorem dX9_husk_139 : decode cX9_husk 139 = .ok (.aload_n 0, 1) := by decide +kernel
theorem dX9_husk_140 : decode cX9_husk 140 = .ok (.getfield 19, 3) := by decide +kernel
theorem dX9_husk_143 : decode cX9_husk 143 = .ok (.getfield 151, 3) := by decide +kernel
theorem dX9_husk_146 : decode cX9_husk 146 = .ok (.iload_n 1, 1) := by decide +kernel
theorem dX9_husk_147 : decode cX9_husk 147 = .ok (.invokestatic 147, 3) := by decide +kernel
theorem dX9_husk_150 : decode cX9_husk 150 = .ok (.ireturn, 1) := by decide +kernel
theorem dX9_husk_151 : decode cX9_husk 151 = .ok (.aload_n 0, 1) := by decide +kernel
theorem dX9_husk_152 : decode cX9_husk 152 = .ok (.getfield 19, 3) := by decide +kernel
theorem dX9_husk_155 : decode cX9_husk 155 = .ok (.getfield 114, 3) := by decide +kernel
theorem dX9_husk_158 : decode cX9_husk 158 = .ok (.iload_n 1, 1) := by decide +kernel
theorem dX9_husk_159 : decode cX9_husk 159 = .ok (.invokestatic 147, 3) := by decide +kernel
theorem dX9_husk_162 : decode cX9_husk 162 = .ok (.ireturn, 1) := by decide +kernel
theorem dX9_husk_163 : decode cX9_husk 163 = .ok (.bipush (-2), 2) := by decide +kernel
theorem dX9_husk_165 : decode cX9_husk 165 = .ok (.ireturn, 1) := by decide +kernel
theorem dX9_thrower_0 : decode cX9_thrower 0 = .ok (.aload_n 0, 1) := by decide +kernel
theorem dX9_thrower_1 : decode cX9_thrower 1 = .ok (.getfield 68, 3) := by decide +kernel
theorem dX9_thrower_4 : decode cX9_thrower 4 = .ok (.iload_n 1, 1) := by decide +kernel
theorem dX9_thrower_5 : decode cX9_thrower 5 = .ok (.invokevirtual 154, 3) := by decide +kernel
theorem dX9_thrower_8 : decode cX9_thrower 8 = .ok (.ifCond .ne 5, 3) := by decide +kernel
theorem dX9_thrower_11 : decode cX9_thrower 11 = .ok (.iconst (-1), 1) := by decide +kernel
theorem dX9_thrower_12 : decode cX9_thrower 12 = .ok (.ireturn, 1) := by decide +kernel
theorem dX9_thrower_13 : decode cX9_thrower 13 = .ok (.iload_n 2, 1) := by decide +kernel
theorem dX9_thrower_14 : decode cX9_thrower 14 = .ok (.tableswitch 69 0 3 #[30, 40, 50, 60], 30) := by decide +kernel
theorem dX9_thrower_44 : decode cX9_thrower 44 = .ok (.aload_n 0, 1) := by decide +kernel
theorem dX9_thrower_45 : decode cX9_thrower 45 = .ok (.getfield 68, 3) := by decide +kernel
theorem dX9_thrower_48 : decode cX9_thrower 48 = .ok (.getfield 157, 3) := by decide +kernel
theorem dX9_thrower_51 : decode cX9_thrower 51 = .ok (.iload_n 1, 1) := by decide +kernel
theorem dX9_thrower_52 : decode cX9_thrower 52 = .ok (.iaload, 1) := by decide +kernel
theorem dX9_thrower_53 : decode cX9_thrower 53 = .ok (.ireturn, 1) := by decide +kernel
theorem dX9_thrower_54 : decode cX9_thrower 54 = .ok (.aload_n 0, 1) := by decide +kernel
theorem dX9_thrower_55 : decode cX9_thrower 55 = .ok (.getfield 68, 3) := by decide +kernel
theorem dX9_thrower_58 : decode cX9_thrower 58 = .ok (.getfield 160, 3) := by decide +kernel
theorem dX9_thrower_61 : decode cX9_thrower 61 = .ok (.iload_n 1, 1) := by decide +kernel
theorem dX9_thrower_62 : decode cX9_thrower 62 = .ok (.iaload, 1) := by decide +kernel
theorem dX9_thrower_63 : decode cX9_thrower 63 = .ok (.ireturn, 1) := by decide +kernel
theorem dX9_thrower_64 : decode cX9_thrower 64 = .ok (.aload_n 0, 1) := by decide +kernel
theorem dX9_thrower_65 : decode cX9_thrower 65 = .ok (.getfield 68, 3) := by decide +kernel
theorem dX9_thrower_68 : decode cX9_thrower 68 = .ok (.getfield 163, 3) := by decide +kernel
theorem dX9_thrower_71 : decode cX9_thrower 71 = .ok (.iload_n 1, 1) := by decide +kernel
theorem dX9_thrower_72 : decode cX9_thrower 72 = .ok (.iaload, 1) := by decide +kernel
theorem dX9_thrower_73 : decode cX9_thrower 73 = .ok (.ireturn, 1) := by decide +kernel
theorem dX9_thrower_74 : decode cX9_thrower 74 = .ok (.aload_n 0, 1) := by decide +kernel
theorem dX9_thrower_75 : decode cX9_thrower 75 = .ok (.getfield 68, 3) := by decide +kernel
theorem dX9_thrower_78 : decode cX9_thrower 78 = .ok (.iload_n 1, 1) := by decide +kernel
theorem dX9_thrower_79 : decode cX9_thrower 79 = .ok (.invokevirtual 166, 3) := by decide +kernel
theorem dX9_thrower_82 : decode cX9_thrower 82 = .ok (.ireturn, 1) := by decide +kernel
theorem dX9_thrower_83 : decode cX9_thrower 83 = .ok (.bipush (-2), 2) := by decide +kernel
theorem dX9_thrower_85 : decode cX9_thrower 85 = .ok (.ireturn, 1) := by decide +kernel
theorem dX9_lands_0 : decode cX9_lands 0 = .ok (.aload_n 0, 1) := by decide +kernel
theorem dX9_lands_1 : decode cX9_lands 1 = .ok (.iload_n 1, 1) := by decide +kernel
theorem dX9_lands_2 : decode cX9_lands 2 = .ok (.iload_n 2, 1) := by decide +kernel
theorem dX9_lands_3 : decode cX9_lands 3 = .ok (.iload_n 3, 1) := by decide +kernel
theorem dX9_lands_4 : decode cX9_lands 4 = .ok (.invokevirtual 170, 3) := by decide +kernel
theorem dX9_lands_7 : decode cX9_lands 7 = .ok (.istore 4, 2) := by decide +kernel
theorem dX9_lands_9 : decode cX9_lands 9 = .ok (.iload 4, 2) := by decide +kernel
theorem dX9_lands_11 : decode cX9_lands 11 = .ok (.bipush (-9), 2) := by decide +kernel
theorem dX9_lands_13 : decode cX9_lands 13 = .ok (.if_icmp .eq 8, 3) := by decide +kernel
theorem dX9_lands_16 : decode cX9_lands 16 = .ok (.iload 4, 2) := by decide +kernel
theorem dX9_lands_18 : decode cX9_lands 18 = .ok (.goto 20, 3) := by decide +kernel
theorem dX9_lands_21 : decode cX9_lands 21 = .ok (.aload_n 0, 1) := by decide +kernel
theorem dX9_lands_22 : decode cX9_lands 22 = .ok (.getfield 68, 3) := by decide +kernel
theorem dX9_lands_25 : decode cX9_lands 25 = .ok (.iload_n 1, 1) := by decide +kernel
theorem dX9_lands_26 : decode cX9_lands 26 = .ok (.iload_n 2, 1) := by decide +kernel
theorem dX9_lands_27 : decode cX9_lands 27 = .ok (.iload_n 3, 1) := by decide +kernel
theorem dX9_lands_28 : decode cX9_lands 28 = .ok (.aload_n 0, 1) := by decide +kernel
theorem dX9_lands_29 : decode cX9_lands 29 = .ok (.getfield 19, 3) := by decide +kernel
theorem dX9_lands_32 : decode cX9_lands 32 = .ok (.getfield 108, 3) := by decide +kernel
theorem dX9_lands_35 : decode cX9_lands 35 = .ok (.invokevirtual 174, 3) := by decide +kernel
theorem dX9_lands_38 : decode cX9_lands 38 = .ok (.ireturn, 1) := by decide +kernel
theorem dX9_toss_0 : decode cX9_toss 0 = .ok (.aload_n 0, 1) := by decide +kernel
theorem dX9_toss_1 : decode cX9_toss 1 = .ok (.iload_n 1, 1) := by decide +kernel
theorem dX9_toss_2 : decode cX9_toss 2 = .ok (.iload_n 2, 1) := by decide +kernel
theorem dX9_toss_3 : decode cX9_toss 3 = .ok (.iload_n 3, 1) := by decide +kernel
theorem dX9_toss_4 : decode cX9_toss 4 = .ok (.invokevirtual 170, 3) := by decide +kernel
theorem dX9_toss_7 : decode cX9_toss 7 = .ok (.istore 4, 2) := by decide +kernel
theorem dX9_toss_9 : decode cX9_toss 9 = .ok (.iload 4, 2) := by decide +kernel
theorem dX9_toss_11 : decode cX9_toss 11 = .ok (.bipush (-9), 2) := by decide +kernel
theorem dX9_toss_13 : decode cX9_toss 13 = .ok (.if_icmp .eq 6, 3) := by decide +kernel
theorem dX9_toss_16 : decode cX9_toss 16 = .ok (.iload 4, 2) := by decide +kernel
theorem dX9_toss_18 : decode cX9_toss 18 = .ok (.ireturn, 1) := by decide +kernel
theorem dX9_toss_19 : decode cX9_toss 19 = .ok (.aload_n 0, 1) := by decide +kernel
theorem dX9_toss_20 : decode cX9_toss 20 = .ok (.getfield 19, 3) := by decide +kernel
theorem dX9_toss_23 : decode cX9_toss 23 = .ok (.getfield 111, 3) := by decide +kernel
theorem dX9_toss_26 : decode cX9_toss 26 = .ok (.ifCond .ne 6, 3) := by decide +kernel
theorem dX9_toss_29 : decode cX9_toss 29 = .ok (.bipush (-3), 2) := by decide +kernel
theorem dX9_toss_31 : decode cX9_toss 31 = .ok (.ireturn, 1) := by decide +kernel
theorem dX9_toss_32 : decode cX9_toss 32 = .ok (.aload_n 0, 1) := by decide +kernel
theorem dX9_toss_33 : decode cX9_toss 33 = .ok (.getfield 26, 3) := by decide +kernel
theorem dX9_toss_36 : decode cX9_toss 36 = .ok (.aload_n 0, 1) := by decide +kernel
theorem dX9_toss_37 : decode cX9_toss 37 = .ok (.getfield 19, 3) := by decide +kernel
theorem dX9_toss_40 : decode cX9_toss 40 = .ok (.invokevirtual 178, 3) := by decide +kernel
