theorem d_Co_init_0 : decode b_Co_init 0 = .ok (.aload_n 0, 1) := by decide +kernel
theorem d_Co_init_1 : decode b_Co_init 1 = .ok (.invokespecial 5, 3) := by decide +kernel
theorem d_Co_init_4 : decode b_Co_init 4 = .ok (.aload_n 0, 1) := by decide +kernel
theorem d_Co_init_5 : decode b_Co_init 5 = .ok (.aload_n 1, 1) := by decide +kernel
theorem d_Co_init_6 : decode b_Co_init 6 = .ok (.putfield 11, 3) := by decide +kernel
theorem d_Co_init_9 : decode b_Co_init 9 = .ok (.aload_n 0, 1) := by decide +kernel
theorem d_Co_init_10 : decode b_Co_init 10 = .ok (.aload_n 2, 1) := by decide +kernel
theorem d_Co_init_11 : decode b_Co_init 11 = .ok (.putfield 15, 3) := by decide +kernel
theorem d_Co_init_14 : decode b_Co_init 14 = .ok (.aload_n 0, 1) := by decide +kernel
theorem d_Co_init_15 : decode b_Co_init 15 = .ok (.aload_n 3, 1) := by decide +kernel
theorem d_Co_init_16 : decode b_Co_init 16 = .ok (.putfield 18, 3) := by decide +kernel
theorem d_Co_init_19 : decode b_Co_init 19 = .ok (.aload_n 0, 1) := by decide +kernel
theorem d_Co_init_20 : decode b_Co_init 20 = .ok (.aload 4, 2) := by decide +kernel
theorem d_Co_init_22 : decode b_Co_init 22 = .ok (.putfield 22, 3) := by decide +kernel
theorem d_Co_init_25 : decode b_Co_init 25 = .ok (.aload_n 0, 1) := by decide +kernel
theorem d_Co_init_26 : decode b_Co_init 26 = .ok (.bipush 72, 2) := by decide +kernel
theorem d_Co_init_28 : decode b_Co_init 28 = .ok (.newarray .int, 2) := by decide +kernel
theorem d_Co_init_30 : decode b_Co_init 30 = .ok (.putfield 26, 3) := by decide +kernel
theorem d_Co_init_33 : decode b_Co_init 33 = .ok (.aload_n 0, 1) := by decide +kernel
theorem d_Co_init_34 : decode b_Co_init 34 = .ok (.bipush 12, 2) := by decide +kernel
theorem d_Co_init_36 : decode b_Co_init 36 = .ok (.newarray .int, 2) := by decide +kernel
theorem d_Co_init_38 : decode b_Co_init 38 = .ok (.putfield 30, 3) := by decide +kernel
theorem d_Co_init_41 : decode b_Co_init 41 = .ok (.return_, 1) := by decide +kernel
theorem d_Co_allCovered_0 : decode b_Co_allCovered 0 = .ok (.iconst 0, 1) := by decide +kernel
theorem d_Co_allCovered_1 : decode b_Co_allCovered 1 = .ok (.istore_n 1, 1) := by decide +kernel
theorem d_Co_allCovered_2 : decode b_Co_allCovered 2 = .ok (.iload_n 1, 1) := by decide +kernel
theorem d_Co_allCovered_3 : decode b_Co_allCovered 3 = .ok (.aload_n 0, 1) := by decide +kernel
theorem d_Co_allCovered_4 : decode b_Co_allCovered 4 = .ok (.getfield 15, 3) := by decide +kernel
theorem d_Co_allCovered_7 : decode b_Co_allCovered 7 = .ok (.invokevirtual 33, 3) := by decide +kernel
theorem d_Co_allCovered_10 : decode b_Co_allCovered 10 = .ok (.if_icmp .ge 46, 3) := by decide +kernel
theorem d_Co_allCovered_13 : decode b_Co_allCovered 13 = .ok (.aload_n 0, 1) := by decide +kernel
theorem d_Co_allCovered_14 : decode b_Co_allCovered 14 = .ok (.iload_n 1, 1) := by decide +kernel
theorem d_Co_allCovered_15 : decode b_Co_allCovered 15 = .ok (.invokevirtual 39, 3) := by decide +kernel
theorem d_Co_allCovered_18 : decode b_Co_allCovered 18 = .ok (.iconst 0, 1) := by decide +kernel
theorem d_Co_allCovered_19 : decode b_Co_allCovered 19 = .ok (.istore_n 2, 1) := by decide +kernel
theorem d_Co_allCovered_20 : decode b_Co_allCovered 20 = .ok (.iload_n 2, 1) := by decide +kernel
theorem d_Co_allCovered_21 : decode b_Co_allCovered 21 = .ok (.bipush 12, 2) := by decide +kernel
theorem d_Co_allCovered_23 : decode b_Co_allCovered 23 = .ok (.if_icmp .ge 16, 3) := by decide +kernel
theorem d_Co_allCovered_26 : decode b_Co_allCovered 26 = .ok (.aload_n 0, 1) := by decide +kernel
theorem d_Co_allCovered_27 : decode b_Co_allCovered 27 = .ok (.getfield 30, 3) := by decide +kernel
theorem d_Co_allCovered_30 : decode b_Co_allCovered 30 = .ok (.iload_n 2, 1) := by decide +kernel
theorem d_Co_allCovered_31 : decode b_Co_allCovered 31 = .ok (.iconst (-1), 1) := by decide +kernel
theorem d_Co_allCovered_32 : decode b_Co_allCovered 32 = .ok (.iastore, 1) := by decide +kernel
theorem d_Co_allCovered_33 : decode b_Co_allCovered 33 = .ok (.iinc 2 1, 3) := by decide +kernel
theorem d_Co_allCovered_36 : decode b_Co_allCovered 36 = .ok (.goto (-16), 3) := by decide +kernel
theorem d_Co_allCovered_39 : decode b_Co_allCovered 39 = .ok (.aload_n 0, 1) := by decide +kernel
theorem d_Co_allCovered_40 : decode b_Co_allCovered 40 = .ok (.iload_n 1, 1) := by decide +kernel
theorem d_Co_allCovered_41 : decode b_Co_allCovered 41 = .ok (.iconst 0, 1) := by decide +kernel
theorem d_Co_allCovered_42 : decode b_Co_allCovered 42 = .ok (.invokevirtual 43, 3) := by decide +kernel
theorem d_Co_allCovered_45 : decode b_Co_allCovered 45 = .ok (.ifCond .ne 5, 3) := by decide +kernel
theorem d_Co_allCovered_48 : decode b_Co_allCovered 48 = .ok (.iconst 0, 1) := by decide +kernel
theorem d_Co_allCovered_49 : decode b_Co_allCovered 49 = .ok (.ireturn, 1) := by decide +kernel
theorem d_Co_allCovered_50 : decode b_Co_allCovered 50 = .ok (.iinc 1 1, 3) := by decide +kernel
theorem d_Co_allCovered_53 : decode b_Co_allCovered 53 = .ok (.goto (-51), 3) := by decide +kernel
theorem d_Co_allCovered_56 : decode b_Co_allCovered 56 = .ok (.iconst 1, 1) := by decide +kernel
theorem d_Co_allCovered_57 : decode b_Co_allCovered 57 = .ok (.ireturn, 1) := by decide +kernel
theorem d_Co_readPatterns_0 : decode b_Co_readPatterns 0 = .ok (.iconst 0, 1) := by decide +kernel
theorem d_Co_readPatterns_1 : decode b_Co_readPatterns 1 = .ok (.istore_n 2, 1) := by decide +kernel
theorem d_Co_readPatterns_2 : decode b_Co_readPatterns 2 = .ok (.iload_n 2, 1) := by decide +kernel
theorem d_Co_readPatterns_3 : decode b_Co_readPatterns 3 = .ok (.aload_n 0, 1) := by decide +kernel
theorem d_Co_readPatterns_4 : decode b_Co_readPatterns 4 = .ok (.getfield 22, 3) := by decide +kernel
theorem d_Co_readPatterns_7 : decode b_Co_readPatterns 7 = .ok (.iload_n 1, 1) := by decide +kernel
theorem d_Co_readPatterns_8 : decode b_Co_readPatterns 8 = .ok (.invokevirtual 47, 3) := by decide +kernel
theorem d_Co_readPatterns_11 : decode b_Co_readPatterns 11 = .ok (.if_icmp .ge 93, 3) := by decide +kernel
theorem d_Co_readPatterns_14 : decode b_Co_readPatterns 14 = .ok (.aload_n 0, 1) := by decide +kernel
theorem d_Co_readPatterns_15 : decode b_Co_readPatterns 15 = .ok (.getfield 22, 3) := by decide +kernel
theorem d_Co_readPatterns_18 : decode b_Co_readPatterns 18 = .ok (.iload_n 1, 1) := by decide +kernel
theorem d_Co_readPatterns_19 : decode b_Co_readPatterns 19 = .ok (.iload_n 2, 1) := by decide +kernel
theorem d_Co_readPatterns_20 : decode b_Co_readPatterns 20 = .ok (.invokevirtual 53, 3) := by decide +kernel
theorem d_Co_readPatterns_23 : decode b_Co_readPatterns 23 = .ok (.istore_n 3, 1) := by decide +kernel
theorem d_Co_readPatterns_24 : decode b_Co_readPatterns 24 = .ok (.iconst 0, 1) := by decide +kernel
theorem d_Co_readPatterns_25 : decode b_Co_readPatterns 25 = .ok (.istore 4, 2) := by decide +kernel
theorem d_Co_readPatterns_27 : decode b_Co_readPatterns 27 = .ok (.iload 4, 2) := by decide +kernel
theorem d_Co_readPatterns_29 : decode b_Co_readPatterns 29 = .ok (.bipush 12, 2) := by decide +kernel
theorem d_Co_readPatterns_31 : decode b_Co_readPatterns 31 = .ok (.if_icmp .ge 22, 3) := by decide +kernel
theorem d_Co_readPatterns_34 : decode b_Co_readPatterns 34 = .ok (.aload_n 0, 1) := by decide +kernel
theorem d_Co_readPatterns_35 : decode b_Co_readPatterns 35 = .ok (.getfield 26, 3) := by decide +kernel
theorem d_Co_readPatterns_38 : decode b_Co_readPatterns 38 = .ok (.iload_n 2, 1) := by decide +kernel
theorem d_Co_readPatterns_39 : decode b_Co_readPatterns 39 = .ok (.bipush 12, 2) := by decide +kernel
theorem d_Co_readPatterns_41 : decode b_Co_readPatterns 41 = .ok (.imul, 1) := by decide +kernel
theorem d_Co_readPatterns_42 : decode b_Co_readPatterns 42 = .ok (.iload 4, 2) := by decide +kernel
theorem d_Co_readPatterns_44 : decode b_Co_readPatterns 44 = .ok (.iadd, 1) := by decide +kernel
theorem d_Co_readPatterns_45 : decode b_Co_readPatterns 45 = .ok (.iconst (-1), 1) := by decide +kernel
theorem d_Co_readPatterns_46 : decode b_Co_readPatterns 46 = .ok (.iastore, 1) := by decide +kernel
theorem d_Co_readPatterns_47 : decode b_Co_readPatterns 47 = .ok (.iinc 4 1, 3) := by decide +kernel
theorem d_Co_readPatterns_50 : decode b_Co_readPatterns 50 = .ok (.goto (-23), 3) := by decide +kernel
theorem d_Co_readPatterns_53 : decode b_Co_readPatterns 53 = .ok (.iconst 0, 1) := by decide +kernel
theorem d_Co_readPatterns_54 : decode b_Co_readPatterns 54 = .ok (.istore 4, 2) := by decide +kernel
theorem d_Co_readPatterns_56 : decode b_Co_readPatterns 56 = .ok (.iload 4, 2) := by decide +kernel
theorem d_Co_readPatterns_58 : decode b_Co_readPatterns 58 = .ok (.aload_n 0, 1) := by decide +kernel
theorem d_Co_readPatterns_59 : decode b_Co_readPatterns 59 = .ok (.getfield 15, 3) := by decide +kernel
theorem d_Co_readPatterns_62 : decode b_Co_readPatterns 62 = .ok (.iload_n 1, 1) := by decide +kernel
theorem d_Co_readPatterns_63 : decode b_Co_readPatterns 63 = .ok (.invokevirtual 57, 3) := by decide +kernel
theorem d_Co_readPatterns_66 : decode b_Co_readPatterns 66 = .ok (.if_icmp .ge 32, 3) := by decide +kernel
theorem d_Co_readPatterns_69 : decode b_Co_readPatterns 69 = .ok (.aload_n 0, 1) := by decide +kernel
theorem d_Co_readPatterns_70 : decode b_Co_readPatterns 70 = .ok (.aload_n 0, 1) := by decide +kernel
theorem d_Co_readPatterns_71 : decode b_Co_readPatterns 71 = .ok (.getfield 22, 3) := by decide +kernel
theorem d_Co_readPatterns_74 : decode b_Co_readPatterns 74 = .ok (.iload_n 3, 1) := by decide +kernel
theorem d_Co_readPatterns_75 : decode b_Co_readPatterns 75 = .ok (.iload 4, 2) := by decide +kernel
theorem d_Co_readPatterns_77 : decode b_Co_readPatterns 77 = .ok (.invokevirtual 60, 3) := by decide +kernel
theorem d_Co_readPatterns_80 : decode b_Co_readPatterns 80 = .ok (.iload_n 2, 1) := by decide +kernel
theorem d_Co_readPatterns_81 : decode b_Co_readPatterns 81 = .ok (.bipush 12, 2) := by decide +kernel
theorem d_Co_readPatterns_83 : decode b_Co_readPatterns 83 = .ok (.imul, 1) := by decide +kernel
theorem d_Co_readPatterns_84 : decode b_Co_readPatterns 84 = .ok (.iload 4, 2) := by decide +kernel
theorem d_Co_readPatterns_86 : decode b_Co_readPatterns 86 = .ok (.iconst 4, 1) := by decide +kernel
theorem d_Co_readPatterns_87 : decode b_Co_readPatterns 87 = .ok (.imul, 1) := by decide +kernel
theorem d_Co_readPatterns_88 : decode b_Co_readPatterns 88 = .ok (.iadd, 1) := by decide +kernel
theorem d_Co_readPatterns_89 : decode b_Co_readPatterns 89 = .ok (.invokevirtual 63, 3) := by decide +kernel
theorem d_Co_readPatterns_92 : decode b_Co_readPatterns 92 = .ok (.iinc 4 1, 3) := by decide +kernel
theorem d_Co_readPatterns_95 : decode b_Co_readPatterns 95 = .ok (.goto (-39), 3) := by decide +kernel
theorem d_Co_readPatterns_98 : decode b_Co_readPatterns 98 = .ok (.iinc 2 1, 3) := by decide +kernel
theorem d_Co_readPatterns_101 : decode b_Co_readPatterns 101 = .ok (.goto (-99), 3) := by decide +kernel
theorem d_Co_readPatterns_104 : decode b_Co_readPatterns 104 = .ok (.return_, 1) := by decide +kernel
theorem d_Co_readPattern_0 : decode b_Co_readPattern 0 = .ok (.aload_n 0, 1) := by decide +kernel
theorem d_Co_readPattern_1 : decode b_Co_readPattern 1 = .ok (.getfield 18, 3) := by decide +kernel
theorem d_Co_readPattern_4 : decode b_Co_readPattern 4 = .ok (.iload_n 1, 1) := by decide +kernel
theorem d_Co_readPattern_5 : decode b_Co_readPattern 5 = .ok (.invokevirtual 67, 3) := by decide +kernel
theorem d_Co_readPattern_8 : decode b_Co_readPattern 8 = .ok (.ifCond .ne 4, 3) := by decide +kernel
theorem d_Co_readPattern_11 : decode b_Co_readPattern 11 = .ok (.return_, 1) := by decide +kernel
theorem d_Co_readPattern_12 : decode b_Co_readPattern 12 = .ok (.aload_n 0, 1) := by decide +kernel
theorem d_Co_readPattern_13 : decode b_Co_readPattern 13 = .ok (.getfield 26, 3) := by decide +kernel
theorem d_Co_readPattern_16 : decode b_Co_readPattern 16 = .ok (.iload_n 2, 1) := by decide +kernel
theorem d_Co_readPattern_17 : decode b_Co_readPattern 17 = .ok (.aload_n 0, 1) := by decide +kernel
theorem d_Co_readPattern_18 : decode b_Co_readPattern 18 = .ok (.getfield 18, 3) := by decide +kernel
theorem d_Co_readPattern_21 : decode b_Co_readPattern 21 = .ok (.iload_n 1, 1) := by decide +kernel
theorem d_Co_readPattern_22 : decode b_Co_readPattern 22 = .ok (.invokevirtual 73, 3) := by decide +kernel
theorem d_Co_readPattern_25 : decode b_Co_readPattern 25 = .ok (.iastore, 1) := by decide +kernel
theorem d_Co_readPattern_26 : decode b_Co_readPattern 26 = .ok (.iconst 0, 1) := by decide +kernel
theorem d_Co_readPattern_27 : decode b_Co_readPattern 27 = .ok (.istore_n 3, 1) := by decide +kernel
theorem d_Co_readPattern_28 : decode b_Co_readPattern 28 = .ok (.iload_n 3, 1) := by decide +kernel
theorem d_Co_readPattern_29 : decode b_Co_readPattern 29 = .ok (.aload_n 0, 1) := by decide +kernel
theorem d_Co_readPattern_30 : decode b_Co_readPattern 30 = .ok (.getfield 18, 3) := by decide +kernel
theorem d_Co_readPattern_33 : decode b_Co_readPattern 33 = .ok (.iload_n 1, 1) := by decide +kernel
theorem d_Co_readPattern_34 : decode b_Co_readPattern 34 = .ok (.invokevirtual 76, 3) := by decide +kernel
theorem d_Co_readPattern_37 : decode b_Co_readPattern 37 = .ok (.if_icmp .ge 51, 3) := by decide +kernel
theorem d_Co_readPattern_40 : decode b_Co_readPattern 40 = .ok (.aload_n 0, 1) := by decide +kernel
theorem d_Co_readPattern_41 : decode b_Co_readPattern 41 = .ok (.getfield 18, 3) := by decide +kernel
theorem d_Co_readPattern_44 : decode b_Co_readPattern 44 = .ok (.iload_n 1, 1) := by decide +kernel
theorem d_Co_readPattern_45 : decode b_Co_readPattern 45 = .ok (.iload_n 3, 1) := by decide +kernel
theorem d_Co_readPattern_46 : decode b_Co_readPattern 46 = .ok (.invokevirtual 77, 3) := by decide +kernel
theorem d_Co_readPattern_49 : decode b_Co_readPattern 49 = .ok (.istore 4, 2) := by decide +kernel
theorem d_Co_readPattern_51 : decode b_Co_readPattern 51 = .ok (.aload_n 0, 1) := by decide +kernel
theorem d_Co_readPattern_52 : decode b_Co_readPattern 52 = .ok (.getfield 18, 3) := by decide +kernel
theorem d_Co_readPattern_55 : decode b_Co_readPattern 55 = .ok (.iload 4, 2) := by decide +kernel
theorem d_Co_readPattern_57 : decode b_Co_readPattern 57 = .ok (.invokevirtual 67, 3) := by decide +kernel
theorem d_Co_readPattern_60 : decode b_Co_readPattern 60 = .ok (.ifCond .eq 22, 3) := by decide +kernel
theorem d_Co_readPattern_63 : decode b_Co_readPattern 63 = .ok (.aload_n 0, 1) := by decide +kernel
theorem d_Co_readPattern_64 : decode b_Co_readPattern 64 = .ok (.getfield 26, 3) := by decide +kernel
theorem d_Co_readPattern_67 : decode b_Co_readPattern 67 = .ok (.iload_n 2, 1) := by decide +kernel
theorem d_Co_readPattern_68 : decode b_Co_readPattern 68 = .ok (.iconst 1, 1) := by decide +kernel
theorem d_Co_readPattern_69 : decode b_Co_readPattern 69 = .ok (.iadd, 1) := by decide +kernel
theorem d_Co_readPattern_70 : decode b_Co_readPattern 70 = .ok (.iload_n 3, 1) := by decide +kernel
theorem d_Co_readPattern_71 : decode b_Co_readPattern 71 = .ok (.iadd, 1) := by decide +kernel
theorem d_Co_readPattern_72 : decode b_Co_readPattern 72 = .ok (.aload_n 0, 1) := by decide +kernel
theorem d_Co_readPattern_73 : decode b_Co_readPattern 73 = .ok (.getfield 18, 3) := by decide +kernel
theorem d_Co_readPattern_76 : decode b_Co_readPattern 76 = .ok (.iload 4, 2) := by decide +kernel
theorem d_Co_readPattern_78 : decode b_Co_readPattern 78 = .ok (.invokevirtual 73, 3) := by decide +kernel
theorem d_Co_readPattern_81 : decode b_Co_readPattern 81 = .ok (.iastore, 1) := by decide +kernel
theorem d_Co_readPattern_82 : decode b_Co_readPattern 82 = .ok (.iinc 3 1, 3) := by decide +kernel
theorem d_Co_readPattern_85 : decode b_Co_readPattern 85 = .ok (.goto (-57), 3) := by decide +kernel
theorem d_Co_readPattern_88 : decode b_Co_readPattern 88 = .ok (.return_, 1) := by decide +kernel
theorem d_Co_isCovered_0 : decode b_Co_isCovered 0 = .ok (.bipush 12, 2) := by decide +kernel
theorem d_Co_isCovered_2 : decode b_Co_isCovered 2 = .ok (.istore_n 3, 1) := by decide +kernel
theorem d_Co_isCovered_3 : decode b_Co_isCovered 3 = .ok (.iconst 0, 1) := by decide +kernel
theorem d_Co_isCovered_4 : decode b_Co_isCovered 4 = .ok (.istore 4, 2) := by decide +kernel
theorem d_Co_isCovered_6 : decode b_Co_isCovered 6 = .ok (.iconst 0, 1) := by decide +kernel
theorem d_Co_isCovered_7 : decode b_Co_isCovered 7 = .ok (.istore 5, 2) := by decide +kernel
theorem d_Co_isCovered_9 : decode b_Co_isCovered 9 = .ok (.iload 5, 2) := by decide +kernel
theorem d_Co_isCovered_11 : decode b_Co_isCovered 11 = .ok (.aload_n 0, 1) := by decide +kernel
theorem d_Co_isCovered_12 : decode b_Co_isCovered 12 = .ok (.getfield 22, 3) := by decide +kernel
theorem d_Co_isCovered_15 : decode b_Co_isCovered 15 = .ok (.iload_n 1, 1) := by decide +kernel
theorem d_Co_isCovered_16 : decode b_Co_isCovered 16 = .ok (.invokevirtual 47, 3) := by decide +kernel
theorem d_Co_isCovered_19 : decode b_Co_isCovered 19 = .ok (.if_icmp .ge 49, 3) := by decide +kernel
theorem d_Co_isCovered_22 : decode b_Co_isCovered 22 = .ok (.aload_n 0, 1) := by decide +kernel
theorem d_Co_isCovered_23 : decode b_Co_isCovered 23 = .ok (.iload 5, 2) := by decide +kernel
theorem d_Co_isCovered_25 : decode b_Co_isCovered 25 = .ok (.invokevirtual 80, 3) := by decide +kernel
theorem d_Co_isCovered_28 : decode b_Co_isCovered 28 = .ok (.istore 6, 2) := by decide +kernel
theorem d_Co_isCovered_30 : decode b_Co_isCovered 30 = .ok (.iload 6, 2) := by decide +kernel
theorem d_Co_isCovered_32 : decode b_Co_isCovered 32 = .ok (.bipush 12, 2) := by decide +kernel
theorem d_Co_isCovered_34 : decode b_Co_isCovered 34 = .ok (.if_icmp .ne 5, 3) := by decide +kernel
theorem d_Co_isCovered_37 : decode b_Co_isCovered 37 = .ok (.iconst 1, 1) := by decide +kernel
theorem d_Co_isCovered_38 : decode b_Co_isCovered 38 = .ok (.ireturn, 1) := by decide +kernel
theorem d_Co_isCovered_39 : decode b_Co_isCovered 39 = .ok (.iload 6, 2) := by decide +kernel
theorem d_Co_isCovered_41 : decode b_Co_isCovered 41 = .ok (.bipush 13, 2) := by decide +kernel
theorem d_Co_isCovered_43 : decode b_Co_isCovered 43 = .ok (.if_icmp .eq 19, 3) := by decide +kernel
theorem d_Co_isCovered_46 : decode b_Co_isCovered 46 = .ok (.iload_n 3, 1) := by decide +kernel
theorem d_Co_isCovered_47 : decode b_Co_isCovered 47 = .ok (.iload 6, 2) := by decide +kernel
theorem d_Co_isCovered_49 : decode b_Co_isCovered 49 = .ok (.invokestatic 83, 3) := by decide +kernel
theorem d_Co_isCovered_52 : decode b_Co_isCovered 52 = .ok (.istore_n 3, 1) := by decide +kernel
theorem d_Co_isCovered_53 : decode b_Co_isCovered 53 = .ok (.iload 4, 2) := by decide +kernel
theorem d_Co_isCovered_55 : decode b_Co_isCovered 55 = .ok (.iconst 1, 1) := by decide +kernel
theorem d_Co_isCovered_56 : decode b_Co_isCovered 56 = .ok (.iload 5, 2) := by decide +kernel
theorem d_Co_isCovered_58 : decode b_Co_isCovered 58 = .ok (.ishl, 1) := by decide +kernel
theorem d_Co_isCovered_59 : decode b_Co_isCovered 59 = .ok (.ior, 1) := by decide +kernel
theorem d_Co_isCovered_60 : decode b_Co_isCovered 60 = .ok (.istore 4, 2) := by decide +kernel
theorem d_Co_isCovered_62 : decode b_Co_isCovered 62 = .ok (.iinc 5 1, 3) := by decide +kernel
theorem d_Co_isCovered_65 : decode b_Co_isCovered 65 = .ok (.goto (-56), 3) := by decide +kernel
theorem d_Co_isCovered_68 : decode b_Co_isCovered 68 = .ok (.iload 4, 2) := by decide +kernel
theorem d_Co_isCovered_70 : decode b_Co_isCovered 70 = .ok (.ifCond .eq 9, 3) := by decide +kernel
theorem d_Co_isCovered_73 : decode b_Co_isCovered 73 = .ok (.iload_n 2, 1) := by decide +kernel
theorem d_Co_isCovered_74 : decode b_Co_isCovered 74 = .ok (.bipush 12, 2) := by decide +kernel
theorem d_Co_isCovered_76 : decode b_Co_isCovered 76 = .ok (.if_icmp .lt 5, 3) := by decide +kernel
theorem d_Co_isCovered_79 : decode b_Co_isCovered 79 = .ok (.iconst 0, 1) := by decide +kernel
theorem d_Co_isCovered_80 : decode b_Co_isCovered 80 = .ok (.ireturn, 1) := by decide +kernel
theorem d_Co_isCovered_81 : decode b_Co_isCovered 81 = .ok (.aload_n 0, 1) := by decide +kernel
theorem d_Co_isCovered_82 : decode b_Co_isCovered 82 = .ok (.iload_n 1, 1) := by decide +kernel
theorem d_Co_isCovered_83 : decode b_Co_isCovered 83 = .ok (.iload_n 3, 1) := by decide +kernel
theorem d_Co_isCovered_84 : decode b_Co_isCovered 84 = .ok (.iload 4, 2) := by decide +kernel
theorem d_Co_isCovered_86 : decode b_Co_isCovered 86 = .ok (.iload_n 2, 1) := by decide +kernel
theorem d_Co_isCovered_87 : decode b_Co_isCovered 87 = .ok (.invokevirtual 88, 3) := by decide +kernel
theorem d_Co_isCovered_90 : decode b_Co_isCovered 90 = .ok (.istore 5, 2) := by decide +kernel
theorem d_Co_isCovered_92 : decode b_Co_isCovered 92 = .ok (.aload_n 0, 1) := by decide +kernel
theorem d_Co_isCovered_93 : decode b_Co_isCovered 93 = .ok (.getfield 30, 3) := by decide +kernel
theorem d_Co_isCovered_96 : decode b_Co_isCovered 96 = .ok (.iload_n 3, 1) := by decide +kernel
theorem d_Co_isCovered_97 : decode b_Co_isCovered 97 = .ok (.iconst (-1), 1) := by decide +kernel
theorem d_Co_isCovered_98 : decode b_Co_isCovered 98 = .ok (.iastore, 1) := by decide +kernel
theorem d_Co_isCovered_99 : decode b_Co_isCovered 99 = .ok (.iload 5, 2) := by decide +kernel
theorem d_Co_isCovered_101 : decode b_Co_isCovered 101 = .ok (.ireturn, 1) := by decide +kernel
theorem d_Co_compare_0 : decode b_Co_compare 0 = .ok (.bipush 12, 2) := by decide +kernel
theorem d_Co_compare_2 : decode b_Co_compare 2 = .ok (.istore_n 2, 1) := by decide +kernel
theorem d_Co_compare_3 : decode b_Co_compare 3 = .ok (.iconst 0, 1) := by decide +kernel
theorem d_Co_compare_4 : decode b_Co_compare 4 = .ok (.istore_n 3, 1) := by decide +kernel
theorem d_Co_compare_5 : decode b_Co_compare 5 = .ok (.iload_n 3, 1) := by decide +kernel
theorem d_Co_compare_6 : decode b_Co_compare 6 = .ok (.bipush 12, 2) := by decide +kernel
theorem d_Co_compare_8 : decode b_Co_compare 8 = .ok (.if_icmp .ge 64, 3) := by decide +kernel
theorem d_Co_compare_11 : decode b_Co_compare 11 = .ok (.aload_n 0, 1) := by decide +kernel
theorem d_Co_compare_12 : decode b_Co_compare 12 = .ok (.getfield 26, 3) := by decide +kernel
theorem d_Co_compare_15 : decode b_Co_compare 15 = .ok (.iload_n 1, 1) := by decide +kernel
theorem d_Co_compare_16 : decode b_Co_compare 16 = .ok (.bipush 12, 2) := by decide +kernel
theorem d_Co_compare_18 : decode b_Co_compare 18 = .ok (.imul, 1) := by decide +kernel
theorem d_Co_compare_19 : decode b_Co_compare 19 = .ok (.iload_n 3, 1) := by decide +kernel
theorem d_Co_compare_20 : decode b_Co_compare 20 = .ok (.iadd, 1) := by decide +kernel
theorem d_Co_compare_21 : decode b_Co_compare 21 = .ok (.iaload, 1) := by decide +kernel
theorem d_Co_compare_22 : decode b_Co_compare 22 = .ok (.istore 4, 2) := by decide +kernel
theorem d_Co_compare_24 : decode b_Co_compare 24 = .ok (.iload 4, 2) := by decide +kernel
theorem d_Co_compare_26 : decode b_Co_compare 26 = .ok (.iconst (-1), 1) := by decide +kernel
theorem d_Co_compare_27 : decode b_Co_compare 27 = .ok (.if_icmp .ne 6, 3) := by decide +kernel
theorem d_Co_compare_30 : decode b_Co_compare 30 = .ok (.goto 36, 3) := by decide +kernel
theorem d_Co_compare_33 : decode b_Co_compare 33 = .ok (.aload_n 0, 1) := by decide +kernel
theorem d_Co_compare_34 : decode b_Co_compare 34 = .ok (.getfield 30, 3) := by decide +kernel
theorem d_Co_compare_37 : decode b_Co_compare 37 = .ok (.iload_n 3, 1) := by decide +kernel
theorem d_Co_compare_38 : decode b_Co_compare 38 = .ok (.iaload, 1) := by decide +kernel
theorem d_Co_compare_39 : decode b_Co_compare 39 = .ok (.iconst (-1), 1) := by decide +kernel
theorem d_Co_compare_40 : decode b_Co_compare 40 = .ok (.if_icmp .ne 12, 3) := by decide +kernel
theorem d_Co_compare_43 : decode b_Co_compare 43 = .ok (.iload_n 2, 1) := by decide +kernel
theorem d_Co_compare_44 : decode b_Co_compare 44 = .ok (.iload_n 3, 1) := by decide +kernel
theorem d_Co_compare_45 : decode b_Co_compare 45 = .ok (.invokestatic 83, 3) := by decide +kernel
theorem d_Co_compare_48 : decode b_Co_compare 48 = .ok (.istore_n 2, 1) := by decide +kernel
theorem d_Co_compare_49 : decode b_Co_compare 49 = .ok (.goto 17, 3) := by decide +kernel
theorem d_Co_compare_52 : decode b_Co_compare 52 = .ok (.aload_n 0, 1) := by decide +kernel
theorem d_Co_compare_53 : decode b_Co_compare 53 = .ok (.getfield 30, 3) := by decide +kernel
theorem d_Co_compare_56 : decode b_Co_compare 56 = .ok (.iload_n 3, 1) := by decide +kernel
theorem d_Co_compare_57 : decode b_Co_compare 57 = .ok (.iaload, 1) := by decide +kernel
theorem d_Co_compare_58 : decode b_Co_compare 58 = .ok (.iload 4, 2) := by decide +kernel
theorem d_Co_compare_60 : decode b_Co_compare 60 = .ok (.if_icmp .eq 6, 3) := by decide +kernel
theorem d_Co_compare_63 : decode b_Co_compare 63 = .ok (.bipush 13, 2) := by decide +kernel
theorem d_Co_compare_65 : decode b_Co_compare 65 = .ok (.ireturn, 1) := by decide +kernel
theorem d_Co_compare_66 : decode b_Co_compare 66 = .ok (.iinc 3 1, 3) := by decide +kernel
theorem d_Co_compare_69 : decode b_Co_compare 69 = .ok (.goto (-64), 3) := by decide +kernel
theorem d_Co_compare_72 : decode b_Co_compare 72 = .ok (.iload_n 2, 1) := by decide +kernel
theorem d_Co_compare_73 : decode b_Co_compare 73 = .ok (.ireturn, 1) := by decide +kernel
theorem d_Co_isCoveredWhenSplit_0 : decode b_Co_isCoveredWhenSplit 0 = .ok (.aload_n 0, 1) := by decide +kernel
theorem d_Co_isCoveredWhenSplit_1 : decode b_Co_isCoveredWhenSplit 1 = .ok (.iload_n 1, 1) := by decide +kernel
theorem d_Co_isCoveredWhenSplit_2 : decode b_Co_isCoveredWhenSplit 2 = .ok (.iload_n 2, 1) := by decide +kernel
theorem d_Co_isCoveredWhenSplit_3 : decode b_Co_isCoveredWhenSplit 3 = .ok (.invokevirtual 92, 3) := by decide +kernel
theorem d_Co_isCoveredWhenSplit_6 : decode b_Co_isCoveredWhenSplit 6 = .ok (.istore 5, 2) := by decide +kernel
theorem d_Co_isCoveredWhenSplit_8 : decode b_Co_isCoveredWhenSplit 8 = .ok (.aload_n 0, 1) := by decide +kernel
theorem d_Co_isCoveredWhenSplit_9 : decode b_Co_isCoveredWhenSplit 9 = .ok (.iload_n 2, 1) := by decide +kernel
theorem d_Co_isCoveredWhenSplit_10 : decode b_Co_isCoveredWhenSplit 10 = .ok (.iload_n 3, 1) := by decide +kernel
theorem d_Co_isCoveredWhenSplit_11 : decode b_Co_isCoveredWhenSplit 11 = .ok (.iload 5, 2) := by decide +kernel
theorem d_Co_isCoveredWhenSplit_13 : decode b_Co_isCoveredWhenSplit 13 = .ok (.invokevirtual 95, 3) := by decide +kernel
theorem d_Co_isCoveredWhenSplit_16 : decode b_Co_isCoveredWhenSplit 16 = .ok (.istore 6, 2) := by decide +kernel
theorem d_Co_isCoveredWhenSplit_18 : decode b_Co_isCoveredWhenSplit 18 = .ok (.iload 6, 2) := by decide +kernel
theorem d_Co_isCoveredWhenSplit_20 : decode b_Co_isCoveredWhenSplit 20 = .ok (.iconst (-1), 1) := by decide +kernel
theorem d_Co_isCoveredWhenSplit_21 : decode b_Co_isCoveredWhenSplit 21 = .ok (.if_icmp .eq 21, 3) := by decide +kernel
theorem d_Co_isCoveredWhenSplit_24 : decode b_Co_isCoveredWhenSplit 24 = .ok (.aload_n 0, 1) := by decide +kernel
theorem d_Co_isCoveredWhenSplit_25 : decode b_Co_isCoveredWhenSplit 25 = .ok (.getfield 30, 3) := by decide +kernel
theorem d_Co_isCoveredWhenSplit_28 : decode b_Co_isCoveredWhenSplit 28 = .ok (.iload_n 2, 1) := by decide +kernel
theorem d_Co_isCoveredWhenSplit_29 : decode b_Co_isCoveredWhenSplit 29 = .ok (.iload 6, 2) := by decide +kernel
theorem d_Co_isCoveredWhenSplit_31 : decode b_Co_isCoveredWhenSplit 31 = .ok (.iastore, 1) := by decide +kernel
theorem d_Co_isCoveredWhenSplit_32 : decode b_Co_isCoveredWhenSplit 32 = .ok (.aload_n 0, 1) := by decide +kernel
theorem d_Co_isCoveredWhenSplit_33 : decode b_Co_isCoveredWhenSplit 33 = .ok (.iload_n 1, 1) := by decide +kernel
theorem d_Co_isCoveredWhenSplit_34 : decode b_Co_isCoveredWhenSplit 34 = .ok (.iload 4, 2) := by decide +kernel
theorem d_Co_isCoveredWhenSplit_36 : decode b_Co_isCoveredWhenSplit 36 = .ok (.iconst 1, 1) := by decide +kernel
theorem d_Co_isCoveredWhenSplit_37 : decode b_Co_isCoveredWhenSplit 37 = .ok (.iadd, 1) := by decide +kernel
theorem d_Co_isCoveredWhenSplit_38 : decode b_Co_isCoveredWhenSplit 38 = .ok (.invokevirtual 43, 3) := by decide +kernel
theorem d_Co_isCoveredWhenSplit_41 : decode b_Co_isCoveredWhenSplit 41 = .ok (.ireturn, 1) := by decide +kernel
theorem d_Co_isCoveredWhenSplit_42 : decode b_Co_isCoveredWhenSplit 42 = .ok (.iconst 0, 1) := by decide +kernel
theorem d_Co_isCoveredWhenSplit_43 : decode b_Co_isCoveredWhenSplit 43 = .ok (.istore 7, 2) := by decide +kernel
theorem d_Co_isCoveredWhenSplit_45 : decode b_Co_isCoveredWhenSplit 45 = .ok (.iload 7, 2) := by decide +kernel
theorem d_Co_isCoveredWhenSplit_47 : decode b_Co_isCoveredWhenSplit 47 = .ok (.aload_n 0, 1) := by decide +kernel
theorem d_Co_isCoveredWhenSplit_48 : decode b_Co_isCoveredWhenSplit 48 = .ok (.getfield 11, 3) := by decide +kernel
theorem d_Co_isCoveredWhenSplit_51 : decode b_Co_isCoveredWhenSplit 51 = .ok (.invokevirtual 33, 3) := by decide +kernel
theorem d_Co_isCoveredWhenSplit_54 : decode b_Co_isCoveredWhenSplit 54 = .ok (.if_icmp .ge 48, 3) := by decide +kernel
theorem d_Co_isCoveredWhenSplit_57 : decode b_Co_isCoveredWhenSplit 57 = .ok (.aload_n 0, 1) := by decide +kernel
theorem d_Co_isCoveredWhenSplit_58 : decode b_Co_isCoveredWhenSplit 58 = .ok (.getfield 11, 3) := by decide +kernel
theorem d_Co_isCoveredWhenSplit_61 : decode b_Co_isCoveredWhenSplit 61 = .ok (.iload 7, 2) := by decide +kernel
theorem d_Co_isCoveredWhenSplit_63 : decode b_Co_isCoveredWhenSplit 63 = .ok (.invokevirtual 99, 3) := by decide +kernel
theorem d_Co_isCoveredWhenSplit_66 : decode b_Co_isCoveredWhenSplit 66 = .ok (.iload 5, 2) := by decide +kernel
theorem d_Co_isCoveredWhenSplit_68 : decode b_Co_isCoveredWhenSplit 68 = .ok (.if_icmp .eq 6, 3) := by decide +kernel
theorem d_Co_isCoveredWhenSplit_71 : decode b_Co_isCoveredWhenSplit 71 = .ok (.goto 25, 3) := by decide +kernel
theorem d_Co_isCoveredWhenSplit_74 : decode b_Co_isCoveredWhenSplit 74 = .ok (.aload_n 0, 1) := by decide +kernel
theorem d_Co_isCoveredWhenSplit_75 : decode b_Co_isCoveredWhenSplit 75 = .ok (.getfield 30, 3) := by decide +kernel
theorem d_Co_isCoveredWhenSplit_78 : decode b_Co_isCoveredWhenSplit 78 = .ok (.iload_n 2, 1) := by decide +kernel
theorem d_Co_isCoveredWhenSplit_79 : decode b_Co_isCoveredWhenSplit 79 = .ok (.iload 7, 2) := by decide +kernel
theorem d_Co_isCoveredWhenSplit_81 : decode b_Co_isCoveredWhenSplit 81 = .ok (.iastore, 1) := by decide +kernel
theorem d_Co_isCoveredWhenSplit_82 : decode b_Co_isCoveredWhenSplit 82 = .ok (.aload_n 0, 1) := by decide +kernel
theorem d_Co_isCoveredWhenSplit_83 : decode b_Co_isCoveredWhenSplit 83 = .ok (.iload_n 1, 1) := by decide +kernel
theorem d_Co_isCoveredWhenSplit_84 : decode b_Co_isCoveredWhenSplit 84 = .ok (.iload 4, 2) := by decide +kernel
theorem d_Co_isCoveredWhenSplit_86 : decode b_Co_isCoveredWhenSplit 86 = .ok (.iconst 1, 1) := by decide +kernel
theorem d_Co_isCoveredWhenSplit_87 : decode b_Co_isCoveredWhenSplit 87 = .ok (.iadd, 1) := by decide +kernel
theorem d_Co_isCoveredWhenSplit_88 : decode b_Co_isCoveredWhenSplit 88 = .ok (.invokevirtual 43, 3) := by decide +kernel
theorem d_Co_isCoveredWhenSplit_91 : decode b_Co_isCoveredWhenSplit 91 = .ok (.ifCond .ne 5, 3) := by decide +kernel
theorem d_Co_isCoveredWhenSplit_94 : decode b_Co_isCoveredWhenSplit 94 = .ok (.iconst 0, 1) := by decide +kernel
theorem d_Co_isCoveredWhenSplit_95 : decode b_Co_isCoveredWhenSplit 95 = .ok (.ireturn, 1) := by decide +kernel
theorem d_Co_isCoveredWhenSplit_96 : decode b_Co_isCoveredWhenSplit 96 = .ok (.iinc 7 1, 3) := by decide +kernel
theorem d_Co_isCoveredWhenSplit_99 : decode b_Co_isCoveredWhenSplit 99 = .ok (.goto (-54), 3) := by decide +kernel
theorem d_Co_isCoveredWhenSplit_102 : decode b_Co_isCoveredWhenSplit 102 = .ok (.iconst 1, 1) := by decide +kernel
theorem d_Co_isCoveredWhenSplit_103 : decode b_Co_isCoveredWhenSplit 103 = .ok (.ireturn, 1) := by decide +kernel
theorem d_Co_slotType_0 : decode b_Co_slotType 0 = .ok (.iload_n 2, 1) := by decide +kernel
theorem d_Co_slotType_1 : decode b_Co_slotType 1 = .ok (.iconst 4, 1) := by decide +kernel
theorem d_Co_slotType_2 : decode b_Co_slotType 2 = .ok (.idiv, 1) := by decide +kernel
theorem d_Co_slotType_3 : decode b_Co_slotType 3 = .ok (.istore_n 3, 1) := by decide +kernel
theorem d_Co_slotType_4 : decode b_Co_slotType 4 = .ok (.iload_n 2, 1) := by decide +kernel
theorem d_Co_slotType_5 : decode b_Co_slotType 5 = .ok (.iconst 4, 1) := by decide +kernel
theorem d_Co_slotType_6 : decode b_Co_slotType 6 = .ok (.irem, 1) := by decide +kernel
theorem d_Co_slotType_7 : decode b_Co_slotType 7 = .ok (.istore 4, 2) := by decide +kernel
theorem d_Co_slotType_9 : decode b_Co_slotType 9 = .ok (.iload 4, 2) := by decide +kernel
theorem d_Co_slotType_11 : decode b_Co_slotType 11 = .ok (.ifCond .ne 13, 3) := by decide +kernel
theorem d_Co_slotType_14 : decode b_Co_slotType 14 = .ok (.aload_n 0, 1) := by decide +kernel
theorem d_Co_slotType_15 : decode b_Co_slotType 15 = .ok (.getfield 15, 3) := by decide +kernel
theorem d_Co_slotType_18 : decode b_Co_slotType 18 = .ok (.iload_n 1, 1) := by decide +kernel
theorem d_Co_slotType_19 : decode b_Co_slotType 19 = .ok (.iload_n 3, 1) := by decide +kernel
theorem d_Co_slotType_20 : decode b_Co_slotType 20 = .ok (.invokevirtual 106, 3) := by decide +kernel
theorem d_Co_slotType_23 : decode b_Co_slotType 23 = .ok (.ireturn, 1) := by decide +kernel
theorem d_Co_slotType_24 : decode b_Co_slotType 24 = .ok (.aload_n 0, 1) := by decide +kernel
theorem d_Co_slotType_25 : decode b_Co_slotType 25 = .ok (.getfield 30, 3) := by decide +kernel
theorem d_Co_slotType_28 : decode b_Co_slotType 28 = .ok (.iload_n 3, 1) := by decide +kernel
theorem d_Co_slotType_29 : decode b_Co_slotType 29 = .ok (.iconst 4, 1) := by decide +kernel
theorem d_Co_slotType_30 : decode b_Co_slotType 30 = .ok (.imul, 1) := by decide +kernel
theorem d_Co_slotType_31 : decode b_Co_slotType 31 = .ok (.iaload, 1) := by decide +kernel
theorem d_Co_slotType_32 : decode b_Co_slotType 32 = .ok (.istore 5, 2) := by decide +kernel
theorem d_Co_slotType_34 : decode b_Co_slotType 34 = .ok (.iload 5, 2) := by decide +kernel
theorem d_Co_slotType_36 : decode b_Co_slotType 36 = .ok (.iconst (-1), 1) := by decide +kernel
theorem d_Co_slotType_37 : decode b_Co_slotType 37 = .ok (.if_icmp .ne 7, 3) := by decide +kernel
theorem d_Co_slotType_40 : decode b_Co_slotType 40 = .ok (.iconst (-1), 1) := by decide +kernel
theorem d_Co_slotType_41 : decode b_Co_slotType 41 = .ok (.goto 16, 3) := by decide +kernel
theorem d_Co_slotType_44 : decode b_Co_slotType 44 = .ok (.aload_n 0, 1) := by decide +kernel
theorem d_Co_slotType_45 : decode b_Co_slotType 45 = .ok (.getfield 11, 3) := by decide +kernel
theorem d_Co_slotType_48 : decode b_Co_slotType 48 = .ok (.iload 5, 2) := by decide +kernel
theorem d_Co_slotType_50 : decode b_Co_slotType 50 = .ok (.iload 4, 2) := by decide +kernel
theorem d_Co_slotType_52 : decode b_Co_slotType 52 = .ok (.iconst 1, 1) := by decide +kernel
theorem d_Co_slotType_53 : decode b_Co_slotType 53 = .ok (.isub, 1) := by decide +kernel
theorem d_Co_slotType_54 : decode b_Co_slotType 54 = .ok (.invokevirtual 106, 3) := by decide +kernel
theorem d_Co_slotType_57 : decode b_Co_slotType 57 = .ok (.ireturn, 1) := by decide +kernel
theorem d_Co_constructorThatNoneNames_0 : decode b_Co_constructorThatNoneNames 0 = .ok (.iconst 0, 1) := by decide +kernel
theorem d_Co_constructorThatNoneNames_1 : decode b_Co_constructorThatNoneNames 1 = .ok (.istore 4, 2) := by decide +kernel
theorem d_Co_constructorThatNoneNames_3 : decode b_Co_constructorThatNoneNames 3 = .ok (.iload 4, 2) := by decide +kernel
theorem d_Co_constructorThatNoneNames_5 : decode b_Co_constructorThatNoneNames 5 = .ok (.aload_n 0, 1) := by decide +kernel
theorem d_Co_constructorThatNoneNames_6 : decode b_Co_constructorThatNoneNames 6 = .ok (.getfield 11, 3) := by decide +kernel
theorem d_Co_constructorThatNoneNames_9 : decode b_Co_constructorThatNoneNames 9 = .ok (.invokevirtual 33, 3) := by decide +kernel
theorem d_Co_constructorThatNoneNames_12 : decode b_Co_constructorThatNoneNames 12 = .ok (.if_icmp .ge 36, 3) := by decide +kernel
theorem d_Co_constructorThatNoneNames_15 : decode b_Co_constructorThatNoneNames 15 = .ok (.aload_n 0, 1) := by decide +kernel
theorem d_Co_constructorThatNoneNames_16 : decode b_Co_constructorThatNoneNames 16 = .ok (.getfield 11, 3) := by decide +kernel
theorem d_Co_constructorThatNoneNames_19 : decode b_Co_constructorThatNoneNames 19 = .ok (.iload 4, 2) := by decide +kernel
theorem d_Co_constructorThatNoneNames_21 : decode b_Co_constructorThatNoneNames 21 = .ok (.invokevirtual 99, 3) := by decide +kernel
theorem d_Co_constructorThatNoneNames_24 : decode b_Co_constructorThatNoneNames 24 = .ok (.iload_n 3, 1) := by decide +kernel
theorem d_Co_constructorThatNoneNames_25 : decode b_Co_constructorThatNoneNames 25 = .ok (.if_icmp .ne 17, 3) := by decide +kernel
theorem d_Co_constructorThatNoneNames_28 : decode b_Co_constructorThatNoneNames 28 = .ok (.aload_n 0, 1) := by decide +kernel
theorem d_Co_constructorThatNoneNames_29 : decode b_Co_constructorThatNoneNames 29 = .ok (.iload_n 1, 1) := by decide +kernel
theorem d_Co_constructorThatNoneNames_30 : decode b_Co_constructorThatNoneNames 30 = .ok (.iload_n 2, 1) := by decide +kernel
theorem d_Co_constructorThatNoneNames_31 : decode b_Co_constructorThatNoneNames 31 = .ok (.iload 4, 2) := by decide +kernel
theorem d_Co_constructorThatNoneNames_33 : decode b_Co_constructorThatNoneNames 33 = .ok (.invokevirtual 102, 3) := by decide +kernel
theorem d_Co_constructorThatNoneNames_36 : decode b_Co_constructorThatNoneNames 36 = .ok (.ifCond .ne 6, 3) := by decide +kernel
theorem d_Co_constructorThatNoneNames_39 : decode b_Co_constructorThatNoneNames 39 = .ok (.iload 4, 2) := by decide +kernel
theorem d_Co_constructorThatNoneNames_41 : decode b_Co_constructorThatNoneNames 41 = .ok (.ireturn, 1) := by decide +kernel
theorem d_Co_constructorThatNoneNames_42 : decode b_Co_constructorThatNoneNames 42 = .ok (.iinc 4 1, 3) := by decide +kernel
theorem d_Co_constructorThatNoneNames_45 : decode b_Co_constructorThatNoneNames 45 = .ok (.goto (-42), 3) := by decide +kernel
theorem d_Co_constructorThatNoneNames_48 : decode b_Co_constructorThatNoneNames 48 = .ok (.iconst (-1), 1) := by decide +kernel
theorem d_Co_constructorThatNoneNames_49 : decode b_Co_constructorThatNoneNames 49 = .ok (.ireturn, 1) := by decide +kernel
theorem d_Co_isNamed_0 : decode b_Co_isNamed 0 = .ok (.iconst 0, 1) := by decide +kernel
theorem d_Co_isNamed_1 : decode b_Co_isNamed 1 = .ok (.istore 4, 2) := by decide +kernel
theorem d_Co_isNamed_3 : decode b_Co_isNamed 3 = .ok (.iload 4, 2) := by decide +kernel
theorem d_Co_isNamed_5 : decode b_Co_isNamed 5 = .ok (.bipush 6, 2) := by decide +kernel
theorem d_Co_isNamed_7 : decode b_Co_isNamed 7 = .ok (.if_icmp .ge 37, 3) := by decide +kernel
theorem d_Co_isNamed_10 : decode b_Co_isNamed 10 = .ok (.iload_n 2, 1) := by decide +kernel
theorem d_Co_isNamed_11 : decode b_Co_isNamed 11 = .ok (.iload 4, 2) := by decide +kernel
theorem d_Co_isNamed_13 : decode b_Co_isNamed 13 = .ok (.ishr, 1) := by decide +kernel
theorem d_Co_isNamed_14 : decode b_Co_isNamed 14 = .ok (.iconst 1, 1) := by decide +kernel
theorem d_Co_isNamed_15 : decode b_Co_isNamed 15 = .ok (.iand, 1) := by decide +kernel
theorem d_Co_isNamed_16 : decode b_Co_isNamed 16 = .ok (.iconst 1, 1) := by decide +kernel
theorem d_Co_isNamed_17 : decode b_Co_isNamed 17 = .ok (.if_icmp .ne 21, 3) := by decide +kernel
theorem d_Co_isNamed_20 : decode b_Co_isNamed 20 = .ok (.aload_n 0, 1) := by decide +kernel
theorem d_Co_isNamed_21 : decode b_Co_isNamed 21 = .ok (.getfield 26, 3) := by decide +kernel
theorem d_Co_isNamed_24 : decode b_Co_isNamed 24 = .ok (.iload 4, 2) := by decide +kernel
theorem d_Co_isNamed_26 : decode b_Co_isNamed 26 = .ok (.bipush 12, 2) := by decide +kernel
theorem d_Co_isNamed_28 : decode b_Co_isNamed 28 = .ok (.imul, 1) := by decide +kernel
theorem d_Co_isNamed_29 : decode b_Co_isNamed 29 = .ok (.iload_n 1, 1) := by decide +kernel
theorem d_Co_isNamed_30 : decode b_Co_isNamed 30 = .ok (.iadd, 1) := by decide +kernel
theorem d_Co_isNamed_31 : decode b_Co_isNamed 31 = .ok (.iaload, 1) := by decide +kernel
theorem d_Co_isNamed_32 : decode b_Co_isNamed 32 = .ok (.iload_n 3, 1) := by decide +kernel
theorem d_Co_isNamed_33 : decode b_Co_isNamed 33 = .ok (.if_icmp .ne 5, 3) := by decide +kernel
theorem d_Co_isNamed_36 : decode b_Co_isNamed 36 = .ok (.iconst 1, 1) := by decide +kernel
theorem d_Co_isNamed_37 : decode b_Co_isNamed 37 = .ok (.ireturn, 1) := by decide +kernel
theorem d_Co_isNamed_38 : decode b_Co_isNamed 38 = .ok (.iinc 4 1, 3) := by decide +kernel
theorem d_Co_isNamed_41 : decode b_Co_isNamed 41 = .ok (.goto (-38), 3) := by decide +kernel
theorem d_Co_isNamed_44 : decode b_Co_isNamed 44 = .ok (.iconst 0, 1) := by decide +kernel
theorem d_Co_isNamed_45 : decode b_Co_isNamed 45 = .ok (.ireturn, 1) := by decide +kernel
