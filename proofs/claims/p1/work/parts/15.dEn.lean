theorem d_En_init_0 : decode b_En_init 0 = .ok (.aload_n 0, 1) := by decide +kernel
theorem d_En_init_1 : decode b_En_init 1 = .ok (.invokespecial 5, 3) := by decide +kernel
theorem d_En_init_4 : decode b_En_init 4 = .ok (.aload_n 0, 1) := by decide +kernel
theorem d_En_init_5 : decode b_En_init 5 = .ok (.aload_n 1, 1) := by decide +kernel
theorem d_En_init_6 : decode b_En_init 6 = .ok (.putfield 11, 3) := by decide +kernel
theorem d_En_init_9 : decode b_En_init 9 = .ok (.aload_n 0, 1) := by decide +kernel
theorem d_En_init_10 : decode b_En_init 10 = .ok (.aload_n 2, 1) := by decide +kernel
theorem d_En_init_11 : decode b_En_init 11 = .ok (.putfield 15, 3) := by decide +kernel
theorem d_En_init_14 : decode b_En_init 14 = .ok (.aload_n 0, 1) := by decide +kernel
theorem d_En_init_15 : decode b_En_init 15 = .ok (.aload_n 3, 1) := by decide +kernel
theorem d_En_init_16 : decode b_En_init 16 = .ok (.putfield 19, 3) := by decide +kernel
theorem d_En_init_19 : decode b_En_init 19 = .ok (.aload_n 0, 1) := by decide +kernel
theorem d_En_init_20 : decode b_En_init 20 = .ok (.bipush 40, 2) := by decide +kernel
theorem d_En_init_22 : decode b_En_init 22 = .ok (.newarray .int, 2) := by decide +kernel
theorem d_En_init_24 : decode b_En_init 24 = .ok (.putfield 23, 3) := by decide +kernel
theorem d_En_init_27 : decode b_En_init 27 = .ok (.aload_n 0, 1) := by decide +kernel
theorem d_En_init_28 : decode b_En_init 28 = .ok (.sipush 200, 3) := by decide +kernel
theorem d_En_init_31 : decode b_En_init 31 = .ok (.newarray .int, 2) := by decide +kernel
theorem d_En_init_33 : decode b_En_init 33 = .ok (.putfield 27, 3) := by decide +kernel
theorem d_En_init_36 : decode b_En_init 36 = .ok (.aload_n 0, 1) := by decide +kernel
theorem d_En_init_37 : decode b_En_init 37 = .ok (.sipush 512, 3) := by decide +kernel
theorem d_En_init_40 : decode b_En_init 40 = .ok (.newarray .int, 2) := by decide +kernel
theorem d_En_init_42 : decode b_En_init 42 = .ok (.putfield 30, 3) := by decide +kernel
theorem d_En_init_45 : decode b_En_init 45 = .ok (.return_, 1) := by decide +kernel
theorem d_En_makeGraphs_0 : decode b_En_makeGraphs 0 = .ok (.aload_n 0, 1) := by decide +kernel
theorem d_En_makeGraphs_1 : decode b_En_makeGraphs 1 = .ok (.iconst 0, 1) := by decide +kernel
theorem d_En_makeGraphs_2 : decode b_En_makeGraphs 2 = .ok (.putfield 79, 3) := by decide +kernel
theorem d_En_makeGraphs_5 : decode b_En_makeGraphs 5 = .ok (.aload_n 0, 1) := by decide +kernel
theorem d_En_makeGraphs_6 : decode b_En_makeGraphs 6 = .ok (.iconst 0, 1) := by decide +kernel
theorem d_En_makeGraphs_7 : decode b_En_makeGraphs 7 = .ok (.putfield 82, 3) := by decide +kernel
theorem d_En_makeGraphs_10 : decode b_En_makeGraphs 10 = .ok (.iconst 0, 1) := by decide +kernel
theorem d_En_makeGraphs_11 : decode b_En_makeGraphs 11 = .ok (.istore_n 1, 1) := by decide +kernel
theorem d_En_makeGraphs_12 : decode b_En_makeGraphs 12 = .ok (.iload_n 1, 1) := by decide +kernel
theorem d_En_makeGraphs_13 : decode b_En_makeGraphs 13 = .ok (.sipush 512, 3) := by decide +kernel
theorem d_En_makeGraphs_16 : decode b_En_makeGraphs 16 = .ok (.if_icmp .ge 16, 3) := by decide +kernel
theorem d_En_makeGraphs_19 : decode b_En_makeGraphs 19 = .ok (.aload_n 0, 1) := by decide +kernel
theorem d_En_makeGraphs_20 : decode b_En_makeGraphs 20 = .ok (.getfield 30, 3) := by decide +kernel
theorem d_En_makeGraphs_23 : decode b_En_makeGraphs 23 = .ok (.iload_n 1, 1) := by decide +kernel
theorem d_En_makeGraphs_24 : decode b_En_makeGraphs 24 = .ok (.iconst (-1), 1) := by decide +kernel
theorem d_En_makeGraphs_25 : decode b_En_makeGraphs 25 = .ok (.iastore, 1) := by decide +kernel
theorem d_En_makeGraphs_26 : decode b_En_makeGraphs 26 = .ok (.iinc 1 1, 3) := by decide +kernel
theorem d_En_makeGraphs_29 : decode b_En_makeGraphs 29 = .ok (.goto (-17), 3) := by decide +kernel
theorem d_En_makeGraphs_32 : decode b_En_makeGraphs 32 = .ok (.iconst 0, 1) := by decide +kernel
theorem d_En_makeGraphs_33 : decode b_En_makeGraphs 33 = .ok (.istore_n 1, 1) := by decide +kernel
theorem d_En_makeGraphs_34 : decode b_En_makeGraphs 34 = .ok (.iload_n 1, 1) := by decide +kernel
theorem d_En_makeGraphs_35 : decode b_En_makeGraphs 35 = .ok (.aload_n 0, 1) := by decide +kernel
theorem d_En_makeGraphs_36 : decode b_En_makeGraphs 36 = .ok (.getfield 19, 3) := by decide +kernel
theorem d_En_makeGraphs_39 : decode b_En_makeGraphs 39 = .ok (.invokevirtual 86, 3) := by decide +kernel
theorem d_En_makeGraphs_42 : decode b_En_makeGraphs 42 = .ok (.if_icmp .ge 52, 3) := by decide +kernel
theorem d_En_makeGraphs_45 : decode b_En_makeGraphs 45 = .ok (.aload_n 0, 1) := by decide +kernel
theorem d_En_makeGraphs_46 : decode b_En_makeGraphs 46 = .ok (.getfield 82, 3) := by decide +kernel
theorem d_En_makeGraphs_49 : decode b_En_makeGraphs 49 = .ok (.ifCond .ne 45, 3) := by decide +kernel
theorem d_En_makeGraphs_52 : decode b_En_makeGraphs 52 = .ok (.aload_n 0, 1) := by decide +kernel
theorem d_En_makeGraphs_53 : decode b_En_makeGraphs 53 = .ok (.iload_n 1, 1) := by decide +kernel
theorem d_En_makeGraphs_54 : decode b_En_makeGraphs 54 = .ok (.invokevirtual 33, 3) := by decide +kernel
theorem d_En_makeGraphs_57 : decode b_En_makeGraphs 57 = .ok (.iconst 0, 1) := by decide +kernel
theorem d_En_makeGraphs_58 : decode b_En_makeGraphs 58 = .ok (.istore_n 2, 1) := by decide +kernel
theorem d_En_makeGraphs_59 : decode b_En_makeGraphs 59 = .ok (.iload_n 2, 1) := by decide +kernel
theorem d_En_makeGraphs_60 : decode b_En_makeGraphs 60 = .ok (.aload_n 0, 1) := by decide +kernel
theorem d_En_makeGraphs_61 : decode b_En_makeGraphs 61 = .ok (.getfield 37, 3) := by decide +kernel
theorem d_En_makeGraphs_64 : decode b_En_makeGraphs 64 = .ok (.if_icmp .ge 24, 3) := by decide +kernel
theorem d_En_makeGraphs_67 : decode b_En_makeGraphs 67 = .ok (.aload_n 0, 1) := by decide +kernel
theorem d_En_makeGraphs_68 : decode b_En_makeGraphs 68 = .ok (.aload_n 0, 1) := by decide +kernel
theorem d_En_makeGraphs_69 : decode b_En_makeGraphs 69 = .ok (.iload_n 1, 1) := by decide +kernel
theorem d_En_makeGraphs_70 : decode b_En_makeGraphs 70 = .ok (.aload_n 0, 1) := by decide +kernel
theorem d_En_makeGraphs_71 : decode b_En_makeGraphs 71 = .ok (.getfield 23, 3) := by decide +kernel
theorem d_En_makeGraphs_74 : decode b_En_makeGraphs 74 = .ok (.iload_n 2, 1) := by decide +kernel
theorem d_En_makeGraphs_75 : decode b_En_makeGraphs 75 = .ok (.iaload, 1) := by decide +kernel
theorem d_En_makeGraphs_76 : decode b_En_makeGraphs 76 = .ok (.invokevirtual 90, 3) := by decide +kernel
theorem d_En_makeGraphs_79 : decode b_En_makeGraphs 79 = .ok (.invokevirtual 93, 3) := by decide +kernel
theorem d_En_makeGraphs_82 : decode b_En_makeGraphs 82 = .ok (.iinc 2 1, 3) := by decide +kernel
theorem d_En_makeGraphs_85 : decode b_En_makeGraphs 85 = .ok (.goto (-26), 3) := by decide +kernel
theorem d_En_makeGraphs_88 : decode b_En_makeGraphs 88 = .ok (.iinc 1 1, 3) := by decide +kernel
theorem d_En_makeGraphs_91 : decode b_En_makeGraphs 91 = .ok (.goto (-57), 3) := by decide +kernel
theorem d_En_makeGraphs_94 : decode b_En_makeGraphs 94 = .ok (.aload_n 0, 1) := by decide +kernel
theorem d_En_makeGraphs_95 : decode b_En_makeGraphs 95 = .ok (.aload_n 0, 1) := by decide +kernel
theorem d_En_makeGraphs_96 : decode b_En_makeGraphs 96 = .ok (.getfield 79, 3) := by decide +kernel
theorem d_En_makeGraphs_99 : decode b_En_makeGraphs 99 = .ok (.invokevirtual 96, 3) := by decide +kernel
theorem d_En_makeGraphs_102 : decode b_En_makeGraphs 102 = .ok (.aload_n 0, 1) := by decide +kernel
theorem d_En_makeGraphs_103 : decode b_En_makeGraphs 103 = .ok (.getfield 82, 3) := by decide +kernel
theorem d_En_makeGraphs_106 : decode b_En_makeGraphs 106 = .ok (.ifCond .eq 9, 3) := by decide +kernel
theorem d_En_makeGraphs_109 : decode b_En_makeGraphs 109 = .ok (.sipush 201, 3) := by decide +kernel
theorem d_En_makeGraphs_112 : decode b_En_makeGraphs 112 = .ok (.goto 7, 3) := by decide +kernel
theorem d_En_makeGraphs_115 : decode b_En_makeGraphs 115 = .ok (.aload_n 0, 1) := by decide +kernel
theorem d_En_makeGraphs_116 : decode b_En_makeGraphs 116 = .ok (.getfield 79, 3) := by decide +kernel
theorem d_En_makeGraphs_119 : decode b_En_makeGraphs 119 = .ok (.ireturn, 1) := by decide +kernel
theorem d_En_collectCalls_0 : decode b_En_collectCalls 0 = .ok (.aload_n 0, 1) := by decide +kernel
theorem d_En_collectCalls_1 : decode b_En_collectCalls 1 = .ok (.iconst 0, 1) := by decide +kernel
theorem d_En_collectCalls_2 : decode b_En_collectCalls 2 = .ok (.putfield 37, 3) := by decide +kernel
theorem d_En_collectCalls_5 : decode b_En_collectCalls 5 = .ok (.aload_n 0, 1) := by decide +kernel
theorem d_En_collectCalls_6 : decode b_En_collectCalls 6 = .ok (.aload_n 0, 1) := by decide +kernel
theorem d_En_collectCalls_7 : decode b_En_collectCalls 7 = .ok (.getfield 19, 3) := by decide +kernel
theorem d_En_collectCalls_10 : decode b_En_collectCalls 10 = .ok (.iload_n 1, 1) := by decide +kernel
theorem d_En_collectCalls_11 : decode b_En_collectCalls 11 = .ok (.invokevirtual 41, 3) := by decide +kernel
theorem d_En_collectCalls_14 : decode b_En_collectCalls 14 = .ok (.invokevirtual 47, 3) := by decide +kernel
theorem d_En_collectCalls_17 : decode b_En_collectCalls 17 = .ok (.return_, 1) := by decide +kernel
theorem d_En_collectCallsIn_0 : decode b_En_collectCallsIn 0 = .ok (.aload_n 0, 1) := by decide +kernel
theorem d_En_collectCallsIn_1 : decode b_En_collectCallsIn 1 = .ok (.getfield 15, 3) := by decide +kernel
theorem d_En_collectCallsIn_4 : decode b_En_collectCallsIn 4 = .ok (.iload_n 1, 1) := by decide +kernel
theorem d_En_collectCallsIn_5 : decode b_En_collectCallsIn 5 = .ok (.invokevirtual 50, 3) := by decide +kernel
theorem d_En_collectCallsIn_8 : decode b_En_collectCallsIn 8 = .ok (.ifCond .eq 32, 3) := by decide +kernel
theorem d_En_collectCallsIn_11 : decode b_En_collectCallsIn 11 = .ok (.aload_n 0, 1) := by decide +kernel
theorem d_En_collectCallsIn_12 : decode b_En_collectCallsIn 12 = .ok (.getfield 37, 3) := by decide +kernel
theorem d_En_collectCallsIn_15 : decode b_En_collectCallsIn 15 = .ok (.bipush 40, 2) := by decide +kernel
theorem d_En_collectCallsIn_17 : decode b_En_collectCallsIn 17 = .ok (.if_icmp .ge 23, 3) := by decide +kernel
theorem d_En_collectCallsIn_20 : decode b_En_collectCallsIn 20 = .ok (.aload_n 0, 1) := by decide +kernel
theorem d_En_collectCallsIn_21 : decode b_En_collectCallsIn 21 = .ok (.getfield 23, 3) := by decide +kernel
theorem d_En_collectCallsIn_24 : decode b_En_collectCallsIn 24 = .ok (.aload_n 0, 1) := by decide +kernel
theorem d_En_collectCallsIn_25 : decode b_En_collectCallsIn 25 = .ok (.getfield 37, 3) := by decide +kernel
theorem d_En_collectCallsIn_28 : decode b_En_collectCallsIn 28 = .ok (.iload_n 1, 1) := by decide +kernel
theorem d_En_collectCallsIn_29 : decode b_En_collectCallsIn 29 = .ok (.iastore, 1) := by decide +kernel
theorem d_En_collectCallsIn_30 : decode b_En_collectCallsIn 30 = .ok (.aload_n 0, 1) := by decide +kernel
theorem d_En_collectCallsIn_31 : decode b_En_collectCallsIn 31 = .ok (.dup, 1) := by decide +kernel
theorem d_En_collectCallsIn_32 : decode b_En_collectCallsIn 32 = .ok (.getfield 37, 3) := by decide +kernel
theorem d_En_collectCallsIn_35 : decode b_En_collectCallsIn 35 = .ok (.iconst 1, 1) := by decide +kernel
theorem d_En_collectCallsIn_36 : decode b_En_collectCallsIn 36 = .ok (.iadd, 1) := by decide +kernel
theorem d_En_collectCallsIn_37 : decode b_En_collectCallsIn 37 = .ok (.putfield 37, 3) := by decide +kernel
theorem d_En_collectCallsIn_40 : decode b_En_collectCallsIn 40 = .ok (.iconst 0, 1) := by decide +kernel
theorem d_En_collectCallsIn_41 : decode b_En_collectCallsIn 41 = .ok (.istore_n 2, 1) := by decide +kernel
theorem d_En_collectCallsIn_42 : decode b_En_collectCallsIn 42 = .ok (.iload_n 2, 1) := by decide +kernel
theorem d_En_collectCallsIn_43 : decode b_En_collectCallsIn 43 = .ok (.aload_n 0, 1) := by decide +kernel
theorem d_En_collectCallsIn_44 : decode b_En_collectCallsIn 44 = .ok (.getfield 15, 3) := by decide +kernel
theorem d_En_collectCallsIn_47 : decode b_En_collectCallsIn 47 = .ok (.iload_n 1, 1) := by decide +kernel
theorem d_En_collectCallsIn_48 : decode b_En_collectCallsIn 48 = .ok (.invokevirtual 56, 3) := by decide +kernel
theorem d_En_collectCallsIn_51 : decode b_En_collectCallsIn 51 = .ok (.if_icmp .ge 22, 3) := by decide +kernel
theorem d_En_collectCallsIn_54 : decode b_En_collectCallsIn 54 = .ok (.aload_n 0, 1) := by decide +kernel
theorem d_En_collectCallsIn_55 : decode b_En_collectCallsIn 55 = .ok (.aload_n 0, 1) := by decide +kernel
theorem d_En_collectCallsIn_56 : decode b_En_collectCallsIn 56 = .ok (.getfield 15, 3) := by decide +kernel
theorem d_En_collectCallsIn_59 : decode b_En_collectCallsIn 59 = .ok (.iload_n 1, 1) := by decide +kernel
theorem d_En_collectCallsIn_60 : decode b_En_collectCallsIn 60 = .ok (.iload_n 2, 1) := by decide +kernel
theorem d_En_collectCallsIn_61 : decode b_En_collectCallsIn 61 = .ok (.invokevirtual 59, 3) := by decide +kernel
theorem d_En_collectCallsIn_64 : decode b_En_collectCallsIn 64 = .ok (.invokevirtual 47, 3) := by decide +kernel
theorem d_En_collectCallsIn_67 : decode b_En_collectCallsIn 67 = .ok (.iinc 2 1, 3) := by decide +kernel
theorem d_En_collectCallsIn_70 : decode b_En_collectCallsIn 70 = .ok (.goto (-28), 3) := by decide +kernel
theorem d_En_collectCallsIn_73 : decode b_En_collectCallsIn 73 = .ok (.return_, 1) := by decide +kernel
theorem d_En_graphOf_0 : decode b_En_graphOf 0 = .ok (.iconst 0, 1) := by decide +kernel
theorem d_En_graphOf_1 : decode b_En_graphOf 1 = .ok (.istore_n 3, 1) := by decide +kernel
theorem d_En_graphOf_2 : decode b_En_graphOf 2 = .ok (.iconst 0, 1) := by decide +kernel
theorem d_En_graphOf_3 : decode b_En_graphOf 3 = .ok (.istore 4, 2) := by decide +kernel
theorem d_En_graphOf_5 : decode b_En_graphOf 5 = .ok (.aload_n 0, 1) := by decide +kernel
theorem d_En_graphOf_6 : decode b_En_graphOf 6 = .ok (.getfield 19, 3) := by decide +kernel
theorem d_En_graphOf_9 : decode b_En_graphOf 9 = .ok (.iload_n 1, 1) := by decide +kernel
theorem d_En_graphOf_10 : decode b_En_graphOf 10 = .ok (.invokevirtual 108, 3) := by decide +kernel
theorem d_En_graphOf_13 : decode b_En_graphOf 13 = .ok (.istore 5, 2) := by decide +kernel
theorem d_En_graphOf_15 : decode b_En_graphOf 15 = .ok (.iconst 0, 1) := by decide +kernel
theorem d_En_graphOf_16 : decode b_En_graphOf 16 = .ok (.istore 6, 2) := by decide +kernel
theorem d_En_graphOf_18 : decode b_En_graphOf 18 = .ok (.iload 6, 2) := by decide +kernel
theorem d_En_graphOf_20 : decode b_En_graphOf 20 = .ok (.aload_n 0, 1) := by decide +kernel
theorem d_En_graphOf_21 : decode b_En_graphOf 21 = .ok (.getfield 11, 3) := by decide +kernel
theorem d_En_graphOf_24 : decode b_En_graphOf 24 = .ok (.iload 5, 2) := by decide +kernel
theorem d_En_graphOf_26 : decode b_En_graphOf 26 = .ok (.invokevirtual 111, 3) := by decide +kernel
theorem d_En_graphOf_29 : decode b_En_graphOf 29 = .ok (.if_icmp .ge 99, 3) := by decide +kernel
theorem d_En_graphOf_32 : decode b_En_graphOf 32 = .ok (.iconst 0, 1) := by decide +kernel
theorem d_En_graphOf_33 : decode b_En_graphOf 33 = .ok (.istore 7, 2) := by decide +kernel
theorem d_En_graphOf_35 : decode b_En_graphOf 35 = .ok (.iload 7, 2) := by decide +kernel
theorem d_En_graphOf_37 : decode b_En_graphOf 37 = .ok (.aload_n 0, 1) := by decide +kernel
theorem d_En_graphOf_38 : decode b_En_graphOf 38 = .ok (.getfield 15, 3) := by decide +kernel
theorem d_En_graphOf_41 : decode b_En_graphOf 41 = .ok (.iload_n 2, 1) := by decide +kernel
theorem d_En_graphOf_42 : decode b_En_graphOf 42 = .ok (.invokevirtual 56, 3) := by decide +kernel
theorem d_En_graphOf_45 : decode b_En_graphOf 45 = .ok (.if_icmp .ge 77, 3) := by decide +kernel
theorem d_En_graphOf_48 : decode b_En_graphOf 48 = .ok (.aload_n 0, 1) := by decide +kernel
theorem d_En_graphOf_49 : decode b_En_graphOf 49 = .ok (.aload_n 0, 1) := by decide +kernel
theorem d_En_graphOf_50 : decode b_En_graphOf 50 = .ok (.getfield 19, 3) := by decide +kernel
theorem d_En_graphOf_53 : decode b_En_graphOf 53 = .ok (.iload_n 1, 1) := by decide +kernel
theorem d_En_graphOf_54 : decode b_En_graphOf 54 = .ok (.iload 6, 2) := by decide +kernel
theorem d_En_graphOf_56 : decode b_En_graphOf 56 = .ok (.invokevirtual 114, 3) := by decide +kernel
theorem d_En_graphOf_59 : decode b_En_graphOf 59 = .ok (.aload_n 0, 1) := by decide +kernel
theorem d_En_graphOf_60 : decode b_En_graphOf 60 = .ok (.getfield 15, 3) := by decide +kernel
theorem d_En_graphOf_63 : decode b_En_graphOf 63 = .ok (.iload_n 2, 1) := by decide +kernel
theorem d_En_graphOf_64 : decode b_En_graphOf 64 = .ok (.iload 7, 2) := by decide +kernel
theorem d_En_graphOf_66 : decode b_En_graphOf 66 = .ok (.invokevirtual 59, 3) := by decide +kernel
theorem d_En_graphOf_69 : decode b_En_graphOf 69 = .ok (.invokevirtual 117, 3) := by decide +kernel
theorem d_En_graphOf_72 : decode b_En_graphOf 72 = .ok (.istore 8, 2) := by decide +kernel
theorem d_En_graphOf_74 : decode b_En_graphOf 74 = .ok (.iconst 1, 1) := by decide +kernel
theorem d_En_graphOf_75 : decode b_En_graphOf 75 = .ok (.iconst 3, 1) := by decide +kernel
theorem d_En_graphOf_76 : decode b_En_graphOf 76 = .ok (.iload 6, 2) := by decide +kernel
theorem d_En_graphOf_78 : decode b_En_graphOf 78 = .ok (.imul, 1) := by decide +kernel
theorem d_En_graphOf_79 : decode b_En_graphOf 79 = .ok (.iload 7, 2) := by decide +kernel
theorem d_En_graphOf_81 : decode b_En_graphOf 81 = .ok (.iadd, 1) := by decide +kernel
theorem d_En_graphOf_82 : decode b_En_graphOf 82 = .ok (.ishl, 1) := by decide +kernel
theorem d_En_graphOf_83 : decode b_En_graphOf 83 = .ok (.istore 9, 2) := by decide +kernel
theorem d_En_graphOf_85 : decode b_En_graphOf 85 = .ok (.iload_n 3, 1) := by decide +kernel
theorem d_En_graphOf_86 : decode b_En_graphOf 86 = .ok (.iload 8, 2) := by decide +kernel
theorem d_En_graphOf_88 : decode b_En_graphOf 88 = .ok (.ifCond .ne 7, 3) := by decide +kernel
theorem d_En_graphOf_91 : decode b_En_graphOf 91 = .ok (.iconst 0, 1) := by decide +kernel
theorem d_En_graphOf_92 : decode b_En_graphOf 92 = .ok (.goto 5, 3) := by decide +kernel
theorem d_En_graphOf_95 : decode b_En_graphOf 95 = .ok (.iload 9, 2) := by decide +kernel
theorem d_En_graphOf_97 : decode b_En_graphOf 97 = .ok (.ior, 1) := by decide +kernel
theorem d_En_graphOf_98 : decode b_En_graphOf 98 = .ok (.istore_n 3, 1) := by decide +kernel
theorem d_En_graphOf_99 : decode b_En_graphOf 99 = .ok (.iload 4, 2) := by decide +kernel
theorem d_En_graphOf_101 : decode b_En_graphOf 101 = .ok (.iload 8, 2) := by decide +kernel
theorem d_En_graphOf_103 : decode b_En_graphOf 103 = .ok (.iconst 2, 1) := by decide +kernel
theorem d_En_graphOf_104 : decode b_En_graphOf 104 = .ok (.if_icmp .ne 8, 3) := by decide +kernel
theorem d_En_graphOf_107 : decode b_En_graphOf 107 = .ok (.iload 9, 2) := by decide +kernel
theorem d_En_graphOf_109 : decode b_En_graphOf 109 = .ok (.goto 4, 3) := by decide +kernel
theorem d_En_graphOf_112 : decode b_En_graphOf 112 = .ok (.iconst 0, 1) := by decide +kernel
theorem d_En_graphOf_113 : decode b_En_graphOf 113 = .ok (.ior, 1) := by decide +kernel
theorem d_En_graphOf_114 : decode b_En_graphOf 114 = .ok (.istore 4, 2) := by decide +kernel
theorem d_En_graphOf_116 : decode b_En_graphOf 116 = .ok (.iinc 7 1, 3) := by decide +kernel
theorem d_En_graphOf_119 : decode b_En_graphOf 119 = .ok (.goto (-84), 3) := by decide +kernel
theorem d_En_graphOf_122 : decode b_En_graphOf 122 = .ok (.iinc 6 1, 3) := by decide +kernel
theorem d_En_graphOf_125 : decode b_En_graphOf 125 = .ok (.goto (-107), 3) := by decide +kernel
theorem d_En_graphOf_128 : decode b_En_graphOf 128 = .ok (.iload 5, 2) := by decide +kernel
theorem d_En_graphOf_130 : decode b_En_graphOf 130 = .ok (.aload_n 0, 1) := by decide +kernel
theorem d_En_graphOf_131 : decode b_En_graphOf 131 = .ok (.getfield 15, 3) := by decide +kernel
theorem d_En_graphOf_134 : decode b_En_graphOf 134 = .ok (.iload_n 2, 1) := by decide +kernel
theorem d_En_graphOf_135 : decode b_En_graphOf 135 = .ok (.invokevirtual 73, 3) := by decide +kernel
theorem d_En_graphOf_138 : decode b_En_graphOf 138 = .ok (.iload_n 3, 1) := by decide +kernel
theorem d_En_graphOf_139 : decode b_En_graphOf 139 = .ok (.iload 4, 2) := by decide +kernel
theorem d_En_graphOf_141 : decode b_En_graphOf 141 = .ok (.invokestatic 120, 3) := by decide +kernel
theorem d_En_graphOf_144 : decode b_En_graphOf 144 = .ok (.ireturn, 1) := by decide +kernel
theorem d_En_arcBetween_0 : decode b_En_arcBetween 0 = .ok (.aload_n 0, 1) := by decide +kernel
theorem d_En_arcBetween_1 : decode b_En_arcBetween 1 = .ok (.iload_n 1, 1) := by decide +kernel
theorem d_En_arcBetween_2 : decode b_En_arcBetween 2 = .ok (.iload_n 2, 1) := by decide +kernel
theorem d_En_arcBetween_3 : decode b_En_arcBetween 3 = .ok (.invokevirtual 63, 3) := by decide +kernel
theorem d_En_arcBetween_6 : decode b_En_arcBetween 6 = .ok (.ifCond .eq 5, 3) := by decide +kernel
theorem d_En_arcBetween_9 : decode b_En_arcBetween 9 = .ok (.iconst 1, 1) := by decide +kernel
theorem d_En_arcBetween_10 : decode b_En_arcBetween 10 = .ok (.ireturn, 1) := by decide +kernel
theorem d_En_arcBetween_11 : decode b_En_arcBetween 11 = .ok (.aload_n 0, 1) := by decide +kernel
theorem d_En_arcBetween_12 : decode b_En_arcBetween 12 = .ok (.iload_n 1, 1) := by decide +kernel
theorem d_En_arcBetween_13 : decode b_En_arcBetween 13 = .ok (.iload_n 2, 1) := by decide +kernel
theorem d_En_arcBetween_14 : decode b_En_arcBetween 14 = .ok (.invokevirtual 67, 3) := by decide +kernel
theorem d_En_arcBetween_17 : decode b_En_arcBetween 17 = .ok (.ifCond .eq 7, 3) := by decide +kernel
theorem d_En_arcBetween_20 : decode b_En_arcBetween 20 = .ok (.iconst 2, 1) := by decide +kernel
theorem d_En_arcBetween_21 : decode b_En_arcBetween 21 = .ok (.goto 4, 3) := by decide +kernel
theorem d_En_arcBetween_24 : decode b_En_arcBetween 24 = .ok (.iconst 0, 1) := by decide +kernel
theorem d_En_arcBetween_25 : decode b_En_arcBetween 25 = .ok (.ireturn, 1) := by decide +kernel
theorem d_En_isSame_0 : decode b_En_isSame 0 = .ok (.aload_n 0, 1) := by decide +kernel
theorem d_En_isSame_1 : decode b_En_isSame 1 = .ok (.getfield 15, 3) := by decide +kernel
theorem d_En_isSame_4 : decode b_En_isSame 4 = .ok (.iload_n 1, 1) := by decide +kernel
theorem d_En_isSame_5 : decode b_En_isSame 5 = .ok (.invokevirtual 70, 3) := by decide +kernel
theorem d_En_isSame_8 : decode b_En_isSame 8 = .ok (.ifCond .ne 14, 3) := by decide +kernel
theorem d_En_isSame_11 : decode b_En_isSame 11 = .ok (.aload_n 0, 1) := by decide +kernel
theorem d_En_isSame_12 : decode b_En_isSame 12 = .ok (.getfield 15, 3) := by decide +kernel
theorem d_En_isSame_15 : decode b_En_isSame 15 = .ok (.iload_n 2, 1) := by decide +kernel
theorem d_En_isSame_16 : decode b_En_isSame 16 = .ok (.invokevirtual 70, 3) := by decide +kernel
theorem d_En_isSame_19 : decode b_En_isSame 19 = .ok (.ifCond .eq 50, 3) := by decide +kernel
theorem d_En_isSame_22 : decode b_En_isSame 22 = .ok (.aload_n 0, 1) := by decide +kernel
theorem d_En_isSame_23 : decode b_En_isSame 23 = .ok (.getfield 15, 3) := by decide +kernel
theorem d_En_isSame_26 : decode b_En_isSame 26 = .ok (.iload_n 1, 1) := by decide +kernel
theorem d_En_isSame_27 : decode b_En_isSame 27 = .ok (.invokevirtual 70, 3) := by decide +kernel
theorem d_En_isSame_30 : decode b_En_isSame 30 = .ok (.ifCond .eq 37, 3) := by decide +kernel
theorem d_En_isSame_33 : decode b_En_isSame 33 = .ok (.aload_n 0, 1) := by decide +kernel
theorem d_En_isSame_34 : decode b_En_isSame 34 = .ok (.getfield 15, 3) := by decide +kernel
theorem d_En_isSame_37 : decode b_En_isSame 37 = .ok (.iload_n 2, 1) := by decide +kernel
theorem d_En_isSame_38 : decode b_En_isSame 38 = .ok (.invokevirtual 70, 3) := by decide +kernel
theorem d_En_isSame_41 : decode b_En_isSame 41 = .ok (.ifCond .eq 26, 3) := by decide +kernel
theorem d_En_isSame_44 : decode b_En_isSame 44 = .ok (.aload_n 0, 1) := by decide +kernel
theorem d_En_isSame_45 : decode b_En_isSame 45 = .ok (.getfield 15, 3) := by decide +kernel
theorem d_En_isSame_48 : decode b_En_isSame 48 = .ok (.iload_n 1, 1) := by decide +kernel
theorem d_En_isSame_49 : decode b_En_isSame 49 = .ok (.invokevirtual 73, 3) := by decide +kernel
theorem d_En_isSame_52 : decode b_En_isSame 52 = .ok (.aload_n 0, 1) := by decide +kernel
theorem d_En_isSame_53 : decode b_En_isSame 53 = .ok (.getfield 15, 3) := by decide +kernel
theorem d_En_isSame_56 : decode b_En_isSame 56 = .ok (.iload_n 2, 1) := by decide +kernel
theorem d_En_isSame_57 : decode b_En_isSame 57 = .ok (.invokevirtual 73, 3) := by decide +kernel
theorem d_En_isSame_60 : decode b_En_isSame 60 = .ok (.if_icmp .ne 7, 3) := by decide +kernel
theorem d_En_isSame_63 : decode b_En_isSame 63 = .ok (.iconst 1, 1) := by decide +kernel
theorem d_En_isSame_64 : decode b_En_isSame 64 = .ok (.goto 4, 3) := by decide +kernel
theorem d_En_isSame_67 : decode b_En_isSame 67 = .ok (.iconst 0, 1) := by decide +kernel
theorem d_En_isSame_68 : decode b_En_isSame 68 = .ok (.ireturn, 1) := by decide +kernel
theorem d_En_isSame_69 : decode b_En_isSame 69 = .ok (.aload_n 0, 1) := by decide +kernel
theorem d_En_isSame_70 : decode b_En_isSame 70 = .ok (.getfield 15, 3) := by decide +kernel
theorem d_En_isSame_73 : decode b_En_isSame 73 = .ok (.iload_n 2, 1) := by decide +kernel
theorem d_En_isSame_74 : decode b_En_isSame 74 = .ok (.invokevirtual 76, 3) := by decide +kernel
theorem d_En_isSame_77 : decode b_En_isSame 77 = .ok (.ifCond .eq 22, 3) := by decide +kernel
theorem d_En_isSame_80 : decode b_En_isSame 80 = .ok (.aload_n 0, 1) := by decide +kernel
theorem d_En_isSame_81 : decode b_En_isSame 81 = .ok (.getfield 15, 3) := by decide +kernel
theorem d_En_isSame_84 : decode b_En_isSame 84 = .ok (.iload_n 1, 1) := by decide +kernel
theorem d_En_isSame_85 : decode b_En_isSame 85 = .ok (.invokevirtual 73, 3) := by decide +kernel
theorem d_En_isSame_88 : decode b_En_isSame 88 = .ok (.aload_n 0, 1) := by decide +kernel
theorem d_En_isSame_89 : decode b_En_isSame 89 = .ok (.getfield 15, 3) := by decide +kernel
theorem d_En_isSame_92 : decode b_En_isSame 92 = .ok (.iload_n 2, 1) := by decide +kernel
theorem d_En_isSame_93 : decode b_En_isSame 93 = .ok (.invokevirtual 73, 3) := by decide +kernel
theorem d_En_isSame_96 : decode b_En_isSame 96 = .ok (.if_icmp .eq 5, 3) := by decide +kernel
theorem d_En_isSame_99 : decode b_En_isSame 99 = .ok (.iconst 0, 1) := by decide +kernel
theorem d_En_isSame_100 : decode b_En_isSame 100 = .ok (.ireturn, 1) := by decide +kernel
theorem d_En_isSame_101 : decode b_En_isSame 101 = .ok (.iconst 0, 1) := by decide +kernel
theorem d_En_isSame_102 : decode b_En_isSame 102 = .ok (.istore_n 3, 1) := by decide +kernel
theorem d_En_isSame_103 : decode b_En_isSame 103 = .ok (.iload_n 3, 1) := by decide +kernel
theorem d_En_isSame_104 : decode b_En_isSame 104 = .ok (.aload_n 0, 1) := by decide +kernel
theorem d_En_isSame_105 : decode b_En_isSame 105 = .ok (.getfield 15, 3) := by decide +kernel
theorem d_En_isSame_108 : decode b_En_isSame 108 = .ok (.iload_n 1, 1) := by decide +kernel
theorem d_En_isSame_109 : decode b_En_isSame 109 = .ok (.invokevirtual 56, 3) := by decide +kernel
theorem d_En_isSame_112 : decode b_En_isSame 112 = .ok (.if_icmp .ge 36, 3) := by decide +kernel
theorem d_En_isSame_115 : decode b_En_isSame 115 = .ok (.aload_n 0, 1) := by decide +kernel
theorem d_En_isSame_116 : decode b_En_isSame 116 = .ok (.aload_n 0, 1) := by decide +kernel
theorem d_En_isSame_117 : decode b_En_isSame 117 = .ok (.getfield 15, 3) := by decide +kernel
theorem d_En_isSame_120 : decode b_En_isSame 120 = .ok (.iload_n 1, 1) := by decide +kernel
theorem d_En_isSame_121 : decode b_En_isSame 121 = .ok (.iload_n 3, 1) := by decide +kernel
theorem d_En_isSame_122 : decode b_En_isSame 122 = .ok (.invokevirtual 59, 3) := by decide +kernel
theorem d_En_isSame_125 : decode b_En_isSame 125 = .ok (.aload_n 0, 1) := by decide +kernel
theorem d_En_isSame_126 : decode b_En_isSame 126 = .ok (.getfield 15, 3) := by decide +kernel
theorem d_En_isSame_129 : decode b_En_isSame 129 = .ok (.iload_n 2, 1) := by decide +kernel
theorem d_En_isSame_130 : decode b_En_isSame 130 = .ok (.iload_n 3, 1) := by decide +kernel
theorem d_En_isSame_131 : decode b_En_isSame 131 = .ok (.invokevirtual 59, 3) := by decide +kernel
theorem d_En_isSame_134 : decode b_En_isSame 134 = .ok (.invokevirtual 63, 3) := by decide +kernel
theorem d_En_isSame_137 : decode b_En_isSame 137 = .ok (.ifCond .ne 5, 3) := by decide +kernel
theorem d_En_isSame_140 : decode b_En_isSame 140 = .ok (.iconst 0, 1) := by decide +kernel
theorem d_En_isSame_141 : decode b_En_isSame 141 = .ok (.ireturn, 1) := by decide +kernel
theorem d_En_isSame_142 : decode b_En_isSame 142 = .ok (.iinc 3 1, 3) := by decide +kernel
theorem d_En_isSame_145 : decode b_En_isSame 145 = .ok (.goto (-42), 3) := by decide +kernel
theorem d_En_isSame_148 : decode b_En_isSame 148 = .ok (.iconst 1, 1) := by decide +kernel
theorem d_En_isSame_149 : decode b_En_isSame 149 = .ok (.ireturn, 1) := by decide +kernel
theorem d_En_isInside_0 : decode b_En_isInside 0 = .ok (.iconst 0, 1) := by decide +kernel
theorem d_En_isInside_1 : decode b_En_isInside 1 = .ok (.istore_n 3, 1) := by decide +kernel
theorem d_En_isInside_2 : decode b_En_isInside 2 = .ok (.iload_n 3, 1) := by decide +kernel
theorem d_En_isInside_3 : decode b_En_isInside 3 = .ok (.aload_n 0, 1) := by decide +kernel
theorem d_En_isInside_4 : decode b_En_isInside 4 = .ok (.getfield 15, 3) := by decide +kernel
theorem d_En_isInside_7 : decode b_En_isInside 7 = .ok (.iload_n 1, 1) := by decide +kernel
theorem d_En_isInside_8 : decode b_En_isInside 8 = .ok (.invokevirtual 56, 3) := by decide +kernel
theorem d_En_isInside_11 : decode b_En_isInside 11 = .ok (.if_icmp .ge 42, 3) := by decide +kernel
theorem d_En_isInside_14 : decode b_En_isInside 14 = .ok (.aload_n 0, 1) := by decide +kernel
theorem d_En_isInside_15 : decode b_En_isInside 15 = .ok (.getfield 15, 3) := by decide +kernel
theorem d_En_isInside_18 : decode b_En_isInside 18 = .ok (.iload_n 1, 1) := by decide +kernel
theorem d_En_isInside_19 : decode b_En_isInside 19 = .ok (.iload_n 3, 1) := by decide +kernel
theorem d_En_isInside_20 : decode b_En_isInside 20 = .ok (.invokevirtual 59, 3) := by decide +kernel
theorem d_En_isInside_23 : decode b_En_isInside 23 = .ok (.istore 4, 2) := by decide +kernel
theorem d_En_isInside_25 : decode b_En_isInside 25 = .ok (.aload_n 0, 1) := by decide +kernel
theorem d_En_isInside_26 : decode b_En_isInside 26 = .ok (.iload 4, 2) := by decide +kernel
theorem d_En_isInside_28 : decode b_En_isInside 28 = .ok (.iload_n 2, 1) := by decide +kernel
theorem d_En_isInside_29 : decode b_En_isInside 29 = .ok (.invokevirtual 63, 3) := by decide +kernel
theorem d_En_isInside_32 : decode b_En_isInside 32 = .ok (.ifCond .ne 13, 3) := by decide +kernel
theorem d_En_isInside_35 : decode b_En_isInside 35 = .ok (.aload_n 0, 1) := by decide +kernel
theorem d_En_isInside_36 : decode b_En_isInside 36 = .ok (.iload 4, 2) := by decide +kernel
theorem d_En_isInside_38 : decode b_En_isInside 38 = .ok (.iload_n 2, 1) := by decide +kernel
theorem d_En_isInside_39 : decode b_En_isInside 39 = .ok (.invokevirtual 67, 3) := by decide +kernel
theorem d_En_isInside_42 : decode b_En_isInside 42 = .ok (.ifCond .eq 5, 3) := by decide +kernel
theorem d_En_isInside_45 : decode b_En_isInside 45 = .ok (.iconst 1, 1) := by decide +kernel
theorem d_En_isInside_46 : decode b_En_isInside 46 = .ok (.ireturn, 1) := by decide +kernel
theorem d_En_isInside_47 : decode b_En_isInside 47 = .ok (.iinc 3 1, 3) := by decide +kernel
theorem d_En_isInside_50 : decode b_En_isInside 50 = .ok (.goto (-48), 3) := by decide +kernel
theorem d_En_isInside_53 : decode b_En_isInside 53 = .ok (.iconst 0, 1) := by decide +kernel
theorem d_En_isInside_54 : decode b_En_isInside 54 = .ok (.ireturn, 1) := by decide +kernel
theorem d_En_code_0 : decode b_En_code 0 = .ok (.iload_n 0, 1) := by decide +kernel
theorem d_En_code_1 : decode b_En_code 1 = .ok (.iconst 3, 1) := by decide +kernel
theorem d_En_code_2 : decode b_En_code 2 = .ok (.ishl, 1) := by decide +kernel
theorem d_En_code_3 : decode b_En_code 3 = .ok (.iload_n 1, 1) := by decide +kernel
theorem d_En_code_4 : decode b_En_code 4 = .ok (.ior, 1) := by decide +kernel
theorem d_En_code_5 : decode b_En_code 5 = .ok (.istore 4, 2) := by decide +kernel
theorem d_En_code_7 : decode b_En_code 7 = .ok (.iload 4, 2) := by decide +kernel
theorem d_En_code_9 : decode b_En_code 9 = .ok (.bipush 9, 2) := by decide +kernel
theorem d_En_code_11 : decode b_En_code 11 = .ok (.ishl, 1) := by decide +kernel
theorem d_En_code_12 : decode b_En_code 12 = .ok (.iload_n 3, 1) := by decide +kernel
theorem d_En_code_13 : decode b_En_code 13 = .ok (.ior, 1) := by decide +kernel
theorem d_En_code_14 : decode b_En_code 14 = .ok (.bipush 9, 2) := by decide +kernel
theorem d_En_code_16 : decode b_En_code 16 = .ok (.ishl, 1) := by decide +kernel
theorem d_En_code_17 : decode b_En_code 17 = .ok (.iload_n 2, 1) := by decide +kernel
theorem d_En_code_18 : decode b_En_code 18 = .ok (.ior, 1) := by decide +kernel
theorem d_En_code_19 : decode b_En_code 19 = .ok (.ireturn, 1) := by decide +kernel
theorem d_En_addGraph_0 : decode b_En_addGraph 0 = .ok (.iload_n 1, 1) := by decide +kernel
theorem d_En_addGraph_1 : decode b_En_addGraph 1 = .ok (.ldc 124, 2) := by decide +kernel
theorem d_En_addGraph_3 : decode b_En_addGraph 3 = .ok (.imul, 1) := by decide +kernel
theorem d_En_addGraph_4 : decode b_En_addGraph 4 = .ok (.bipush 23, 2) := by decide +kernel
theorem d_En_addGraph_6 : decode b_En_addGraph 6 = .ok (.iushr, 1) := by decide +kernel
theorem d_En_addGraph_7 : decode b_En_addGraph 7 = .ok (.istore_n 2, 1) := by decide +kernel
theorem d_En_addGraph_8 : decode b_En_addGraph 8 = .ok (.iconst 0, 1) := by decide +kernel
theorem d_En_addGraph_9 : decode b_En_addGraph 9 = .ok (.istore_n 3, 1) := by decide +kernel
theorem d_En_addGraph_10 : decode b_En_addGraph 10 = .ok (.iload_n 3, 1) := by decide +kernel
theorem d_En_addGraph_11 : decode b_En_addGraph 11 = .ok (.sipush 512, 3) := by decide +kernel
theorem d_En_addGraph_14 : decode b_En_addGraph 14 = .ok (.if_icmp .ge 38, 3) := by decide +kernel
theorem d_En_addGraph_17 : decode b_En_addGraph 17 = .ok (.aload_n 0, 1) := by decide +kernel
theorem d_En_addGraph_18 : decode b_En_addGraph 18 = .ok (.getfield 30, 3) := by decide +kernel
theorem d_En_addGraph_21 : decode b_En_addGraph 21 = .ok (.iload_n 2, 1) := by decide +kernel
theorem d_En_addGraph_22 : decode b_En_addGraph 22 = .ok (.iaload, 1) := by decide +kernel
theorem d_En_addGraph_23 : decode b_En_addGraph 23 = .ok (.iconst (-1), 1) := by decide +kernel
theorem d_En_addGraph_24 : decode b_En_addGraph 24 = .ok (.if_icmp .eq 28, 3) := by decide +kernel
theorem d_En_addGraph_27 : decode b_En_addGraph 27 = .ok (.aload_n 0, 1) := by decide +kernel
theorem d_En_addGraph_28 : decode b_En_addGraph 28 = .ok (.getfield 30, 3) := by decide +kernel
theorem d_En_addGraph_31 : decode b_En_addGraph 31 = .ok (.iload_n 2, 1) := by decide +kernel
theorem d_En_addGraph_32 : decode b_En_addGraph 32 = .ok (.iaload, 1) := by decide +kernel
theorem d_En_addGraph_33 : decode b_En_addGraph 33 = .ok (.iload_n 1, 1) := by decide +kernel
theorem d_En_addGraph_34 : decode b_En_addGraph 34 = .ok (.if_icmp .ne 4, 3) := by decide +kernel
theorem d_En_addGraph_37 : decode b_En_addGraph 37 = .ok (.return_, 1) := by decide +kernel
theorem d_En_addGraph_38 : decode b_En_addGraph 38 = .ok (.iload_n 2, 1) := by decide +kernel
theorem d_En_addGraph_39 : decode b_En_addGraph 39 = .ok (.iconst 1, 1) := by decide +kernel
theorem d_En_addGraph_40 : decode b_En_addGraph 40 = .ok (.iadd, 1) := by decide +kernel
theorem d_En_addGraph_41 : decode b_En_addGraph 41 = .ok (.sipush 512, 3) := by decide +kernel
theorem d_En_addGraph_44 : decode b_En_addGraph 44 = .ok (.irem, 1) := by decide +kernel
theorem d_En_addGraph_45 : decode b_En_addGraph 45 = .ok (.istore_n 2, 1) := by decide +kernel
theorem d_En_addGraph_46 : decode b_En_addGraph 46 = .ok (.iinc 3 1, 3) := by decide +kernel
theorem d_En_addGraph_49 : decode b_En_addGraph 49 = .ok (.goto (-39), 3) := by decide +kernel
theorem d_En_addGraph_52 : decode b_En_addGraph 52 = .ok (.aload_n 0, 1) := by decide +kernel
theorem d_En_addGraph_53 : decode b_En_addGraph 53 = .ok (.getfield 79, 3) := by decide +kernel
theorem d_En_addGraph_56 : decode b_En_addGraph 56 = .ok (.sipush 200, 3) := by decide +kernel
theorem d_En_addGraph_59 : decode b_En_addGraph 59 = .ok (.if_icmp .lt 9, 3) := by decide +kernel
theorem d_En_addGraph_62 : decode b_En_addGraph 62 = .ok (.aload_n 0, 1) := by decide +kernel
theorem d_En_addGraph_63 : decode b_En_addGraph 63 = .ok (.iconst 1, 1) := by decide +kernel
theorem d_En_addGraph_64 : decode b_En_addGraph 64 = .ok (.putfield 82, 3) := by decide +kernel
theorem d_En_addGraph_67 : decode b_En_addGraph 67 = .ok (.return_, 1) := by decide +kernel
theorem d_En_addGraph_68 : decode b_En_addGraph 68 = .ok (.aload_n 0, 1) := by decide +kernel
theorem d_En_addGraph_69 : decode b_En_addGraph 69 = .ok (.getfield 30, 3) := by decide +kernel
theorem d_En_addGraph_72 : decode b_En_addGraph 72 = .ok (.iload_n 2, 1) := by decide +kernel
theorem d_En_addGraph_73 : decode b_En_addGraph 73 = .ok (.iload_n 1, 1) := by decide +kernel
theorem d_En_addGraph_74 : decode b_En_addGraph 74 = .ok (.iastore, 1) := by decide +kernel
theorem d_En_addGraph_75 : decode b_En_addGraph 75 = .ok (.aload_n 0, 1) := by decide +kernel
theorem d_En_addGraph_76 : decode b_En_addGraph 76 = .ok (.getfield 27, 3) := by decide +kernel
theorem d_En_addGraph_79 : decode b_En_addGraph 79 = .ok (.aload_n 0, 1) := by decide +kernel
theorem d_En_addGraph_80 : decode b_En_addGraph 80 = .ok (.getfield 79, 3) := by decide +kernel
theorem d_En_addGraph_83 : decode b_En_addGraph 83 = .ok (.iload_n 1, 1) := by decide +kernel
theorem d_En_addGraph_84 : decode b_En_addGraph 84 = .ok (.iastore, 1) := by decide +kernel
theorem d_En_addGraph_85 : decode b_En_addGraph 85 = .ok (.aload_n 0, 1) := by decide +kernel
theorem d_En_addGraph_86 : decode b_En_addGraph 86 = .ok (.dup, 1) := by decide +kernel
theorem d_En_addGraph_87 : decode b_En_addGraph 87 = .ok (.getfield 79, 3) := by decide +kernel
theorem d_En_addGraph_90 : decode b_En_addGraph 90 = .ok (.iconst 1, 1) := by decide +kernel
theorem d_En_addGraph_91 : decode b_En_addGraph 91 = .ok (.iadd, 1) := by decide +kernel
theorem d_En_addGraph_92 : decode b_En_addGraph 92 = .ok (.putfield 79, 3) := by decide +kernel
theorem d_En_addGraph_95 : decode b_En_addGraph 95 = .ok (.return_, 1) := by decide +kernel
theorem d_En_addCompositions_0 : decode b_En_addCompositions 0 = .ok (.iconst 0, 1) := by decide +kernel
theorem d_En_addCompositions_1 : decode b_En_addCompositions 1 = .ok (.istore_n 2, 1) := by decide +kernel
theorem d_En_addCompositions_2 : decode b_En_addCompositions 2 = .ok (.iload_n 2, 1) := by decide +kernel
theorem d_En_addCompositions_3 : decode b_En_addCompositions 3 = .ok (.sipush 200, 3) := by decide +kernel
theorem d_En_addCompositions_6 : decode b_En_addCompositions 6 = .ok (.if_icmp .ge 77, 3) := by decide +kernel
theorem d_En_addCompositions_9 : decode b_En_addCompositions 9 = .ok (.iload_n 2, 1) := by decide +kernel
theorem d_En_addCompositions_10 : decode b_En_addCompositions 10 = .ok (.aload_n 0, 1) := by decide +kernel
theorem d_En_addCompositions_11 : decode b_En_addCompositions 11 = .ok (.getfield 79, 3) := by decide +kernel
theorem d_En_addCompositions_14 : decode b_En_addCompositions 14 = .ok (.if_icmp .ge 69, 3) := by decide +kernel
theorem d_En_addCompositions_17 : decode b_En_addCompositions 17 = .ok (.aload_n 0, 1) := by decide +kernel
theorem d_En_addCompositions_18 : decode b_En_addCompositions 18 = .ok (.getfield 82, 3) := by decide +kernel
theorem d_En_addCompositions_21 : decode b_En_addCompositions 21 = .ok (.ifCond .ne 62, 3) := by decide +kernel
theorem d_En_addCompositions_24 : decode b_En_addCompositions 24 = .ok (.iconst 0, 1) := by decide +kernel
theorem d_En_addCompositions_25 : decode b_En_addCompositions 25 = .ok (.istore_n 3, 1) := by decide +kernel
theorem d_En_addCompositions_26 : decode b_En_addCompositions 26 = .ok (.iload_n 3, 1) := by decide +kernel
theorem d_En_addCompositions_27 : decode b_En_addCompositions 27 = .ok (.iload_n 1, 1) := by decide +kernel
theorem d_En_addCompositions_28 : decode b_En_addCompositions 28 = .ok (.if_icmp .ge 49, 3) := by decide +kernel
theorem d_En_addCompositions_31 : decode b_En_addCompositions 31 = .ok (.aload_n 0, 1) := by decide +kernel
theorem d_En_addCompositions_32 : decode b_En_addCompositions 32 = .ok (.getfield 27, 3) := by decide +kernel
theorem d_En_addCompositions_35 : decode b_En_addCompositions 35 = .ok (.iload_n 2, 1) := by decide +kernel
theorem d_En_addCompositions_36 : decode b_En_addCompositions 36 = .ok (.iaload, 1) := by decide +kernel
theorem d_En_addCompositions_37 : decode b_En_addCompositions 37 = .ok (.invokestatic 99, 3) := by decide +kernel
theorem d_En_addCompositions_40 : decode b_En_addCompositions 40 = .ok (.aload_n 0, 1) := by decide +kernel
theorem d_En_addCompositions_41 : decode b_En_addCompositions 41 = .ok (.getfield 27, 3) := by decide +kernel
theorem d_En_addCompositions_44 : decode b_En_addCompositions 44 = .ok (.iload_n 3, 1) := by decide +kernel
theorem d_En_addCompositions_45 : decode b_En_addCompositions 45 = .ok (.iaload, 1) := by decide +kernel
theorem d_En_addCompositions_46 : decode b_En_addCompositions 46 = .ok (.invokestatic 102, 3) := by decide +kernel
theorem d_En_addCompositions_49 : decode b_En_addCompositions 49 = .ok (.if_icmp .ne 22, 3) := by decide +kernel
theorem d_En_addCompositions_52 : decode b_En_addCompositions 52 = .ok (.aload_n 0, 1) := by decide +kernel
theorem d_En_addCompositions_53 : decode b_En_addCompositions 53 = .ok (.aload_n 0, 1) := by decide +kernel
theorem d_En_addCompositions_54 : decode b_En_addCompositions 54 = .ok (.getfield 27, 3) := by decide +kernel
theorem d_En_addCompositions_57 : decode b_En_addCompositions 57 = .ok (.iload_n 2, 1) := by decide +kernel
theorem d_En_addCompositions_58 : decode b_En_addCompositions 58 = .ok (.iaload, 1) := by decide +kernel
theorem d_En_addCompositions_59 : decode b_En_addCompositions 59 = .ok (.aload_n 0, 1) := by decide +kernel
theorem d_En_addCompositions_60 : decode b_En_addCompositions 60 = .ok (.getfield 27, 3) := by decide +kernel
theorem d_En_addCompositions_63 : decode b_En_addCompositions 63 = .ok (.iload_n 3, 1) := by decide +kernel
theorem d_En_addCompositions_64 : decode b_En_addCompositions 64 = .ok (.iaload, 1) := by decide +kernel
theorem d_En_addCompositions_65 : decode b_En_addCompositions 65 = .ok (.invokestatic 105, 3) := by decide +kernel
theorem d_En_addCompositions_68 : decode b_En_addCompositions 68 = .ok (.invokevirtual 93, 3) := by decide +kernel
theorem d_En_addCompositions_71 : decode b_En_addCompositions 71 = .ok (.iinc 3 1, 3) := by decide +kernel
theorem d_En_addCompositions_74 : decode b_En_addCompositions 74 = .ok (.goto (-48), 3) := by decide +kernel
theorem d_En_addCompositions_77 : decode b_En_addCompositions 77 = .ok (.iinc 2 1, 3) := by decide +kernel
theorem d_En_addCompositions_80 : decode b_En_addCompositions 80 = .ok (.goto (-78), 3) := by decide +kernel
theorem d_En_addCompositions_83 : decode b_En_addCompositions 83 = .ok (.return_, 1) := by decide +kernel
theorem d_En_to_0 : decode b_En_to 0 = .ok (.iload_n 0, 1) := by decide +kernel
theorem d_En_to_1 : decode b_En_to 1 = .ok (.bipush 18, 2) := by decide +kernel
theorem d_En_to_3 : decode b_En_to 3 = .ok (.ishr, 1) := by decide +kernel
theorem d_En_to_4 : decode b_En_to 4 = .ok (.bipush 7, 2) := by decide +kernel
theorem d_En_to_6 : decode b_En_to 6 = .ok (.iand, 1) := by decide +kernel
theorem d_En_to_7 : decode b_En_to 7 = .ok (.ireturn, 1) := by decide +kernel
theorem d_En_from_0 : decode b_En_from 0 = .ok (.iload_n 0, 1) := by decide +kernel
theorem d_En_from_1 : decode b_En_from 1 = .ok (.bipush 21, 2) := by decide +kernel
theorem d_En_from_3 : decode b_En_from 3 = .ok (.ishr, 1) := by decide +kernel
theorem d_En_from_4 : decode b_En_from 4 = .ok (.ireturn, 1) := by decide +kernel
theorem d_En_compose_0 : decode b_En_compose 0 = .ok (.iconst 0, 1) := by decide +kernel
theorem d_En_compose_1 : decode b_En_compose 1 = .ok (.istore_n 2, 1) := by decide +kernel
theorem d_En_compose_2 : decode b_En_compose 2 = .ok (.iconst 0, 1) := by decide +kernel
theorem d_En_compose_3 : decode b_En_compose 3 = .ok (.istore_n 3, 1) := by decide +kernel
theorem d_En_compose_4 : decode b_En_compose 4 = .ok (.iconst 0, 1) := by decide +kernel
theorem d_En_compose_5 : decode b_En_compose 5 = .ok (.istore 4, 2) := by decide +kernel
theorem d_En_compose_7 : decode b_En_compose 7 = .ok (.iload 4, 2) := by decide +kernel
theorem d_En_compose_9 : decode b_En_compose 9 = .ok (.iconst 3, 1) := by decide +kernel
theorem d_En_compose_10 : decode b_En_compose 10 = .ok (.if_icmp .ge 83, 3) := by decide +kernel
theorem d_En_compose_13 : decode b_En_compose 13 = .ok (.iload_n 0, 1) := by decide +kernel
theorem d_En_compose_14 : decode b_En_compose 14 = .ok (.invokestatic 125, 3) := by decide +kernel
theorem d_En_compose_17 : decode b_En_compose 17 = .ok (.iload 4, 2) := by decide +kernel
theorem d_En_compose_19 : decode b_En_compose 19 = .ok (.ishr, 1) := by decide +kernel
theorem d_En_compose_20 : decode b_En_compose 20 = .ok (.bipush 73, 2) := by decide +kernel
theorem d_En_compose_22 : decode b_En_compose 22 = .ok (.iand, 1) := by decide +kernel
theorem d_En_compose_23 : decode b_En_compose 23 = .ok (.istore 5, 2) := by decide +kernel
theorem d_En_compose_25 : decode b_En_compose 25 = .ok (.iload_n 0, 1) := by decide +kernel
theorem d_En_compose_26 : decode b_En_compose 26 = .ok (.invokestatic 128, 3) := by decide +kernel
theorem d_En_compose_29 : decode b_En_compose 29 = .ok (.iload 4, 2) := by decide +kernel
theorem d_En_compose_31 : decode b_En_compose 31 = .ok (.ishr, 1) := by decide +kernel
theorem d_En_compose_32 : decode b_En_compose 32 = .ok (.bipush 73, 2) := by decide +kernel
theorem d_En_compose_34 : decode b_En_compose 34 = .ok (.iand, 1) := by decide +kernel
theorem d_En_compose_35 : decode b_En_compose 35 = .ok (.istore 6, 2) := by decide +kernel
theorem d_En_compose_37 : decode b_En_compose 37 = .ok (.iload_n 1, 1) := by decide +kernel
theorem d_En_compose_38 : decode b_En_compose 38 = .ok (.invokestatic 125, 3) := by decide +kernel
theorem d_En_compose_41 : decode b_En_compose 41 = .ok (.iconst 3, 1) := by decide +kernel
theorem d_En_compose_42 : decode b_En_compose 42 = .ok (.iload 4, 2) := by decide +kernel
theorem d_En_compose_44 : decode b_En_compose 44 = .ok (.imul, 1) := by decide +kernel
theorem d_En_compose_45 : decode b_En_compose 45 = .ok (.ishr, 1) := by decide +kernel
theorem d_En_compose_46 : decode b_En_compose 46 = .ok (.bipush 7, 2) := by decide +kernel
theorem d_En_compose_48 : decode b_En_compose 48 = .ok (.iand, 1) := by decide +kernel
theorem d_En_compose_49 : decode b_En_compose 49 = .ok (.istore 7, 2) := by decide +kernel
theorem d_En_compose_51 : decode b_En_compose 51 = .ok (.iload_n 1, 1) := by decide +kernel
theorem d_En_compose_52 : decode b_En_compose 52 = .ok (.invokestatic 128, 3) := by decide +kernel
theorem d_En_compose_55 : decode b_En_compose 55 = .ok (.iconst 3, 1) := by decide +kernel
theorem d_En_compose_56 : decode b_En_compose 56 = .ok (.iload 4, 2) := by decide +kernel
theorem d_En_compose_58 : decode b_En_compose 58 = .ok (.imul, 1) := by decide +kernel
theorem d_En_compose_59 : decode b_En_compose 59 = .ok (.ishr, 1) := by decide +kernel
theorem d_En_compose_60 : decode b_En_compose 60 = .ok (.bipush 7, 2) := by decide +kernel
theorem d_En_compose_62 : decode b_En_compose 62 = .ok (.iand, 1) := by decide +kernel
theorem d_En_compose_63 : decode b_En_compose 63 = .ok (.istore 8, 2) := by decide +kernel
theorem d_En_compose_65 : decode b_En_compose 65 = .ok (.iload_n 2, 1) := by decide +kernel
theorem d_En_compose_66 : decode b_En_compose 66 = .ok (.iload 5, 2) := by decide +kernel
theorem d_En_compose_68 : decode b_En_compose 68 = .ok (.iload 7, 2) := by decide +kernel
theorem d_En_compose_70 : decode b_En_compose 70 = .ok (.imul, 1) := by decide +kernel
theorem d_En_compose_71 : decode b_En_compose 71 = .ok (.ior, 1) := by decide +kernel
theorem d_En_compose_72 : decode b_En_compose 72 = .ok (.istore_n 2, 1) := by decide +kernel
theorem d_En_compose_73 : decode b_En_compose 73 = .ok (.iload_n 3, 1) := by decide +kernel
theorem d_En_compose_74 : decode b_En_compose 74 = .ok (.iload 6, 2) := by decide +kernel
theorem d_En_compose_76 : decode b_En_compose 76 = .ok (.iload 7, 2) := by decide +kernel
theorem d_En_compose_78 : decode b_En_compose 78 = .ok (.imul, 1) := by decide +kernel
theorem d_En_compose_79 : decode b_En_compose 79 = .ok (.iload 5, 2) := by decide +kernel
theorem d_En_compose_81 : decode b_En_compose 81 = .ok (.iload 8, 2) := by decide +kernel
theorem d_En_compose_83 : decode b_En_compose 83 = .ok (.imul, 1) := by decide +kernel
theorem d_En_compose_84 : decode b_En_compose 84 = .ok (.ior, 1) := by decide +kernel
theorem d_En_compose_85 : decode b_En_compose 85 = .ok (.ior, 1) := by decide +kernel
theorem d_En_compose_86 : decode b_En_compose 86 = .ok (.istore_n 3, 1) := by decide +kernel
theorem d_En_compose_87 : decode b_En_compose 87 = .ok (.iinc 4 1, 3) := by decide +kernel
theorem d_En_compose_90 : decode b_En_compose 90 = .ok (.goto (-83), 3) := by decide +kernel
theorem d_En_compose_93 : decode b_En_compose 93 = .ok (.iload_n 0, 1) := by decide +kernel
theorem d_En_compose_94 : decode b_En_compose 94 = .ok (.invokestatic 102, 3) := by decide +kernel
theorem d_En_compose_97 : decode b_En_compose 97 = .ok (.iload_n 1, 1) := by decide +kernel
theorem d_En_compose_98 : decode b_En_compose 98 = .ok (.invokestatic 99, 3) := by decide +kernel
theorem d_En_compose_101 : decode b_En_compose 101 = .ok (.iload_n 2, 1) := by decide +kernel
theorem d_En_compose_102 : decode b_En_compose 102 = .ok (.iload_n 3, 1) := by decide +kernel
theorem d_En_compose_103 : decode b_En_compose 103 = .ok (.invokestatic 120, 3) := by decide +kernel
theorem d_En_compose_106 : decode b_En_compose 106 = .ok (.ireturn, 1) := by decide +kernel
theorem d_En_arcs_0 : decode b_En_arcs 0 = .ok (.iload_n 0, 1) := by decide +kernel
theorem d_En_arcs_1 : decode b_En_arcs 1 = .ok (.sipush 511, 3) := by decide +kernel
theorem d_En_arcs_4 : decode b_En_arcs 4 = .ok (.iand, 1) := by decide +kernel
theorem d_En_arcs_5 : decode b_En_arcs 5 = .ok (.ireturn, 1) := by decide +kernel
theorem d_En_strict_0 : decode b_En_strict 0 = .ok (.iload_n 0, 1) := by decide +kernel
theorem d_En_strict_1 : decode b_En_strict 1 = .ok (.bipush 9, 2) := by decide +kernel
theorem d_En_strict_3 : decode b_En_strict 3 = .ok (.ishr, 1) := by decide +kernel
theorem d_En_strict_4 : decode b_En_strict 4 = .ok (.sipush 511, 3) := by decide +kernel
theorem d_En_strict_7 : decode b_En_strict 7 = .ok (.iand, 1) := by decide +kernel
theorem d_En_strict_8 : decode b_En_strict 8 = .ok (.ireturn, 1) := by decide +kernel
theorem d_En_allEnd_0 : decode b_En_allEnd 0 = .ok (.aload_n 0, 1) := by decide +kernel
theorem d_En_allEnd_1 : decode b_En_allEnd 1 = .ok (.getfield 82, 3) := by decide +kernel
theorem d_En_allEnd_4 : decode b_En_allEnd 4 = .ok (.ifCond .eq 5, 3) := by decide +kernel
theorem d_En_allEnd_7 : decode b_En_allEnd 7 = .ok (.iconst 0, 1) := by decide +kernel
theorem d_En_allEnd_8 : decode b_En_allEnd 8 = .ok (.ireturn, 1) := by decide +kernel
theorem d_En_allEnd_9 : decode b_En_allEnd 9 = .ok (.iconst 0, 1) := by decide +kernel
theorem d_En_allEnd_10 : decode b_En_allEnd 10 = .ok (.istore_n 1, 1) := by decide +kernel
theorem d_En_allEnd_11 : decode b_En_allEnd 11 = .ok (.iload_n 1, 1) := by decide +kernel
theorem d_En_allEnd_12 : decode b_En_allEnd 12 = .ok (.aload_n 0, 1) := by decide +kernel
theorem d_En_allEnd_13 : decode b_En_allEnd 13 = .ok (.getfield 79, 3) := by decide +kernel
theorem d_En_allEnd_16 : decode b_En_allEnd 16 = .ok (.if_icmp .ge 82, 3) := by decide +kernel
theorem d_En_allEnd_19 : decode b_En_allEnd 19 = .ok (.aload_n 0, 1) := by decide +kernel
theorem d_En_allEnd_20 : decode b_En_allEnd 20 = .ok (.getfield 27, 3) := by decide +kernel
theorem d_En_allEnd_23 : decode b_En_allEnd 23 = .ok (.iload_n 1, 1) := by decide +kernel
theorem d_En_allEnd_24 : decode b_En_allEnd 24 = .ok (.iaload, 1) := by decide +kernel
theorem d_En_allEnd_25 : decode b_En_allEnd 25 = .ok (.invokestatic 102, 3) := by decide +kernel
theorem d_En_allEnd_28 : decode b_En_allEnd 28 = .ok (.aload_n 0, 1) := by decide +kernel
theorem d_En_allEnd_29 : decode b_En_allEnd 29 = .ok (.getfield 27, 3) := by decide +kernel
theorem d_En_allEnd_32 : decode b_En_allEnd 32 = .ok (.iload_n 1, 1) := by decide +kernel
theorem d_En_allEnd_33 : decode b_En_allEnd 33 = .ok (.iaload, 1) := by decide +kernel
theorem d_En_allEnd_34 : decode b_En_allEnd 34 = .ok (.invokestatic 99, 3) := by decide +kernel
theorem d_En_allEnd_37 : decode b_En_allEnd 37 = .ok (.if_icmp .ne 31, 3) := by decide +kernel
theorem d_En_allEnd_40 : decode b_En_allEnd 40 = .ok (.aload_n 0, 1) := by decide +kernel
theorem d_En_allEnd_41 : decode b_En_allEnd 41 = .ok (.getfield 27, 3) := by decide +kernel
theorem d_En_allEnd_44 : decode b_En_allEnd 44 = .ok (.iload_n 1, 1) := by decide +kernel
theorem d_En_allEnd_45 : decode b_En_allEnd 45 = .ok (.iaload, 1) := by decide +kernel
theorem d_En_allEnd_46 : decode b_En_allEnd 46 = .ok (.aload_n 0, 1) := by decide +kernel
theorem d_En_allEnd_47 : decode b_En_allEnd 47 = .ok (.getfield 27, 3) := by decide +kernel
theorem d_En_allEnd_50 : decode b_En_allEnd 50 = .ok (.iload_n 1, 1) := by decide +kernel
theorem d_En_allEnd_51 : decode b_En_allEnd 51 = .ok (.iaload, 1) := by decide +kernel
theorem d_En_allEnd_52 : decode b_En_allEnd 52 = .ok (.invokestatic 105, 3) := by decide +kernel
theorem d_En_allEnd_55 : decode b_En_allEnd 55 = .ok (.aload_n 0, 1) := by decide +kernel
theorem d_En_allEnd_56 : decode b_En_allEnd 56 = .ok (.getfield 27, 3) := by decide +kernel
theorem d_En_allEnd_59 : decode b_En_allEnd 59 = .ok (.iload_n 1, 1) := by decide +kernel
theorem d_En_allEnd_60 : decode b_En_allEnd 60 = .ok (.iaload, 1) := by decide +kernel
theorem d_En_allEnd_61 : decode b_En_allEnd 61 = .ok (.if_icmp .ne 7, 3) := by decide +kernel
theorem d_En_allEnd_64 : decode b_En_allEnd 64 = .ok (.iconst 1, 1) := by decide +kernel
theorem d_En_allEnd_65 : decode b_En_allEnd 65 = .ok (.goto 4, 3) := by decide +kernel
theorem d_En_allEnd_68 : decode b_En_allEnd 68 = .ok (.iconst 0, 1) := by decide +kernel
theorem d_En_allEnd_69 : decode b_En_allEnd 69 = .ok (.istore_n 2, 1) := by decide +kernel
theorem d_En_allEnd_70 : decode b_En_allEnd 70 = .ok (.iload_n 2, 1) := by decide +kernel
theorem d_En_allEnd_71 : decode b_En_allEnd 71 = .ok (.ifCond .eq 21, 3) := by decide +kernel
theorem d_En_allEnd_74 : decode b_En_allEnd 74 = .ok (.aload_n 0, 1) := by decide +kernel
theorem d_En_allEnd_75 : decode b_En_allEnd 75 = .ok (.getfield 27, 3) := by decide +kernel
theorem d_En_allEnd_78 : decode b_En_allEnd 78 = .ok (.iload_n 1, 1) := by decide +kernel
theorem d_En_allEnd_79 : decode b_En_allEnd 79 = .ok (.iaload, 1) := by decide +kernel
theorem d_En_allEnd_80 : decode b_En_allEnd 80 = .ok (.invokestatic 128, 3) := by decide +kernel
theorem d_En_allEnd_83 : decode b_En_allEnd 83 = .ok (.sipush 273, 3) := by decide +kernel
theorem d_En_allEnd_86 : decode b_En_allEnd 86 = .ok (.iand, 1) := by decide +kernel
theorem d_En_allEnd_87 : decode b_En_allEnd 87 = .ok (.ifCond .ne 5, 3) := by decide +kernel
theorem d_En_allEnd_90 : decode b_En_allEnd 90 = .ok (.iconst 0, 1) := by decide +kernel
theorem d_En_allEnd_91 : decode b_En_allEnd 91 = .ok (.ireturn, 1) := by decide +kernel
theorem d_En_allEnd_92 : decode b_En_allEnd 92 = .ok (.iinc 1 1, 3) := by decide +kernel
theorem d_En_allEnd_95 : decode b_En_allEnd 95 = .ok (.goto (-84), 3) := by decide +kernel
theorem d_En_allEnd_98 : decode b_En_allEnd 98 = .ok (.iconst 1, 1) := by decide +kernel
theorem d_En_allEnd_99 : decode b_En_allEnd 99 = .ok (.ireturn, 1) := by decide +kernel
theorem d_En_callInBody_0 : decode b_En_callInBody 0 = .ok (.aload_n 0, 1) := by decide +kernel
theorem d_En_callInBody_1 : decode b_En_callInBody 1 = .ok (.iload_n 1, 1) := by decide +kernel
theorem d_En_callInBody_2 : decode b_En_callInBody 2 = .ok (.invokevirtual 33, 3) := by decide +kernel
theorem d_En_callInBody_5 : decode b_En_callInBody 5 = .ok (.iload_n 2, 1) := by decide +kernel
theorem d_En_callInBody_6 : decode b_En_callInBody 6 = .ok (.ifCond .lt 20, 3) := by decide +kernel
theorem d_En_callInBody_9 : decode b_En_callInBody 9 = .ok (.iload_n 2, 1) := by decide +kernel
theorem d_En_callInBody_10 : decode b_En_callInBody 10 = .ok (.aload_n 0, 1) := by decide +kernel
theorem d_En_callInBody_11 : decode b_En_callInBody 11 = .ok (.getfield 37, 3) := by decide +kernel
theorem d_En_callInBody_14 : decode b_En_callInBody 14 = .ok (.if_icmp .ge 12, 3) := by decide +kernel
theorem d_En_callInBody_17 : decode b_En_callInBody 17 = .ok (.aload_n 0, 1) := by decide +kernel
theorem d_En_callInBody_18 : decode b_En_callInBody 18 = .ok (.getfield 23, 3) := by decide +kernel
theorem d_En_callInBody_21 : decode b_En_callInBody 21 = .ok (.iload_n 2, 1) := by decide +kernel
theorem d_En_callInBody_22 : decode b_En_callInBody 22 = .ok (.iaload, 1) := by decide +kernel
theorem d_En_callInBody_23 : decode b_En_callInBody 23 = .ok (.goto 4, 3) := by decide +kernel
theorem d_En_callInBody_26 : decode b_En_callInBody 26 = .ok (.iconst (-1), 1) := by decide +kernel
theorem d_En_callInBody_27 : decode b_En_callInBody 27 = .ok (.ireturn, 1) := by decide +kernel
