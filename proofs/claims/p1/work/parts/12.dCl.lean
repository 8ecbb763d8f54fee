theorem d_Cl_init_0 : decode b_Cl_init 0 = .ok (.aload_n 0, 1) := by decide +kernel
theorem d_Cl_init_1 : decode b_Cl_init 1 = .ok (.invokespecial 3, 3) := by decide +kernel
theorem d_Cl_init_4 : decode b_Cl_init 4 = .ok (.aload_n 0, 1) := by decide +kernel
theorem d_Cl_init_5 : decode b_Cl_init 5 = .ok (.aload_n 1, 1) := by decide +kernel
theorem d_Cl_init_6 : decode b_Cl_init 6 = .ok (.putfield 9, 3) := by decide +kernel
theorem d_Cl_init_9 : decode b_Cl_init 9 = .ok (.aload_n 0, 1) := by decide +kernel
theorem d_Cl_init_10 : decode b_Cl_init 10 = .ok (.aload_n 2, 1) := by decide +kernel
theorem d_Cl_init_11 : decode b_Cl_init 11 = .ok (.putfield 15, 3) := by decide +kernel
theorem d_Cl_init_14 : decode b_Cl_init 14 = .ok (.aload_n 0, 1) := by decide +kernel
theorem d_Cl_init_15 : decode b_Cl_init 15 = .ok (.bipush 24, 2) := by decide +kernel
theorem d_Cl_init_17 : decode b_Cl_init 17 = .ok (.newarray .int, 2) := by decide +kernel
theorem d_Cl_init_19 : decode b_Cl_init 19 = .ok (.putfield 19, 3) := by decide +kernel
theorem d_Cl_init_22 : decode b_Cl_init 22 = .ok (.aload_n 0, 1) := by decide +kernel
theorem d_Cl_init_23 : decode b_Cl_init 23 = .ok (.bipush 72, 2) := by decide +kernel
theorem d_Cl_init_25 : decode b_Cl_init 25 = .ok (.newarray .int, 2) := by decide +kernel
theorem d_Cl_init_27 : decode b_Cl_init 27 = .ok (.putfield 23, 3) := by decide +kernel
theorem d_Cl_init_30 : decode b_Cl_init 30 = .ok (.aload_n 0, 1) := by decide +kernel
theorem d_Cl_init_31 : decode b_Cl_init 31 = .ok (.bipush 24, 2) := by decide +kernel
theorem d_Cl_init_33 : decode b_Cl_init 33 = .ok (.newarray .int, 2) := by decide +kernel
theorem d_Cl_init_35 : decode b_Cl_init 35 = .ok (.putfield 26, 3) := by decide +kernel
theorem d_Cl_init_38 : decode b_Cl_init 38 = .ok (.aload_n 0, 1) := by decide +kernel
theorem d_Cl_init_39 : decode b_Cl_init 39 = .ok (.bipush 36, 2) := by decide +kernel
theorem d_Cl_init_41 : decode b_Cl_init 41 = .ok (.newarray .int, 2) := by decide +kernel
theorem d_Cl_init_43 : decode b_Cl_init 43 = .ok (.putfield 29, 3) := by decide +kernel
theorem d_Cl_init_46 : decode b_Cl_init 46 = .ok (.aload_n 0, 1) := by decide +kernel
theorem d_Cl_init_47 : decode b_Cl_init 47 = .ok (.bipush 6, 2) := by decide +kernel
theorem d_Cl_init_49 : decode b_Cl_init 49 = .ok (.newarray .int, 2) := by decide +kernel
theorem d_Cl_init_51 : decode b_Cl_init 51 = .ok (.putfield 32, 3) := by decide +kernel
theorem d_Cl_init_54 : decode b_Cl_init 54 = .ok (.return_, 1) := by decide +kernel
theorem d_Cl_howMany_0 : decode b_Cl_howMany 0 = .ok (.aload_n 0, 1) := by decide +kernel
theorem d_Cl_howMany_1 : decode b_Cl_howMany 1 = .ok (.getfield 35, 3) := by decide +kernel
theorem d_Cl_howMany_4 : decode b_Cl_howMany 4 = .ok (.ireturn, 1) := by decide +kernel
theorem d_Cl_owner_0 : decode b_Cl_owner 0 = .ok (.aload_n 0, 1) := by decide +kernel
theorem d_Cl_owner_1 : decode b_Cl_owner 1 = .ok (.getfield 19, 3) := by decide +kernel
theorem d_Cl_owner_4 : decode b_Cl_owner 4 = .ok (.iload_n 1, 1) := by decide +kernel
theorem d_Cl_owner_5 : decode b_Cl_owner 5 = .ok (.iaload, 1) := by decide +kernel
theorem d_Cl_owner_6 : decode b_Cl_owner 6 = .ok (.ireturn, 1) := by decide +kernel
theorem d_Cl_pattern_0 : decode b_Cl_pattern 0 = .ok (.aload_n 0, 1) := by decide +kernel
theorem d_Cl_pattern_1 : decode b_Cl_pattern 1 = .ok (.getfield 23, 3) := by decide +kernel
theorem d_Cl_pattern_4 : decode b_Cl_pattern 4 = .ok (.iload_n 1, 1) := by decide +kernel
theorem d_Cl_pattern_5 : decode b_Cl_pattern 5 = .ok (.iconst 3, 1) := by decide +kernel
theorem d_Cl_pattern_6 : decode b_Cl_pattern 6 = .ok (.imul, 1) := by decide +kernel
theorem d_Cl_pattern_7 : decode b_Cl_pattern 7 = .ok (.iload_n 2, 1) := by decide +kernel
theorem d_Cl_pattern_8 : decode b_Cl_pattern 8 = .ok (.iadd, 1) := by decide +kernel
theorem d_Cl_pattern_9 : decode b_Cl_pattern 9 = .ok (.iaload, 1) := by decide +kernel
theorem d_Cl_pattern_10 : decode b_Cl_pattern 10 = .ok (.ireturn, 1) := by decide +kernel
theorem d_Cl_body_0 : decode b_Cl_body 0 = .ok (.aload_n 0, 1) := by decide +kernel
theorem d_Cl_body_1 : decode b_Cl_body 1 = .ok (.getfield 26, 3) := by decide +kernel
theorem d_Cl_body_4 : decode b_Cl_body 4 = .ok (.iload_n 1, 1) := by decide +kernel
theorem d_Cl_body_5 : decode b_Cl_body 5 = .ok (.iaload, 1) := by decide +kernel
theorem d_Cl_body_6 : decode b_Cl_body 6 = .ok (.ireturn, 1) := by decide +kernel
theorem d_Cl_howManyOf_0 : decode b_Cl_howManyOf 0 = .ok (.aload_n 0, 1) := by decide +kernel
theorem d_Cl_howManyOf_1 : decode b_Cl_howManyOf 1 = .ok (.getfield 32, 3) := by decide +kernel
theorem d_Cl_howManyOf_4 : decode b_Cl_howManyOf 4 = .ok (.iload_n 1, 1) := by decide +kernel
theorem d_Cl_howManyOf_5 : decode b_Cl_howManyOf 5 = .ok (.iaload, 1) := by decide +kernel
theorem d_Cl_howManyOf_6 : decode b_Cl_howManyOf 6 = .ok (.ireturn, 1) := by decide +kernel
theorem d_Cl_ofFunction_0 : decode b_Cl_ofFunction 0 = .ok (.aload_n 0, 1) := by decide +kernel
theorem d_Cl_ofFunction_1 : decode b_Cl_ofFunction 1 = .ok (.getfield 29, 3) := by decide +kernel
theorem d_Cl_ofFunction_4 : decode b_Cl_ofFunction 4 = .ok (.iload_n 1, 1) := by decide +kernel
theorem d_Cl_ofFunction_5 : decode b_Cl_ofFunction 5 = .ok (.bipush 6, 2) := by decide +kernel
theorem d_Cl_ofFunction_7 : decode b_Cl_ofFunction 7 = .ok (.imul, 1) := by decide +kernel
theorem d_Cl_ofFunction_8 : decode b_Cl_ofFunction 8 = .ok (.iload_n 2, 1) := by decide +kernel
theorem d_Cl_ofFunction_9 : decode b_Cl_ofFunction 9 = .ok (.iadd, 1) := by decide +kernel
theorem d_Cl_ofFunction_10 : decode b_Cl_ofFunction 10 = .ok (.iaload, 1) := by decide +kernel
theorem d_Cl_ofFunction_11 : decode b_Cl_ofFunction 11 = .ok (.ireturn, 1) := by decide +kernel
theorem d_Cl_isWellFormed_0 : decode b_Cl_isWellFormed 0 = .ok (.iconst 0, 1) := by decide +kernel
theorem d_Cl_isWellFormed_1 : decode b_Cl_isWellFormed 1 = .ok (.istore 6, 2) := by decide +kernel
theorem d_Cl_isWellFormed_3 : decode b_Cl_isWellFormed 3 = .ok (.iconst 0, 1) := by decide +kernel
theorem d_Cl_isWellFormed_4 : decode b_Cl_isWellFormed 4 = .ok (.istore 7, 2) := by decide +kernel
theorem d_Cl_isWellFormed_6 : decode b_Cl_isWellFormed 6 = .ok (.iload 7, 2) := by decide +kernel
theorem d_Cl_isWellFormed_8 : decode b_Cl_isWellFormed 8 = .ok (.iload_n 1, 1) := by decide +kernel
theorem d_Cl_isWellFormed_9 : decode b_Cl_isWellFormed 9 = .ok (.if_icmp .ge 75, 3) := by decide +kernel
theorem d_Cl_isWellFormed_12 : decode b_Cl_isWellFormed 12 = .ok (.iload 7, 2) := by decide +kernel
theorem d_Cl_isWellFormed_14 : decode b_Cl_isWellFormed 14 = .ok (.iload_n 2, 1) := by decide +kernel
theorem d_Cl_isWellFormed_15 : decode b_Cl_isWellFormed 15 = .ok (.iload_n 3, 1) := by decide +kernel
theorem d_Cl_isWellFormed_16 : decode b_Cl_isWellFormed 16 = .ok (.iload 4, 2) := by decide +kernel
theorem d_Cl_isWellFormed_18 : decode b_Cl_isWellFormed 18 = .ok (.invokestatic 39, 3) := by decide +kernel
theorem d_Cl_isWellFormed_21 : decode b_Cl_isWellFormed 21 = .ok (.istore 8, 2) := by decide +kernel
theorem d_Cl_isWellFormed_23 : decode b_Cl_isWellFormed 23 = .ok (.aload_n 0, 1) := by decide +kernel
theorem d_Cl_isWellFormed_24 : decode b_Cl_isWellFormed 24 = .ok (.getfield 15, 3) := by decide +kernel
theorem d_Cl_isWellFormed_27 : decode b_Cl_isWellFormed 27 = .ok (.iload 8, 2) := by decide +kernel
theorem d_Cl_isWellFormed_29 : decode b_Cl_isWellFormed 29 = .ok (.invokevirtual 43, 3) := by decide +kernel
theorem d_Cl_isWellFormed_32 : decode b_Cl_isWellFormed 32 = .ok (.ifCond .eq 30, 3) := by decide +kernel
theorem d_Cl_isWellFormed_35 : decode b_Cl_isWellFormed 35 = .ok (.aload_n 0, 1) := by decide +kernel
theorem d_Cl_isWellFormed_36 : decode b_Cl_isWellFormed 36 = .ok (.getfield 15, 3) := by decide +kernel
theorem d_Cl_isWellFormed_39 : decode b_Cl_isWellFormed 39 = .ok (.iload 8, 2) := by decide +kernel
theorem d_Cl_isWellFormed_41 : decode b_Cl_isWellFormed 41 = .ok (.invokevirtual 49, 3) := by decide +kernel
theorem d_Cl_isWellFormed_44 : decode b_Cl_isWellFormed 44 = .ok (.ifCond .eq 18, 3) := by decide +kernel
theorem d_Cl_isWellFormed_47 : decode b_Cl_isWellFormed 47 = .ok (.iload 6, 2) := by decide +kernel
theorem d_Cl_isWellFormed_49 : decode b_Cl_isWellFormed 49 = .ok (.aload_n 0, 1) := by decide +kernel
theorem d_Cl_isWellFormed_50 : decode b_Cl_isWellFormed 50 = .ok (.getfield 15, 3) := by decide +kernel
theorem d_Cl_isWellFormed_53 : decode b_Cl_isWellFormed 53 = .ok (.iload 8, 2) := by decide +kernel
theorem d_Cl_isWellFormed_55 : decode b_Cl_isWellFormed 55 = .ok (.invokevirtual 52, 3) := by decide +kernel
theorem d_Cl_isWellFormed_58 : decode b_Cl_isWellFormed 58 = .ok (.iand, 1) := by decide +kernel
theorem d_Cl_isWellFormed_59 : decode b_Cl_isWellFormed 59 = .ok (.ifCond .eq 5, 3) := by decide +kernel
theorem d_Cl_isWellFormed_62 : decode b_Cl_isWellFormed 62 = .ok (.iconst 0, 1) := by decide +kernel
theorem d_Cl_isWellFormed_63 : decode b_Cl_isWellFormed 63 = .ok (.ireturn, 1) := by decide +kernel
theorem d_Cl_isWellFormed_64 : decode b_Cl_isWellFormed 64 = .ok (.iload 6, 2) := by decide +kernel
theorem d_Cl_isWellFormed_66 : decode b_Cl_isWellFormed 66 = .ok (.aload_n 0, 1) := by decide +kernel
theorem d_Cl_isWellFormed_67 : decode b_Cl_isWellFormed 67 = .ok (.getfield 15, 3) := by decide +kernel
theorem d_Cl_isWellFormed_70 : decode b_Cl_isWellFormed 70 = .ok (.iload 8, 2) := by decide +kernel
theorem d_Cl_isWellFormed_72 : decode b_Cl_isWellFormed 72 = .ok (.invokevirtual 52, 3) := by decide +kernel
theorem d_Cl_isWellFormed_75 : decode b_Cl_isWellFormed 75 = .ok (.ior, 1) := by decide +kernel
theorem d_Cl_isWellFormed_76 : decode b_Cl_isWellFormed 76 = .ok (.istore 6, 2) := by decide +kernel
theorem d_Cl_isWellFormed_78 : decode b_Cl_isWellFormed 78 = .ok (.iinc 7 1, 3) := by decide +kernel
theorem d_Cl_isWellFormed_81 : decode b_Cl_isWellFormed 81 = .ok (.goto (-75), 3) := by decide +kernel
theorem d_Cl_isWellFormed_84 : decode b_Cl_isWellFormed 84 = .ok (.aload_n 0, 1) := by decide +kernel
theorem d_Cl_isWellFormed_85 : decode b_Cl_isWellFormed 85 = .ok (.getfield 15, 3) := by decide +kernel
theorem d_Cl_isWellFormed_88 : decode b_Cl_isWellFormed 88 = .ok (.iload 5, 2) := by decide +kernel
theorem d_Cl_isWellFormed_90 : decode b_Cl_isWellFormed 90 = .ok (.invokevirtual 43, 3) := by decide +kernel
theorem d_Cl_isWellFormed_93 : decode b_Cl_isWellFormed 93 = .ok (.ifCond .eq 24, 3) := by decide +kernel
theorem d_Cl_isWellFormed_96 : decode b_Cl_isWellFormed 96 = .ok (.aload_n 0, 1) := by decide +kernel
theorem d_Cl_isWellFormed_97 : decode b_Cl_isWellFormed 97 = .ok (.getfield 15, 3) := by decide +kernel
theorem d_Cl_isWellFormed_100 : decode b_Cl_isWellFormed 100 = .ok (.iload 5, 2) := by decide +kernel
theorem d_Cl_isWellFormed_102 : decode b_Cl_isWellFormed 102 = .ok (.invokevirtual 52, 3) := by decide +kernel
theorem d_Cl_isWellFormed_105 : decode b_Cl_isWellFormed 105 = .ok (.iload 6, 2) := by decide +kernel
theorem d_Cl_isWellFormed_107 : decode b_Cl_isWellFormed 107 = .ok (.iconst (-1), 1) := by decide +kernel
theorem d_Cl_isWellFormed_108 : decode b_Cl_isWellFormed 108 = .ok (.ixor, 1) := by decide +kernel
theorem d_Cl_isWellFormed_109 : decode b_Cl_isWellFormed 109 = .ok (.iand, 1) := by decide +kernel
theorem d_Cl_isWellFormed_110 : decode b_Cl_isWellFormed 110 = .ok (.ifCond .ne 7, 3) := by decide +kernel
theorem d_Cl_isWellFormed_113 : decode b_Cl_isWellFormed 113 = .ok (.iconst 1, 1) := by decide +kernel
theorem d_Cl_isWellFormed_114 : decode b_Cl_isWellFormed 114 = .ok (.goto 4, 3) := by decide +kernel
theorem d_Cl_isWellFormed_117 : decode b_Cl_isWellFormed 117 = .ok (.iconst 0, 1) := by decide +kernel
theorem d_Cl_isWellFormed_118 : decode b_Cl_isWellFormed 118 = .ok (.ireturn, 1) := by decide +kernel
theorem d_Cl_isFull_0 : decode b_Cl_isFull 0 = .ok (.aload_n 0, 1) := by decide +kernel
theorem d_Cl_isFull_1 : decode b_Cl_isFull 1 = .ok (.getfield 35, 3) := by decide +kernel
theorem d_Cl_isFull_4 : decode b_Cl_isFull 4 = .ok (.bipush 24, 2) := by decide +kernel
theorem d_Cl_isFull_6 : decode b_Cl_isFull 6 = .ok (.if_icmp .ge 14, 3) := by decide +kernel
theorem d_Cl_isFull_9 : decode b_Cl_isFull 9 = .ok (.aload_n 0, 1) := by decide +kernel
theorem d_Cl_isFull_10 : decode b_Cl_isFull 10 = .ok (.getfield 32, 3) := by decide +kernel
theorem d_Cl_isFull_13 : decode b_Cl_isFull 13 = .ok (.iload_n 1, 1) := by decide +kernel
theorem d_Cl_isFull_14 : decode b_Cl_isFull 14 = .ok (.iaload, 1) := by decide +kernel
theorem d_Cl_isFull_15 : decode b_Cl_isFull 15 = .ok (.bipush 6, 2) := by decide +kernel
theorem d_Cl_isFull_17 : decode b_Cl_isFull 17 = .ok (.if_icmp .lt 7, 3) := by decide +kernel
theorem d_Cl_isFull_20 : decode b_Cl_isFull 20 = .ok (.iconst 1, 1) := by decide +kernel
theorem d_Cl_isFull_21 : decode b_Cl_isFull 21 = .ok (.goto 4, 3) := by decide +kernel
theorem d_Cl_isFull_24 : decode b_Cl_isFull 24 = .ok (.iconst 0, 1) := by decide +kernel
theorem d_Cl_isFull_25 : decode b_Cl_isFull 25 = .ok (.ireturn, 1) := by decide +kernel
theorem d_Cl_add_0 : decode b_Cl_add 0 = .ok (.aload_n 0, 1) := by decide +kernel
theorem d_Cl_add_1 : decode b_Cl_add 1 = .ok (.getfield 19, 3) := by decide +kernel
theorem d_Cl_add_4 : decode b_Cl_add 4 = .ok (.aload_n 0, 1) := by decide +kernel
theorem d_Cl_add_5 : decode b_Cl_add 5 = .ok (.getfield 35, 3) := by decide +kernel
theorem d_Cl_add_8 : decode b_Cl_add 8 = .ok (.iload_n 1, 1) := by decide +kernel
theorem d_Cl_add_9 : decode b_Cl_add 9 = .ok (.iastore, 1) := by decide +kernel
theorem d_Cl_add_10 : decode b_Cl_add 10 = .ok (.aload_n 0, 1) := by decide +kernel
theorem d_Cl_add_11 : decode b_Cl_add 11 = .ok (.getfield 26, 3) := by decide +kernel
theorem d_Cl_add_14 : decode b_Cl_add 14 = .ok (.aload_n 0, 1) := by decide +kernel
theorem d_Cl_add_15 : decode b_Cl_add 15 = .ok (.getfield 35, 3) := by decide +kernel
theorem d_Cl_add_18 : decode b_Cl_add 18 = .ok (.iload 5, 2) := by decide +kernel
theorem d_Cl_add_20 : decode b_Cl_add 20 = .ok (.iastore, 1) := by decide +kernel
theorem d_Cl_add_21 : decode b_Cl_add 21 = .ok (.iconst 0, 1) := by decide +kernel
theorem d_Cl_add_22 : decode b_Cl_add 22 = .ok (.istore 6, 2) := by decide +kernel
theorem d_Cl_add_24 : decode b_Cl_add 24 = .ok (.iload 6, 2) := by decide +kernel
theorem d_Cl_add_26 : decode b_Cl_add 26 = .ok (.aload_n 0, 1) := by decide +kernel
theorem d_Cl_add_27 : decode b_Cl_add 27 = .ok (.getfield 9, 3) := by decide +kernel
theorem d_Cl_add_30 : decode b_Cl_add 30 = .ok (.iload_n 1, 1) := by decide +kernel
theorem d_Cl_add_31 : decode b_Cl_add 31 = .ok (.invokevirtual 56, 3) := by decide +kernel
theorem d_Cl_add_34 : decode b_Cl_add 34 = .ok (.if_icmp .ge 32, 3) := by decide +kernel
theorem d_Cl_add_37 : decode b_Cl_add 37 = .ok (.aload_n 0, 1) := by decide +kernel
theorem d_Cl_add_38 : decode b_Cl_add 38 = .ok (.getfield 23, 3) := by decide +kernel
theorem d_Cl_add_41 : decode b_Cl_add 41 = .ok (.aload_n 0, 1) := by decide +kernel
theorem d_Cl_add_42 : decode b_Cl_add 42 = .ok (.getfield 35, 3) := by decide +kernel
theorem d_Cl_add_45 : decode b_Cl_add 45 = .ok (.iconst 3, 1) := by decide +kernel
theorem d_Cl_add_46 : decode b_Cl_add 46 = .ok (.imul, 1) := by decide +kernel
theorem d_Cl_add_47 : decode b_Cl_add 47 = .ok (.iload 6, 2) := by decide +kernel
theorem d_Cl_add_49 : decode b_Cl_add 49 = .ok (.iadd, 1) := by decide +kernel
theorem d_Cl_add_50 : decode b_Cl_add 50 = .ok (.iload 6, 2) := by decide +kernel
theorem d_Cl_add_52 : decode b_Cl_add 52 = .ok (.iload_n 2, 1) := by decide +kernel
theorem d_Cl_add_53 : decode b_Cl_add 53 = .ok (.iload_n 3, 1) := by decide +kernel
theorem d_Cl_add_54 : decode b_Cl_add 54 = .ok (.iload 4, 2) := by decide +kernel
theorem d_Cl_add_56 : decode b_Cl_add 56 = .ok (.invokestatic 39, 3) := by decide +kernel
theorem d_Cl_add_59 : decode b_Cl_add 59 = .ok (.iastore, 1) := by decide +kernel
theorem d_Cl_add_60 : decode b_Cl_add 60 = .ok (.iinc 6 1, 3) := by decide +kernel
theorem d_Cl_add_63 : decode b_Cl_add 63 = .ok (.goto (-39), 3) := by decide +kernel
theorem d_Cl_add_66 : decode b_Cl_add 66 = .ok (.aload_n 0, 1) := by decide +kernel
theorem d_Cl_add_67 : decode b_Cl_add 67 = .ok (.getfield 29, 3) := by decide +kernel
theorem d_Cl_add_70 : decode b_Cl_add 70 = .ok (.iload_n 1, 1) := by decide +kernel
theorem d_Cl_add_71 : decode b_Cl_add 71 = .ok (.bipush 6, 2) := by decide +kernel
theorem d_Cl_add_73 : decode b_Cl_add 73 = .ok (.imul, 1) := by decide +kernel
theorem d_Cl_add_74 : decode b_Cl_add 74 = .ok (.aload_n 0, 1) := by decide +kernel
theorem d_Cl_add_75 : decode b_Cl_add 75 = .ok (.getfield 32, 3) := by decide +kernel
theorem d_Cl_add_78 : decode b_Cl_add 78 = .ok (.iload_n 1, 1) := by decide +kernel
theorem d_Cl_add_79 : decode b_Cl_add 79 = .ok (.iaload, 1) := by decide +kernel
theorem d_Cl_add_80 : decode b_Cl_add 80 = .ok (.iadd, 1) := by decide +kernel
theorem d_Cl_add_81 : decode b_Cl_add 81 = .ok (.aload_n 0, 1) := by decide +kernel
theorem d_Cl_add_82 : decode b_Cl_add 82 = .ok (.getfield 35, 3) := by decide +kernel
theorem d_Cl_add_85 : decode b_Cl_add 85 = .ok (.iastore, 1) := by decide +kernel
theorem d_Cl_add_86 : decode b_Cl_add 86 = .ok (.aload_n 0, 1) := by decide +kernel
theorem d_Cl_add_87 : decode b_Cl_add 87 = .ok (.getfield 32, 3) := by decide +kernel
theorem d_Cl_add_90 : decode b_Cl_add 90 = .ok (.iload_n 1, 1) := by decide +kernel
theorem d_Cl_add_91 : decode b_Cl_add 91 = .ok (.dup2, 1) := by decide +kernel
theorem d_Cl_add_92 : decode b_Cl_add 92 = .ok (.iaload, 1) := by decide +kernel
theorem d_Cl_add_93 : decode b_Cl_add 93 = .ok (.iconst 1, 1) := by decide +kernel
theorem d_Cl_add_94 : decode b_Cl_add 94 = .ok (.iadd, 1) := by decide +kernel
theorem d_Cl_add_95 : decode b_Cl_add 95 = .ok (.iastore, 1) := by decide +kernel
theorem d_Cl_add_96 : decode b_Cl_add 96 = .ok (.aload_n 0, 1) := by decide +kernel
theorem d_Cl_add_97 : decode b_Cl_add 97 = .ok (.dup, 1) := by decide +kernel
theorem d_Cl_add_98 : decode b_Cl_add 98 = .ok (.getfield 35, 3) := by decide +kernel
theorem d_Cl_add_101 : decode b_Cl_add 101 = .ok (.iconst 1, 1) := by decide +kernel
theorem d_Cl_add_102 : decode b_Cl_add 102 = .ok (.iadd, 1) := by decide +kernel
theorem d_Cl_add_103 : decode b_Cl_add 103 = .ok (.putfield 35, 3) := by decide +kernel
theorem d_Cl_add_106 : decode b_Cl_add 106 = .ok (.aload_n 0, 1) := by decide +kernel
theorem d_Cl_add_107 : decode b_Cl_add 107 = .ok (.getfield 35, 3) := by decide +kernel
theorem d_Cl_add_110 : decode b_Cl_add 110 = .ok (.ireturn, 1) := by decide +kernel
theorem d_Cl_has_0 : decode b_Cl_has 0 = .ok (.iload_n 1, 1) := by decide +kernel
theorem d_Cl_has_1 : decode b_Cl_has 1 = .ok (.ifCond .lt 15, 3) := by decide +kernel
theorem d_Cl_has_4 : decode b_Cl_has 4 = .ok (.iload_n 1, 1) := by decide +kernel
theorem d_Cl_has_5 : decode b_Cl_has 5 = .ok (.aload_n 0, 1) := by decide +kernel
theorem d_Cl_has_6 : decode b_Cl_has 6 = .ok (.getfield 35, 3) := by decide +kernel
theorem d_Cl_has_9 : decode b_Cl_has 9 = .ok (.if_icmp .ge 7, 3) := by decide +kernel
theorem d_Cl_has_12 : decode b_Cl_has 12 = .ok (.iconst 1, 1) := by decide +kernel
theorem d_Cl_has_13 : decode b_Cl_has 13 = .ok (.goto 4, 3) := by decide +kernel
theorem d_Cl_has_16 : decode b_Cl_has 16 = .ok (.iconst 0, 1) := by decide +kernel
theorem d_Cl_has_17 : decode b_Cl_has 17 = .ok (.ireturn, 1) := by decide +kernel
