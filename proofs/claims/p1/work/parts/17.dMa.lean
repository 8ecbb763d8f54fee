theorem d_Ma_init_0 : decode b_Ma_init 0 = .ok (.aload_n 0, 1) := by decide +kernel
theorem d_Ma_init_1 : decode b_Ma_init 1 = .ok (.invokespecial 5, 3) := by decide +kernel
theorem d_Ma_init_4 : decode b_Ma_init 4 = .ok (.aload_n 0, 1) := by decide +kernel
theorem d_Ma_init_5 : decode b_Ma_init 5 = .ok (.aload_n 2, 1) := by decide +kernel
theorem d_Ma_init_6 : decode b_Ma_init 6 = .ok (.putfield 11, 3) := by decide +kernel
theorem d_Ma_init_9 : decode b_Ma_init 9 = .ok (.aload_n 0, 1) := by decide +kernel
theorem d_Ma_init_10 : decode b_Ma_init 10 = .ok (.aload_n 3, 1) := by decide +kernel
theorem d_Ma_init_11 : decode b_Ma_init 11 = .ok (.putfield 15, 3) := by decide +kernel
theorem d_Ma_init_14 : decode b_Ma_init 14 = .ok (.aload_n 0, 1) := by decide +kernel
theorem d_Ma_init_15 : decode b_Ma_init 15 = .ok (.aload 4, 2) := by decide +kernel
theorem d_Ma_init_17 : decode b_Ma_init 17 = .ok (.putfield 19, 3) := by decide +kernel
theorem d_Ma_init_20 : decode b_Ma_init 20 = .ok (.aload_n 0, 1) := by decide +kernel
theorem d_Ma_init_21 : decode b_Ma_init 21 = .ok (.new 23, 3) := by decide +kernel
theorem d_Ma_init_24 : decode b_Ma_init 24 = .ok (.dup, 1) := by decide +kernel
theorem d_Ma_init_25 : decode b_Ma_init 25 = .ok (.aload_n 1, 1) := by decide +kernel
theorem d_Ma_init_26 : decode b_Ma_init 26 = .ok (.aload_n 3, 1) := by decide +kernel
theorem d_Ma_init_27 : decode b_Ma_init 27 = .ok (.invokespecial 25, 3) := by decide +kernel
theorem d_Ma_init_30 : decode b_Ma_init 30 = .ok (.putfield 28, 3) := by decide +kernel
theorem d_Ma_init_33 : decode b_Ma_init 33 = .ok (.aload_n 0, 1) := by decide +kernel
theorem d_Ma_init_34 : decode b_Ma_init 34 = .ok (.sipush 1001, 3) := by decide +kernel
theorem d_Ma_init_37 : decode b_Ma_init 37 = .ok (.newarray .int, 2) := by decide +kernel
theorem d_Ma_init_39 : decode b_Ma_init 39 = .ok (.putfield 32, 3) := by decide +kernel
theorem d_Ma_init_42 : decode b_Ma_init 42 = .ok (.aload_n 0, 1) := by decide +kernel
theorem d_Ma_init_43 : decode b_Ma_init 43 = .ok (.sipush 1001, 3) := by decide +kernel
theorem d_Ma_init_46 : decode b_Ma_init 46 = .ok (.newarray .int, 2) := by decide +kernel
theorem d_Ma_init_48 : decode b_Ma_init 48 = .ok (.putfield 36, 3) := by decide +kernel
theorem d_Ma_init_51 : decode b_Ma_init 51 = .ok (.aload_n 0, 1) := by decide +kernel
theorem d_Ma_init_52 : decode b_Ma_init 52 = .ok (.sipush 1001, 3) := by decide +kernel
theorem d_Ma_init_55 : decode b_Ma_init 55 = .ok (.newarray .int, 2) := by decide +kernel
theorem d_Ma_init_57 : decode b_Ma_init 57 = .ok (.putfield 39, 3) := by decide +kernel
theorem d_Ma_init_60 : decode b_Ma_init 60 = .ok (.aload_n 0, 1) := by decide +kernel
theorem d_Ma_init_61 : decode b_Ma_init 61 = .ok (.sipush 2005, 3) := by decide +kernel
theorem d_Ma_init_64 : decode b_Ma_init 64 = .ok (.newarray .int, 2) := by decide +kernel
theorem d_Ma_init_66 : decode b_Ma_init 66 = .ok (.putfield 42, 3) := by decide +kernel
theorem d_Ma_init_69 : decode b_Ma_init 69 = .ok (.aload_n 0, 1) := by decide +kernel
theorem d_Ma_init_70 : decode b_Ma_init 70 = .ok (.sipush 1600, 3) := by decide +kernel
theorem d_Ma_init_73 : decode b_Ma_init 73 = .ok (.newarray .int, 2) := by decide +kernel
theorem d_Ma_init_75 : decode b_Ma_init 75 = .ok (.putfield 45, 3) := by decide +kernel
theorem d_Ma_init_78 : decode b_Ma_init 78 = .ok (.aload_n 0, 1) := by decide +kernel
theorem d_Ma_init_79 : decode b_Ma_init 79 = .ok (.bipush 60, 2) := by decide +kernel
theorem d_Ma_init_81 : decode b_Ma_init 81 = .ok (.newarray .int, 2) := by decide +kernel
theorem d_Ma_init_83 : decode b_Ma_init 83 = .ok (.putfield 48, 3) := by decide +kernel
theorem d_Ma_init_86 : decode b_Ma_init 86 = .ok (.return_, 1) := by decide +kernel
theorem d_Ma_steps_0 : decode b_Ma_steps 0 = .ok (.aload_n 0, 1) := by decide +kernel
theorem d_Ma_steps_1 : decode b_Ma_steps 1 = .ok (.getfield 51, 3) := by decide +kernel
theorem d_Ma_steps_4 : decode b_Ma_steps 4 = .ok (.ireturn, 1) := by decide +kernel
theorem d_Ma_perform_0 : decode b_Ma_perform 0 = .ok (.aload_n 0, 1) := by decide +kernel
theorem d_Ma_perform_1 : decode b_Ma_perform 1 = .ok (.getfield 28, 3) := by decide +kernel
theorem d_Ma_perform_4 : decode b_Ma_perform 4 = .ok (.invokevirtual 58, 3) := by decide +kernel
theorem d_Ma_perform_7 : decode b_Ma_perform 7 = .ok (.aload_n 0, 1) := by decide +kernel
theorem d_Ma_perform_8 : decode b_Ma_perform 8 = .ok (.iconst 0, 1) := by decide +kernel
theorem d_Ma_perform_9 : decode b_Ma_perform 9 = .ok (.putfield 51, 3) := by decide +kernel
theorem d_Ma_perform_12 : decode b_Ma_perform 12 = .ok (.aload_n 0, 1) := by decide +kernel
theorem d_Ma_perform_13 : decode b_Ma_perform 13 = .ok (.iconst 0, 1) := by decide +kernel
theorem d_Ma_perform_14 : decode b_Ma_perform 14 = .ok (.putfield 61, 3) := by decide +kernel
theorem d_Ma_perform_17 : decode b_Ma_perform 17 = .ok (.aload_n 0, 1) := by decide +kernel
theorem d_Ma_perform_18 : decode b_Ma_perform 18 = .ok (.iconst 0, 1) := by decide +kernel
theorem d_Ma_perform_19 : decode b_Ma_perform 19 = .ok (.putfield 64, 3) := by decide +kernel
theorem d_Ma_perform_22 : decode b_Ma_perform 22 = .ok (.aload_n 0, 1) := by decide +kernel
theorem d_Ma_perform_23 : decode b_Ma_perform 23 = .ok (.iconst 0, 1) := by decide +kernel
theorem d_Ma_perform_24 : decode b_Ma_perform 24 = .ok (.putfield 67, 3) := by decide +kernel
theorem d_Ma_perform_27 : decode b_Ma_perform 27 = .ok (.aload_n 0, 1) := by decide +kernel
theorem d_Ma_perform_28 : decode b_Ma_perform 28 = .ok (.iconst 0, 1) := by decide +kernel
theorem d_Ma_perform_29 : decode b_Ma_perform 29 = .ok (.putfield 55, 3) := by decide +kernel
theorem d_Ma_perform_32 : decode b_Ma_perform 32 = .ok (.iconst 0, 1) := by decide +kernel
theorem d_Ma_perform_33 : decode b_Ma_perform 33 = .ok (.istore 5, 2) := by decide +kernel
theorem d_Ma_perform_35 : decode b_Ma_perform 35 = .ok (.iload 5, 2) := by decide +kernel
theorem d_Ma_perform_37 : decode b_Ma_perform 37 = .ok (.aload_n 0, 1) := by decide +kernel
theorem d_Ma_perform_38 : decode b_Ma_perform 38 = .ok (.getfield 11, 3) := by decide +kernel
theorem d_Ma_perform_41 : decode b_Ma_perform 41 = .ok (.iload_n 1, 1) := by decide +kernel
theorem d_Ma_perform_42 : decode b_Ma_perform 42 = .ok (.invokevirtual 71, 3) := by decide +kernel
theorem d_Ma_perform_45 : decode b_Ma_perform 45 = .ok (.if_icmp .ge 22, 3) := by decide +kernel
theorem d_Ma_perform_48 : decode b_Ma_perform 48 = .ok (.aload_n 0, 1) := by decide +kernel
theorem d_Ma_perform_49 : decode b_Ma_perform 49 = .ok (.iload 5, 2) := by decide +kernel
theorem d_Ma_perform_51 : decode b_Ma_perform 51 = .ok (.iload_n 2, 1) := by decide +kernel
theorem d_Ma_perform_52 : decode b_Ma_perform 52 = .ok (.iload_n 3, 1) := by decide +kernel
theorem d_Ma_perform_53 : decode b_Ma_perform 53 = .ok (.iload 4, 2) := by decide +kernel
theorem d_Ma_perform_55 : decode b_Ma_perform 55 = .ok (.invokestatic 77, 3) := by decide +kernel
theorem d_Ma_perform_58 : decode b_Ma_perform 58 = .ok (.invokevirtual 81, 3) := by decide +kernel
theorem d_Ma_perform_61 : decode b_Ma_perform 61 = .ok (.iinc 5 1, 3) := by decide +kernel
theorem d_Ma_perform_64 : decode b_Ma_perform 64 = .ok (.goto (-29), 3) := by decide +kernel
theorem d_Ma_perform_67 : decode b_Ma_perform 67 = .ok (.aload_n 0, 1) := by decide +kernel
theorem d_Ma_perform_68 : decode b_Ma_perform 68 = .ok (.iload_n 1, 1) := by decide +kernel
theorem d_Ma_perform_69 : decode b_Ma_perform 69 = .ok (.invokevirtual 85, 3) := by decide +kernel
theorem d_Ma_perform_72 : decode b_Ma_perform 72 = .ok (.iconst 0, 1) := by decide +kernel
theorem d_Ma_perform_73 : decode b_Ma_perform 73 = .ok (.istore 5, 2) := by decide +kernel
theorem d_Ma_perform_75 : decode b_Ma_perform 75 = .ok (.iload 5, 2) := by decide +kernel
theorem d_Ma_perform_77 : decode b_Ma_perform 77 = .ok (.sipush 32000, 3) := by decide +kernel
theorem d_Ma_perform_80 : decode b_Ma_perform 80 = .ok (.if_icmp .ge 27, 3) := by decide +kernel
theorem d_Ma_perform_83 : decode b_Ma_perform 83 = .ok (.aload_n 0, 1) := by decide +kernel
theorem d_Ma_perform_84 : decode b_Ma_perform 84 = .ok (.getfield 61, 3) := by decide +kernel
theorem d_Ma_perform_87 : decode b_Ma_perform 87 = .ok (.ifCond .le 20, 3) := by decide +kernel
theorem d_Ma_perform_90 : decode b_Ma_perform 90 = .ok (.aload_n 0, 1) := by decide +kernel
theorem d_Ma_perform_91 : decode b_Ma_perform 91 = .ok (.getfield 67, 3) := by decide +kernel
theorem d_Ma_perform_94 : decode b_Ma_perform 94 = .ok (.ifCond .ne 13, 3) := by decide +kernel
theorem d_Ma_perform_97 : decode b_Ma_perform 97 = .ok (.aload_n 0, 1) := by decide +kernel
theorem d_Ma_perform_98 : decode b_Ma_perform 98 = .ok (.invokevirtual 88, 3) := by decide +kernel
theorem d_Ma_perform_101 : decode b_Ma_perform 101 = .ok (.iinc 5 1, 3) := by decide +kernel
theorem d_Ma_perform_104 : decode b_Ma_perform 104 = .ok (.goto (-29), 3) := by decide +kernel
theorem d_Ma_perform_107 : decode b_Ma_perform 107 = .ok (.aload_n 0, 1) := by decide +kernel
theorem d_Ma_perform_108 : decode b_Ma_perform 108 = .ok (.getfield 67, 3) := by decide +kernel
theorem d_Ma_perform_111 : decode b_Ma_perform 111 = .ok (.ifCond .ne 28, 3) := by decide +kernel
theorem d_Ma_perform_114 : decode b_Ma_perform 114 = .ok (.aload_n 0, 1) := by decide +kernel
theorem d_Ma_perform_115 : decode b_Ma_perform 115 = .ok (.getfield 61, 3) := by decide +kernel
theorem d_Ma_perform_118 : decode b_Ma_perform 118 = .ok (.ifCond .ne 21, 3) := by decide +kernel
theorem d_Ma_perform_121 : decode b_Ma_perform 121 = .ok (.aload_n 0, 1) := by decide +kernel
theorem d_Ma_perform_122 : decode b_Ma_perform 122 = .ok (.getfield 64, 3) := by decide +kernel
theorem d_Ma_perform_125 : decode b_Ma_perform 125 = .ok (.iconst 1, 1) := by decide +kernel
theorem d_Ma_perform_126 : decode b_Ma_perform 126 = .ok (.if_icmp .ne 13, 3) := by decide +kernel
theorem d_Ma_perform_129 : decode b_Ma_perform 129 = .ok (.aload_n 0, 1) := by decide +kernel
theorem d_Ma_perform_130 : decode b_Ma_perform 130 = .ok (.aload_n 0, 1) := by decide +kernel
theorem d_Ma_perform_131 : decode b_Ma_perform 131 = .ok (.getfield 42, 3) := by decide +kernel
theorem d_Ma_perform_134 : decode b_Ma_perform 134 = .ok (.iconst 0, 1) := by decide +kernel
theorem d_Ma_perform_135 : decode b_Ma_perform 135 = .ok (.iaload, 1) := by decide +kernel
theorem d_Ma_perform_136 : decode b_Ma_perform 136 = .ok (.invokevirtual 91, 3) := by decide +kernel
theorem d_Ma_perform_139 : decode b_Ma_perform 139 = .ok (.aload_n 0, 1) := by decide +kernel
theorem d_Ma_perform_140 : decode b_Ma_perform 140 = .ok (.getfield 55, 3) := by decide +kernel
theorem d_Ma_perform_143 : decode b_Ma_perform 143 = .ok (.ireturn, 1) := by decide +kernel
theorem d_Ma_hold_0 : decode b_Ma_hold 0 = .ok (.aload_n 0, 1) := by decide +kernel
theorem d_Ma_hold_1 : decode b_Ma_hold 1 = .ok (.getfield 64, 3) := by decide +kernel
theorem d_Ma_hold_4 : decode b_Ma_hold 4 = .ok (.sipush 2005, 3) := by decide +kernel
theorem d_Ma_hold_7 : decode b_Ma_hold 7 = .ok (.if_icmp .lt 9, 3) := by decide +kernel
theorem d_Ma_hold_10 : decode b_Ma_hold 10 = .ok (.aload_n 0, 1) := by decide +kernel
theorem d_Ma_hold_11 : decode b_Ma_hold 11 = .ok (.iconst 1, 1) := by decide +kernel
theorem d_Ma_hold_12 : decode b_Ma_hold 12 = .ok (.putfield 67, 3) := by decide +kernel
theorem d_Ma_hold_15 : decode b_Ma_hold 15 = .ok (.return_, 1) := by decide +kernel
theorem d_Ma_hold_16 : decode b_Ma_hold 16 = .ok (.aload_n 0, 1) := by decide +kernel
theorem d_Ma_hold_17 : decode b_Ma_hold 17 = .ok (.getfield 42, 3) := by decide +kernel
theorem d_Ma_hold_20 : decode b_Ma_hold 20 = .ok (.aload_n 0, 1) := by decide +kernel
theorem d_Ma_hold_21 : decode b_Ma_hold 21 = .ok (.getfield 64, 3) := by decide +kernel
theorem d_Ma_hold_24 : decode b_Ma_hold 24 = .ok (.iload_n 1, 1) := by decide +kernel
theorem d_Ma_hold_25 : decode b_Ma_hold 25 = .ok (.iastore, 1) := by decide +kernel
theorem d_Ma_hold_26 : decode b_Ma_hold 26 = .ok (.aload_n 0, 1) := by decide +kernel
theorem d_Ma_hold_27 : decode b_Ma_hold 27 = .ok (.dup, 1) := by decide +kernel
theorem d_Ma_hold_28 : decode b_Ma_hold 28 = .ok (.getfield 64, 3) := by decide +kernel
theorem d_Ma_hold_31 : decode b_Ma_hold 31 = .ok (.iconst 1, 1) := by decide +kernel
theorem d_Ma_hold_32 : decode b_Ma_hold 32 = .ok (.iadd, 1) := by decide +kernel
theorem d_Ma_hold_33 : decode b_Ma_hold 33 = .ok (.putfield 64, 3) := by decide +kernel
theorem d_Ma_hold_36 : decode b_Ma_hold 36 = .ok (.return_, 1) := by decide +kernel
theorem d_Ma_step_0 : decode b_Ma_step 0 = .ok (.aload_n 0, 1) := by decide +kernel
theorem d_Ma_step_1 : decode b_Ma_step 1 = .ok (.getfield 11, 3) := by decide +kernel
theorem d_Ma_step_4 : decode b_Ma_step 4 = .ok (.iload_n 1, 1) := by decide +kernel
theorem d_Ma_step_5 : decode b_Ma_step 5 = .ok (.invokevirtual 71, 3) := by decide +kernel
theorem d_Ma_step_8 : decode b_Ma_step 8 = .ok (.istore_n 2, 1) := by decide +kernel
theorem d_Ma_step_9 : decode b_Ma_step 9 = .ok (.aload_n 0, 1) := by decide +kernel
theorem d_Ma_step_10 : decode b_Ma_step 10 = .ok (.getfield 51, 3) := by decide +kernel
theorem d_Ma_step_13 : decode b_Ma_step 13 = .ok (.sipush 200, 3) := by decide +kernel
theorem d_Ma_step_16 : decode b_Ma_step 16 = .ok (.if_icmp .ge 11, 3) := by decide +kernel
theorem d_Ma_step_19 : decode b_Ma_step 19 = .ok (.aload_n 0, 1) := by decide +kernel
theorem d_Ma_step_20 : decode b_Ma_step 20 = .ok (.getfield 64, 3) := by decide +kernel
theorem d_Ma_step_23 : decode b_Ma_step 23 = .ok (.iload_n 2, 1) := by decide +kernel
theorem d_Ma_step_24 : decode b_Ma_step 24 = .ok (.if_icmp .ge 9, 3) := by decide +kernel
theorem d_Ma_step_27 : decode b_Ma_step 27 = .ok (.aload_n 0, 1) := by decide +kernel
theorem d_Ma_step_28 : decode b_Ma_step 28 = .ok (.iconst 1, 1) := by decide +kernel
theorem d_Ma_step_29 : decode b_Ma_step 29 = .ok (.putfield 67, 3) := by decide +kernel
theorem d_Ma_step_32 : decode b_Ma_step 32 = .ok (.return_, 1) := by decide +kernel
theorem d_Ma_step_33 : decode b_Ma_step 33 = .ok (.aload_n 0, 1) := by decide +kernel
theorem d_Ma_step_34 : decode b_Ma_step 34 = .ok (.getfield 51, 3) := by decide +kernel
theorem d_Ma_step_37 : decode b_Ma_step 37 = .ok (.istore_n 3, 1) := by decide +kernel
theorem d_Ma_step_38 : decode b_Ma_step 38 = .ok (.aload_n 0, 1) := by decide +kernel
theorem d_Ma_step_39 : decode b_Ma_step 39 = .ok (.dup, 1) := by decide +kernel
theorem d_Ma_step_40 : decode b_Ma_step 40 = .ok (.getfield 51, 3) := by decide +kernel
theorem d_Ma_step_43 : decode b_Ma_step 43 = .ok (.iconst 1, 1) := by decide +kernel
theorem d_Ma_step_44 : decode b_Ma_step 44 = .ok (.iadd, 1) := by decide +kernel
theorem d_Ma_step_45 : decode b_Ma_step 45 = .ok (.putfield 51, 3) := by decide +kernel
theorem d_Ma_step_48 : decode b_Ma_step 48 = .ok (.aload_n 0, 1) := by decide +kernel
theorem d_Ma_step_49 : decode b_Ma_step 49 = .ok (.dup, 1) := by decide +kernel
theorem d_Ma_step_50 : decode b_Ma_step 50 = .ok (.getfield 64, 3) := by decide +kernel
theorem d_Ma_step_53 : decode b_Ma_step 53 = .ok (.iload_n 2, 1) := by decide +kernel
theorem d_Ma_step_54 : decode b_Ma_step 54 = .ok (.isub, 1) := by decide +kernel
theorem d_Ma_step_55 : decode b_Ma_step 55 = .ok (.putfield 64, 3) := by decide +kernel
theorem d_Ma_step_58 : decode b_Ma_step 58 = .ok (.iconst 0, 1) := by decide +kernel
theorem d_Ma_step_59 : decode b_Ma_step 59 = .ok (.istore 4, 2) := by decide +kernel
theorem d_Ma_step_61 : decode b_Ma_step 61 = .ok (.iload 4, 2) := by decide +kernel
theorem d_Ma_step_63 : decode b_Ma_step 63 = .ok (.aload_n 0, 1) := by decide +kernel
theorem d_Ma_step_64 : decode b_Ma_step 64 = .ok (.getfield 19, 3) := by decide +kernel
theorem d_Ma_step_67 : decode b_Ma_step 67 = .ok (.iload_n 1, 1) := by decide +kernel
theorem d_Ma_step_68 : decode b_Ma_step 68 = .ok (.invokevirtual 129, 3) := by decide +kernel
theorem d_Ma_step_71 : decode b_Ma_step 71 = .ok (.if_icmp .ge 47, 3) := by decide +kernel
theorem d_Ma_step_74 : decode b_Ma_step 74 = .ok (.aload_n 0, 1) := by decide +kernel
theorem d_Ma_step_75 : decode b_Ma_step 75 = .ok (.getfield 19, 3) := by decide +kernel
theorem d_Ma_step_78 : decode b_Ma_step 78 = .ok (.iload_n 1, 1) := by decide +kernel
theorem d_Ma_step_79 : decode b_Ma_step 79 = .ok (.iload 4, 2) := by decide +kernel
theorem d_Ma_step_81 : decode b_Ma_step 81 = .ok (.invokevirtual 134, 3) := by decide +kernel
theorem d_Ma_step_84 : decode b_Ma_step 84 = .ok (.istore 5, 2) := by decide +kernel
theorem d_Ma_step_86 : decode b_Ma_step 86 = .ok (.aload_n 0, 1) := by decide +kernel
theorem d_Ma_step_87 : decode b_Ma_step 87 = .ok (.iload 5, 2) := by decide +kernel
theorem d_Ma_step_89 : decode b_Ma_step 89 = .ok (.iload_n 2, 1) := by decide +kernel
theorem d_Ma_step_90 : decode b_Ma_step 90 = .ok (.iload_n 3, 1) := by decide +kernel
theorem d_Ma_step_91 : decode b_Ma_step 91 = .ok (.invokevirtual 137, 3) := by decide +kernel
theorem d_Ma_step_94 : decode b_Ma_step 94 = .ok (.ifCond .eq 18, 3) := by decide +kernel
theorem d_Ma_step_97 : decode b_Ma_step 97 = .ok (.aload_n 0, 1) := by decide +kernel
theorem d_Ma_step_98 : decode b_Ma_step 98 = .ok (.aload_n 0, 1) := by decide +kernel
theorem d_Ma_step_99 : decode b_Ma_step 99 = .ok (.getfield 19, 3) := by decide +kernel
theorem d_Ma_step_102 : decode b_Ma_step 102 = .ok (.iload 5, 2) := by decide +kernel
theorem d_Ma_step_104 : decode b_Ma_step 104 = .ok (.invokevirtual 141, 3) := by decide +kernel
theorem d_Ma_step_107 : decode b_Ma_step 107 = .ok (.iload_n 3, 1) := by decide +kernel
theorem d_Ma_step_108 : decode b_Ma_step 108 = .ok (.invokevirtual 101, 3) := by decide +kernel
theorem d_Ma_step_111 : decode b_Ma_step 111 = .ok (.return_, 1) := by decide +kernel
theorem d_Ma_step_112 : decode b_Ma_step 112 = .ok (.iinc 4 1, 3) := by decide +kernel
theorem d_Ma_step_115 : decode b_Ma_step 115 = .ok (.goto (-54), 3) := by decide +kernel
theorem d_Ma_step_118 : decode b_Ma_step 118 = .ok (.aload_n 0, 1) := by decide +kernel
theorem d_Ma_step_119 : decode b_Ma_step 119 = .ok (.iconst 1, 1) := by decide +kernel
theorem d_Ma_step_120 : decode b_Ma_step 120 = .ok (.putfield 67, 3) := by decide +kernel
theorem d_Ma_step_123 : decode b_Ma_step 123 = .ok (.return_, 1) := by decide +kernel
theorem d_Ma_matchesAll_0 : decode b_Ma_matchesAll 0 = .ok (.iconst 0, 1) := by decide +kernel
theorem d_Ma_matchesAll_1 : decode b_Ma_matchesAll 1 = .ok (.istore 4, 2) := by decide +kernel
theorem d_Ma_matchesAll_3 : decode b_Ma_matchesAll 3 = .ok (.iload 4, 2) := by decide +kernel
theorem d_Ma_matchesAll_5 : decode b_Ma_matchesAll 5 = .ok (.iload_n 2, 1) := by decide +kernel
theorem d_Ma_matchesAll_6 : decode b_Ma_matchesAll 6 = .ok (.if_icmp .ge 41, 3) := by decide +kernel
theorem d_Ma_matchesAll_9 : decode b_Ma_matchesAll 9 = .ok (.aload_n 0, 1) := by decide +kernel
theorem d_Ma_matchesAll_10 : decode b_Ma_matchesAll 10 = .ok (.aload_n 0, 1) := by decide +kernel
theorem d_Ma_matchesAll_11 : decode b_Ma_matchesAll 11 = .ok (.getfield 19, 3) := by decide +kernel
theorem d_Ma_matchesAll_14 : decode b_Ma_matchesAll 14 = .ok (.iload_n 1, 1) := by decide +kernel
theorem d_Ma_matchesAll_15 : decode b_Ma_matchesAll 15 = .ok (.iload 4, 2) := by decide +kernel
theorem d_Ma_matchesAll_17 : decode b_Ma_matchesAll 17 = .ok (.invokevirtual 144, 3) := by decide +kernel
theorem d_Ma_matchesAll_20 : decode b_Ma_matchesAll 20 = .ok (.aload_n 0, 1) := by decide +kernel
theorem d_Ma_matchesAll_21 : decode b_Ma_matchesAll 21 = .ok (.getfield 42, 3) := by decide +kernel
theorem d_Ma_matchesAll_24 : decode b_Ma_matchesAll 24 = .ok (.aload_n 0, 1) := by decide +kernel
theorem d_Ma_matchesAll_25 : decode b_Ma_matchesAll 25 = .ok (.getfield 64, 3) := by decide +kernel
theorem d_Ma_matchesAll_28 : decode b_Ma_matchesAll 28 = .ok (.iload 4, 2) := by decide +kernel
theorem d_Ma_matchesAll_30 : decode b_Ma_matchesAll 30 = .ok (.iadd, 1) := by decide +kernel
theorem d_Ma_matchesAll_31 : decode b_Ma_matchesAll 31 = .ok (.iaload, 1) := by decide +kernel
theorem d_Ma_matchesAll_32 : decode b_Ma_matchesAll 32 = .ok (.iload_n 3, 1) := by decide +kernel
theorem d_Ma_matchesAll_33 : decode b_Ma_matchesAll 33 = .ok (.invokevirtual 147, 3) := by decide +kernel
theorem d_Ma_matchesAll_36 : decode b_Ma_matchesAll 36 = .ok (.ifCond .ne 5, 3) := by decide +kernel
theorem d_Ma_matchesAll_39 : decode b_Ma_matchesAll 39 = .ok (.iconst 0, 1) := by decide +kernel
theorem d_Ma_matchesAll_40 : decode b_Ma_matchesAll 40 = .ok (.ireturn, 1) := by decide +kernel
theorem d_Ma_matchesAll_41 : decode b_Ma_matchesAll 41 = .ok (.iinc 4 1, 3) := by decide +kernel
theorem d_Ma_matchesAll_44 : decode b_Ma_matchesAll 44 = .ok (.goto (-41), 3) := by decide +kernel
theorem d_Ma_matchesAll_47 : decode b_Ma_matchesAll 47 = .ok (.iconst 1, 1) := by decide +kernel
theorem d_Ma_matchesAll_48 : decode b_Ma_matchesAll 48 = .ok (.ireturn, 1) := by decide +kernel
theorem d_Ma_matches_0 : decode b_Ma_matches 0 = .ok (.aload_n 0, 1) := by decide +kernel
theorem d_Ma_matches_1 : decode b_Ma_matches 1 = .ok (.getfield 15, 3) := by decide +kernel
theorem d_Ma_matches_4 : decode b_Ma_matches 4 = .ok (.iload_n 1, 1) := by decide +kernel
theorem d_Ma_matches_5 : decode b_Ma_matches 5 = .ok (.invokevirtual 115, 3) := by decide +kernel
theorem d_Ma_matches_8 : decode b_Ma_matches 8 = .ok (.ifCond .eq 24, 3) := by decide +kernel
theorem d_Ma_matches_11 : decode b_Ma_matches 11 = .ok (.aload_n 0, 1) := by decide +kernel
theorem d_Ma_matches_12 : decode b_Ma_matches 12 = .ok (.getfield 45, 3) := by decide +kernel
theorem d_Ma_matches_15 : decode b_Ma_matches 15 = .ok (.iload_n 3, 1) := by decide +kernel
theorem d_Ma_matches_16 : decode b_Ma_matches 16 = .ok (.bipush 8, 2) := by decide +kernel
theorem d_Ma_matches_18 : decode b_Ma_matches 18 = .ok (.imul, 1) := by decide +kernel
theorem d_Ma_matches_19 : decode b_Ma_matches 19 = .ok (.aload_n 0, 1) := by decide +kernel
theorem d_Ma_matches_20 : decode b_Ma_matches 20 = .ok (.getfield 15, 3) := by decide +kernel
theorem d_Ma_matches_23 : decode b_Ma_matches 23 = .ok (.iload_n 1, 1) := by decide +kernel
theorem d_Ma_matches_24 : decode b_Ma_matches 24 = .ok (.invokevirtual 109, 3) := by decide +kernel
theorem d_Ma_matches_27 : decode b_Ma_matches 27 = .ok (.iadd, 1) := by decide +kernel
theorem d_Ma_matches_28 : decode b_Ma_matches 28 = .ok (.iload_n 2, 1) := by decide +kernel
theorem d_Ma_matches_29 : decode b_Ma_matches 29 = .ok (.iastore, 1) := by decide +kernel
theorem d_Ma_matches_30 : decode b_Ma_matches 30 = .ok (.iconst 1, 1) := by decide +kernel
theorem d_Ma_matches_31 : decode b_Ma_matches 31 = .ok (.ireturn, 1) := by decide +kernel
theorem d_Ma_matches_32 : decode b_Ma_matches 32 = .ok (.aload_n 0, 1) := by decide +kernel
theorem d_Ma_matches_33 : decode b_Ma_matches 33 = .ok (.getfield 15, 3) := by decide +kernel
theorem d_Ma_matches_36 : decode b_Ma_matches 36 = .ok (.iload_n 1, 1) := by decide +kernel
theorem d_Ma_matches_37 : decode b_Ma_matches 37 = .ok (.invokevirtual 109, 3) := by decide +kernel
theorem d_Ma_matches_40 : decode b_Ma_matches 40 = .ok (.aload_n 0, 1) := by decide +kernel
theorem d_Ma_matches_41 : decode b_Ma_matches 41 = .ok (.getfield 28, 3) := by decide +kernel
theorem d_Ma_matches_44 : decode b_Ma_matches 44 = .ok (.iload_n 2, 1) := by decide +kernel
theorem d_Ma_matches_45 : decode b_Ma_matches 45 = .ok (.invokevirtual 150, 3) := by decide +kernel
theorem d_Ma_matches_48 : decode b_Ma_matches 48 = .ok (.if_icmp .eq 5, 3) := by decide +kernel
theorem d_Ma_matches_51 : decode b_Ma_matches 51 = .ok (.iconst 0, 1) := by decide +kernel
theorem d_Ma_matches_52 : decode b_Ma_matches 52 = .ok (.ireturn, 1) := by decide +kernel
theorem d_Ma_matches_53 : decode b_Ma_matches 53 = .ok (.iconst 0, 1) := by decide +kernel
theorem d_Ma_matches_54 : decode b_Ma_matches 54 = .ok (.istore 4, 2) := by decide +kernel
theorem d_Ma_matches_56 : decode b_Ma_matches 56 = .ok (.iload 4, 2) := by decide +kernel
theorem d_Ma_matches_58 : decode b_Ma_matches 58 = .ok (.aload_n 0, 1) := by decide +kernel
theorem d_Ma_matches_59 : decode b_Ma_matches 59 = .ok (.getfield 15, 3) := by decide +kernel
theorem d_Ma_matches_62 : decode b_Ma_matches 62 = .ok (.iload_n 1, 1) := by decide +kernel
theorem d_Ma_matches_63 : decode b_Ma_matches 63 = .ok (.invokevirtual 94, 3) := by decide +kernel
theorem d_Ma_matches_66 : decode b_Ma_matches 66 = .ok (.if_icmp .ge 39, 3) := by decide +kernel
theorem d_Ma_matches_69 : decode b_Ma_matches 69 = .ok (.aload_n 0, 1) := by decide +kernel
theorem d_Ma_matches_70 : decode b_Ma_matches 70 = .ok (.aload_n 0, 1) := by decide +kernel
theorem d_Ma_matches_71 : decode b_Ma_matches 71 = .ok (.getfield 15, 3) := by decide +kernel
theorem d_Ma_matches_74 : decode b_Ma_matches 74 = .ok (.iload_n 1, 1) := by decide +kernel
theorem d_Ma_matches_75 : decode b_Ma_matches 75 = .ok (.iload 4, 2) := by decide +kernel
theorem d_Ma_matches_77 : decode b_Ma_matches 77 = .ok (.invokevirtual 97, 3) := by decide +kernel
theorem d_Ma_matches_80 : decode b_Ma_matches 80 = .ok (.aload_n 0, 1) := by decide +kernel
theorem d_Ma_matches_81 : decode b_Ma_matches 81 = .ok (.getfield 28, 3) := by decide +kernel
theorem d_Ma_matches_84 : decode b_Ma_matches 84 = .ok (.iload_n 2, 1) := by decide +kernel
theorem d_Ma_matches_85 : decode b_Ma_matches 85 = .ok (.iload 4, 2) := by decide +kernel
theorem d_Ma_matches_87 : decode b_Ma_matches 87 = .ok (.invokevirtual 153, 3) := by decide +kernel
theorem d_Ma_matches_90 : decode b_Ma_matches 90 = .ok (.iload_n 3, 1) := by decide +kernel
theorem d_Ma_matches_91 : decode b_Ma_matches 91 = .ok (.invokevirtual 147, 3) := by decide +kernel
theorem d_Ma_matches_94 : decode b_Ma_matches 94 = .ok (.ifCond .ne 5, 3) := by decide +kernel
theorem d_Ma_matches_97 : decode b_Ma_matches 97 = .ok (.iconst 0, 1) := by decide +kernel
theorem d_Ma_matches_98 : decode b_Ma_matches 98 = .ok (.ireturn, 1) := by decide +kernel
theorem d_Ma_matches_99 : decode b_Ma_matches 99 = .ok (.iinc 4 1, 3) := by decide +kernel
theorem d_Ma_matches_102 : decode b_Ma_matches 102 = .ok (.goto (-46), 3) := by decide +kernel
theorem d_Ma_matches_105 : decode b_Ma_matches 105 = .ok (.iconst 1, 1) := by decide +kernel
theorem d_Ma_matches_106 : decode b_Ma_matches 106 = .ok (.ireturn, 1) := by decide +kernel
theorem d_Ma_open_0 : decode b_Ma_open 0 = .ok (.aload_n 0, 1) := by decide +kernel
theorem d_Ma_open_1 : decode b_Ma_open 1 = .ok (.getfield 15, 3) := by decide +kernel
theorem d_Ma_open_4 : decode b_Ma_open 4 = .ok (.iload_n 1, 1) := by decide +kernel
theorem d_Ma_open_5 : decode b_Ma_open 5 = .ok (.invokevirtual 115, 3) := by decide +kernel
theorem d_Ma_open_8 : decode b_Ma_open 8 = .ok (.ifCond .eq 26, 3) := by decide +kernel
theorem d_Ma_open_11 : decode b_Ma_open 11 = .ok (.aload_n 0, 1) := by decide +kernel
theorem d_Ma_open_12 : decode b_Ma_open 12 = .ok (.aload_n 0, 1) := by decide +kernel
theorem d_Ma_open_13 : decode b_Ma_open 13 = .ok (.getfield 45, 3) := by decide +kernel
theorem d_Ma_open_16 : decode b_Ma_open 16 = .ok (.iload_n 2, 1) := by decide +kernel
theorem d_Ma_open_17 : decode b_Ma_open 17 = .ok (.bipush 8, 2) := by decide +kernel
theorem d_Ma_open_19 : decode b_Ma_open 19 = .ok (.imul, 1) := by decide +kernel
theorem d_Ma_open_20 : decode b_Ma_open 20 = .ok (.aload_n 0, 1) := by decide +kernel
theorem d_Ma_open_21 : decode b_Ma_open 21 = .ok (.getfield 15, 3) := by decide +kernel
theorem d_Ma_open_24 : decode b_Ma_open 24 = .ok (.iload_n 1, 1) := by decide +kernel
theorem d_Ma_open_25 : decode b_Ma_open 25 = .ok (.invokevirtual 109, 3) := by decide +kernel
theorem d_Ma_open_28 : decode b_Ma_open 28 = .ok (.iadd, 1) := by decide +kernel
theorem d_Ma_open_29 : decode b_Ma_open 29 = .ok (.iaload, 1) := by decide +kernel
theorem d_Ma_open_30 : decode b_Ma_open 30 = .ok (.invokevirtual 81, 3) := by decide +kernel
theorem d_Ma_open_33 : decode b_Ma_open 33 = .ok (.return_, 1) := by decide +kernel
theorem d_Ma_open_34 : decode b_Ma_open 34 = .ok (.aload_n 0, 1) := by decide +kernel
theorem d_Ma_open_35 : decode b_Ma_open 35 = .ok (.getfield 61, 3) := by decide +kernel
theorem d_Ma_open_38 : decode b_Ma_open 38 = .ok (.sipush 1001, 3) := by decide +kernel
theorem d_Ma_open_41 : decode b_Ma_open 41 = .ok (.if_icmp .lt 9, 3) := by decide +kernel
theorem d_Ma_open_44 : decode b_Ma_open 44 = .ok (.aload_n 0, 1) := by decide +kernel
theorem d_Ma_open_45 : decode b_Ma_open 45 = .ok (.iconst 1, 1) := by decide +kernel
theorem d_Ma_open_46 : decode b_Ma_open 46 = .ok (.putfield 67, 3) := by decide +kernel
theorem d_Ma_open_49 : decode b_Ma_open 49 = .ok (.return_, 1) := by decide +kernel
theorem d_Ma_open_50 : decode b_Ma_open 50 = .ok (.aload_n 0, 1) := by decide +kernel
theorem d_Ma_open_51 : decode b_Ma_open 51 = .ok (.getfield 32, 3) := by decide +kernel
theorem d_Ma_open_54 : decode b_Ma_open 54 = .ok (.aload_n 0, 1) := by decide +kernel
theorem d_Ma_open_55 : decode b_Ma_open 55 = .ok (.getfield 61, 3) := by decide +kernel
theorem d_Ma_open_58 : decode b_Ma_open 58 = .ok (.iload_n 1, 1) := by decide +kernel
theorem d_Ma_open_59 : decode b_Ma_open 59 = .ok (.iastore, 1) := by decide +kernel
theorem d_Ma_open_60 : decode b_Ma_open 60 = .ok (.aload_n 0, 1) := by decide +kernel
theorem d_Ma_open_61 : decode b_Ma_open 61 = .ok (.getfield 36, 3) := by decide +kernel
theorem d_Ma_open_64 : decode b_Ma_open 64 = .ok (.aload_n 0, 1) := by decide +kernel
theorem d_Ma_open_65 : decode b_Ma_open 65 = .ok (.getfield 61, 3) := by decide +kernel
theorem d_Ma_open_68 : decode b_Ma_open 68 = .ok (.iload_n 2, 1) := by decide +kernel
theorem d_Ma_open_69 : decode b_Ma_open 69 = .ok (.iastore, 1) := by decide +kernel
theorem d_Ma_open_70 : decode b_Ma_open 70 = .ok (.aload_n 0, 1) := by decide +kernel
theorem d_Ma_open_71 : decode b_Ma_open 71 = .ok (.getfield 39, 3) := by decide +kernel
theorem d_Ma_open_74 : decode b_Ma_open 74 = .ok (.aload_n 0, 1) := by decide +kernel
theorem d_Ma_open_75 : decode b_Ma_open 75 = .ok (.getfield 61, 3) := by decide +kernel
theorem d_Ma_open_78 : decode b_Ma_open 78 = .ok (.iconst 0, 1) := by decide +kernel
theorem d_Ma_open_79 : decode b_Ma_open 79 = .ok (.iastore, 1) := by decide +kernel
theorem d_Ma_open_80 : decode b_Ma_open 80 = .ok (.aload_n 0, 1) := by decide +kernel
theorem d_Ma_open_81 : decode b_Ma_open 81 = .ok (.dup, 1) := by decide +kernel
theorem d_Ma_open_82 : decode b_Ma_open 82 = .ok (.getfield 61, 3) := by decide +kernel
theorem d_Ma_open_85 : decode b_Ma_open 85 = .ok (.iconst 1, 1) := by decide +kernel
theorem d_Ma_open_86 : decode b_Ma_open 86 = .ok (.iadd, 1) := by decide +kernel
theorem d_Ma_open_87 : decode b_Ma_open 87 = .ok (.putfield 61, 3) := by decide +kernel
theorem d_Ma_open_90 : decode b_Ma_open 90 = .ok (.return_, 1) := by decide +kernel
theorem d_Ma_turn_0 : decode b_Ma_turn 0 = .ok (.aload_n 0, 1) := by decide +kernel
theorem d_Ma_turn_1 : decode b_Ma_turn 1 = .ok (.getfield 61, 3) := by decide +kernel
theorem d_Ma_turn_4 : decode b_Ma_turn 4 = .ok (.iconst 1, 1) := by decide +kernel
theorem d_Ma_turn_5 : decode b_Ma_turn 5 = .ok (.isub, 1) := by decide +kernel
theorem d_Ma_turn_6 : decode b_Ma_turn 6 = .ok (.istore_n 1, 1) := by decide +kernel
theorem d_Ma_turn_7 : decode b_Ma_turn 7 = .ok (.aload_n 0, 1) := by decide +kernel
theorem d_Ma_turn_8 : decode b_Ma_turn 8 = .ok (.getfield 32, 3) := by decide +kernel
theorem d_Ma_turn_11 : decode b_Ma_turn 11 = .ok (.iload_n 1, 1) := by decide +kernel
theorem d_Ma_turn_12 : decode b_Ma_turn 12 = .ok (.iaload, 1) := by decide +kernel
theorem d_Ma_turn_13 : decode b_Ma_turn 13 = .ok (.istore_n 2, 1) := by decide +kernel
theorem d_Ma_turn_14 : decode b_Ma_turn 14 = .ok (.aload_n 0, 1) := by decide +kernel
theorem d_Ma_turn_15 : decode b_Ma_turn 15 = .ok (.getfield 39, 3) := by decide +kernel
theorem d_Ma_turn_18 : decode b_Ma_turn 18 = .ok (.iload_n 1, 1) := by decide +kernel
theorem d_Ma_turn_19 : decode b_Ma_turn 19 = .ok (.iaload, 1) := by decide +kernel
theorem d_Ma_turn_20 : decode b_Ma_turn 20 = .ok (.aload_n 0, 1) := by decide +kernel
theorem d_Ma_turn_21 : decode b_Ma_turn 21 = .ok (.getfield 15, 3) := by decide +kernel
theorem d_Ma_turn_24 : decode b_Ma_turn 24 = .ok (.iload_n 2, 1) := by decide +kernel
theorem d_Ma_turn_25 : decode b_Ma_turn 25 = .ok (.invokevirtual 94, 3) := by decide +kernel
theorem d_Ma_turn_28 : decode b_Ma_turn 28 = .ok (.if_icmp .ge 40, 3) := by decide +kernel
theorem d_Ma_turn_31 : decode b_Ma_turn 31 = .ok (.aload_n 0, 1) := by decide +kernel
theorem d_Ma_turn_32 : decode b_Ma_turn 32 = .ok (.getfield 15, 3) := by decide +kernel
theorem d_Ma_turn_35 : decode b_Ma_turn 35 = .ok (.iload_n 2, 1) := by decide +kernel
theorem d_Ma_turn_36 : decode b_Ma_turn 36 = .ok (.aload_n 0, 1) := by decide +kernel
theorem d_Ma_turn_37 : decode b_Ma_turn 37 = .ok (.getfield 39, 3) := by decide +kernel
theorem d_Ma_turn_40 : decode b_Ma_turn 40 = .ok (.iload_n 1, 1) := by decide +kernel
theorem d_Ma_turn_41 : decode b_Ma_turn 41 = .ok (.iaload, 1) := by decide +kernel
theorem d_Ma_turn_42 : decode b_Ma_turn 42 = .ok (.invokevirtual 97, 3) := by decide +kernel
theorem d_Ma_turn_45 : decode b_Ma_turn 45 = .ok (.istore_n 3, 1) := by decide +kernel
theorem d_Ma_turn_46 : decode b_Ma_turn 46 = .ok (.aload_n 0, 1) := by decide +kernel
theorem d_Ma_turn_47 : decode b_Ma_turn 47 = .ok (.getfield 39, 3) := by decide +kernel
theorem d_Ma_turn_50 : decode b_Ma_turn 50 = .ok (.iload_n 1, 1) := by decide +kernel
theorem d_Ma_turn_51 : decode b_Ma_turn 51 = .ok (.dup2, 1) := by decide +kernel
theorem d_Ma_turn_52 : decode b_Ma_turn 52 = .ok (.iaload, 1) := by decide +kernel
theorem d_Ma_turn_53 : decode b_Ma_turn 53 = .ok (.iconst 1, 1) := by decide +kernel
theorem d_Ma_turn_54 : decode b_Ma_turn 54 = .ok (.iadd, 1) := by decide +kernel
theorem d_Ma_turn_55 : decode b_Ma_turn 55 = .ok (.iastore, 1) := by decide +kernel
theorem d_Ma_turn_56 : decode b_Ma_turn 56 = .ok (.aload_n 0, 1) := by decide +kernel
theorem d_Ma_turn_57 : decode b_Ma_turn 57 = .ok (.iload_n 3, 1) := by decide +kernel
theorem d_Ma_turn_58 : decode b_Ma_turn 58 = .ok (.aload_n 0, 1) := by decide +kernel
theorem d_Ma_turn_59 : decode b_Ma_turn 59 = .ok (.getfield 36, 3) := by decide +kernel
theorem d_Ma_turn_62 : decode b_Ma_turn 62 = .ok (.iload_n 1, 1) := by decide +kernel
theorem d_Ma_turn_63 : decode b_Ma_turn 63 = .ok (.iaload, 1) := by decide +kernel
theorem d_Ma_turn_64 : decode b_Ma_turn 64 = .ok (.invokevirtual 101, 3) := by decide +kernel
theorem d_Ma_turn_67 : decode b_Ma_turn 67 = .ok (.return_, 1) := by decide +kernel
theorem d_Ma_turn_68 : decode b_Ma_turn 68 = .ok (.aload_n 0, 1) := by decide +kernel
theorem d_Ma_turn_69 : decode b_Ma_turn 69 = .ok (.dup, 1) := by decide +kernel
theorem d_Ma_turn_70 : decode b_Ma_turn 70 = .ok (.getfield 61, 3) := by decide +kernel
theorem d_Ma_turn_73 : decode b_Ma_turn 73 = .ok (.iconst 1, 1) := by decide +kernel
theorem d_Ma_turn_74 : decode b_Ma_turn 74 = .ok (.isub, 1) := by decide +kernel
theorem d_Ma_turn_75 : decode b_Ma_turn 75 = .ok (.putfield 61, 3) := by decide +kernel
theorem d_Ma_turn_78 : decode b_Ma_turn 78 = .ok (.aload_n 0, 1) := by decide +kernel
theorem d_Ma_turn_79 : decode b_Ma_turn 79 = .ok (.getfield 15, 3) := by decide +kernel
theorem d_Ma_turn_82 : decode b_Ma_turn 82 = .ok (.iload_n 2, 1) := by decide +kernel
theorem d_Ma_turn_83 : decode b_Ma_turn 83 = .ok (.invokevirtual 105, 3) := by decide +kernel
theorem d_Ma_turn_86 : decode b_Ma_turn 86 = .ok (.ifCond .eq 26, 3) := by decide +kernel
theorem d_Ma_turn_89 : decode b_Ma_turn 89 = .ok (.aload_n 0, 1) := by decide +kernel
theorem d_Ma_turn_90 : decode b_Ma_turn 90 = .ok (.aload_n 0, 1) := by decide +kernel
theorem d_Ma_turn_91 : decode b_Ma_turn 91 = .ok (.getfield 15, 3) := by decide +kernel
theorem d_Ma_turn_94 : decode b_Ma_turn 94 = .ok (.iload_n 2, 1) := by decide +kernel
theorem d_Ma_turn_95 : decode b_Ma_turn 95 = .ok (.invokevirtual 109, 3) := by decide +kernel
theorem d_Ma_turn_98 : decode b_Ma_turn 98 = .ok (.aload_n 0, 1) := by decide +kernel
theorem d_Ma_turn_99 : decode b_Ma_turn 99 = .ok (.getfield 15, 3) := by decide +kernel
theorem d_Ma_turn_102 : decode b_Ma_turn 102 = .ok (.iload_n 2, 1) := by decide +kernel
theorem d_Ma_turn_103 : decode b_Ma_turn 103 = .ok (.invokevirtual 94, 3) := by decide +kernel
theorem d_Ma_turn_106 : decode b_Ma_turn 106 = .ok (.invokevirtual 112, 3) := by decide +kernel
theorem d_Ma_turn_109 : decode b_Ma_turn 109 = .ok (.goto 15, 3) := by decide +kernel
theorem d_Ma_turn_112 : decode b_Ma_turn 112 = .ok (.aload_n 0, 1) := by decide +kernel
theorem d_Ma_turn_113 : decode b_Ma_turn 113 = .ok (.aload_n 0, 1) := by decide +kernel
theorem d_Ma_turn_114 : decode b_Ma_turn 114 = .ok (.getfield 15, 3) := by decide +kernel
theorem d_Ma_turn_117 : decode b_Ma_turn 117 = .ok (.iload_n 2, 1) := by decide +kernel
theorem d_Ma_turn_118 : decode b_Ma_turn 118 = .ok (.invokevirtual 109, 3) := by decide +kernel
theorem d_Ma_turn_121 : decode b_Ma_turn 121 = .ok (.invokevirtual 85, 3) := by decide +kernel
theorem d_Ma_turn_124 : decode b_Ma_turn 124 = .ok (.return_, 1) := by decide +kernel
theorem d_Ma_build_0 : decode b_Ma_build 0 = .ok (.aload_n 0, 1) := by decide +kernel
theorem d_Ma_build_1 : decode b_Ma_build 1 = .ok (.getfield 28, 3) := by decide +kernel
theorem d_Ma_build_4 : decode b_Ma_build 4 = .ok (.invokevirtual 118, 3) := by decide +kernel
theorem d_Ma_build_7 : decode b_Ma_build 7 = .ok (.ifCond .ne 11, 3) := by decide +kernel
theorem d_Ma_build_10 : decode b_Ma_build 10 = .ok (.aload_n 0, 1) := by decide +kernel
theorem d_Ma_build_11 : decode b_Ma_build 11 = .ok (.getfield 64, 3) := by decide +kernel
theorem d_Ma_build_14 : decode b_Ma_build 14 = .ok (.iload_n 2, 1) := by decide +kernel
theorem d_Ma_build_15 : decode b_Ma_build 15 = .ok (.if_icmp .ge 9, 3) := by decide +kernel
theorem d_Ma_build_18 : decode b_Ma_build 18 = .ok (.aload_n 0, 1) := by decide +kernel
theorem d_Ma_build_19 : decode b_Ma_build 19 = .ok (.iconst 1, 1) := by decide +kernel
theorem d_Ma_build_20 : decode b_Ma_build 20 = .ok (.putfield 67, 3) := by decide +kernel
theorem d_Ma_build_23 : decode b_Ma_build 23 = .ok (.return_, 1) := by decide +kernel
theorem d_Ma_build_24 : decode b_Ma_build 24 = .ok (.aload_n 0, 1) := by decide +kernel
theorem d_Ma_build_25 : decode b_Ma_build 25 = .ok (.dup, 1) := by decide +kernel
theorem d_Ma_build_26 : decode b_Ma_build 26 = .ok (.getfield 64, 3) := by decide +kernel
theorem d_Ma_build_29 : decode b_Ma_build 29 = .ok (.iload_n 2, 1) := by decide +kernel
theorem d_Ma_build_30 : decode b_Ma_build 30 = .ok (.isub, 1) := by decide +kernel
theorem d_Ma_build_31 : decode b_Ma_build 31 = .ok (.putfield 64, 3) := by decide +kernel
theorem d_Ma_build_34 : decode b_Ma_build 34 = .ok (.aload_n 0, 1) := by decide +kernel
theorem d_Ma_build_35 : decode b_Ma_build 35 = .ok (.getfield 28, 3) := by decide +kernel
theorem d_Ma_build_38 : decode b_Ma_build 38 = .ok (.iload_n 1, 1) := by decide +kernel
theorem d_Ma_build_39 : decode b_Ma_build 39 = .ok (.aload_n 0, 1) := by decide +kernel
theorem d_Ma_build_40 : decode b_Ma_build 40 = .ok (.getfield 42, 3) := by decide +kernel
theorem d_Ma_build_43 : decode b_Ma_build 43 = .ok (.aload_n 0, 1) := by decide +kernel
theorem d_Ma_build_44 : decode b_Ma_build 44 = .ok (.getfield 64, 3) := by decide +kernel
theorem d_Ma_build_47 : decode b_Ma_build 47 = .ok (.invokevirtual 122, 3) := by decide +kernel
theorem d_Ma_build_50 : decode b_Ma_build 50 = .ok (.istore_n 3, 1) := by decide +kernel
theorem d_Ma_build_51 : decode b_Ma_build 51 = .ok (.aload_n 0, 1) := by decide +kernel
theorem d_Ma_build_52 : decode b_Ma_build 52 = .ok (.getfield 28, 3) := by decide +kernel
theorem d_Ma_build_55 : decode b_Ma_build 55 = .ok (.iload_n 3, 1) := by decide +kernel
theorem d_Ma_build_56 : decode b_Ma_build 56 = .ok (.invokevirtual 126, 3) := by decide +kernel
theorem d_Ma_build_59 : decode b_Ma_build 59 = .ok (.bipush 60, 2) := by decide +kernel
theorem d_Ma_build_61 : decode b_Ma_build 61 = .ok (.if_icmp .le 9, 3) := by decide +kernel
theorem d_Ma_build_64 : decode b_Ma_build 64 = .ok (.aload_n 0, 1) := by decide +kernel
theorem d_Ma_build_65 : decode b_Ma_build 65 = .ok (.iconst 1, 1) := by decide +kernel
theorem d_Ma_build_66 : decode b_Ma_build 66 = .ok (.putfield 67, 3) := by decide +kernel
theorem d_Ma_build_69 : decode b_Ma_build 69 = .ok (.return_, 1) := by decide +kernel
theorem d_Ma_build_70 : decode b_Ma_build 70 = .ok (.aload_n 0, 1) := by decide +kernel
theorem d_Ma_build_71 : decode b_Ma_build 71 = .ok (.iload_n 3, 1) := by decide +kernel
theorem d_Ma_build_72 : decode b_Ma_build 72 = .ok (.invokevirtual 81, 3) := by decide +kernel
theorem d_Ma_build_75 : decode b_Ma_build 75 = .ok (.return_, 1) := by decide +kernel
theorem d_Ma_writeAnswer_0 : decode b_Ma_writeAnswer 0 = .ok (.aload_n 0, 1) := by decide +kernel
theorem d_Ma_writeAnswer_1 : decode b_Ma_writeAnswer 1 = .ok (.getfield 42, 3) := by decide +kernel
theorem d_Ma_writeAnswer_4 : decode b_Ma_writeAnswer 4 = .ok (.iconst 0, 1) := by decide +kernel
theorem d_Ma_writeAnswer_5 : decode b_Ma_writeAnswer 5 = .ok (.iload_n 1, 1) := by decide +kernel
theorem d_Ma_writeAnswer_6 : decode b_Ma_writeAnswer 6 = .ok (.iastore, 1) := by decide +kernel
theorem d_Ma_writeAnswer_7 : decode b_Ma_writeAnswer 7 = .ok (.iconst 1, 1) := by decide +kernel
theorem d_Ma_writeAnswer_8 : decode b_Ma_writeAnswer 8 = .ok (.istore_n 2, 1) := by decide +kernel
theorem d_Ma_writeAnswer_9 : decode b_Ma_writeAnswer 9 = .ok (.iload_n 2, 1) := by decide +kernel
theorem d_Ma_writeAnswer_10 : decode b_Ma_writeAnswer 10 = .ok (.ifCond .le 94, 3) := by decide +kernel
theorem d_Ma_writeAnswer_13 : decode b_Ma_writeAnswer 13 = .ok (.aload_n 0, 1) := by decide +kernel
theorem d_Ma_writeAnswer_14 : decode b_Ma_writeAnswer 14 = .ok (.getfield 55, 3) := by decide +kernel
theorem d_Ma_writeAnswer_17 : decode b_Ma_writeAnswer 17 = .ok (.bipush 60, 2) := by decide +kernel
theorem d_Ma_writeAnswer_19 : decode b_Ma_writeAnswer 19 = .ok (.if_icmp .ge 85, 3) := by decide +kernel
theorem d_Ma_writeAnswer_22 : decode b_Ma_writeAnswer 22 = .ok (.iinc 2 (-1), 3) := by decide +kernel
theorem d_Ma_writeAnswer_25 : decode b_Ma_writeAnswer 25 = .ok (.aload_n 0, 1) := by decide +kernel
theorem d_Ma_writeAnswer_26 : decode b_Ma_writeAnswer 26 = .ok (.getfield 42, 3) := by decide +kernel
theorem d_Ma_writeAnswer_29 : decode b_Ma_writeAnswer 29 = .ok (.iload_n 2, 1) := by decide +kernel
theorem d_Ma_writeAnswer_30 : decode b_Ma_writeAnswer 30 = .ok (.iaload, 1) := by decide +kernel
theorem d_Ma_writeAnswer_31 : decode b_Ma_writeAnswer 31 = .ok (.istore_n 3, 1) := by decide +kernel
theorem d_Ma_writeAnswer_32 : decode b_Ma_writeAnswer 32 = .ok (.aload_n 0, 1) := by decide +kernel
theorem d_Ma_writeAnswer_33 : decode b_Ma_writeAnswer 33 = .ok (.getfield 48, 3) := by decide +kernel
theorem d_Ma_writeAnswer_36 : decode b_Ma_writeAnswer 36 = .ok (.aload_n 0, 1) := by decide +kernel
theorem d_Ma_writeAnswer_37 : decode b_Ma_writeAnswer 37 = .ok (.getfield 55, 3) := by decide +kernel
theorem d_Ma_writeAnswer_40 : decode b_Ma_writeAnswer 40 = .ok (.aload_n 0, 1) := by decide +kernel
theorem d_Ma_writeAnswer_41 : decode b_Ma_writeAnswer 41 = .ok (.getfield 28, 3) := by decide +kernel
theorem d_Ma_writeAnswer_44 : decode b_Ma_writeAnswer 44 = .ok (.iload_n 3, 1) := by decide +kernel
theorem d_Ma_writeAnswer_45 : decode b_Ma_writeAnswer 45 = .ok (.invokevirtual 150, 3) := by decide +kernel
theorem d_Ma_writeAnswer_48 : decode b_Ma_writeAnswer 48 = .ok (.iastore, 1) := by decide +kernel
theorem d_Ma_writeAnswer_49 : decode b_Ma_writeAnswer 49 = .ok (.aload_n 0, 1) := by decide +kernel
theorem d_Ma_writeAnswer_50 : decode b_Ma_writeAnswer 50 = .ok (.dup, 1) := by decide +kernel
theorem d_Ma_writeAnswer_51 : decode b_Ma_writeAnswer 51 = .ok (.getfield 55, 3) := by decide +kernel
theorem d_Ma_writeAnswer_54 : decode b_Ma_writeAnswer 54 = .ok (.iconst 1, 1) := by decide +kernel
theorem d_Ma_writeAnswer_55 : decode b_Ma_writeAnswer 55 = .ok (.iadd, 1) := by decide +kernel
theorem d_Ma_writeAnswer_56 : decode b_Ma_writeAnswer 56 = .ok (.putfield 55, 3) := by decide +kernel
theorem d_Ma_writeAnswer_59 : decode b_Ma_writeAnswer 59 = .ok (.aload_n 0, 1) := by decide +kernel
theorem d_Ma_writeAnswer_60 : decode b_Ma_writeAnswer 60 = .ok (.getfield 28, 3) := by decide +kernel
theorem d_Ma_writeAnswer_63 : decode b_Ma_writeAnswer 63 = .ok (.iload_n 3, 1) := by decide +kernel
theorem d_Ma_writeAnswer_64 : decode b_Ma_writeAnswer 64 = .ok (.invokevirtual 154, 3) := by decide +kernel
theorem d_Ma_writeAnswer_67 : decode b_Ma_writeAnswer 67 = .ok (.iconst 1, 1) := by decide +kernel
theorem d_Ma_writeAnswer_68 : decode b_Ma_writeAnswer 68 = .ok (.isub, 1) := by decide +kernel
theorem d_Ma_writeAnswer_69 : decode b_Ma_writeAnswer 69 = .ok (.istore 4, 2) := by decide +kernel
theorem d_Ma_writeAnswer_71 : decode b_Ma_writeAnswer 71 = .ok (.iload 4, 2) := by decide +kernel
theorem d_Ma_writeAnswer_73 : decode b_Ma_writeAnswer 73 = .ok (.ifCond .lt 28, 3) := by decide +kernel
theorem d_Ma_writeAnswer_76 : decode b_Ma_writeAnswer 76 = .ok (.aload_n 0, 1) := by decide +kernel
theorem d_Ma_writeAnswer_77 : decode b_Ma_writeAnswer 77 = .ok (.getfield 42, 3) := by decide +kernel
theorem d_Ma_writeAnswer_80 : decode b_Ma_writeAnswer 80 = .ok (.iload_n 2, 1) := by decide +kernel
theorem d_Ma_writeAnswer_81 : decode b_Ma_writeAnswer 81 = .ok (.aload_n 0, 1) := by decide +kernel
theorem d_Ma_writeAnswer_82 : decode b_Ma_writeAnswer 82 = .ok (.getfield 28, 3) := by decide +kernel
theorem d_Ma_writeAnswer_85 : decode b_Ma_writeAnswer 85 = .ok (.iload_n 3, 1) := by decide +kernel
theorem d_Ma_writeAnswer_86 : decode b_Ma_writeAnswer 86 = .ok (.iload 4, 2) := by decide +kernel
theorem d_Ma_writeAnswer_88 : decode b_Ma_writeAnswer 88 = .ok (.invokevirtual 153, 3) := by decide +kernel
theorem d_Ma_writeAnswer_91 : decode b_Ma_writeAnswer 91 = .ok (.iastore, 1) := by decide +kernel
theorem d_Ma_writeAnswer_92 : decode b_Ma_writeAnswer 92 = .ok (.iinc 2 1, 3) := by decide +kernel
theorem d_Ma_writeAnswer_95 : decode b_Ma_writeAnswer 95 = .ok (.iinc 4 (-1), 3) := by decide +kernel
theorem d_Ma_writeAnswer_98 : decode b_Ma_writeAnswer 98 = .ok (.goto (-27), 3) := by decide +kernel
theorem d_Ma_writeAnswer_101 : decode b_Ma_writeAnswer 101 = .ok (.goto (-92), 3) := by decide +kernel
theorem d_Ma_writeAnswer_104 : decode b_Ma_writeAnswer 104 = .ok (.return_, 1) := by decide +kernel
theorem d_Ma_answerSize_0 : decode b_Ma_answerSize 0 = .ok (.aload_n 0, 1) := by decide +kernel
theorem d_Ma_answerSize_1 : decode b_Ma_answerSize 1 = .ok (.getfield 55, 3) := by decide +kernel
theorem d_Ma_answerSize_4 : decode b_Ma_answerSize 4 = .ok (.ireturn, 1) := by decide +kernel
theorem d_Ma_answerAt_0 : decode b_Ma_answerAt 0 = .ok (.aload_n 0, 1) := by decide +kernel
theorem d_Ma_answerAt_1 : decode b_Ma_answerAt 1 = .ok (.getfield 48, 3) := by decide +kernel
theorem d_Ma_answerAt_4 : decode b_Ma_answerAt 4 = .ok (.iload_n 1, 1) := by decide +kernel
theorem d_Ma_answerAt_5 : decode b_Ma_answerAt 5 = .ok (.iaload, 1) := by decide +kernel
theorem d_Ma_answerAt_6 : decode b_Ma_answerAt 6 = .ok (.ireturn, 1) := by decide +kernel
