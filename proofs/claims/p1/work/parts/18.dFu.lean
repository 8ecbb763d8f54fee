theorem d_Fu_init_0 : decode b_Fu_init 0 = .ok (.aload_n 0, 1) := by decide +kernel
theorem d_Fu_init_1 : decode b_Fu_init 1 = .ok (.invokespecial 1, 3) := by decide +kernel
theorem d_Fu_init_4 : decode b_Fu_init 4 = .ok (.aload_n 0, 1) := by decide +kernel
theorem d_Fu_init_5 : decode b_Fu_init 5 = .ok (.new 7, 3) := by decide +kernel
theorem d_Fu_init_8 : decode b_Fu_init 8 = .ok (.dup, 1) := by decide +kernel
theorem d_Fu_init_9 : decode b_Fu_init 9 = .ok (.bipush 8, 2) := by decide +kernel
theorem d_Fu_init_11 : decode b_Fu_init 11 = .ok (.invokespecial 11, 3) := by decide +kernel
theorem d_Fu_init_14 : decode b_Fu_init 14 = .ok (.putfield 14, 3) := by decide +kernel
theorem d_Fu_init_17 : decode b_Fu_init 17 = .ok (.aload_n 0, 1) := by decide +kernel
theorem d_Fu_init_18 : decode b_Fu_init 18 = .ok (.new 7, 3) := by decide +kernel
theorem d_Fu_init_21 : decode b_Fu_init 21 = .ok (.dup, 1) := by decide +kernel
theorem d_Fu_init_22 : decode b_Fu_init 22 = .ok (.bipush 6, 2) := by decide +kernel
theorem d_Fu_init_24 : decode b_Fu_init 24 = .ok (.invokespecial 11, 3) := by decide +kernel
theorem d_Fu_init_27 : decode b_Fu_init 27 = .ok (.putfield 18, 3) := by decide +kernel
theorem d_Fu_init_30 : decode b_Fu_init 30 = .ok (.aload_n 0, 1) := by decide +kernel
theorem d_Fu_init_31 : decode b_Fu_init 31 = .ok (.new 21, 3) := by decide +kernel
theorem d_Fu_init_34 : decode b_Fu_init 34 = .ok (.dup, 1) := by decide +kernel
theorem d_Fu_init_35 : decode b_Fu_init 35 = .ok (.invokespecial 23, 3) := by decide +kernel
theorem d_Fu_init_38 : decode b_Fu_init 38 = .ok (.putfield 24, 3) := by decide +kernel
theorem d_Fu_init_41 : decode b_Fu_init 41 = .ok (.aload_n 0, 1) := by decide +kernel
theorem d_Fu_init_42 : decode b_Fu_init 42 = .ok (.new 28, 3) := by decide +kernel
theorem d_Fu_init_45 : decode b_Fu_init 45 = .ok (.dup, 1) := by decide +kernel
theorem d_Fu_init_46 : decode b_Fu_init 46 = .ok (.aload_n 0, 1) := by decide +kernel
theorem d_Fu_init_47 : decode b_Fu_init 47 = .ok (.getfield 18, 3) := by decide +kernel
theorem d_Fu_init_50 : decode b_Fu_init 50 = .ok (.aload_n 0, 1) := by decide +kernel
theorem d_Fu_init_51 : decode b_Fu_init 51 = .ok (.getfield 24, 3) := by decide +kernel
theorem d_Fu_init_54 : decode b_Fu_init 54 = .ok (.invokespecial 30, 3) := by decide +kernel
theorem d_Fu_init_57 : decode b_Fu_init 57 = .ok (.putfield 33, 3) := by decide +kernel
theorem d_Fu_init_60 : decode b_Fu_init 60 = .ok (.aload_n 0, 1) := by decide +kernel
theorem d_Fu_init_61 : decode b_Fu_init 61 = .ok (.new 37, 3) := by decide +kernel
theorem d_Fu_init_64 : decode b_Fu_init 64 = .ok (.dup, 1) := by decide +kernel
theorem d_Fu_init_65 : decode b_Fu_init 65 = .ok (.aload_n 0, 1) := by decide +kernel
theorem d_Fu_init_66 : decode b_Fu_init 66 = .ok (.getfield 14, 3) := by decide +kernel
theorem d_Fu_init_69 : decode b_Fu_init 69 = .ok (.aload_n 0, 1) := by decide +kernel
theorem d_Fu_init_70 : decode b_Fu_init 70 = .ok (.getfield 18, 3) := by decide +kernel
theorem d_Fu_init_73 : decode b_Fu_init 73 = .ok (.aload_n 0, 1) := by decide +kernel
theorem d_Fu_init_74 : decode b_Fu_init 74 = .ok (.getfield 24, 3) := by decide +kernel
theorem d_Fu_init_77 : decode b_Fu_init 77 = .ok (.aload_n 0, 1) := by decide +kernel
theorem d_Fu_init_78 : decode b_Fu_init 78 = .ok (.getfield 33, 3) := by decide +kernel
theorem d_Fu_init_81 : decode b_Fu_init 81 = .ok (.invokespecial 39, 3) := by decide +kernel
theorem d_Fu_init_84 : decode b_Fu_init 84 = .ok (.putfield 42, 3) := by decide +kernel
theorem d_Fu_init_87 : decode b_Fu_init 87 = .ok (.aload_n 0, 1) := by decide +kernel
theorem d_Fu_init_88 : decode b_Fu_init 88 = .ok (.new 46, 3) := by decide +kernel
theorem d_Fu_init_91 : decode b_Fu_init 91 = .ok (.dup, 1) := by decide +kernel
theorem d_Fu_init_92 : decode b_Fu_init 92 = .ok (.aload_n 0, 1) := by decide +kernel
theorem d_Fu_init_93 : decode b_Fu_init 93 = .ok (.getfield 14, 3) := by decide +kernel
theorem d_Fu_init_96 : decode b_Fu_init 96 = .ok (.aload_n 0, 1) := by decide +kernel
theorem d_Fu_init_97 : decode b_Fu_init 97 = .ok (.getfield 18, 3) := by decide +kernel
theorem d_Fu_init_100 : decode b_Fu_init 100 = .ok (.aload_n 0, 1) := by decide +kernel
theorem d_Fu_init_101 : decode b_Fu_init 101 = .ok (.getfield 24, 3) := by decide +kernel
theorem d_Fu_init_104 : decode b_Fu_init 104 = .ok (.aload_n 0, 1) := by decide +kernel
theorem d_Fu_init_105 : decode b_Fu_init 105 = .ok (.getfield 33, 3) := by decide +kernel
theorem d_Fu_init_108 : decode b_Fu_init 108 = .ok (.invokespecial 48, 3) := by decide +kernel
theorem d_Fu_init_111 : decode b_Fu_init 111 = .ok (.putfield 49, 3) := by decide +kernel
theorem d_Fu_init_114 : decode b_Fu_init 114 = .ok (.aload_n 0, 1) := by decide +kernel
theorem d_Fu_init_115 : decode b_Fu_init 115 = .ok (.new 53, 3) := by decide +kernel
theorem d_Fu_init_118 : decode b_Fu_init 118 = .ok (.dup, 1) := by decide +kernel
theorem d_Fu_init_119 : decode b_Fu_init 119 = .ok (.aload_n 0, 1) := by decide +kernel
theorem d_Fu_init_120 : decode b_Fu_init 120 = .ok (.getfield 18, 3) := by decide +kernel
theorem d_Fu_init_123 : decode b_Fu_init 123 = .ok (.aload_n 0, 1) := by decide +kernel
theorem d_Fu_init_124 : decode b_Fu_init 124 = .ok (.getfield 24, 3) := by decide +kernel
theorem d_Fu_init_127 : decode b_Fu_init 127 = .ok (.aload_n 0, 1) := by decide +kernel
theorem d_Fu_init_128 : decode b_Fu_init 128 = .ok (.getfield 33, 3) := by decide +kernel
theorem d_Fu_init_131 : decode b_Fu_init 131 = .ok (.invokespecial 55, 3) := by decide +kernel
theorem d_Fu_init_134 : decode b_Fu_init 134 = .ok (.putfield 58, 3) := by decide +kernel
theorem d_Fu_init_137 : decode b_Fu_init 137 = .ok (.aload_n 0, 1) := by decide +kernel
theorem d_Fu_init_138 : decode b_Fu_init 138 = .ok (.new 62, 3) := by decide +kernel
theorem d_Fu_init_141 : decode b_Fu_init 141 = .ok (.dup, 1) := by decide +kernel
theorem d_Fu_init_142 : decode b_Fu_init 142 = .ok (.aload_n 0, 1) := by decide +kernel
theorem d_Fu_init_143 : decode b_Fu_init 143 = .ok (.getfield 14, 3) := by decide +kernel
theorem d_Fu_init_146 : decode b_Fu_init 146 = .ok (.aload_n 0, 1) := by decide +kernel
theorem d_Fu_init_147 : decode b_Fu_init 147 = .ok (.getfield 18, 3) := by decide +kernel
theorem d_Fu_init_150 : decode b_Fu_init 150 = .ok (.aload_n 0, 1) := by decide +kernel
theorem d_Fu_init_151 : decode b_Fu_init 151 = .ok (.getfield 24, 3) := by decide +kernel
theorem d_Fu_init_154 : decode b_Fu_init 154 = .ok (.aload_n 0, 1) := by decide +kernel
theorem d_Fu_init_155 : decode b_Fu_init 155 = .ok (.getfield 33, 3) := by decide +kernel
theorem d_Fu_init_158 : decode b_Fu_init 158 = .ok (.invokespecial 64, 3) := by decide +kernel
theorem d_Fu_init_161 : decode b_Fu_init 161 = .ok (.putfield 65, 3) := by decide +kernel
theorem d_Fu_init_164 : decode b_Fu_init 164 = .ok (.aload_n 0, 1) := by decide +kernel
theorem d_Fu_init_165 : decode b_Fu_init 165 = .ok (.iconst (-1), 1) := by decide +kernel
theorem d_Fu_init_166 : decode b_Fu_init 166 = .ok (.putfield 69, 3) := by decide +kernel
theorem d_Fu_init_169 : decode b_Fu_init 169 = .ok (.return_, 1) := by decide +kernel
theorem d_Fu_check_0 : decode b_Fu_check 0 = .ok (.aload_n 0, 1) := by decide +kernel
theorem d_Fu_check_1 : decode b_Fu_check 1 = .ok (.getfield 69, 3) := by decide +kernel
theorem d_Fu_check_4 : decode b_Fu_check 4 = .ok (.iconst (-1), 1) := by decide +kernel
theorem d_Fu_check_5 : decode b_Fu_check 5 = .ok (.if_icmp .ne 11, 3) := by decide +kernel
theorem d_Fu_check_8 : decode b_Fu_check 8 = .ok (.aload_n 0, 1) := by decide +kernel
theorem d_Fu_check_9 : decode b_Fu_check 9 = .ok (.aload_n 0, 1) := by decide +kernel
theorem d_Fu_check_10 : decode b_Fu_check 10 = .ok (.invokevirtual 142, 3) := by decide +kernel
theorem d_Fu_check_13 : decode b_Fu_check 13 = .ok (.putfield 69, 3) := by decide +kernel
theorem d_Fu_check_16 : decode b_Fu_check 16 = .ok (.aload_n 0, 1) := by decide +kernel
theorem d_Fu_check_17 : decode b_Fu_check 17 = .ok (.getfield 69, 3) := by decide +kernel
theorem d_Fu_check_20 : decode b_Fu_check 20 = .ok (.ireturn, 1) := by decide +kernel
theorem d_Fu_findWhatIsWrong_0 : decode b_Fu_findWhatIsWrong 0 = .ok (.aload_n 0, 1) := by decide +kernel
theorem d_Fu_findWhatIsWrong_1 : decode b_Fu_findWhatIsWrong 1 = .ok (.iconst 0, 1) := by decide +kernel
theorem d_Fu_findWhatIsWrong_2 : decode b_Fu_findWhatIsWrong 2 = .ok (.putfield 146, 3) := by decide +kernel
theorem d_Fu_findWhatIsWrong_5 : decode b_Fu_findWhatIsWrong 5 = .ok (.aload_n 0, 1) := by decide +kernel
theorem d_Fu_findWhatIsWrong_6 : decode b_Fu_findWhatIsWrong 6 = .ok (.getfield 42, 3) := by decide +kernel
theorem d_Fu_findWhatIsWrong_9 : decode b_Fu_findWhatIsWrong 9 = .ok (.invokevirtual 210, 3) := by decide +kernel
theorem d_Fu_findWhatIsWrong_12 : decode b_Fu_findWhatIsWrong 12 = .ok (.ifCond .ne 5, 3) := by decide +kernel
theorem d_Fu_findWhatIsWrong_15 : decode b_Fu_findWhatIsWrong 15 = .ok (.iconst 1, 1) := by decide +kernel
theorem d_Fu_findWhatIsWrong_16 : decode b_Fu_findWhatIsWrong 16 = .ok (.ireturn, 1) := by decide +kernel
theorem d_Fu_findWhatIsWrong_17 : decode b_Fu_findWhatIsWrong 17 = .ok (.aload_n 0, 1) := by decide +kernel
theorem d_Fu_findWhatIsWrong_18 : decode b_Fu_findWhatIsWrong 18 = .ok (.getfield 42, 3) := by decide +kernel
theorem d_Fu_findWhatIsWrong_21 : decode b_Fu_findWhatIsWrong 21 = .ok (.invokevirtual 213, 3) := by decide +kernel
theorem d_Fu_findWhatIsWrong_24 : decode b_Fu_findWhatIsWrong 24 = .ok (.ifCond .ne 5, 3) := by decide +kernel
theorem d_Fu_findWhatIsWrong_27 : decode b_Fu_findWhatIsWrong 27 = .ok (.iconst 2, 1) := by decide +kernel
theorem d_Fu_findWhatIsWrong_28 : decode b_Fu_findWhatIsWrong 28 = .ok (.ireturn, 1) := by decide +kernel
theorem d_Fu_findWhatIsWrong_29 : decode b_Fu_findWhatIsWrong 29 = .ok (.aload_n 0, 1) := by decide +kernel
theorem d_Fu_findWhatIsWrong_30 : decode b_Fu_findWhatIsWrong 30 = .ok (.getfield 49, 3) := by decide +kernel
theorem d_Fu_findWhatIsWrong_33 : decode b_Fu_findWhatIsWrong 33 = .ok (.invokevirtual 216, 3) := by decide +kernel
theorem d_Fu_findWhatIsWrong_36 : decode b_Fu_findWhatIsWrong 36 = .ok (.ifCond .ne 5, 3) := by decide +kernel
theorem d_Fu_findWhatIsWrong_39 : decode b_Fu_findWhatIsWrong 39 = .ok (.iconst 3, 1) := by decide +kernel
theorem d_Fu_findWhatIsWrong_40 : decode b_Fu_findWhatIsWrong 40 = .ok (.ireturn, 1) := by decide +kernel
theorem d_Fu_findWhatIsWrong_41 : decode b_Fu_findWhatIsWrong 41 = .ok (.aload_n 0, 1) := by decide +kernel
theorem d_Fu_findWhatIsWrong_42 : decode b_Fu_findWhatIsWrong 42 = .ok (.aload_n 0, 1) := by decide +kernel
theorem d_Fu_findWhatIsWrong_43 : decode b_Fu_findWhatIsWrong 43 = .ok (.getfield 58, 3) := by decide +kernel
theorem d_Fu_findWhatIsWrong_46 : decode b_Fu_findWhatIsWrong 46 = .ok (.invokevirtual 219, 3) := by decide +kernel
theorem d_Fu_findWhatIsWrong_49 : decode b_Fu_findWhatIsWrong 49 = .ok (.putfield 146, 3) := by decide +kernel
theorem d_Fu_findWhatIsWrong_52 : decode b_Fu_findWhatIsWrong 52 = .ok (.aload_n 0, 1) := by decide +kernel
theorem d_Fu_findWhatIsWrong_53 : decode b_Fu_findWhatIsWrong 53 = .ok (.getfield 58, 3) := by decide +kernel
theorem d_Fu_findWhatIsWrong_56 : decode b_Fu_findWhatIsWrong 56 = .ok (.invokevirtual 222, 3) := by decide +kernel
theorem d_Fu_findWhatIsWrong_59 : decode b_Fu_findWhatIsWrong 59 = .ok (.ifCond .eq 7, 3) := by decide +kernel
theorem d_Fu_findWhatIsWrong_62 : decode b_Fu_findWhatIsWrong 62 = .ok (.iconst 0, 1) := by decide +kernel
theorem d_Fu_findWhatIsWrong_63 : decode b_Fu_findWhatIsWrong 63 = .ok (.goto 4, 3) := by decide +kernel
theorem d_Fu_findWhatIsWrong_66 : decode b_Fu_findWhatIsWrong 66 = .ok (.iconst 4, 1) := by decide +kernel
theorem d_Fu_findWhatIsWrong_67 : decode b_Fu_findWhatIsWrong 67 = .ok (.ireturn, 1) := by decide +kernel
theorem d_Fu_graphs_0 : decode b_Fu_graphs 0 = .ok (.aload_n 0, 1) := by decide +kernel
theorem d_Fu_graphs_1 : decode b_Fu_graphs 1 = .ok (.getfield 146, 3) := by decide +kernel
theorem d_Fu_graphs_4 : decode b_Fu_graphs 4 = .ok (.ireturn, 1) := by decide +kernel
theorem d_Fu_isValue_0 : decode b_Fu_isValue 0 = .ok (.iload_n 2, 1) := by decide +kernel
theorem d_Fu_isValue_1 : decode b_Fu_isValue 1 = .ok (.invokestatic 173, 3) := by decide +kernel
theorem d_Fu_isValue_4 : decode b_Fu_isValue 4 = .ok (.ifCond .eq 30, 3) := by decide +kernel
theorem d_Fu_isValue_7 : decode b_Fu_isValue 7 = .ok (.aload_n 0, 1) := by decide +kernel
theorem d_Fu_isValue_8 : decode b_Fu_isValue 8 = .ok (.getfield 24, 3) := by decide +kernel
theorem d_Fu_isValue_11 : decode b_Fu_isValue 11 = .ok (.iload_n 1, 1) := by decide +kernel
theorem d_Fu_isValue_12 : decode b_Fu_isValue 12 = .ok (.invokevirtual 176, 3) := by decide +kernel
theorem d_Fu_isValue_15 : decode b_Fu_isValue 15 = .ok (.ifCond .eq 19, 3) := by decide +kernel
theorem d_Fu_isValue_18 : decode b_Fu_isValue 18 = .ok (.aload_n 0, 1) := by decide +kernel
theorem d_Fu_isValue_19 : decode b_Fu_isValue 19 = .ok (.getfield 42, 3) := by decide +kernel
theorem d_Fu_isValue_22 : decode b_Fu_isValue 22 = .ok (.iload_n 1, 1) := by decide +kernel
theorem d_Fu_isValue_23 : decode b_Fu_isValue 23 = .ok (.iload_n 2, 1) := by decide +kernel
theorem d_Fu_isValue_24 : decode b_Fu_isValue 24 = .ok (.invokevirtual 177, 3) := by decide +kernel
theorem d_Fu_isValue_27 : decode b_Fu_isValue 27 = .ok (.ifCond .eq 7, 3) := by decide +kernel
theorem d_Fu_isValue_30 : decode b_Fu_isValue 30 = .ok (.iconst 1, 1) := by decide +kernel
theorem d_Fu_isValue_31 : decode b_Fu_isValue 31 = .ok (.goto 4, 3) := by decide +kernel
theorem d_Fu_isValue_34 : decode b_Fu_isValue 34 = .ok (.iconst 0, 1) := by decide +kernel
theorem d_Fu_isValue_35 : decode b_Fu_isValue 35 = .ok (.ireturn, 1) := by decide +kernel
theorem d_Fu_isType_0 : decode b_Fu_isType 0 = .ok (.iload_n 0, 1) := by decide +kernel
theorem d_Fu_isType_1 : decode b_Fu_isType 1 = .ok (.ifCond .lt 12, 3) := by decide +kernel
theorem d_Fu_isType_4 : decode b_Fu_isType 4 = .ok (.iload_n 0, 1) := by decide +kernel
theorem d_Fu_isType_5 : decode b_Fu_isType 5 = .ok (.iconst 3, 1) := by decide +kernel
theorem d_Fu_isType_6 : decode b_Fu_isType 6 = .ok (.if_icmp .ge 7, 3) := by decide +kernel
theorem d_Fu_isType_9 : decode b_Fu_isType 9 = .ok (.iconst 1, 1) := by decide +kernel
theorem d_Fu_isType_10 : decode b_Fu_isType 10 = .ok (.goto 4, 3) := by decide +kernel
theorem d_Fu_isType_13 : decode b_Fu_isType 13 = .ok (.iconst 0, 1) := by decide +kernel
theorem d_Fu_isType_14 : decode b_Fu_isType 14 = .ok (.ireturn, 1) := by decide +kernel
theorem d_Fu_count_0 : decode b_Fu_count 0 = .ok (.iload_n 1, 1) := by decide +kernel
theorem d_Fu_count_1 : decode b_Fu_count 1 = .ok (.tableswitch 92 0 5 #[39, 47, 55, 63, 71, 79], 39) := by decide +kernel
theorem d_Fu_count_40 : decode b_Fu_count 40 = .ok (.aload_n 0, 1) := by decide +kernel
theorem d_Fu_count_41 : decode b_Fu_count 41 = .ok (.getfield 65, 3) := by decide +kernel
theorem d_Fu_count_44 : decode b_Fu_count 44 = .ok (.invokevirtual 202, 3) := by decide +kernel
theorem d_Fu_count_47 : decode b_Fu_count 47 = .ok (.ireturn, 1) := by decide +kernel
theorem d_Fu_count_48 : decode b_Fu_count 48 = .ok (.aload_n 0, 1) := by decide +kernel
theorem d_Fu_count_49 : decode b_Fu_count 49 = .ok (.getfield 14, 3) := by decide +kernel
theorem d_Fu_count_52 : decode b_Fu_count 52 = .ok (.invokevirtual 205, 3) := by decide +kernel
theorem d_Fu_count_55 : decode b_Fu_count 55 = .ok (.ireturn, 1) := by decide +kernel
theorem d_Fu_count_56 : decode b_Fu_count 56 = .ok (.aload_n 0, 1) := by decide +kernel
theorem d_Fu_count_57 : decode b_Fu_count 57 = .ok (.getfield 18, 3) := by decide +kernel
theorem d_Fu_count_60 : decode b_Fu_count 60 = .ok (.invokevirtual 205, 3) := by decide +kernel
theorem d_Fu_count_63 : decode b_Fu_count 63 = .ok (.ireturn, 1) := by decide +kernel
theorem d_Fu_count_64 : decode b_Fu_count 64 = .ok (.aload_n 0, 1) := by decide +kernel
theorem d_Fu_count_65 : decode b_Fu_count 65 = .ok (.getfield 24, 3) := by decide +kernel
theorem d_Fu_count_68 : decode b_Fu_count 68 = .ok (.invokevirtual 208, 3) := by decide +kernel
theorem d_Fu_count_71 : decode b_Fu_count 71 = .ok (.ireturn, 1) := by decide +kernel
theorem d_Fu_count_72 : decode b_Fu_count 72 = .ok (.aload_n 0, 1) := by decide +kernel
theorem d_Fu_count_73 : decode b_Fu_count 73 = .ok (.getfield 33, 3) := by decide +kernel
theorem d_Fu_count_76 : decode b_Fu_count 76 = .ok (.invokevirtual 209, 3) := by decide +kernel
theorem d_Fu_count_79 : decode b_Fu_count 79 = .ok (.ireturn, 1) := by decide +kernel
theorem d_Fu_count_80 : decode b_Fu_count 80 = .ok (.aload_n 0, 1) := by decide +kernel
theorem d_Fu_count_81 : decode b_Fu_count 81 = .ok (.getfield 69, 3) := by decide +kernel
theorem d_Fu_count_84 : decode b_Fu_count 84 = .ok (.ifCond .ne 7, 3) := by decide +kernel
theorem d_Fu_count_87 : decode b_Fu_count 87 = .ok (.iconst 1, 1) := by decide +kernel
theorem d_Fu_count_88 : decode b_Fu_count 88 = .ok (.goto 4, 3) := by decide +kernel
theorem d_Fu_count_91 : decode b_Fu_count 91 = .ok (.iconst 0, 1) := by decide +kernel
theorem d_Fu_count_92 : decode b_Fu_count 92 = .ok (.ireturn, 1) := by decide +kernel
theorem d_Fu_count_93 : decode b_Fu_count 93 = .ok (.iconst (-1), 1) := by decide +kernel
theorem d_Fu_count_94 : decode b_Fu_count 94 = .ok (.ireturn, 1) := by decide +kernel
theorem d_Fu_constructor_0 : decode b_Fu_constructor 0 = .ok (.iload_n 1, 1) := by decide +kernel
theorem d_Fu_constructor_1 : decode b_Fu_constructor 1 = .ok (.iload_n 2, 1) := by decide +kernel
theorem d_Fu_constructor_2 : decode b_Fu_constructor 2 = .ok (.iload_n 3, 1) := by decide +kernel
theorem d_Fu_constructor_3 : decode b_Fu_constructor 3 = .ok (.iload 4, 2) := by decide +kernel
theorem d_Fu_constructor_5 : decode b_Fu_constructor 5 = .ok (.invokestatic 73, 3) := by decide +kernel
theorem d_Fu_constructor_8 : decode b_Fu_constructor 8 = .ok (.ifCond .ne 13, 3) := by decide +kernel
theorem d_Fu_constructor_11 : decode b_Fu_constructor 11 = .ok (.new 77, 3) := by decide +kernel
theorem d_Fu_constructor_14 : decode b_Fu_constructor 14 = .ok (.dup, 1) := by decide +kernel
theorem d_Fu_constructor_15 : decode b_Fu_constructor 15 = .ok (.ldc 79, 2) := by decide +kernel
theorem d_Fu_constructor_17 : decode b_Fu_constructor 17 = .ok (.invokespecial 81, 3) := by decide +kernel
theorem d_Fu_constructor_20 : decode b_Fu_constructor 20 = .ok (.athrow, 1) := by decide +kernel
theorem d_Fu_constructor_21 : decode b_Fu_constructor 21 = .ok (.aload_n 0, 1) := by decide +kernel
theorem d_Fu_constructor_22 : decode b_Fu_constructor 22 = .ok (.getfield 14, 3) := by decide +kernel
theorem d_Fu_constructor_25 : decode b_Fu_constructor 25 = .ok (.invokevirtual 84, 3) := by decide +kernel
theorem d_Fu_constructor_28 : decode b_Fu_constructor 28 = .ok (.ifCond .eq 13, 3) := by decide +kernel
theorem d_Fu_constructor_31 : decode b_Fu_constructor 31 = .ok (.new 88, 3) := by decide +kernel
theorem d_Fu_constructor_34 : decode b_Fu_constructor 34 = .ok (.dup, 1) := by decide +kernel
theorem d_Fu_constructor_35 : decode b_Fu_constructor 35 = .ok (.ldc 90, 2) := by decide +kernel
theorem d_Fu_constructor_37 : decode b_Fu_constructor 37 = .ok (.invokespecial 92, 3) := by decide +kernel
theorem d_Fu_constructor_40 : decode b_Fu_constructor 40 = .ok (.athrow, 1) := by decide +kernel
theorem d_Fu_constructor_41 : decode b_Fu_constructor 41 = .ok (.aload_n 0, 1) := by decide +kernel
theorem d_Fu_constructor_42 : decode b_Fu_constructor 42 = .ok (.iconst (-1), 1) := by decide +kernel
theorem d_Fu_constructor_43 : decode b_Fu_constructor 43 = .ok (.putfield 69, 3) := by decide +kernel
theorem d_Fu_constructor_46 : decode b_Fu_constructor 46 = .ok (.aload_n 0, 1) := by decide +kernel
theorem d_Fu_constructor_47 : decode b_Fu_constructor 47 = .ok (.getfield 14, 3) := by decide +kernel
theorem d_Fu_constructor_50 : decode b_Fu_constructor 50 = .ok (.iload_n 1, 1) := by decide +kernel
theorem d_Fu_constructor_51 : decode b_Fu_constructor 51 = .ok (.iload_n 2, 1) := by decide +kernel
theorem d_Fu_constructor_52 : decode b_Fu_constructor 52 = .ok (.iload_n 3, 1) := by decide +kernel
theorem d_Fu_constructor_53 : decode b_Fu_constructor 53 = .ok (.iload 4, 2) := by decide +kernel
theorem d_Fu_constructor_55 : decode b_Fu_constructor 55 = .ok (.invokevirtual 93, 3) := by decide +kernel
theorem d_Fu_constructor_58 : decode b_Fu_constructor 58 = .ok (.ireturn, 1) := by decide +kernel
theorem d_Fu_areTypes_0 : decode b_Fu_areTypes 0 = .ok (.iload_n 0, 1) := by decide +kernel
theorem d_Fu_areTypes_1 : decode b_Fu_areTypes 1 = .ok (.invokestatic 173, 3) := by decide +kernel
theorem d_Fu_areTypes_4 : decode b_Fu_areTypes 4 = .ok (.ifCond .ne 5, 3) := by decide +kernel
theorem d_Fu_areTypes_7 : decode b_Fu_areTypes 7 = .ok (.iconst 0, 1) := by decide +kernel
theorem d_Fu_areTypes_8 : decode b_Fu_areTypes 8 = .ok (.ireturn, 1) := by decide +kernel
theorem d_Fu_areTypes_9 : decode b_Fu_areTypes 9 = .ok (.iconst 0, 1) := by decide +kernel
theorem d_Fu_areTypes_10 : decode b_Fu_areTypes 10 = .ok (.istore 4, 2) := by decide +kernel
theorem d_Fu_areTypes_12 : decode b_Fu_areTypes 12 = .ok (.iload 4, 2) := by decide +kernel
theorem d_Fu_areTypes_14 : decode b_Fu_areTypes 14 = .ok (.iload_n 1, 1) := by decide +kernel
theorem d_Fu_areTypes_15 : decode b_Fu_areTypes 15 = .ok (.iload_n 2, 1) := by decide +kernel
theorem d_Fu_areTypes_16 : decode b_Fu_areTypes 16 = .ok (.iload_n 3, 1) := by decide +kernel
theorem d_Fu_areTypes_17 : decode b_Fu_areTypes 17 = .ok (.invokestatic 234, 3) := by decide +kernel
theorem d_Fu_areTypes_20 : decode b_Fu_areTypes 20 = .ok (.if_icmp .ge 25, 3) := by decide +kernel
theorem d_Fu_areTypes_23 : decode b_Fu_areTypes 23 = .ok (.iload 4, 2) := by decide +kernel
theorem d_Fu_areTypes_25 : decode b_Fu_areTypes 25 = .ok (.iload_n 1, 1) := by decide +kernel
theorem d_Fu_areTypes_26 : decode b_Fu_areTypes 26 = .ok (.iload_n 2, 1) := by decide +kernel
theorem d_Fu_areTypes_27 : decode b_Fu_areTypes 27 = .ok (.iload_n 3, 1) := by decide +kernel
theorem d_Fu_areTypes_28 : decode b_Fu_areTypes 28 = .ok (.invokestatic 225, 3) := by decide +kernel
theorem d_Fu_areTypes_31 : decode b_Fu_areTypes 31 = .ok (.invokestatic 173, 3) := by decide +kernel
theorem d_Fu_areTypes_34 : decode b_Fu_areTypes 34 = .ok (.ifCond .ne 5, 3) := by decide +kernel
theorem d_Fu_areTypes_37 : decode b_Fu_areTypes 37 = .ok (.iconst 0, 1) := by decide +kernel
theorem d_Fu_areTypes_38 : decode b_Fu_areTypes 38 = .ok (.ireturn, 1) := by decide +kernel
theorem d_Fu_areTypes_39 : decode b_Fu_areTypes 39 = .ok (.iinc 4 1, 3) := by decide +kernel
theorem d_Fu_areTypes_42 : decode b_Fu_areTypes 42 = .ok (.goto (-30), 3) := by decide +kernel
theorem d_Fu_areTypes_45 : decode b_Fu_areTypes 45 = .ok (.iconst 1, 1) := by decide +kernel
theorem d_Fu_areTypes_46 : decode b_Fu_areTypes 46 = .ok (.ireturn, 1) := by decide +kernel
theorem d_Fu_leadingPlaces_0 : decode b_Fu_leadingPlaces 0 = .ok (.iload_n 0, 1) := by decide +kernel
theorem d_Fu_leadingPlaces_1 : decode b_Fu_leadingPlaces 1 = .ok (.iconst (-1), 1) := by decide +kernel
theorem d_Fu_leadingPlaces_2 : decode b_Fu_leadingPlaces 2 = .ok (.if_icmp .ne 5, 3) := by decide +kernel
theorem d_Fu_leadingPlaces_5 : decode b_Fu_leadingPlaces 5 = .ok (.iconst 0, 1) := by decide +kernel
theorem d_Fu_leadingPlaces_6 : decode b_Fu_leadingPlaces 6 = .ok (.ireturn, 1) := by decide +kernel
theorem d_Fu_leadingPlaces_7 : decode b_Fu_leadingPlaces 7 = .ok (.iload_n 1, 1) := by decide +kernel
theorem d_Fu_leadingPlaces_8 : decode b_Fu_leadingPlaces 8 = .ok (.iconst (-1), 1) := by decide +kernel
theorem d_Fu_leadingPlaces_9 : decode b_Fu_leadingPlaces 9 = .ok (.if_icmp .ne 5, 3) := by decide +kernel
theorem d_Fu_leadingPlaces_12 : decode b_Fu_leadingPlaces 12 = .ok (.iconst 1, 1) := by decide +kernel
theorem d_Fu_leadingPlaces_13 : decode b_Fu_leadingPlaces 13 = .ok (.ireturn, 1) := by decide +kernel
theorem d_Fu_leadingPlaces_14 : decode b_Fu_leadingPlaces 14 = .ok (.iload_n 2, 1) := by decide +kernel
theorem d_Fu_leadingPlaces_15 : decode b_Fu_leadingPlaces 15 = .ok (.iconst (-1), 1) := by decide +kernel
theorem d_Fu_leadingPlaces_16 : decode b_Fu_leadingPlaces 16 = .ok (.if_icmp .ne 7, 3) := by decide +kernel
theorem d_Fu_leadingPlaces_19 : decode b_Fu_leadingPlaces 19 = .ok (.iconst 2, 1) := by decide +kernel
theorem d_Fu_leadingPlaces_20 : decode b_Fu_leadingPlaces 20 = .ok (.goto 4, 3) := by decide +kernel
theorem d_Fu_leadingPlaces_23 : decode b_Fu_leadingPlaces 23 = .ok (.iconst 3, 1) := by decide +kernel
theorem d_Fu_leadingPlaces_24 : decode b_Fu_leadingPlaces 24 = .ok (.ireturn, 1) := by decide +kernel
theorem d_Fu_pick_0 : decode b_Fu_pick 0 = .ok (.iload_n 0, 1) := by decide +kernel
theorem d_Fu_pick_1 : decode b_Fu_pick 1 = .ok (.ifCond .ne 7, 3) := by decide +kernel
theorem d_Fu_pick_4 : decode b_Fu_pick 4 = .ok (.iload_n 1, 1) := by decide +kernel
theorem d_Fu_pick_5 : decode b_Fu_pick 5 = .ok (.goto 13, 3) := by decide +kernel
theorem d_Fu_pick_8 : decode b_Fu_pick 8 = .ok (.iload_n 0, 1) := by decide +kernel
theorem d_Fu_pick_9 : decode b_Fu_pick 9 = .ok (.iconst 1, 1) := by decide +kernel
theorem d_Fu_pick_10 : decode b_Fu_pick 10 = .ok (.if_icmp .ne 7, 3) := by decide +kernel
theorem d_Fu_pick_13 : decode b_Fu_pick 13 = .ok (.iload_n 2, 1) := by decide +kernel
theorem d_Fu_pick_14 : decode b_Fu_pick 14 = .ok (.goto 4, 3) := by decide +kernel
theorem d_Fu_pick_17 : decode b_Fu_pick 17 = .ok (.iload_n 3, 1) := by decide +kernel
theorem d_Fu_pick_18 : decode b_Fu_pick 18 = .ok (.ireturn, 1) := by decide +kernel
theorem d_Fu_function_0 : decode b_Fu_function 0 = .ok (.iload_n 1, 1) := by decide +kernel
theorem d_Fu_function_1 : decode b_Fu_function 1 = .ok (.iload_n 2, 1) := by decide +kernel
theorem d_Fu_function_2 : decode b_Fu_function 2 = .ok (.iload_n 3, 1) := by decide +kernel
theorem d_Fu_function_3 : decode b_Fu_function 3 = .ok (.iload 4, 2) := by decide +kernel
theorem d_Fu_function_5 : decode b_Fu_function 5 = .ok (.invokestatic 73, 3) := by decide +kernel
theorem d_Fu_function_8 : decode b_Fu_function 8 = .ok (.ifCond .ne 13, 3) := by decide +kernel
theorem d_Fu_function_11 : decode b_Fu_function 11 = .ok (.new 77, 3) := by decide +kernel
theorem d_Fu_function_14 : decode b_Fu_function 14 = .ok (.dup, 1) := by decide +kernel
theorem d_Fu_function_15 : decode b_Fu_function 15 = .ok (.ldc 79, 2) := by decide +kernel
theorem d_Fu_function_17 : decode b_Fu_function 17 = .ok (.invokespecial 81, 3) := by decide +kernel
theorem d_Fu_function_20 : decode b_Fu_function 20 = .ok (.athrow, 1) := by decide +kernel
theorem d_Fu_function_21 : decode b_Fu_function 21 = .ok (.aload_n 0, 1) := by decide +kernel
theorem d_Fu_function_22 : decode b_Fu_function 22 = .ok (.getfield 18, 3) := by decide +kernel
theorem d_Fu_function_25 : decode b_Fu_function 25 = .ok (.invokevirtual 84, 3) := by decide +kernel
theorem d_Fu_function_28 : decode b_Fu_function 28 = .ok (.ifCond .eq 13, 3) := by decide +kernel
theorem d_Fu_function_31 : decode b_Fu_function 31 = .ok (.new 88, 3) := by decide +kernel
theorem d_Fu_function_34 : decode b_Fu_function 34 = .ok (.dup, 1) := by decide +kernel
theorem d_Fu_function_35 : decode b_Fu_function 35 = .ok (.ldc 97, 2) := by decide +kernel
theorem d_Fu_function_37 : decode b_Fu_function 37 = .ok (.invokespecial 92, 3) := by decide +kernel
theorem d_Fu_function_40 : decode b_Fu_function 40 = .ok (.athrow, 1) := by decide +kernel
theorem d_Fu_function_41 : decode b_Fu_function 41 = .ok (.aload_n 0, 1) := by decide +kernel
theorem d_Fu_function_42 : decode b_Fu_function 42 = .ok (.iconst (-1), 1) := by decide +kernel
theorem d_Fu_function_43 : decode b_Fu_function 43 = .ok (.putfield 69, 3) := by decide +kernel
theorem d_Fu_function_46 : decode b_Fu_function 46 = .ok (.aload_n 0, 1) := by decide +kernel
theorem d_Fu_function_47 : decode b_Fu_function 47 = .ok (.getfield 18, 3) := by decide +kernel
theorem d_Fu_function_50 : decode b_Fu_function 50 = .ok (.iload_n 1, 1) := by decide +kernel
theorem d_Fu_function_51 : decode b_Fu_function 51 = .ok (.iload_n 2, 1) := by decide +kernel
theorem d_Fu_function_52 : decode b_Fu_function 52 = .ok (.iload_n 3, 1) := by decide +kernel
theorem d_Fu_function_53 : decode b_Fu_function 53 = .ok (.iload 4, 2) := by decide +kernel
theorem d_Fu_function_55 : decode b_Fu_function 55 = .ok (.invokevirtual 93, 3) := by decide +kernel
theorem d_Fu_function_58 : decode b_Fu_function 58 = .ok (.ireturn, 1) := by decide +kernel
theorem d_Fu_variable_0 : decode b_Fu_variable 0 = .ok (.iload_n 1, 1) := by decide +kernel
theorem d_Fu_variable_1 : decode b_Fu_variable 1 = .ok (.ifCond .lt 9, 3) := by decide +kernel
theorem d_Fu_variable_4 : decode b_Fu_variable 4 = .ok (.iload_n 1, 1) := by decide +kernel
theorem d_Fu_variable_5 : decode b_Fu_variable 5 = .ok (.bipush 8, 2) := by decide +kernel
theorem d_Fu_variable_7 : decode b_Fu_variable 7 = .ok (.if_icmp .lt 13, 3) := by decide +kernel
theorem d_Fu_variable_10 : decode b_Fu_variable 10 = .ok (.new 77, 3) := by decide +kernel
theorem d_Fu_variable_13 : decode b_Fu_variable 13 = .ok (.dup, 1) := by decide +kernel
theorem d_Fu_variable_14 : decode b_Fu_variable 14 = .ok (.ldc 99, 2) := by decide +kernel
theorem d_Fu_variable_16 : decode b_Fu_variable 16 = .ok (.invokespecial 81, 3) := by decide +kernel
theorem d_Fu_variable_19 : decode b_Fu_variable 19 = .ok (.athrow, 1) := by decide +kernel
theorem d_Fu_variable_20 : decode b_Fu_variable 20 = .ok (.aload_n 0, 1) := by decide +kernel
theorem d_Fu_variable_21 : decode b_Fu_variable 21 = .ok (.getfield 24, 3) := by decide +kernel
theorem d_Fu_variable_24 : decode b_Fu_variable 24 = .ok (.invokevirtual 101, 3) := by decide +kernel
theorem d_Fu_variable_27 : decode b_Fu_variable 27 = .ok (.ifCond .eq 13, 3) := by decide +kernel
theorem d_Fu_variable_30 : decode b_Fu_variable 30 = .ok (.new 88, 3) := by decide +kernel
theorem d_Fu_variable_33 : decode b_Fu_variable 33 = .ok (.dup, 1) := by decide +kernel
theorem d_Fu_variable_34 : decode b_Fu_variable 34 = .ok (.ldc 102, 2) := by decide +kernel
theorem d_Fu_variable_36 : decode b_Fu_variable 36 = .ok (.invokespecial 92, 3) := by decide +kernel
theorem d_Fu_variable_39 : decode b_Fu_variable 39 = .ok (.athrow, 1) := by decide +kernel
theorem d_Fu_variable_40 : decode b_Fu_variable 40 = .ok (.aload_n 0, 1) := by decide +kernel
theorem d_Fu_variable_41 : decode b_Fu_variable 41 = .ok (.getfield 24, 3) := by decide +kernel
theorem d_Fu_variable_44 : decode b_Fu_variable 44 = .ok (.iload_n 1, 1) := by decide +kernel
theorem d_Fu_variable_45 : decode b_Fu_variable 45 = .ok (.invokevirtual 104, 3) := by decide +kernel
theorem d_Fu_variable_48 : decode b_Fu_variable 48 = .ok (.ireturn, 1) := by decide +kernel
theorem d_Fu_make_0 : decode b_Fu_make 0 = .ok (.aload_n 0, 1) := by decide +kernel
theorem d_Fu_make_1 : decode b_Fu_make 1 = .ok (.getfield 14, 3) := by decide +kernel
theorem d_Fu_make_4 : decode b_Fu_make 4 = .ok (.iload_n 1, 1) := by decide +kernel
theorem d_Fu_make_5 : decode b_Fu_make 5 = .ok (.invokevirtual 108, 3) := by decide +kernel
theorem d_Fu_make_8 : decode b_Fu_make 8 = .ok (.ifCond .eq 25, 3) := by decide +kernel
theorem d_Fu_make_11 : decode b_Fu_make 11 = .ok (.aload_n 0, 1) := by decide +kernel
theorem d_Fu_make_12 : decode b_Fu_make 12 = .ok (.getfield 24, 3) := by decide +kernel
theorem d_Fu_make_15 : decode b_Fu_make 15 = .ok (.aload_n 0, 1) := by decide +kernel
theorem d_Fu_make_16 : decode b_Fu_make 16 = .ok (.getfield 14, 3) := by decide +kernel
theorem d_Fu_make_19 : decode b_Fu_make 19 = .ok (.iload_n 1, 1) := by decide +kernel
theorem d_Fu_make_20 : decode b_Fu_make 20 = .ok (.invokevirtual 112, 3) := by decide +kernel
theorem d_Fu_make_23 : decode b_Fu_make 23 = .ok (.iload_n 2, 1) := by decide +kernel
theorem d_Fu_make_24 : decode b_Fu_make 24 = .ok (.iload_n 3, 1) := by decide +kernel
theorem d_Fu_make_25 : decode b_Fu_make 25 = .ok (.iload 4, 2) := by decide +kernel
theorem d_Fu_make_27 : decode b_Fu_make 27 = .ok (.invokevirtual 115, 3) := by decide +kernel
theorem d_Fu_make_30 : decode b_Fu_make 30 = .ok (.ifCond .ne 13, 3) := by decide +kernel
theorem d_Fu_make_33 : decode b_Fu_make 33 = .ok (.new 77, 3) := by decide +kernel
theorem d_Fu_make_36 : decode b_Fu_make 36 = .ok (.dup, 1) := by decide +kernel
theorem d_Fu_make_37 : decode b_Fu_make 37 = .ok (.ldc 118, 2) := by decide +kernel
theorem d_Fu_make_39 : decode b_Fu_make 39 = .ok (.invokespecial 81, 3) := by decide +kernel
theorem d_Fu_make_42 : decode b_Fu_make 42 = .ok (.athrow, 1) := by decide +kernel
theorem d_Fu_make_43 : decode b_Fu_make 43 = .ok (.aload_n 0, 1) := by decide +kernel
theorem d_Fu_make_44 : decode b_Fu_make 44 = .ok (.getfield 24, 3) := by decide +kernel
theorem d_Fu_make_47 : decode b_Fu_make 47 = .ok (.invokevirtual 101, 3) := by decide +kernel
theorem d_Fu_make_50 : decode b_Fu_make 50 = .ok (.ifCond .eq 13, 3) := by decide +kernel
theorem d_Fu_make_53 : decode b_Fu_make 53 = .ok (.new 88, 3) := by decide +kernel
theorem d_Fu_make_56 : decode b_Fu_make 56 = .ok (.dup, 1) := by decide +kernel
theorem d_Fu_make_57 : decode b_Fu_make 57 = .ok (.ldc 102, 2) := by decide +kernel
theorem d_Fu_make_59 : decode b_Fu_make 59 = .ok (.invokespecial 92, 3) := by decide +kernel
theorem d_Fu_make_62 : decode b_Fu_make 62 = .ok (.athrow, 1) := by decide +kernel
theorem d_Fu_make_63 : decode b_Fu_make 63 = .ok (.aload_n 0, 1) := by decide +kernel
theorem d_Fu_make_64 : decode b_Fu_make 64 = .ok (.getfield 24, 3) := by decide +kernel
theorem d_Fu_make_67 : decode b_Fu_make 67 = .ok (.iload_n 1, 1) := by decide +kernel
theorem d_Fu_make_68 : decode b_Fu_make 68 = .ok (.aload_n 0, 1) := by decide +kernel
theorem d_Fu_make_69 : decode b_Fu_make 69 = .ok (.getfield 14, 3) := by decide +kernel
theorem d_Fu_make_72 : decode b_Fu_make 72 = .ok (.iload_n 1, 1) := by decide +kernel
theorem d_Fu_make_73 : decode b_Fu_make 73 = .ok (.invokevirtual 112, 3) := by decide +kernel
theorem d_Fu_make_76 : decode b_Fu_make 76 = .ok (.iload_n 2, 1) := by decide +kernel
theorem d_Fu_make_77 : decode b_Fu_make 77 = .ok (.iload_n 3, 1) := by decide +kernel
theorem d_Fu_make_78 : decode b_Fu_make 78 = .ok (.iload 4, 2) := by decide +kernel
theorem d_Fu_make_80 : decode b_Fu_make 80 = .ok (.invokevirtual 120, 3) := by decide +kernel
theorem d_Fu_make_83 : decode b_Fu_make 83 = .ok (.ireturn, 1) := by decide +kernel
theorem d_Fu_call_0 : decode b_Fu_call 0 = .ok (.aload_n 0, 1) := by decide +kernel
theorem d_Fu_call_1 : decode b_Fu_call 1 = .ok (.getfield 18, 3) := by decide +kernel
theorem d_Fu_call_4 : decode b_Fu_call 4 = .ok (.iload_n 1, 1) := by decide +kernel
theorem d_Fu_call_5 : decode b_Fu_call 5 = .ok (.invokevirtual 108, 3) := by decide +kernel
theorem d_Fu_call_8 : decode b_Fu_call 8 = .ok (.ifCond .eq 25, 3) := by decide +kernel
theorem d_Fu_call_11 : decode b_Fu_call 11 = .ok (.aload_n 0, 1) := by decide +kernel
theorem d_Fu_call_12 : decode b_Fu_call 12 = .ok (.getfield 24, 3) := by decide +kernel
theorem d_Fu_call_15 : decode b_Fu_call 15 = .ok (.aload_n 0, 1) := by decide +kernel
theorem d_Fu_call_16 : decode b_Fu_call 16 = .ok (.getfield 18, 3) := by decide +kernel
theorem d_Fu_call_19 : decode b_Fu_call 19 = .ok (.iload_n 1, 1) := by decide +kernel
theorem d_Fu_call_20 : decode b_Fu_call 20 = .ok (.invokevirtual 112, 3) := by decide +kernel
theorem d_Fu_call_23 : decode b_Fu_call 23 = .ok (.iload_n 2, 1) := by decide +kernel
theorem d_Fu_call_24 : decode b_Fu_call 24 = .ok (.iload_n 3, 1) := by decide +kernel
theorem d_Fu_call_25 : decode b_Fu_call 25 = .ok (.iload 4, 2) := by decide +kernel
theorem d_Fu_call_27 : decode b_Fu_call 27 = .ok (.invokevirtual 115, 3) := by decide +kernel
theorem d_Fu_call_30 : decode b_Fu_call 30 = .ok (.ifCond .ne 13, 3) := by decide +kernel
theorem d_Fu_call_33 : decode b_Fu_call 33 = .ok (.new 77, 3) := by decide +kernel
theorem d_Fu_call_36 : decode b_Fu_call 36 = .ok (.dup, 1) := by decide +kernel
theorem d_Fu_call_37 : decode b_Fu_call 37 = .ok (.ldc 124, 2) := by decide +kernel
theorem d_Fu_call_39 : decode b_Fu_call 39 = .ok (.invokespecial 81, 3) := by decide +kernel
theorem d_Fu_call_42 : decode b_Fu_call 42 = .ok (.athrow, 1) := by decide +kernel
theorem d_Fu_call_43 : decode b_Fu_call 43 = .ok (.aload_n 0, 1) := by decide +kernel
theorem d_Fu_call_44 : decode b_Fu_call 44 = .ok (.getfield 24, 3) := by decide +kernel
theorem d_Fu_call_47 : decode b_Fu_call 47 = .ok (.invokevirtual 101, 3) := by decide +kernel
theorem d_Fu_call_50 : decode b_Fu_call 50 = .ok (.ifCond .eq 13, 3) := by decide +kernel
theorem d_Fu_call_53 : decode b_Fu_call 53 = .ok (.new 88, 3) := by decide +kernel
theorem d_Fu_call_56 : decode b_Fu_call 56 = .ok (.dup, 1) := by decide +kernel
theorem d_Fu_call_57 : decode b_Fu_call 57 = .ok (.ldc 102, 2) := by decide +kernel
theorem d_Fu_call_59 : decode b_Fu_call 59 = .ok (.invokespecial 92, 3) := by decide +kernel
theorem d_Fu_call_62 : decode b_Fu_call 62 = .ok (.athrow, 1) := by decide +kernel
theorem d_Fu_call_63 : decode b_Fu_call 63 = .ok (.aload_n 0, 1) := by decide +kernel
theorem d_Fu_call_64 : decode b_Fu_call 64 = .ok (.getfield 24, 3) := by decide +kernel
theorem d_Fu_call_67 : decode b_Fu_call 67 = .ok (.iload_n 1, 1) := by decide +kernel
theorem d_Fu_call_68 : decode b_Fu_call 68 = .ok (.aload_n 0, 1) := by decide +kernel
theorem d_Fu_call_69 : decode b_Fu_call 69 = .ok (.getfield 18, 3) := by decide +kernel
theorem d_Fu_call_72 : decode b_Fu_call 72 = .ok (.iload_n 1, 1) := by decide +kernel
theorem d_Fu_call_73 : decode b_Fu_call 73 = .ok (.invokevirtual 112, 3) := by decide +kernel
theorem d_Fu_call_76 : decode b_Fu_call 76 = .ok (.iload_n 2, 1) := by decide +kernel
theorem d_Fu_call_77 : decode b_Fu_call 77 = .ok (.iload_n 3, 1) := by decide +kernel
theorem d_Fu_call_78 : decode b_Fu_call 78 = .ok (.iload 4, 2) := by decide +kernel
theorem d_Fu_call_80 : decode b_Fu_call 80 = .ok (.invokevirtual 126, 3) := by decide +kernel
theorem d_Fu_call_83 : decode b_Fu_call 83 = .ok (.ireturn, 1) := by decide +kernel
theorem d_Fu_clause_0 : decode b_Fu_clause 0 = .ok (.aload_n 0, 1) := by decide +kernel
theorem d_Fu_clause_1 : decode b_Fu_clause 1 = .ok (.getfield 18, 3) := by decide +kernel
theorem d_Fu_clause_4 : decode b_Fu_clause 4 = .ok (.iload_n 1, 1) := by decide +kernel
theorem d_Fu_clause_5 : decode b_Fu_clause 5 = .ok (.invokevirtual 108, 3) := by decide +kernel
theorem d_Fu_clause_8 : decode b_Fu_clause 8 = .ok (.ifCond .eq 27, 3) := by decide +kernel
theorem d_Fu_clause_11 : decode b_Fu_clause 11 = .ok (.aload_n 0, 1) := by decide +kernel
theorem d_Fu_clause_12 : decode b_Fu_clause 12 = .ok (.getfield 33, 3) := by decide +kernel
theorem d_Fu_clause_15 : decode b_Fu_clause 15 = .ok (.aload_n 0, 1) := by decide +kernel
theorem d_Fu_clause_16 : decode b_Fu_clause 16 = .ok (.getfield 18, 3) := by decide +kernel
theorem d_Fu_clause_19 : decode b_Fu_clause 19 = .ok (.iload_n 1, 1) := by decide +kernel
theorem d_Fu_clause_20 : decode b_Fu_clause 20 = .ok (.invokevirtual 112, 3) := by decide +kernel
theorem d_Fu_clause_23 : decode b_Fu_clause 23 = .ok (.iload_n 2, 1) := by decide +kernel
theorem d_Fu_clause_24 : decode b_Fu_clause 24 = .ok (.iload_n 3, 1) := by decide +kernel
theorem d_Fu_clause_25 : decode b_Fu_clause 25 = .ok (.iload 4, 2) := by decide +kernel
theorem d_Fu_clause_27 : decode b_Fu_clause 27 = .ok (.iload 5, 2) := by decide +kernel
theorem d_Fu_clause_29 : decode b_Fu_clause 29 = .ok (.invokevirtual 129, 3) := by decide +kernel
theorem d_Fu_clause_32 : decode b_Fu_clause 32 = .ok (.ifCond .ne 13, 3) := by decide +kernel
theorem d_Fu_clause_35 : decode b_Fu_clause 35 = .ok (.new 77, 3) := by decide +kernel
theorem d_Fu_clause_38 : decode b_Fu_clause 38 = .ok (.dup, 1) := by decide +kernel
theorem d_Fu_clause_39 : decode b_Fu_clause 39 = .ok (.ldc 133, 2) := by decide +kernel
theorem d_Fu_clause_41 : decode b_Fu_clause 41 = .ok (.invokespecial 81, 3) := by decide +kernel
theorem d_Fu_clause_44 : decode b_Fu_clause 44 = .ok (.athrow, 1) := by decide +kernel
theorem d_Fu_clause_45 : decode b_Fu_clause 45 = .ok (.aload_n 0, 1) := by decide +kernel
theorem d_Fu_clause_46 : decode b_Fu_clause 46 = .ok (.getfield 33, 3) := by decide +kernel
theorem d_Fu_clause_49 : decode b_Fu_clause 49 = .ok (.iload_n 1, 1) := by decide +kernel
theorem d_Fu_clause_50 : decode b_Fu_clause 50 = .ok (.invokevirtual 135, 3) := by decide +kernel
theorem d_Fu_clause_53 : decode b_Fu_clause 53 = .ok (.ifCond .eq 13, 3) := by decide +kernel
theorem d_Fu_clause_56 : decode b_Fu_clause 56 = .ok (.new 88, 3) := by decide +kernel
theorem d_Fu_clause_59 : decode b_Fu_clause 59 = .ok (.dup, 1) := by decide +kernel
theorem d_Fu_clause_60 : decode b_Fu_clause 60 = .ok (.ldc 137, 2) := by decide +kernel
theorem d_Fu_clause_62 : decode b_Fu_clause 62 = .ok (.invokespecial 92, 3) := by decide +kernel
theorem d_Fu_clause_65 : decode b_Fu_clause 65 = .ok (.athrow, 1) := by decide +kernel
theorem d_Fu_clause_66 : decode b_Fu_clause 66 = .ok (.aload_n 0, 1) := by decide +kernel
theorem d_Fu_clause_67 : decode b_Fu_clause 67 = .ok (.iconst (-1), 1) := by decide +kernel
theorem d_Fu_clause_68 : decode b_Fu_clause 68 = .ok (.putfield 69, 3) := by decide +kernel
theorem d_Fu_clause_71 : decode b_Fu_clause 71 = .ok (.aload_n 0, 1) := by decide +kernel
theorem d_Fu_clause_72 : decode b_Fu_clause 72 = .ok (.getfield 33, 3) := by decide +kernel
theorem d_Fu_clause_75 : decode b_Fu_clause 75 = .ok (.iload_n 1, 1) := by decide +kernel
theorem d_Fu_clause_76 : decode b_Fu_clause 76 = .ok (.iload_n 2, 1) := by decide +kernel
theorem d_Fu_clause_77 : decode b_Fu_clause 77 = .ok (.iload_n 3, 1) := by decide +kernel
theorem d_Fu_clause_78 : decode b_Fu_clause 78 = .ok (.iload 4, 2) := by decide +kernel
theorem d_Fu_clause_80 : decode b_Fu_clause 80 = .ok (.iload 5, 2) := by decide +kernel
theorem d_Fu_clause_82 : decode b_Fu_clause 82 = .ok (.invokevirtual 139, 3) := by decide +kernel
theorem d_Fu_clause_85 : decode b_Fu_clause 85 = .ok (.ireturn, 1) := by decide +kernel
theorem d_Fu_arc_0 : decode b_Fu_arc 0 = .ok (.aload_n 0, 1) := by decide +kernel
theorem d_Fu_arc_1 : decode b_Fu_arc 1 = .ok (.getfield 33, 3) := by decide +kernel
theorem d_Fu_arc_4 : decode b_Fu_arc 4 = .ok (.iload_n 1, 1) := by decide +kernel
theorem d_Fu_arc_5 : decode b_Fu_arc 5 = .ok (.invokevirtual 149, 3) := by decide +kernel
theorem d_Fu_arc_8 : decode b_Fu_arc 8 = .ok (.ifCond .ne 13, 3) := by decide +kernel
theorem d_Fu_arc_11 : decode b_Fu_arc 11 = .ok (.new 77, 3) := by decide +kernel
theorem d_Fu_arc_14 : decode b_Fu_arc 14 = .ok (.dup, 1) := by decide +kernel
theorem d_Fu_arc_15 : decode b_Fu_arc 15 = .ok (.ldc 150, 2) := by decide +kernel
theorem d_Fu_arc_17 : decode b_Fu_arc 17 = .ok (.invokespecial 81, 3) := by decide +kernel
theorem d_Fu_arc_20 : decode b_Fu_arc 20 = .ok (.athrow, 1) := by decide +kernel
theorem d_Fu_arc_21 : decode b_Fu_arc 21 = .ok (.aload_n 0, 1) := by decide +kernel
theorem d_Fu_arc_22 : decode b_Fu_arc 22 = .ok (.getfield 58, 3) := by decide +kernel
theorem d_Fu_arc_25 : decode b_Fu_arc 25 = .ok (.iload_n 1, 1) := by decide +kernel
theorem d_Fu_arc_26 : decode b_Fu_arc 26 = .ok (.iload_n 2, 1) := by decide +kernel
theorem d_Fu_arc_27 : decode b_Fu_arc 27 = .ok (.invokevirtual 152, 3) := by decide +kernel
theorem d_Fu_arc_30 : decode b_Fu_arc 30 = .ok (.istore 5, 2) := by decide +kernel
theorem d_Fu_arc_32 : decode b_Fu_arc 32 = .ok (.iload 5, 2) := by decide +kernel
theorem d_Fu_arc_34 : decode b_Fu_arc 34 = .ok (.iconst (-1), 1) := by decide +kernel
theorem d_Fu_arc_35 : decode b_Fu_arc 35 = .ok (.if_icmp .ne 13, 3) := by decide +kernel
theorem d_Fu_arc_38 : decode b_Fu_arc 38 = .ok (.new 77, 3) := by decide +kernel
theorem d_Fu_arc_41 : decode b_Fu_arc 41 = .ok (.dup, 1) := by decide +kernel
theorem d_Fu_arc_42 : decode b_Fu_arc 42 = .ok (.ldc 156, 2) := by decide +kernel
theorem d_Fu_arc_44 : decode b_Fu_arc 44 = .ok (.invokespecial 81, 3) := by decide +kernel
theorem d_Fu_arc_47 : decode b_Fu_arc 47 = .ok (.athrow, 1) := by decide +kernel
theorem d_Fu_arc_48 : decode b_Fu_arc 48 = .ok (.aload_n 0, 1) := by decide +kernel
theorem d_Fu_arc_49 : decode b_Fu_arc 49 = .ok (.getfield 18, 3) := by decide +kernel
theorem d_Fu_arc_52 : decode b_Fu_arc 52 = .ok (.aload_n 0, 1) := by decide +kernel
theorem d_Fu_arc_53 : decode b_Fu_arc 53 = .ok (.getfield 33, 3) := by decide +kernel
theorem d_Fu_arc_56 : decode b_Fu_arc 56 = .ok (.iload_n 1, 1) := by decide +kernel
theorem d_Fu_arc_57 : decode b_Fu_arc 57 = .ok (.invokevirtual 158, 3) := by decide +kernel
theorem d_Fu_arc_60 : decode b_Fu_arc 60 = .ok (.invokevirtual 112, 3) := by decide +kernel
theorem d_Fu_arc_63 : decode b_Fu_arc 63 = .ok (.istore 6, 2) := by decide +kernel
theorem d_Fu_arc_65 : decode b_Fu_arc 65 = .ok (.iload_n 3, 1) := by decide +kernel
theorem d_Fu_arc_66 : decode b_Fu_arc 66 = .ok (.ifCond .lt 28, 3) := by decide +kernel
theorem d_Fu_arc_69 : decode b_Fu_arc 69 = .ok (.iload_n 3, 1) := by decide +kernel
theorem d_Fu_arc_70 : decode b_Fu_arc 70 = .ok (.iload 6, 2) := by decide +kernel
theorem d_Fu_arc_72 : decode b_Fu_arc 72 = .ok (.if_icmp .ge 22, 3) := by decide +kernel
theorem d_Fu_arc_75 : decode b_Fu_arc 75 = .ok (.iload 4, 2) := by decide +kernel
theorem d_Fu_arc_77 : decode b_Fu_arc 77 = .ok (.ifCond .lt 17, 3) := by decide +kernel
theorem d_Fu_arc_80 : decode b_Fu_arc 80 = .ok (.iload 4, 2) := by decide +kernel
theorem d_Fu_arc_82 : decode b_Fu_arc 82 = .ok (.aload_n 0, 1) := by decide +kernel
theorem d_Fu_arc_83 : decode b_Fu_arc 83 = .ok (.getfield 24, 3) := by decide +kernel
theorem d_Fu_arc_86 : decode b_Fu_arc 86 = .ok (.iload 5, 2) := by decide +kernel
theorem d_Fu_arc_88 : decode b_Fu_arc 88 = .ok (.invokevirtual 161, 3) := by decide +kernel
theorem d_Fu_arc_91 : decode b_Fu_arc 91 = .ok (.if_icmp .lt 13, 3) := by decide +kernel
theorem d_Fu_arc_94 : decode b_Fu_arc 94 = .ok (.new 77, 3) := by decide +kernel
theorem d_Fu_arc_97 : decode b_Fu_arc 97 = .ok (.dup, 1) := by decide +kernel
theorem d_Fu_arc_98 : decode b_Fu_arc 98 = .ok (.ldc 162, 2) := by decide +kernel
theorem d_Fu_arc_100 : decode b_Fu_arc 100 = .ok (.invokespecial 81, 3) := by decide +kernel
theorem d_Fu_arc_103 : decode b_Fu_arc 103 = .ok (.athrow, 1) := by decide +kernel
theorem d_Fu_arc_104 : decode b_Fu_arc 104 = .ok (.aload_n 0, 1) := by decide +kernel
theorem d_Fu_arc_105 : decode b_Fu_arc 105 = .ok (.getfield 58, 3) := by decide +kernel
theorem d_Fu_arc_108 : decode b_Fu_arc 108 = .ok (.aload_n 0, 1) := by decide +kernel
theorem d_Fu_arc_109 : decode b_Fu_arc 109 = .ok (.getfield 33, 3) := by decide +kernel
theorem d_Fu_arc_112 : decode b_Fu_arc 112 = .ok (.iload_n 1, 1) := by decide +kernel
theorem d_Fu_arc_113 : decode b_Fu_arc 113 = .ok (.iload_n 3, 1) := by decide +kernel
theorem d_Fu_arc_114 : decode b_Fu_arc 114 = .ok (.invokevirtual 164, 3) := by decide +kernel
theorem d_Fu_arc_117 : decode b_Fu_arc 117 = .ok (.aload_n 0, 1) := by decide +kernel
theorem d_Fu_arc_118 : decode b_Fu_arc 118 = .ok (.getfield 24, 3) := by decide +kernel
theorem d_Fu_arc_121 : decode b_Fu_arc 121 = .ok (.iload 5, 2) := by decide +kernel
theorem d_Fu_arc_123 : decode b_Fu_arc 123 = .ok (.iload 4, 2) := by decide +kernel
theorem d_Fu_arc_125 : decode b_Fu_arc 125 = .ok (.invokevirtual 167, 3) := by decide +kernel
theorem d_Fu_arc_128 : decode b_Fu_arc 128 = .ok (.invokevirtual 170, 3) := by decide +kernel
theorem d_Fu_arc_131 : decode b_Fu_arc 131 = .ok (.ireturn, 1) := by decide +kernel
theorem d_Fu_run_0 : decode b_Fu_run 0 = .ok (.aload_n 0, 1) := by decide +kernel
theorem d_Fu_run_1 : decode b_Fu_run 1 = .ok (.getfield 69, 3) := by decide +kernel
theorem d_Fu_run_4 : decode b_Fu_run 4 = .ok (.ifCond .eq 13, 3) := by decide +kernel
theorem d_Fu_run_7 : decode b_Fu_run 7 = .ok (.new 88, 3) := by decide +kernel
theorem d_Fu_run_10 : decode b_Fu_run 10 = .ok (.dup, 1) := by decide +kernel
theorem d_Fu_run_11 : decode b_Fu_run 11 = .ok (.ldc 181, 2) := by decide +kernel
theorem d_Fu_run_13 : decode b_Fu_run 13 = .ok (.invokespecial 92, 3) := by decide +kernel
theorem d_Fu_run_16 : decode b_Fu_run 16 = .ok (.athrow, 1) := by decide +kernel
theorem d_Fu_run_17 : decode b_Fu_run 17 = .ok (.aload_n 0, 1) := by decide +kernel
theorem d_Fu_run_18 : decode b_Fu_run 18 = .ok (.getfield 18, 3) := by decide +kernel
theorem d_Fu_run_21 : decode b_Fu_run 21 = .ok (.iload_n 1, 1) := by decide +kernel
theorem d_Fu_run_22 : decode b_Fu_run 22 = .ok (.invokevirtual 108, 3) := by decide +kernel
theorem d_Fu_run_25 : decode b_Fu_run 25 = .ok (.ifCond .eq 15, 3) := by decide +kernel
theorem d_Fu_run_28 : decode b_Fu_run 28 = .ok (.aload_n 0, 1) := by decide +kernel
theorem d_Fu_run_29 : decode b_Fu_run 29 = .ok (.iload_n 1, 1) := by decide +kernel
theorem d_Fu_run_30 : decode b_Fu_run 30 = .ok (.iload_n 2, 1) := by decide +kernel
theorem d_Fu_run_31 : decode b_Fu_run 31 = .ok (.iload_n 3, 1) := by decide +kernel
theorem d_Fu_run_32 : decode b_Fu_run 32 = .ok (.iload 4, 2) := by decide +kernel
theorem d_Fu_run_34 : decode b_Fu_run 34 = .ok (.invokevirtual 183, 3) := by decide +kernel
theorem d_Fu_run_37 : decode b_Fu_run 37 = .ok (.ifCond .ne 13, 3) := by decide +kernel
theorem d_Fu_run_40 : decode b_Fu_run 40 = .ok (.new 77, 3) := by decide +kernel
theorem d_Fu_run_43 : decode b_Fu_run 43 = .ok (.dup, 1) := by decide +kernel
theorem d_Fu_run_44 : decode b_Fu_run 44 = .ok (.ldc 186, 2) := by decide +kernel
theorem d_Fu_run_46 : decode b_Fu_run 46 = .ok (.invokespecial 81, 3) := by decide +kernel
theorem d_Fu_run_49 : decode b_Fu_run 49 = .ok (.athrow, 1) := by decide +kernel
theorem d_Fu_run_50 : decode b_Fu_run 50 = .ok (.aload_n 0, 1) := by decide +kernel
theorem d_Fu_run_51 : decode b_Fu_run 51 = .ok (.getfield 65, 3) := by decide +kernel
theorem d_Fu_run_54 : decode b_Fu_run 54 = .ok (.iload_n 1, 1) := by decide +kernel
theorem d_Fu_run_55 : decode b_Fu_run 55 = .ok (.iload_n 2, 1) := by decide +kernel
theorem d_Fu_run_56 : decode b_Fu_run 56 = .ok (.iload_n 3, 1) := by decide +kernel
theorem d_Fu_run_57 : decode b_Fu_run 57 = .ok (.iload 4, 2) := by decide +kernel
theorem d_Fu_run_59 : decode b_Fu_run 59 = .ok (.invokevirtual 188, 3) := by decide +kernel
theorem d_Fu_run_62 : decode b_Fu_run 62 = .ok (.ireturn, 1) := by decide +kernel
theorem d_Fu_areArguments_0 : decode b_Fu_areArguments 0 = .ok (.iconst 0, 1) := by decide +kernel
theorem d_Fu_areArguments_1 : decode b_Fu_areArguments 1 = .ok (.istore 5, 2) := by decide +kernel
theorem d_Fu_areArguments_3 : decode b_Fu_areArguments 3 = .ok (.iload 5, 2) := by decide +kernel
theorem d_Fu_areArguments_5 : decode b_Fu_areArguments 5 = .ok (.aload_n 0, 1) := by decide +kernel
theorem d_Fu_areArguments_6 : decode b_Fu_areArguments 6 = .ok (.getfield 18, 3) := by decide +kernel
theorem d_Fu_areArguments_9 : decode b_Fu_areArguments 9 = .ok (.iload_n 1, 1) := by decide +kernel
theorem d_Fu_areArguments_10 : decode b_Fu_areArguments 10 = .ok (.invokevirtual 112, 3) := by decide +kernel
theorem d_Fu_areArguments_13 : decode b_Fu_areArguments 13 = .ok (.if_icmp .ge 37, 3) := by decide +kernel
theorem d_Fu_areArguments_16 : decode b_Fu_areArguments 16 = .ok (.aload_n 0, 1) := by decide +kernel
theorem d_Fu_areArguments_17 : decode b_Fu_areArguments 17 = .ok (.iload 5, 2) := by decide +kernel
theorem d_Fu_areArguments_19 : decode b_Fu_areArguments 19 = .ok (.iload_n 2, 1) := by decide +kernel
theorem d_Fu_areArguments_20 : decode b_Fu_areArguments 20 = .ok (.iload_n 3, 1) := by decide +kernel
theorem d_Fu_areArguments_21 : decode b_Fu_areArguments 21 = .ok (.iload 4, 2) := by decide +kernel
theorem d_Fu_areArguments_23 : decode b_Fu_areArguments 23 = .ok (.invokestatic 225, 3) := by decide +kernel
theorem d_Fu_areArguments_26 : decode b_Fu_areArguments 26 = .ok (.aload_n 0, 1) := by decide +kernel
theorem d_Fu_areArguments_27 : decode b_Fu_areArguments 27 = .ok (.getfield 18, 3) := by decide +kernel
theorem d_Fu_areArguments_30 : decode b_Fu_areArguments 30 = .ok (.iload_n 1, 1) := by decide +kernel
theorem d_Fu_areArguments_31 : decode b_Fu_areArguments 31 = .ok (.iload 5, 2) := by decide +kernel
theorem d_Fu_areArguments_33 : decode b_Fu_areArguments 33 = .ok (.invokevirtual 228, 3) := by decide +kernel
theorem d_Fu_areArguments_36 : decode b_Fu_areArguments 36 = .ok (.invokevirtual 231, 3) := by decide +kernel
theorem d_Fu_areArguments_39 : decode b_Fu_areArguments 39 = .ok (.ifCond .ne 5, 3) := by decide +kernel
theorem d_Fu_areArguments_42 : decode b_Fu_areArguments 42 = .ok (.iconst 0, 1) := by decide +kernel
theorem d_Fu_areArguments_43 : decode b_Fu_areArguments 43 = .ok (.ireturn, 1) := by decide +kernel
theorem d_Fu_areArguments_44 : decode b_Fu_areArguments 44 = .ok (.iinc 5 1, 3) := by decide +kernel
theorem d_Fu_areArguments_47 : decode b_Fu_areArguments 47 = .ok (.goto (-44), 3) := by decide +kernel
theorem d_Fu_areArguments_50 : decode b_Fu_areArguments 50 = .ok (.iconst 1, 1) := by decide +kernel
theorem d_Fu_areArguments_51 : decode b_Fu_areArguments 51 = .ok (.ireturn, 1) := by decide +kernel
theorem d_Fu_answer_0 : decode b_Fu_answer 0 = .ok (.iload_n 1, 1) := by decide +kernel
theorem d_Fu_answer_1 : decode b_Fu_answer 1 = .ok (.ifCond .lt 14, 3) := by decide +kernel
theorem d_Fu_answer_4 : decode b_Fu_answer 4 = .ok (.iload_n 1, 1) := by decide +kernel
theorem d_Fu_answer_5 : decode b_Fu_answer 5 = .ok (.aload_n 0, 1) := by decide +kernel
theorem d_Fu_answer_6 : decode b_Fu_answer 6 = .ok (.getfield 65, 3) := by decide +kernel
theorem d_Fu_answer_9 : decode b_Fu_answer 9 = .ok (.invokevirtual 191, 3) := by decide +kernel
theorem d_Fu_answer_12 : decode b_Fu_answer 12 = .ok (.if_icmp .lt 13, 3) := by decide +kernel
theorem d_Fu_answer_15 : decode b_Fu_answer 15 = .ok (.new 194, 3) := by decide +kernel
theorem d_Fu_answer_18 : decode b_Fu_answer 18 = .ok (.dup, 1) := by decide +kernel
theorem d_Fu_answer_19 : decode b_Fu_answer 19 = .ok (.ldc 196, 2) := by decide +kernel
theorem d_Fu_answer_21 : decode b_Fu_answer 21 = .ok (.invokespecial 198, 3) := by decide +kernel
theorem d_Fu_answer_24 : decode b_Fu_answer 24 = .ok (.athrow, 1) := by decide +kernel
theorem d_Fu_answer_25 : decode b_Fu_answer 25 = .ok (.aload_n 0, 1) := by decide +kernel
theorem d_Fu_answer_26 : decode b_Fu_answer 26 = .ok (.getfield 65, 3) := by decide +kernel
theorem d_Fu_answer_29 : decode b_Fu_answer 29 = .ok (.iload_n 1, 1) := by decide +kernel
theorem d_Fu_answer_30 : decode b_Fu_answer 30 = .ok (.invokevirtual 199, 3) := by decide +kernel
theorem d_Fu_answer_33 : decode b_Fu_answer 33 = .ok (.ireturn, 1) := by decide +kernel
