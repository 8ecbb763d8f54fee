theorem d_Mo_splitAt_12 : decode b_Mo_splitAt 12 = .ok (.iconst 0, 1) := by decide +kernel
theorem d_Mo_splitAt_13 : decode b_Mo_splitAt 13 = .ok (.istore 6, 2) := by decide +kernel
theorem d_Mo_splitAt_15 : decode b_Mo_splitAt 15 = .ok (.iload 6, 2) := by decide +kernel
theorem d_Mo_splitAt_17 : decode b_Mo_splitAt 17 = .ok (.bipush 12, 2) := by decide +kernel
theorem d_Mo_splitAt_19 : decode b_Mo_splitAt 19 = .ok (.if_icmp .ge 32, 3) := by decide +kernel
theorem d_Mo_splitAt_22 : decode b_Mo_splitAt 22 = .ok (.aload_n 0, 1) := by decide +kernel
theorem d_Mo_splitAt_23 : decode b_Mo_splitAt 23 = .ok (.getfield 74, 3) := by decide +kernel
theorem d_Mo_splitAt_26 : decode b_Mo_splitAt 26 = .ok (.sipush 1188, 3) := by decide +kernel
theorem d_Mo_splitAt_29 : decode b_Mo_splitAt 29 = .ok (.iload 6, 2) := by decide +kernel
theorem d_Mo_splitAt_31 : decode b_Mo_splitAt 31 = .ok (.iadd, 1) := by decide +kernel
theorem d_Mo_splitAt_32 : decode b_Mo_splitAt 32 = .ok (.aload_n 0, 1) := by decide +kernel
theorem d_Mo_splitAt_33 : decode b_Mo_splitAt 33 = .ok (.getfield 74, 3) := by decide +kernel
theorem d_Mo_splitAt_36 : decode b_Mo_splitAt 36 = .ok (.bipush 12, 2) := by decide +kernel
theorem d_Mo_splitAt_38 : decode b_Mo_splitAt 38 = .ok (.iload_n 2, 1) := by decide +kernel
theorem d_Mo_splitAt_39 : decode b_Mo_splitAt 39 = .ok (.imul, 1) := by decide +kernel
theorem d_Mo_splitAt_40 : decode b_Mo_splitAt 40 = .ok (.iload 6, 2) := by decide +kernel
theorem d_Mo_splitAt_42 : decode b_Mo_splitAt 42 = .ok (.iadd, 1) := by decide +kernel
theorem d_Mo_splitAt_43 : decode b_Mo_splitAt 43 = .ok (.iaload, 1) := by decide +kernel
theorem d_Mo_splitAt_44 : decode b_Mo_splitAt 44 = .ok (.iastore, 1) := by decide +kernel
theorem d_Mo_splitAt_45 : decode b_Mo_splitAt 45 = .ok (.iinc 6 1, 3) := by decide +kernel
theorem d_Mo_splitAt_48 : decode b_Mo_splitAt 48 = .ok (.goto (-33), 3) := by decide +kernel
theorem d_Mo_splitAt_51 : decode b_Mo_splitAt 51 = .ok (.iconst 0, 1) := by decide +kernel
theorem d_Mo_splitAt_52 : decode b_Mo_splitAt 52 = .ok (.istore 6, 2) := by decide +kernel
theorem d_Mo_splitAt_54 : decode b_Mo_splitAt 54 = .ok (.iload 6, 2) := by decide +kernel
theorem d_Mo_splitAt_56 : decode b_Mo_splitAt 56 = .ok (.aload_n 0, 1) := by decide +kernel
theorem d_Mo_splitAt_57 : decode b_Mo_splitAt 57 = .ok (.getfield 116, 3) := by decide +kernel
theorem d_Mo_splitAt_60 : decode b_Mo_splitAt 60 = .ok (.if_icmp .ge 75, 3) := by decide +kernel
theorem d_Mo_splitAt_63 : decode b_Mo_splitAt 63 = .ok (.aload_n 0, 1) := by decide +kernel
theorem d_Mo_splitAt_64 : decode b_Mo_splitAt 64 = .ok (.getfield 7, 3) := by decide +kernel
theorem d_Mo_splitAt_67 : decode b_Mo_splitAt 67 = .ok (.iload 6, 2) := by decide +kernel
theorem d_Mo_splitAt_69 : decode b_Mo_splitAt 69 = .ok (.iaload, 1) := by decide +kernel
theorem d_Mo_splitAt_70 : decode b_Mo_splitAt 70 = .ok (.iload 4, 2) := by decide +kernel
theorem d_Mo_splitAt_72 : decode b_Mo_splitAt 72 = .ok (.if_icmp .ne 57, 3) := by decide +kernel
theorem d_Mo_splitAt_75 : decode b_Mo_splitAt 75 = .ok (.iconst 0, 1) := by decide +kernel
theorem d_Mo_splitAt_76 : decode b_Mo_splitAt 76 = .ok (.istore 7, 2) := by decide +kernel
theorem d_Mo_splitAt_78 : decode b_Mo_splitAt 78 = .ok (.iload 7, 2) := by decide +kernel
theorem d_Mo_splitAt_80 : decode b_Mo_splitAt 80 = .ok (.bipush 12, 2) := by decide +kernel
theorem d_Mo_splitAt_82 : decode b_Mo_splitAt 82 = .ok (.if_icmp .ge 44, 3) := by decide +kernel
theorem d_Mo_splitAt_85 : decode b_Mo_splitAt 85 = .ok (.aload_n 0, 1) := by decide +kernel
theorem d_Mo_splitAt_86 : decode b_Mo_splitAt 86 = .ok (.getfield 74, 3) := by decide +kernel
theorem d_Mo_splitAt_89 : decode b_Mo_splitAt 89 = .ok (.bipush 12, 2) := by decide +kernel
theorem d_Mo_splitAt_91 : decode b_Mo_splitAt 91 = .ok (.iload 5, 2) := by decide +kernel
theorem d_Mo_splitAt_93 : decode b_Mo_splitAt 93 = .ok (.imul, 1) := by decide +kernel
theorem d_Mo_splitAt_94 : decode b_Mo_splitAt 94 = .ok (.iload 7, 2) := by decide +kernel
theorem d_Mo_splitAt_96 : decode b_Mo_splitAt 96 = .ok (.iadd, 1) := by decide +kernel
theorem d_Mo_splitAt_97 : decode b_Mo_splitAt 97 = .ok (.iload 7, 2) := by decide +kernel
theorem d_Mo_splitAt_99 : decode b_Mo_splitAt 99 = .ok (.iload_n 3, 1) := by decide +kernel
theorem d_Mo_splitAt_100 : decode b_Mo_splitAt 100 = .ok (.if_icmp .ne 8, 3) := by decide +kernel
theorem d_Mo_splitAt_103 : decode b_Mo_splitAt 103 = .ok (.iload 6, 2) := by decide +kernel
theorem d_Mo_splitAt_105 : decode b_Mo_splitAt 105 = .ok (.goto 14, 3) := by decide +kernel
theorem d_Mo_splitAt_108 : decode b_Mo_splitAt 108 = .ok (.aload_n 0, 1) := by decide +kernel
theorem d_Mo_splitAt_109 : decode b_Mo_splitAt 109 = .ok (.getfield 74, 3) := by decide +kernel
theorem d_Mo_splitAt_112 : decode b_Mo_splitAt 112 = .ok (.sipush 1188, 3) := by decide +kernel
theorem d_Mo_splitAt_115 : decode b_Mo_splitAt 115 = .ok (.iload 7, 2) := by decide +kernel
theorem d_Mo_splitAt_117 : decode b_Mo_splitAt 117 = .ok (.iadd, 1) := by decide +kernel
theorem d_Mo_splitAt_118 : decode b_Mo_splitAt 118 = .ok (.iaload, 1) := by decide +kernel
theorem d_Mo_splitAt_119 : decode b_Mo_splitAt 119 = .ok (.iastore, 1) := by decide +kernel
theorem d_Mo_splitAt_120 : decode b_Mo_splitAt 120 = .ok (.iinc 7 1, 3) := by decide +kernel
theorem d_Mo_splitAt_123 : decode b_Mo_splitAt 123 = .ok (.goto (-45), 3) := by decide +kernel
theorem d_Mo_splitAt_126 : decode b_Mo_splitAt 126 = .ok (.iinc 5 1, 3) := by decide +kernel
theorem d_Mo_splitAt_129 : decode b_Mo_splitAt 129 = .ok (.iinc 6 1, 3) := by decide +kernel
theorem d_Mo_splitAt_132 : decode b_Mo_splitAt 132 = .ok (.goto (-78), 3) := by decide +kernel
theorem d_Mo_splitAt_135 : decode b_Mo_splitAt 135 = .ok (.iload 5, 2) := by decide +kernel
theorem d_Mo_splitAt_137 : decode b_Mo_splitAt 137 = .ok (.ireturn, 1) := by decide +kernel
theorem d_Mo_typeAt_0 : decode b_Mo_typeAt 0 = .ok (.iload_n 3, 1) := by decide +kernel
theorem d_Mo_typeAt_1 : decode b_Mo_typeAt 1 = .ok (.iconst 4, 1) := by decide +kernel
theorem d_Mo_typeAt_2 : decode b_Mo_typeAt 2 = .ok (.irem, 1) := by decide +kernel
theorem d_Mo_typeAt_3 : decode b_Mo_typeAt 3 = .ok (.ifCond .ne 18, 3) := by decide +kernel
theorem d_Mo_typeAt_6 : decode b_Mo_typeAt 6 = .ok (.aload_n 0, 1) := by decide +kernel
theorem d_Mo_typeAt_7 : decode b_Mo_typeAt 7 = .ok (.getfield 25, 3) := by decide +kernel
theorem d_Mo_typeAt_10 : decode b_Mo_typeAt 10 = .ok (.iconst 3, 1) := by decide +kernel
theorem d_Mo_typeAt_11 : decode b_Mo_typeAt 11 = .ok (.iload_n 1, 1) := by decide +kernel
theorem d_Mo_typeAt_12 : decode b_Mo_typeAt 12 = .ok (.imul, 1) := by decide +kernel
theorem d_Mo_typeAt_13 : decode b_Mo_typeAt 13 = .ok (.iload_n 3, 1) := by decide +kernel
theorem d_Mo_typeAt_14 : decode b_Mo_typeAt 14 = .ok (.iconst 4, 1) := by decide +kernel
theorem d_Mo_typeAt_15 : decode b_Mo_typeAt 15 = .ok (.idiv, 1) := by decide +kernel
theorem d_Mo_typeAt_16 : decode b_Mo_typeAt 16 = .ok (.iadd, 1) := by decide +kernel
theorem d_Mo_typeAt_17 : decode b_Mo_typeAt 17 = .ok (.iaload, 1) := by decide +kernel
theorem d_Mo_typeAt_18 : decode b_Mo_typeAt 18 = .ok (.goto 31, 3) := by decide +kernel
theorem d_Mo_typeAt_21 : decode b_Mo_typeAt 21 = .ok (.aload_n 0, 1) := by decide +kernel
theorem d_Mo_typeAt_22 : decode b_Mo_typeAt 22 = .ok (.getfield 16, 3) := by decide +kernel
theorem d_Mo_typeAt_25 : decode b_Mo_typeAt 25 = .ok (.iconst 3, 1) := by decide +kernel
theorem d_Mo_typeAt_26 : decode b_Mo_typeAt 26 = .ok (.aload_n 0, 1) := by decide +kernel
theorem d_Mo_typeAt_27 : decode b_Mo_typeAt 27 = .ok (.getfield 74, 3) := by decide +kernel
theorem d_Mo_typeAt_30 : decode b_Mo_typeAt 30 = .ok (.bipush 12, 2) := by decide +kernel
theorem d_Mo_typeAt_32 : decode b_Mo_typeAt 32 = .ok (.iload_n 2, 1) := by decide +kernel
theorem d_Mo_typeAt_33 : decode b_Mo_typeAt 33 = .ok (.imul, 1) := by decide +kernel
theorem d_Mo_typeAt_34 : decode b_Mo_typeAt 34 = .ok (.iload_n 3, 1) := by decide +kernel
theorem d_Mo_typeAt_35 : decode b_Mo_typeAt 35 = .ok (.iconst 4, 1) := by decide +kernel
theorem d_Mo_typeAt_36 : decode b_Mo_typeAt 36 = .ok (.idiv, 1) := by decide +kernel
theorem d_Mo_typeAt_37 : decode b_Mo_typeAt 37 = .ok (.iconst 4, 1) := by decide +kernel
theorem d_Mo_typeAt_38 : decode b_Mo_typeAt 38 = .ok (.imul, 1) := by decide +kernel
theorem d_Mo_typeAt_39 : decode b_Mo_typeAt 39 = .ok (.iadd, 1) := by decide +kernel
theorem d_Mo_typeAt_40 : decode b_Mo_typeAt 40 = .ok (.iaload, 1) := by decide +kernel
theorem d_Mo_typeAt_41 : decode b_Mo_typeAt 41 = .ok (.imul, 1) := by decide +kernel
theorem d_Mo_typeAt_42 : decode b_Mo_typeAt 42 = .ok (.iload_n 3, 1) := by decide +kernel
theorem d_Mo_typeAt_43 : decode b_Mo_typeAt 43 = .ok (.iconst 4, 1) := by decide +kernel
theorem d_Mo_typeAt_44 : decode b_Mo_typeAt 44 = .ok (.irem, 1) := by decide +kernel
theorem d_Mo_typeAt_45 : decode b_Mo_typeAt 45 = .ok (.iadd, 1) := by decide +kernel
theorem d_Mo_typeAt_46 : decode b_Mo_typeAt 46 = .ok (.iconst 1, 1) := by decide +kernel
theorem d_Mo_typeAt_47 : decode b_Mo_typeAt 47 = .ok (.isub, 1) := by decide +kernel
theorem d_Mo_typeAt_48 : decode b_Mo_typeAt 48 = .ok (.iaload, 1) := by decide +kernel
theorem d_Mo_typeAt_49 : decode b_Mo_typeAt 49 = .ok (.ireturn, 1) := by decide +kernel
theorem d_Mo_isEnding_0 : decode b_Mo_isEnding 0 = .ok (.aload_n 0, 1) := by decide +kernel
theorem d_Mo_isEnding_1 : decode b_Mo_isEnding 1 = .ok (.invokevirtual 209, 3) := by decide +kernel
theorem d_Mo_isEnding_4 : decode b_Mo_isEnding 4 = .ok (.iconst 0, 1) := by decide +kernel
theorem d_Mo_isEnding_5 : decode b_Mo_isEnding 5 = .ok (.istore_n 1, 1) := by decide +kernel
theorem d_Mo_isEnding_6 : decode b_Mo_isEnding 6 = .ok (.iload_n 1, 1) := by decide +kernel
theorem d_Mo_isEnding_7 : decode b_Mo_isEnding 7 = .ok (.aload_n 0, 1) := by decide +kernel
theorem d_Mo_isEnding_8 : decode b_Mo_isEnding 8 = .ok (.getfield 192, 3) := by decide +kernel
theorem d_Mo_isEnding_11 : decode b_Mo_isEnding 11 = .ok (.if_icmp .ge 134, 3) := by decide +kernel
theorem d_Mo_isEnding_14 : decode b_Mo_isEnding 14 = .ok (.aload_n 0, 1) := by decide +kernel
theorem d_Mo_isEnding_15 : decode b_Mo_isEnding 15 = .ok (.getfield 192, 3) := by decide +kernel
theorem d_Mo_isEnding_18 : decode b_Mo_isEnding 18 = .ok (.sipush 201, 3) := by decide +kernel
theorem d_Mo_isEnding_21 : decode b_Mo_isEnding 21 = .ok (.if_icmp .ge 124, 3) := by decide +kernel
theorem d_Mo_isEnding_24 : decode b_Mo_isEnding 24 = .ok (.iconst 0, 1) := by decide +kernel
theorem d_Mo_isEnding_25 : decode b_Mo_isEnding 25 = .ok (.istore_n 2, 1) := by decide +kernel
theorem d_Mo_isEnding_26 : decode b_Mo_isEnding 26 = .ok (.iload_n 2, 1) := by decide +kernel
theorem d_Mo_isEnding_27 : decode b_Mo_isEnding 27 = .ok (.iload_n 1, 1) := by decide +kernel
theorem d_Mo_isEnding_28 : decode b_Mo_isEnding 28 = .ok (.if_icmp .gt 111, 3) := by decide +kernel
theorem d_Mo_isEnding_31 : decode b_Mo_isEnding 31 = .ok (.aload_n 0, 1) := by decide +kernel
theorem d_Mo_isEnding_32 : decode b_Mo_isEnding 32 = .ok (.getfield 192, 3) := by decide +kernel
theorem d_Mo_isEnding_35 : decode b_Mo_isEnding 35 = .ok (.sipush 201, 3) := by decide +kernel
theorem d_Mo_isEnding_38 : decode b_Mo_isEnding 38 = .ok (.if_icmp .ge 101, 3) := by decide +kernel
theorem d_Mo_isEnding_41 : decode b_Mo_isEnding 41 = .ok (.aload_n 0, 1) := by decide +kernel
theorem d_Mo_isEnding_42 : decode b_Mo_isEnding 42 = .ok (.getfield 52, 3) := by decide +kernel
theorem d_Mo_isEnding_45 : decode b_Mo_isEnding 45 = .ok (.iload_n 1, 1) := by decide +kernel
theorem d_Mo_isEnding_46 : decode b_Mo_isEnding 46 = .ok (.iaload, 1) := by decide +kernel
theorem d_Mo_isEnding_47 : decode b_Mo_isEnding 47 = .ok (.aload_n 0, 1) := by decide +kernel
theorem d_Mo_isEnding_48 : decode b_Mo_isEnding 48 = .ok (.getfield 49, 3) := by decide +kernel
theorem d_Mo_isEnding_51 : decode b_Mo_isEnding 51 = .ok (.iload_n 2, 1) := by decide +kernel
theorem d_Mo_isEnding_52 : decode b_Mo_isEnding 52 = .ok (.iaload, 1) := by decide +kernel
theorem d_Mo_isEnding_53 : decode b_Mo_isEnding 53 = .ok (.if_icmp .ne 34, 3) := by decide +kernel
theorem d_Mo_isEnding_56 : decode b_Mo_isEnding 56 = .ok (.aload_n 0, 1) := by decide +kernel
theorem d_Mo_isEnding_57 : decode b_Mo_isEnding 57 = .ok (.aload_n 0, 1) := by decide +kernel
theorem d_Mo_isEnding_58 : decode b_Mo_isEnding 58 = .ok (.getfield 49, 3) := by decide +kernel
theorem d_Mo_isEnding_61 : decode b_Mo_isEnding 61 = .ok (.iload_n 1, 1) := by decide +kernel
theorem d_Mo_isEnding_62 : decode b_Mo_isEnding 62 = .ok (.iaload, 1) := by decide +kernel
theorem d_Mo_isEnding_63 : decode b_Mo_isEnding 63 = .ok (.aload_n 0, 1) := by decide +kernel
theorem d_Mo_isEnding_64 : decode b_Mo_isEnding 64 = .ok (.getfield 52, 3) := by decide +kernel
theorem d_Mo_isEnding_67 : decode b_Mo_isEnding 67 = .ok (.iload_n 2, 1) := by decide +kernel
theorem d_Mo_isEnding_68 : decode b_Mo_isEnding 68 = .ok (.iaload, 1) := by decide +kernel
theorem d_Mo_isEnding_69 : decode b_Mo_isEnding 69 = .ok (.aload_n 0, 1) := by decide +kernel
theorem d_Mo_isEnding_70 : decode b_Mo_isEnding 70 = .ok (.getfield 55, 3) := by decide +kernel
theorem d_Mo_isEnding_73 : decode b_Mo_isEnding 73 = .ok (.iload_n 1, 1) := by decide +kernel
theorem d_Mo_isEnding_74 : decode b_Mo_isEnding 74 = .ok (.iaload, 1) := by decide +kernel
theorem d_Mo_isEnding_75 : decode b_Mo_isEnding 75 = .ok (.aload_n 0, 1) := by decide +kernel
theorem d_Mo_isEnding_76 : decode b_Mo_isEnding 76 = .ok (.getfield 55, 3) := by decide +kernel
theorem d_Mo_isEnding_79 : decode b_Mo_isEnding 79 = .ok (.iload_n 2, 1) := by decide +kernel
theorem d_Mo_isEnding_80 : decode b_Mo_isEnding 80 = .ok (.iaload, 1) := by decide +kernel
theorem d_Mo_isEnding_81 : decode b_Mo_isEnding 81 = .ok (.invokestatic 212, 3) := by decide +kernel
theorem d_Mo_isEnding_84 : decode b_Mo_isEnding 84 = .ok (.invokevirtual 205, 3) := by decide +kernel
theorem d_Mo_isEnding_87 : decode b_Mo_isEnding 87 = .ok (.aload_n 0, 1) := by decide +kernel
theorem d_Mo_isEnding_88 : decode b_Mo_isEnding 88 = .ok (.getfield 52, 3) := by decide +kernel
theorem d_Mo_isEnding_91 : decode b_Mo_isEnding 91 = .ok (.iload_n 2, 1) := by decide +kernel
theorem d_Mo_isEnding_92 : decode b_Mo_isEnding 92 = .ok (.iaload, 1) := by decide +kernel
theorem d_Mo_isEnding_93 : decode b_Mo_isEnding 93 = .ok (.aload_n 0, 1) := by decide +kernel
theorem d_Mo_isEnding_94 : decode b_Mo_isEnding 94 = .ok (.getfield 49, 3) := by decide +kernel
theorem d_Mo_isEnding_97 : decode b_Mo_isEnding 97 = .ok (.iload_n 1, 1) := by decide +kernel
theorem d_Mo_isEnding_98 : decode b_Mo_isEnding 98 = .ok (.iaload, 1) := by decide +kernel
theorem d_Mo_isEnding_99 : decode b_Mo_isEnding 99 = .ok (.if_icmp .ne 34, 3) := by decide +kernel
theorem d_Mo_isEnding_102 : decode b_Mo_isEnding 102 = .ok (.aload_n 0, 1) := by decide +kernel
theorem d_Mo_isEnding_103 : decode b_Mo_isEnding 103 = .ok (.aload_n 0, 1) := by decide +kernel
theorem d_Mo_isEnding_104 : decode b_Mo_isEnding 104 = .ok (.getfield 49, 3) := by decide +kernel
theorem d_Mo_isEnding_107 : decode b_Mo_isEnding 107 = .ok (.iload_n 2, 1) := by decide +kernel
theorem d_Mo_isEnding_108 : decode b_Mo_isEnding 108 = .ok (.iaload, 1) := by decide +kernel
theorem d_Mo_isEnding_109 : decode b_Mo_isEnding 109 = .ok (.aload_n 0, 1) := by decide +kernel
theorem d_Mo_isEnding_110 : decode b_Mo_isEnding 110 = .ok (.getfield 52, 3) := by decide +kernel
theorem d_Mo_isEnding_113 : decode b_Mo_isEnding 113 = .ok (.iload_n 1, 1) := by decide +kernel
theorem d_Mo_isEnding_114 : decode b_Mo_isEnding 114 = .ok (.iaload, 1) := by decide +kernel
theorem d_Mo_isEnding_115 : decode b_Mo_isEnding 115 = .ok (.aload_n 0, 1) := by decide +kernel
theorem d_Mo_isEnding_116 : decode b_Mo_isEnding 116 = .ok (.getfield 55, 3) := by decide +kernel
theorem d_Mo_isEnding_119 : decode b_Mo_isEnding 119 = .ok (.iload_n 2, 1) := by decide +kernel
theorem d_Mo_isEnding_120 : decode b_Mo_isEnding 120 = .ok (.iaload, 1) := by decide +kernel
theorem d_Mo_isEnding_121 : decode b_Mo_isEnding 121 = .ok (.aload_n 0, 1) := by decide +kernel
theorem d_Mo_isEnding_122 : decode b_Mo_isEnding 122 = .ok (.getfield 55, 3) := by decide +kernel
theorem d_Mo_isEnding_125 : decode b_Mo_isEnding 125 = .ok (.iload_n 1, 1) := by decide +kernel
theorem d_Mo_isEnding_126 : decode b_Mo_isEnding 126 = .ok (.iaload, 1) := by decide +kernel
theorem d_Mo_isEnding_127 : decode b_Mo_isEnding 127 = .ok (.invokestatic 212, 3) := by decide +kernel
theorem d_Mo_isEnding_130 : decode b_Mo_isEnding 130 = .ok (.invokevirtual 205, 3) := by decide +kernel
theorem d_Mo_isEnding_133 : decode b_Mo_isEnding 133 = .ok (.iinc 2 1, 3) := by decide +kernel
theorem d_Mo_isEnding_136 : decode b_Mo_isEnding 136 = .ok (.goto (-110), 3) := by decide +kernel
theorem d_Mo_isEnding_139 : decode b_Mo_isEnding 139 = .ok (.iinc 1 1, 3) := by decide +kernel
theorem d_Mo_isEnding_142 : decode b_Mo_isEnding 142 = .ok (.goto (-136), 3) := by decide +kernel
theorem d_Mo_isEnding_145 : decode b_Mo_isEnding 145 = .ok (.aload_n 0, 1) := by decide +kernel
theorem d_Mo_isEnding_146 : decode b_Mo_isEnding 146 = .ok (.getfield 192, 3) := by decide +kernel
theorem d_Mo_isEnding_149 : decode b_Mo_isEnding 149 = .ok (.sipush 201, 3) := by decide +kernel
theorem d_Mo_isEnding_152 : decode b_Mo_isEnding 152 = .ok (.if_icmp .ge 7, 3) := by decide +kernel
theorem d_Mo_isEnding_155 : decode b_Mo_isEnding 155 = .ok (.iconst 1, 1) := by decide +kernel
theorem d_Mo_isEnding_156 : decode b_Mo_isEnding 156 = .ok (.goto 4, 3) := by decide +kernel
theorem d_Mo_isEnding_159 : decode b_Mo_isEnding 159 = .ok (.iconst 0, 1) := by decide +kernel
theorem d_Mo_isEnding_160 : decode b_Mo_isEnding 160 = .ok (.istore_n 1, 1) := by decide +kernel
theorem d_Mo_isEnding_161 : decode b_Mo_isEnding 161 = .ok (.iconst 0, 1) := by decide +kernel
theorem d_Mo_isEnding_162 : decode b_Mo_isEnding 162 = .ok (.istore_n 2, 1) := by decide +kernel
theorem d_Mo_isEnding_163 : decode b_Mo_isEnding 163 = .ok (.iload_n 2, 1) := by decide +kernel
theorem d_Mo_isEnding_164 : decode b_Mo_isEnding 164 = .ok (.aload_n 0, 1) := by decide +kernel
theorem d_Mo_isEnding_165 : decode b_Mo_isEnding 165 = .ok (.getfield 192, 3) := by decide +kernel
theorem d_Mo_isEnding_168 : decode b_Mo_isEnding 168 = .ok (.if_icmp .ge 80, 3) := by decide +kernel
theorem d_Mo_isEnding_171 : decode b_Mo_isEnding 171 = .ok (.aload_n 0, 1) := by decide +kernel
theorem d_Mo_isEnding_172 : decode b_Mo_isEnding 172 = .ok (.getfield 55, 3) := by decide +kernel
theorem d_Mo_isEnding_175 : decode b_Mo_isEnding 175 = .ok (.iload_n 2, 1) := by decide +kernel
theorem d_Mo_isEnding_176 : decode b_Mo_isEnding 176 = .ok (.iaload, 1) := by decide +kernel
theorem d_Mo_isEnding_177 : decode b_Mo_isEnding 177 = .ok (.istore_n 3, 1) := by decide +kernel
theorem d_Mo_isEnding_178 : decode b_Mo_isEnding 178 = .ok (.aload_n 0, 1) := by decide +kernel
theorem d_Mo_isEnding_179 : decode b_Mo_isEnding 179 = .ok (.getfield 49, 3) := by decide +kernel
theorem d_Mo_isEnding_182 : decode b_Mo_isEnding 182 = .ok (.iload_n 2, 1) := by decide +kernel
theorem d_Mo_isEnding_183 : decode b_Mo_isEnding 183 = .ok (.iaload, 1) := by decide +kernel
theorem d_Mo_isEnding_184 : decode b_Mo_isEnding 184 = .ok (.aload_n 0, 1) := by decide +kernel
theorem d_Mo_isEnding_185 : decode b_Mo_isEnding 185 = .ok (.getfield 52, 3) := by decide +kernel
theorem d_Mo_isEnding_188 : decode b_Mo_isEnding 188 = .ok (.iload_n 2, 1) := by decide +kernel
theorem d_Mo_isEnding_189 : decode b_Mo_isEnding 189 = .ok (.iaload, 1) := by decide +kernel
theorem d_Mo_isEnding_190 : decode b_Mo_isEnding 190 = .ok (.if_icmp .ne 52, 3) := by decide +kernel
theorem d_Mo_isEnding_193 : decode b_Mo_isEnding 193 = .ok (.iload_n 3, 1) := by decide +kernel
theorem d_Mo_isEnding_194 : decode b_Mo_isEnding 194 = .ok (.iload_n 3, 1) := by decide +kernel
theorem d_Mo_isEnding_195 : decode b_Mo_isEnding 195 = .ok (.invokestatic 212, 3) := by decide +kernel
theorem d_Mo_isEnding_198 : decode b_Mo_isEnding 198 = .ok (.iload_n 3, 1) := by decide +kernel
theorem d_Mo_isEnding_199 : decode b_Mo_isEnding 199 = .ok (.if_icmp .ne 43, 3) := by decide +kernel
theorem d_Mo_isEnding_202 : decode b_Mo_isEnding 202 = .ok (.iload_n 1, 1) := by decide +kernel
theorem d_Mo_isEnding_203 : decode b_Mo_isEnding 203 = .ok (.ifCond .eq 37, 3) := by decide +kernel
theorem d_Mo_isEnding_206 : decode b_Mo_isEnding 206 = .ok (.iload_n 3, 1) := by decide +kernel
theorem d_Mo_isEnding_207 : decode b_Mo_isEnding 207 = .ok (.iconst 0, 1) := by decide +kernel
theorem d_Mo_isEnding_208 : decode b_Mo_isEnding 208 = .ok (.iconst 0, 1) := by decide +kernel
theorem d_Mo_isEnding_209 : decode b_Mo_isEnding 209 = .ok (.invokestatic 195, 3) := by decide +kernel
theorem d_Mo_isEnding_212 : decode b_Mo_isEnding 212 = .ok (.iconst 2, 1) := by decide +kernel
theorem d_Mo_isEnding_213 : decode b_Mo_isEnding 213 = .ok (.if_icmp .eq 23, 3) := by decide +kernel
theorem d_Mo_isEnding_216 : decode b_Mo_isEnding 216 = .ok (.iload_n 3, 1) := by decide +kernel
theorem d_Mo_isEnding_217 : decode b_Mo_isEnding 217 = .ok (.iconst 1, 1) := by decide +kernel
theorem d_Mo_isEnding_218 : decode b_Mo_isEnding 218 = .ok (.iconst 1, 1) := by decide +kernel
theorem d_Mo_isEnding_219 : decode b_Mo_isEnding 219 = .ok (.invokestatic 195, 3) := by decide +kernel
theorem d_Mo_isEnding_222 : decode b_Mo_isEnding 222 = .ok (.iconst 2, 1) := by decide +kernel
theorem d_Mo_isEnding_223 : decode b_Mo_isEnding 223 = .ok (.if_icmp .eq 13, 3) := by decide +kernel
theorem d_Mo_isEnding_226 : decode b_Mo_isEnding 226 = .ok (.iload_n 3, 1) := by decide +kernel
theorem d_Mo_isEnding_227 : decode b_Mo_isEnding 227 = .ok (.iconst 2, 1) := by decide +kernel
theorem d_Mo_isEnding_228 : decode b_Mo_isEnding 228 = .ok (.iconst 2, 1) := by decide +kernel
theorem d_Mo_isEnding_229 : decode b_Mo_isEnding 229 = .ok (.invokestatic 195, 3) := by decide +kernel
theorem d_Mo_isEnding_232 : decode b_Mo_isEnding 232 = .ok (.iconst 2, 1) := by decide +kernel
theorem d_Mo_isEnding_233 : decode b_Mo_isEnding 233 = .ok (.if_icmp .ne 7, 3) := by decide +kernel
theorem d_Mo_isEnding_236 : decode b_Mo_isEnding 236 = .ok (.iconst 1, 1) := by decide +kernel
theorem d_Mo_isEnding_237 : decode b_Mo_isEnding 237 = .ok (.goto 4, 3) := by decide +kernel
theorem d_Mo_isEnding_240 : decode b_Mo_isEnding 240 = .ok (.iconst 0, 1) := by decide +kernel
theorem d_Mo_isEnding_241 : decode b_Mo_isEnding 241 = .ok (.istore_n 1, 1) := by decide +kernel
theorem d_Mo_isEnding_242 : decode b_Mo_isEnding 242 = .ok (.iinc 2 1, 3) := by decide +kernel
theorem d_Mo_isEnding_245 : decode b_Mo_isEnding 245 = .ok (.goto (-82), 3) := by decide +kernel
theorem d_Mo_isEnding_248 : decode b_Mo_isEnding 248 = .ok (.iload_n 1, 1) := by decide +kernel
theorem d_Mo_isEnding_249 : decode b_Mo_isEnding 249 = .ok (.ireturn, 1) := by decide +kernel
theorem d_Mo_callGraphs_0 : decode b_Mo_callGraphs 0 = .ok (.aload_n 0, 1) := by decide +kernel
theorem d_Mo_callGraphs_1 : decode b_Mo_callGraphs 1 = .ok (.iconst 0, 1) := by decide +kernel
theorem d_Mo_callGraphs_2 : decode b_Mo_callGraphs 2 = .ok (.putfield 192, 3) := by decide +kernel
theorem d_Mo_callGraphs_5 : decode b_Mo_callGraphs 5 = .ok (.iconst 0, 1) := by decide +kernel
theorem d_Mo_callGraphs_6 : decode b_Mo_callGraphs 6 = .ok (.istore_n 1, 1) := by decide +kernel
theorem d_Mo_callGraphs_7 : decode b_Mo_callGraphs 7 = .ok (.iload_n 1, 1) := by decide +kernel
theorem d_Mo_callGraphs_8 : decode b_Mo_callGraphs 8 = .ok (.aload_n 0, 1) := by decide +kernel
theorem d_Mo_callGraphs_9 : decode b_Mo_callGraphs 9 = .ok (.getfield 166, 3) := by decide +kernel
theorem d_Mo_callGraphs_12 : decode b_Mo_callGraphs 12 = .ok (.if_icmp .ge 134, 3) := by decide +kernel
theorem d_Mo_callGraphs_15 : decode b_Mo_callGraphs 15 = .ok (.iconst 0, 1) := by decide +kernel
theorem d_Mo_callGraphs_16 : decode b_Mo_callGraphs 16 = .ok (.istore_n 2, 1) := by decide +kernel
theorem d_Mo_callGraphs_17 : decode b_Mo_callGraphs 17 = .ok (.aload_n 0, 1) := by decide +kernel
theorem d_Mo_callGraphs_18 : decode b_Mo_callGraphs 18 = .ok (.iload_n 1, 1) := by decide +kernel
theorem d_Mo_callGraphs_19 : decode b_Mo_callGraphs 19 = .ok (.iconst 0, 1) := by decide +kernel
theorem d_Mo_callGraphs_20 : decode b_Mo_callGraphs 20 = .ok (.invokevirtual 198, 3) := by decide +kernel
theorem d_Mo_callGraphs_23 : decode b_Mo_callGraphs 23 = .ok (.istore_n 3, 1) := by decide +kernel
theorem d_Mo_callGraphs_24 : decode b_Mo_callGraphs 24 = .ok (.iload_n 3, 1) := by decide +kernel
theorem d_Mo_callGraphs_25 : decode b_Mo_callGraphs 25 = .ok (.ifCond .lt 115, 3) := by decide +kernel
theorem d_Mo_callGraphs_28 : decode b_Mo_callGraphs 28 = .ok (.aload_n 0, 1) := by decide +kernel
theorem d_Mo_callGraphs_29 : decode b_Mo_callGraphs 29 = .ok (.getfield 28, 3) := by decide +kernel
theorem d_Mo_callGraphs_32 : decode b_Mo_callGraphs 32 = .ok (.iload_n 3, 1) := by decide +kernel
theorem d_Mo_callGraphs_33 : decode b_Mo_callGraphs 33 = .ok (.iaload, 1) := by decide +kernel
theorem d_Mo_callGraphs_34 : decode b_Mo_callGraphs 34 = .ok (.bipush 16, 2) := by decide +kernel
theorem d_Mo_callGraphs_36 : decode b_Mo_callGraphs 36 = .ok (.isub, 1) := by decide +kernel
theorem d_Mo_callGraphs_37 : decode b_Mo_callGraphs 37 = .ok (.istore 4, 2) := by decide +kernel
theorem d_Mo_callGraphs_39 : decode b_Mo_callGraphs 39 = .ok (.iconst 0, 1) := by decide +kernel
theorem d_Mo_callGraphs_40 : decode b_Mo_callGraphs 40 = .ok (.istore 5, 2) := by decide +kernel
theorem d_Mo_callGraphs_42 : decode b_Mo_callGraphs 42 = .ok (.iconst 0, 1) := by decide +kernel
theorem d_Mo_callGraphs_43 : decode b_Mo_callGraphs 43 = .ok (.istore 6, 2) := by decide +kernel
theorem d_Mo_callGraphs_45 : decode b_Mo_callGraphs 45 = .ok (.iload 6, 2) := by decide +kernel
theorem d_Mo_callGraphs_47 : decode b_Mo_callGraphs 47 = .ok (.aload_n 0, 1) := by decide +kernel
theorem d_Mo_callGraphs_48 : decode b_Mo_callGraphs 48 = .ok (.getfield 22, 3) := by decide +kernel
theorem d_Mo_callGraphs_51 : decode b_Mo_callGraphs 51 = .ok (.aload_n 0, 1) := by decide +kernel
theorem d_Mo_callGraphs_52 : decode b_Mo_callGraphs 52 = .ok (.getfield 40, 3) := by decide +kernel
theorem d_Mo_callGraphs_55 : decode b_Mo_callGraphs 55 = .ok (.iload_n 1, 1) := by decide +kernel
theorem d_Mo_callGraphs_56 : decode b_Mo_callGraphs 56 = .ok (.iaload, 1) := by decide +kernel
theorem d_Mo_callGraphs_57 : decode b_Mo_callGraphs 57 = .ok (.iaload, 1) := by decide +kernel
theorem d_Mo_callGraphs_58 : decode b_Mo_callGraphs 58 = .ok (.if_icmp .ge 55, 3) := by decide +kernel
theorem d_Mo_callGraphs_61 : decode b_Mo_callGraphs 61 = .ok (.iconst 0, 1) := by decide +kernel
theorem d_Mo_callGraphs_62 : decode b_Mo_callGraphs 62 = .ok (.istore 7, 2) := by decide +kernel
theorem d_Mo_callGraphs_64 : decode b_Mo_callGraphs 64 = .ok (.iload 7, 2) := by decide +kernel
theorem d_Mo_callGraphs_66 : decode b_Mo_callGraphs 66 = .ok (.aload_n 0, 1) := by decide +kernel
theorem d_Mo_callGraphs_67 : decode b_Mo_callGraphs 67 = .ok (.getfield 22, 3) := by decide +kernel
theorem d_Mo_callGraphs_70 : decode b_Mo_callGraphs 70 = .ok (.iload 4, 2) := by decide +kernel
theorem d_Mo_callGraphs_72 : decode b_Mo_callGraphs 72 = .ok (.iaload, 1) := by decide +kernel
theorem d_Mo_callGraphs_73 : decode b_Mo_callGraphs 73 = .ok (.if_icmp .ge 34, 3) := by decide +kernel
theorem d_Mo_callGraphs_76 : decode b_Mo_callGraphs 76 = .ok (.iload 5, 2) := by decide +kernel
theorem d_Mo_callGraphs_78 : decode b_Mo_callGraphs 78 = .ok (.aload_n 0, 1) := by decide +kernel
theorem d_Mo_callGraphs_79 : decode b_Mo_callGraphs 79 = .ok (.iload_n 1, 1) := by decide +kernel
theorem d_Mo_callGraphs_80 : decode b_Mo_callGraphs 80 = .ok (.iload_n 3, 1) := by decide +kernel
theorem d_Mo_callGraphs_81 : decode b_Mo_callGraphs 81 = .ok (.iload 6, 2) := by decide +kernel
theorem d_Mo_callGraphs_83 : decode b_Mo_callGraphs 83 = .ok (.iload 7, 2) := by decide +kernel
theorem d_Mo_callGraphs_85 : decode b_Mo_callGraphs 85 = .ok (.invokevirtual 201, 3) := by decide +kernel
theorem d_Mo_callGraphs_88 : decode b_Mo_callGraphs 88 = .ok (.iconst 2, 1) := by decide +kernel
theorem d_Mo_callGraphs_89 : decode b_Mo_callGraphs 89 = .ok (.iconst 3, 1) := by decide +kernel
theorem d_Mo_callGraphs_90 : decode b_Mo_callGraphs 90 = .ok (.iload 6, 2) := by decide +kernel
theorem d_Mo_callGraphs_92 : decode b_Mo_callGraphs 92 = .ok (.imul, 1) := by decide +kernel
theorem d_Mo_callGraphs_93 : decode b_Mo_callGraphs 93 = .ok (.iload 7, 2) := by decide +kernel
theorem d_Mo_callGraphs_95 : decode b_Mo_callGraphs 95 = .ok (.iadd, 1) := by decide +kernel
theorem d_Mo_callGraphs_96 : decode b_Mo_callGraphs 96 = .ok (.imul, 1) := by decide +kernel
theorem d_Mo_callGraphs_97 : decode b_Mo_callGraphs 97 = .ok (.ishl, 1) := by decide +kernel
theorem d_Mo_callGraphs_98 : decode b_Mo_callGraphs 98 = .ok (.ior, 1) := by decide +kernel
theorem d_Mo_callGraphs_99 : decode b_Mo_callGraphs 99 = .ok (.istore 5, 2) := by decide +kernel
theorem d_Mo_callGraphs_101 : decode b_Mo_callGraphs 101 = .ok (.iinc 7 1, 3) := by decide +kernel
theorem d_Mo_callGraphs_104 : decode b_Mo_callGraphs 104 = .ok (.goto (-40), 3) := by decide +kernel
theorem d_Mo_callGraphs_107 : decode b_Mo_callGraphs 107 = .ok (.iinc 6 1, 3) := by decide +kernel
theorem d_Mo_callGraphs_110 : decode b_Mo_callGraphs 110 = .ok (.goto (-65), 3) := by decide +kernel
theorem d_Mo_callGraphs_113 : decode b_Mo_callGraphs 113 = .ok (.aload_n 0, 1) := by decide +kernel
theorem d_Mo_callGraphs_114 : decode b_Mo_callGraphs 114 = .ok (.aload_n 0, 1) := by decide +kernel
theorem d_Mo_callGraphs_115 : decode b_Mo_callGraphs 115 = .ok (.getfield 40, 3) := by decide +kernel
theorem d_Mo_callGraphs_118 : decode b_Mo_callGraphs 118 = .ok (.iload_n 1, 1) := by decide +kernel
theorem d_Mo_callGraphs_119 : decode b_Mo_callGraphs 119 = .ok (.iaload, 1) := by decide +kernel
theorem d_Mo_callGraphs_120 : decode b_Mo_callGraphs 120 = .ok (.iload 4, 2) := by decide +kernel
theorem d_Mo_callGraphs_122 : decode b_Mo_callGraphs 122 = .ok (.iload 5, 2) := by decide +kernel
theorem d_Mo_callGraphs_124 : decode b_Mo_callGraphs 124 = .ok (.invokevirtual 205, 3) := by decide +kernel
theorem d_Mo_callGraphs_127 : decode b_Mo_callGraphs 127 = .ok (.iinc 2 1, 3) := by decide +kernel
theorem d_Mo_callGraphs_130 : decode b_Mo_callGraphs 130 = .ok (.aload_n 0, 1) := by decide +kernel
theorem d_Mo_callGraphs_131 : decode b_Mo_callGraphs 131 = .ok (.iload_n 1, 1) := by decide +kernel
theorem d_Mo_callGraphs_132 : decode b_Mo_callGraphs 132 = .ok (.iload_n 2, 1) := by decide +kernel
theorem d_Mo_callGraphs_133 : decode b_Mo_callGraphs 133 = .ok (.invokevirtual 198, 3) := by decide +kernel
theorem d_Mo_callGraphs_136 : decode b_Mo_callGraphs 136 = .ok (.istore_n 3, 1) := by decide +kernel
theorem d_Mo_callGraphs_137 : decode b_Mo_callGraphs 137 = .ok (.goto (-113), 3) := by decide +kernel
theorem d_Mo_callGraphs_140 : decode b_Mo_callGraphs 140 = .ok (.iinc 1 1, 3) := by decide +kernel
theorem d_Mo_callGraphs_143 : decode b_Mo_callGraphs 143 = .ok (.goto (-136), 3) := by decide +kernel
theorem d_Mo_callGraphs_146 : decode b_Mo_callGraphs 146 = .ok (.return_, 1) := by decide +kernel
theorem d_Mo_callOf_0 : decode b_Mo_callOf 0 = .ok (.iload_n 2, 1) := by decide +kernel
theorem d_Mo_callOf_1 : decode b_Mo_callOf 1 = .ok (.istore_n 3, 1) := by decide +kernel
theorem d_Mo_callOf_2 : decode b_Mo_callOf 2 = .ok (.aload_n 0, 1) := by decide +kernel
theorem d_Mo_callOf_3 : decode b_Mo_callOf 3 = .ok (.iconst 0, 1) := by decide +kernel
theorem d_Mo_callOf_4 : decode b_Mo_callOf 4 = .ok (.putfield 141, 3) := by decide +kernel
theorem d_Mo_callOf_7 : decode b_Mo_callOf 7 = .ok (.aload_n 0, 1) := by decide +kernel
theorem d_Mo_callOf_8 : decode b_Mo_callOf 8 = .ok (.aload_n 0, 1) := by decide +kernel
theorem d_Mo_callOf_9 : decode b_Mo_callOf 9 = .ok (.getfield 46, 3) := by decide +kernel
theorem d_Mo_callOf_12 : decode b_Mo_callOf 12 = .ok (.iload_n 1, 1) := by decide +kernel
theorem d_Mo_callOf_13 : decode b_Mo_callOf 13 = .ok (.iaload, 1) := by decide +kernel
theorem d_Mo_callOf_14 : decode b_Mo_callOf 14 = .ok (.iconst 0, 1) := by decide +kernel
theorem d_Mo_callOf_15 : decode b_Mo_callOf 15 = .ok (.invokevirtual 148, 3) := by decide +kernel
theorem d_Mo_callOf_18 : decode b_Mo_callOf 18 = .ok (.aload_n 0, 1) := by decide +kernel
theorem d_Mo_callOf_19 : decode b_Mo_callOf 19 = .ok (.getfield 141, 3) := by decide +kernel
theorem d_Mo_callOf_22 : decode b_Mo_callOf 22 = .ok (.ifCond .le 55, 3) := by decide +kernel
theorem d_Mo_callOf_25 : decode b_Mo_callOf 25 = .ok (.aload_n 0, 1) := by decide +kernel
theorem d_Mo_callOf_26 : decode b_Mo_callOf 26 = .ok (.dup, 1) := by decide +kernel
theorem d_Mo_callOf_27 : decode b_Mo_callOf 27 = .ok (.getfield 141, 3) := by decide +kernel
theorem d_Mo_callOf_30 : decode b_Mo_callOf 30 = .ok (.iconst 1, 1) := by decide +kernel
theorem d_Mo_callOf_31 : decode b_Mo_callOf 31 = .ok (.isub, 1) := by decide +kernel
theorem d_Mo_callOf_32 : decode b_Mo_callOf 32 = .ok (.putfield 141, 3) := by decide +kernel
theorem d_Mo_callOf_35 : decode b_Mo_callOf 35 = .ok (.aload_n 0, 1) := by decide +kernel
theorem d_Mo_callOf_36 : decode b_Mo_callOf 36 = .ok (.getfield 58, 3) := by decide +kernel
theorem d_Mo_callOf_39 : decode b_Mo_callOf 39 = .ok (.aload_n 0, 1) := by decide +kernel
theorem d_Mo_callOf_40 : decode b_Mo_callOf 40 = .ok (.getfield 141, 3) := by decide +kernel
theorem d_Mo_callOf_43 : decode b_Mo_callOf 43 = .ok (.iaload, 1) := by decide +kernel
theorem d_Mo_callOf_44 : decode b_Mo_callOf 44 = .ok (.istore 4, 2) := by decide +kernel
theorem d_Mo_callOf_46 : decode b_Mo_callOf 46 = .ok (.aload_n 0, 1) := by decide +kernel
theorem d_Mo_callOf_47 : decode b_Mo_callOf 47 = .ok (.getfield 28, 3) := by decide +kernel
theorem d_Mo_callOf_50 : decode b_Mo_callOf 50 = .ok (.iload 4, 2) := by decide +kernel
theorem d_Mo_callOf_52 : decode b_Mo_callOf 52 = .ok (.iaload, 1) := by decide +kernel
theorem d_Mo_callOf_53 : decode b_Mo_callOf 53 = .ok (.bipush 16, 2) := by decide +kernel
theorem d_Mo_callOf_55 : decode b_Mo_callOf 55 = .ok (.if_icmp .lt 13, 3) := by decide +kernel
theorem d_Mo_callOf_58 : decode b_Mo_callOf 58 = .ok (.iload_n 3, 1) := by decide +kernel
theorem d_Mo_callOf_59 : decode b_Mo_callOf 59 = .ok (.ifCond .ne 6, 3) := by decide +kernel
theorem d_Mo_callOf_62 : decode b_Mo_callOf 62 = .ok (.iload 4, 2) := by decide +kernel
theorem d_Mo_callOf_64 : decode b_Mo_callOf 64 = .ok (.ireturn, 1) := by decide +kernel
theorem d_Mo_callOf_65 : decode b_Mo_callOf 65 = .ok (.iinc 3 (-1), 3) := by decide +kernel
theorem d_Mo_callOf_68 : decode b_Mo_callOf 68 = .ok (.aload_n 0, 1) := by decide +kernel
theorem d_Mo_callOf_69 : decode b_Mo_callOf 69 = .ok (.iload 4, 2) := by decide +kernel
theorem d_Mo_callOf_71 : decode b_Mo_callOf 71 = .ok (.invokevirtual 152, 3) := by decide +kernel
theorem d_Mo_callOf_74 : decode b_Mo_callOf 74 = .ok (.goto (-56), 3) := by decide +kernel
theorem d_Mo_callOf_77 : decode b_Mo_callOf 77 = .ok (.iconst (-1), 1) := by decide +kernel
theorem d_Mo_callOf_78 : decode b_Mo_callOf 78 = .ok (.ireturn, 1) := by decide +kernel
theorem d_Mo_arcOf_0 : decode b_Mo_arcOf 0 = .ok (.aload_n 0, 1) := by decide +kernel
theorem d_Mo_arcOf_1 : decode b_Mo_arcOf 1 = .ok (.aload_n 0, 1) := by decide +kernel
theorem d_Mo_arcOf_2 : decode b_Mo_arcOf 2 = .ok (.getfield 31, 3) := by decide +kernel
theorem d_Mo_arcOf_5 : decode b_Mo_arcOf 5 = .ok (.iconst 3, 1) := by decide +kernel
theorem d_Mo_arcOf_6 : decode b_Mo_arcOf 6 = .ok (.iload_n 2, 1) := by decide +kernel
theorem d_Mo_arcOf_7 : decode b_Mo_arcOf 7 = .ok (.imul, 1) := by decide +kernel
theorem d_Mo_arcOf_8 : decode b_Mo_arcOf 8 = .ok (.iload 4, 2) := by decide +kernel
theorem d_Mo_arcOf_10 : decode b_Mo_arcOf 10 = .ok (.iadd, 1) := by decide +kernel
theorem d_Mo_arcOf_11 : decode b_Mo_arcOf 11 = .ok (.iaload, 1) := by decide +kernel
theorem d_Mo_arcOf_12 : decode b_Mo_arcOf 12 = .ok (.aload_n 0, 1) := by decide +kernel
theorem d_Mo_arcOf_13 : decode b_Mo_arcOf 13 = .ok (.getfield 43, 3) := by decide +kernel
theorem d_Mo_arcOf_16 : decode b_Mo_arcOf 16 = .ok (.iconst 3, 1) := by decide +kernel
theorem d_Mo_arcOf_17 : decode b_Mo_arcOf 17 = .ok (.iload_n 1, 1) := by decide +kernel
theorem d_Mo_arcOf_18 : decode b_Mo_arcOf 18 = .ok (.imul, 1) := by decide +kernel
theorem d_Mo_arcOf_19 : decode b_Mo_arcOf 19 = .ok (.iload_n 3, 1) := by decide +kernel
theorem d_Mo_arcOf_20 : decode b_Mo_arcOf 20 = .ok (.iadd, 1) := by decide +kernel
theorem d_Mo_arcOf_21 : decode b_Mo_arcOf 21 = .ok (.iaload, 1) := by decide +kernel
theorem d_Mo_arcOf_22 : decode b_Mo_arcOf 22 = .ok (.invokevirtual 189, 3) := by decide +kernel
theorem d_Mo_arcOf_25 : decode b_Mo_arcOf 25 = .ok (.ireturn, 1) := by decide +kernel
theorem d_Mo_inside_0 : decode b_Mo_inside 0 = .ok (.aload_n 0, 1) := by decide +kernel
theorem d_Mo_inside_1 : decode b_Mo_inside 1 = .ok (.iload_n 1, 1) := by decide +kernel
theorem d_Mo_inside_2 : decode b_Mo_inside 2 = .ok (.iload_n 2, 1) := by decide +kernel
theorem d_Mo_inside_3 : decode b_Mo_inside 3 = .ok (.invokevirtual 186, 3) := by decide +kernel
theorem d_Mo_inside_6 : decode b_Mo_inside 6 = .ok (.ifCond .eq 5, 3) := by decide +kernel
theorem d_Mo_inside_9 : decode b_Mo_inside 9 = .ok (.iconst 1, 1) := by decide +kernel
theorem d_Mo_inside_10 : decode b_Mo_inside 10 = .ok (.ireturn, 1) := by decide +kernel
theorem d_Mo_inside_11 : decode b_Mo_inside 11 = .ok (.iconst 0, 1) := by decide +kernel
theorem d_Mo_inside_12 : decode b_Mo_inside 12 = .ok (.istore_n 3, 1) := by decide +kernel
theorem d_Mo_inside_13 : decode b_Mo_inside 13 = .ok (.iload_n 3, 1) := by decide +kernel
theorem d_Mo_inside_14 : decode b_Mo_inside 14 = .ok (.aload_n 0, 1) := by decide +kernel
theorem d_Mo_inside_15 : decode b_Mo_inside 15 = .ok (.iload_n 2, 1) := by decide +kernel
theorem d_Mo_inside_16 : decode b_Mo_inside 16 = .ok (.invokevirtual 144, 3) := by decide +kernel
theorem d_Mo_inside_19 : decode b_Mo_inside 19 = .ok (.if_icmp .ge 81, 3) := by decide +kernel
theorem d_Mo_inside_22 : decode b_Mo_inside 22 = .ok (.aload_n 0, 1) := by decide +kernel
theorem d_Mo_inside_23 : decode b_Mo_inside 23 = .ok (.getfield 31, 3) := by decide +kernel
theorem d_Mo_inside_26 : decode b_Mo_inside 26 = .ok (.iconst 3, 1) := by decide +kernel
theorem d_Mo_inside_27 : decode b_Mo_inside 27 = .ok (.iload_n 2, 1) := by decide +kernel
theorem d_Mo_inside_28 : decode b_Mo_inside 28 = .ok (.imul, 1) := by decide +kernel
theorem d_Mo_inside_29 : decode b_Mo_inside 29 = .ok (.iload_n 3, 1) := by decide +kernel
theorem d_Mo_inside_30 : decode b_Mo_inside 30 = .ok (.iadd, 1) := by decide +kernel
theorem d_Mo_inside_31 : decode b_Mo_inside 31 = .ok (.iaload, 1) := by decide +kernel
theorem d_Mo_inside_32 : decode b_Mo_inside 32 = .ok (.istore 4, 2) := by decide +kernel
theorem d_Mo_inside_34 : decode b_Mo_inside 34 = .ok (.aload_n 0, 1) := by decide +kernel
theorem d_Mo_inside_35 : decode b_Mo_inside 35 = .ok (.iload_n 1, 1) := by decide +kernel
theorem d_Mo_inside_36 : decode b_Mo_inside 36 = .ok (.iload 4, 2) := by decide +kernel
theorem d_Mo_inside_38 : decode b_Mo_inside 38 = .ok (.invokevirtual 186, 3) := by decide +kernel
theorem d_Mo_inside_41 : decode b_Mo_inside 41 = .ok (.istore 5, 2) := by decide +kernel
theorem d_Mo_inside_43 : decode b_Mo_inside 43 = .ok (.iconst 0, 1) := by decide +kernel
theorem d_Mo_inside_44 : decode b_Mo_inside 44 = .ok (.istore 6, 2) := by decide +kernel
theorem d_Mo_inside_46 : decode b_Mo_inside 46 = .ok (.iload 6, 2) := by decide +kernel
theorem d_Mo_inside_48 : decode b_Mo_inside 48 = .ok (.aload_n 0, 1) := by decide +kernel
theorem d_Mo_inside_49 : decode b_Mo_inside 49 = .ok (.iload 4, 2) := by decide +kernel
theorem d_Mo_inside_51 : decode b_Mo_inside 51 = .ok (.invokevirtual 144, 3) := by decide +kernel
theorem d_Mo_inside_54 : decode b_Mo_inside 54 = .ok (.if_icmp .ge 33, 3) := by decide +kernel
theorem d_Mo_inside_57 : decode b_Mo_inside 57 = .ok (.iload 5, 2) := by decide +kernel
theorem d_Mo_inside_59 : decode b_Mo_inside 59 = .ok (.ifCond .ne 28, 3) := by decide +kernel
theorem d_Mo_inside_62 : decode b_Mo_inside 62 = .ok (.aload_n 0, 1) := by decide +kernel
theorem d_Mo_inside_63 : decode b_Mo_inside 63 = .ok (.iload_n 1, 1) := by decide +kernel
theorem d_Mo_inside_64 : decode b_Mo_inside 64 = .ok (.aload_n 0, 1) := by decide +kernel
theorem d_Mo_inside_65 : decode b_Mo_inside 65 = .ok (.getfield 31, 3) := by decide +kernel
theorem d_Mo_inside_68 : decode b_Mo_inside 68 = .ok (.iconst 3, 1) := by decide +kernel
theorem d_Mo_inside_69 : decode b_Mo_inside 69 = .ok (.iload 4, 2) := by decide +kernel
theorem d_Mo_inside_71 : decode b_Mo_inside 71 = .ok (.imul, 1) := by decide +kernel
theorem d_Mo_inside_72 : decode b_Mo_inside 72 = .ok (.iload 6, 2) := by decide +kernel
theorem d_Mo_inside_74 : decode b_Mo_inside 74 = .ok (.iadd, 1) := by decide +kernel
theorem d_Mo_inside_75 : decode b_Mo_inside 75 = .ok (.iaload, 1) := by decide +kernel
theorem d_Mo_inside_76 : decode b_Mo_inside 76 = .ok (.invokevirtual 186, 3) := by decide +kernel
theorem d_Mo_inside_79 : decode b_Mo_inside 79 = .ok (.istore 5, 2) := by decide +kernel
theorem d_Mo_inside_81 : decode b_Mo_inside 81 = .ok (.iinc 6 1, 3) := by decide +kernel
theorem d_Mo_inside_84 : decode b_Mo_inside 84 = .ok (.goto (-38), 3) := by decide +kernel
theorem d_Mo_inside_87 : decode b_Mo_inside 87 = .ok (.iload 5, 2) := by decide +kernel
theorem d_Mo_inside_89 : decode b_Mo_inside 89 = .ok (.ifCond .eq 5, 3) := by decide +kernel
theorem d_Mo_inside_92 : decode b_Mo_inside 92 = .ok (.iconst 2, 1) := by decide +kernel
theorem d_Mo_inside_93 : decode b_Mo_inside 93 = .ok (.ireturn, 1) := by decide +kernel
theorem d_Mo_inside_94 : decode b_Mo_inside 94 = .ok (.iinc 3 1, 3) := by decide +kernel
theorem d_Mo_inside_97 : decode b_Mo_inside 97 = .ok (.goto (-84), 3) := by decide +kernel
theorem d_Mo_inside_100 : decode b_Mo_inside 100 = .ok (.iconst 0, 1) := by decide +kernel
theorem d_Mo_inside_101 : decode b_Mo_inside 101 = .ok (.ireturn, 1) := by decide +kernel
theorem d_Mo_alike_0 : decode b_Mo_alike 0 = .ok (.aload_n 0, 1) := by decide +kernel
theorem d_Mo_alike_1 : decode b_Mo_alike 1 = .ok (.iconst 0, 1) := by decide +kernel
theorem d_Mo_alike_2 : decode b_Mo_alike 2 = .ok (.putfield 141, 3) := by decide +kernel
theorem d_Mo_alike_5 : decode b_Mo_alike 5 = .ok (.aload_n 0, 1) := by decide +kernel
theorem d_Mo_alike_6 : decode b_Mo_alike 6 = .ok (.iload_n 1, 1) := by decide +kernel
theorem d_Mo_alike_7 : decode b_Mo_alike 7 = .ok (.iload_n 2, 1) := by decide +kernel
theorem d_Mo_alike_8 : decode b_Mo_alike 8 = .ok (.invokevirtual 148, 3) := by decide +kernel
theorem d_Mo_alike_11 : decode b_Mo_alike 11 = .ok (.aload_n 0, 1) := by decide +kernel
theorem d_Mo_alike_12 : decode b_Mo_alike 12 = .ok (.getfield 141, 3) := by decide +kernel
theorem d_Mo_alike_15 : decode b_Mo_alike 15 = .ok (.ifCond .le 101, 3) := by decide +kernel
theorem d_Mo_alike_18 : decode b_Mo_alike 18 = .ok (.aload_n 0, 1) := by decide +kernel
theorem d_Mo_alike_19 : decode b_Mo_alike 19 = .ok (.dup, 1) := by decide +kernel
theorem d_Mo_alike_20 : decode b_Mo_alike 20 = .ok (.getfield 141, 3) := by decide +kernel
theorem d_Mo_alike_23 : decode b_Mo_alike 23 = .ok (.iconst 1, 1) := by decide +kernel
theorem d_Mo_alike_24 : decode b_Mo_alike 24 = .ok (.isub, 1) := by decide +kernel
theorem d_Mo_alike_25 : decode b_Mo_alike 25 = .ok (.putfield 141, 3) := by decide +kernel
theorem d_Mo_alike_28 : decode b_Mo_alike 28 = .ok (.aload_n 0, 1) := by decide +kernel
theorem d_Mo_alike_29 : decode b_Mo_alike 29 = .ok (.getfield 58, 3) := by decide +kernel
theorem d_Mo_alike_32 : decode b_Mo_alike 32 = .ok (.aload_n 0, 1) := by decide +kernel
theorem d_Mo_alike_33 : decode b_Mo_alike 33 = .ok (.getfield 141, 3) := by decide +kernel
theorem d_Mo_alike_36 : decode b_Mo_alike 36 = .ok (.iaload, 1) := by decide +kernel
theorem d_Mo_alike_37 : decode b_Mo_alike 37 = .ok (.istore_n 3, 1) := by decide +kernel
theorem d_Mo_alike_38 : decode b_Mo_alike 38 = .ok (.aload_n 0, 1) := by decide +kernel
theorem d_Mo_alike_39 : decode b_Mo_alike 39 = .ok (.getfield 61, 3) := by decide +kernel
theorem d_Mo_alike_42 : decode b_Mo_alike 42 = .ok (.aload_n 0, 1) := by decide +kernel
theorem d_Mo_alike_43 : decode b_Mo_alike 43 = .ok (.getfield 141, 3) := by decide +kernel
theorem d_Mo_alike_46 : decode b_Mo_alike 46 = .ok (.iaload, 1) := by decide +kernel
theorem d_Mo_alike_47 : decode b_Mo_alike 47 = .ok (.istore 4, 2) := by decide +kernel
theorem d_Mo_alike_49 : decode b_Mo_alike 49 = .ok (.aload_n 0, 1) := by decide +kernel
theorem d_Mo_alike_50 : decode b_Mo_alike 50 = .ok (.getfield 28, 3) := by decide +kernel
theorem d_Mo_alike_53 : decode b_Mo_alike 53 = .ok (.iload_n 3, 1) := by decide +kernel
theorem d_Mo_alike_54 : decode b_Mo_alike 54 = .ok (.iaload, 1) := by decide +kernel
theorem d_Mo_alike_55 : decode b_Mo_alike 55 = .ok (.aload_n 0, 1) := by decide +kernel
theorem d_Mo_alike_56 : decode b_Mo_alike 56 = .ok (.getfield 28, 3) := by decide +kernel
theorem d_Mo_alike_59 : decode b_Mo_alike 59 = .ok (.iload 4, 2) := by decide +kernel
theorem d_Mo_alike_61 : decode b_Mo_alike 61 = .ok (.iaload, 1) := by decide +kernel
theorem d_Mo_alike_62 : decode b_Mo_alike 62 = .ok (.if_icmp .eq 5, 3) := by decide +kernel
theorem d_Mo_alike_65 : decode b_Mo_alike 65 = .ok (.iconst 0, 1) := by decide +kernel
theorem d_Mo_alike_66 : decode b_Mo_alike 66 = .ok (.ireturn, 1) := by decide +kernel
theorem d_Mo_alike_67 : decode b_Mo_alike 67 = .ok (.iconst 0, 1) := by decide +kernel
theorem d_Mo_alike_68 : decode b_Mo_alike 68 = .ok (.istore 5, 2) := by decide +kernel
theorem d_Mo_alike_70 : decode b_Mo_alike 70 = .ok (.iload 5, 2) := by decide +kernel
theorem d_Mo_alike_72 : decode b_Mo_alike 72 = .ok (.aload_n 0, 1) := by decide +kernel
theorem d_Mo_alike_73 : decode b_Mo_alike 73 = .ok (.iload_n 3, 1) := by decide +kernel
theorem d_Mo_alike_74 : decode b_Mo_alike 74 = .ok (.invokevirtual 144, 3) := by decide +kernel
theorem d_Mo_alike_77 : decode b_Mo_alike 77 = .ok (.if_icmp .ge 36, 3) := by decide +kernel
theorem d_Mo_alike_80 : decode b_Mo_alike 80 = .ok (.aload_n 0, 1) := by decide +kernel
theorem d_Mo_alike_81 : decode b_Mo_alike 81 = .ok (.aload_n 0, 1) := by decide +kernel
theorem d_Mo_alike_82 : decode b_Mo_alike 82 = .ok (.getfield 31, 3) := by decide +kernel
theorem d_Mo_alike_85 : decode b_Mo_alike 85 = .ok (.iconst 3, 1) := by decide +kernel
theorem d_Mo_alike_86 : decode b_Mo_alike 86 = .ok (.iload_n 3, 1) := by decide +kernel
theorem d_Mo_alike_87 : decode b_Mo_alike 87 = .ok (.imul, 1) := by decide +kernel
theorem d_Mo_alike_88 : decode b_Mo_alike 88 = .ok (.iload 5, 2) := by decide +kernel
theorem d_Mo_alike_90 : decode b_Mo_alike 90 = .ok (.iadd, 1) := by decide +kernel
theorem d_Mo_alike_91 : decode b_Mo_alike 91 = .ok (.iaload, 1) := by decide +kernel
theorem d_Mo_alike_92 : decode b_Mo_alike 92 = .ok (.aload_n 0, 1) := by decide +kernel
theorem d_Mo_alike_93 : decode b_Mo_alike 93 = .ok (.getfield 31, 3) := by decide +kernel
theorem d_Mo_alike_96 : decode b_Mo_alike 96 = .ok (.iconst 3, 1) := by decide +kernel
theorem d_Mo_alike_97 : decode b_Mo_alike 97 = .ok (.iload 4, 2) := by decide +kernel
theorem d_Mo_alike_99 : decode b_Mo_alike 99 = .ok (.imul, 1) := by decide +kernel
theorem d_Mo_alike_100 : decode b_Mo_alike 100 = .ok (.iload 5, 2) := by decide +kernel
theorem d_Mo_alike_102 : decode b_Mo_alike 102 = .ok (.iadd, 1) := by decide +kernel
theorem d_Mo_alike_103 : decode b_Mo_alike 103 = .ok (.iaload, 1) := by decide +kernel
theorem d_Mo_alike_104 : decode b_Mo_alike 104 = .ok (.invokevirtual 148, 3) := by decide +kernel
theorem d_Mo_alike_107 : decode b_Mo_alike 107 = .ok (.iinc 5 1, 3) := by decide +kernel
theorem d_Mo_alike_110 : decode b_Mo_alike 110 = .ok (.goto (-40), 3) := by decide +kernel
theorem d_Mo_alike_113 : decode b_Mo_alike 113 = .ok (.goto (-102), 3) := by decide +kernel
theorem d_Mo_alike_116 : decode b_Mo_alike 116 = .ok (.iconst 1, 1) := by decide +kernel
theorem d_Mo_alike_117 : decode b_Mo_alike 117 = .ok (.ireturn, 1) := by decide +kernel
theorem d_Mo_addGraph_0 : decode b_Mo_addGraph 0 = .ok (.iconst 0, 1) := by decide +kernel
theorem d_Mo_addGraph_1 : decode b_Mo_addGraph 1 = .ok (.istore 4, 2) := by decide +kernel
theorem d_Mo_addGraph_3 : decode b_Mo_addGraph 3 = .ok (.iload 4, 2) := by decide +kernel
theorem d_Mo_addGraph_5 : decode b_Mo_addGraph 5 = .ok (.aload_n 0, 1) := by decide +kernel
theorem d_Mo_addGraph_6 : decode b_Mo_addGraph 6 = .ok (.getfield 192, 3) := by decide +kernel
theorem d_Mo_addGraph_9 : decode b_Mo_addGraph 9 = .ok (.if_icmp .ge 43, 3) := by decide +kernel
theorem d_Mo_addGraph_12 : decode b_Mo_addGraph 12 = .ok (.aload_n 0, 1) := by decide +kernel
theorem d_Mo_addGraph_13 : decode b_Mo_addGraph 13 = .ok (.getfield 49, 3) := by decide +kernel
theorem d_Mo_addGraph_16 : decode b_Mo_addGraph 16 = .ok (.iload 4, 2) := by decide +kernel
theorem d_Mo_addGraph_18 : decode b_Mo_addGraph 18 = .ok (.iaload, 1) := by decide +kernel
theorem d_Mo_addGraph_19 : decode b_Mo_addGraph 19 = .ok (.iload_n 1, 1) := by decide +kernel
theorem d_Mo_addGraph_20 : decode b_Mo_addGraph 20 = .ok (.if_icmp .ne 26, 3) := by decide +kernel
theorem d_Mo_addGraph_23 : decode b_Mo_addGraph 23 = .ok (.aload_n 0, 1) := by decide +kernel
theorem d_Mo_addGraph_24 : decode b_Mo_addGraph 24 = .ok (.getfield 52, 3) := by decide +kernel
theorem d_Mo_addGraph_27 : decode b_Mo_addGraph 27 = .ok (.iload 4, 2) := by decide +kernel
theorem d_Mo_addGraph_29 : decode b_Mo_addGraph 29 = .ok (.iaload, 1) := by decide +kernel
theorem d_Mo_addGraph_30 : decode b_Mo_addGraph 30 = .ok (.iload_n 2, 1) := by decide +kernel
theorem d_Mo_addGraph_31 : decode b_Mo_addGraph 31 = .ok (.if_icmp .ne 15, 3) := by decide +kernel
theorem d_Mo_addGraph_34 : decode b_Mo_addGraph 34 = .ok (.aload_n 0, 1) := by decide +kernel
theorem d_Mo_addGraph_35 : decode b_Mo_addGraph 35 = .ok (.getfield 55, 3) := by decide +kernel
theorem d_Mo_addGraph_38 : decode b_Mo_addGraph 38 = .ok (.iload 4, 2) := by decide +kernel
theorem d_Mo_addGraph_40 : decode b_Mo_addGraph 40 = .ok (.iaload, 1) := by decide +kernel
theorem d_Mo_addGraph_41 : decode b_Mo_addGraph 41 = .ok (.iload_n 3, 1) := by decide +kernel
theorem d_Mo_addGraph_42 : decode b_Mo_addGraph 42 = .ok (.if_icmp .ne 4, 3) := by decide +kernel
theorem d_Mo_addGraph_45 : decode b_Mo_addGraph 45 = .ok (.return_, 1) := by decide +kernel
theorem d_Mo_addGraph_46 : decode b_Mo_addGraph 46 = .ok (.iinc 4 1, 3) := by decide +kernel
theorem d_Mo_addGraph_49 : decode b_Mo_addGraph 49 = .ok (.goto (-46), 3) := by decide +kernel
theorem d_Mo_addGraph_52 : decode b_Mo_addGraph 52 = .ok (.aload_n 0, 1) := by decide +kernel
theorem d_Mo_addGraph_53 : decode b_Mo_addGraph 53 = .ok (.getfield 192, 3) := by decide +kernel
theorem d_Mo_addGraph_56 : decode b_Mo_addGraph 56 = .ok (.sipush 201, 3) := by decide +kernel
theorem d_Mo_addGraph_59 : decode b_Mo_addGraph 59 = .ok (.if_icmp .ge 43, 3) := by decide +kernel
theorem d_Mo_addGraph_62 : decode b_Mo_addGraph 62 = .ok (.aload_n 0, 1) := by decide +kernel
theorem d_Mo_addGraph_63 : decode b_Mo_addGraph 63 = .ok (.getfield 49, 3) := by decide +kernel
theorem d_Mo_addGraph_66 : decode b_Mo_addGraph 66 = .ok (.aload_n 0, 1) := by decide +kernel
theorem d_Mo_addGraph_67 : decode b_Mo_addGraph 67 = .ok (.getfield 192, 3) := by decide +kernel
theorem d_Mo_addGraph_70 : decode b_Mo_addGraph 70 = .ok (.iload_n 1, 1) := by decide +kernel
theorem d_Mo_addGraph_71 : decode b_Mo_addGraph 71 = .ok (.iastore, 1) := by decide +kernel
theorem d_Mo_addGraph_72 : decode b_Mo_addGraph 72 = .ok (.aload_n 0, 1) := by decide +kernel
theorem d_Mo_addGraph_73 : decode b_Mo_addGraph 73 = .ok (.getfield 52, 3) := by decide +kernel
theorem d_Mo_addGraph_76 : decode b_Mo_addGraph 76 = .ok (.aload_n 0, 1) := by decide +kernel
theorem d_Mo_addGraph_77 : decode b_Mo_addGraph 77 = .ok (.getfield 192, 3) := by decide +kernel
theorem d_Mo_addGraph_80 : decode b_Mo_addGraph 80 = .ok (.iload_n 2, 1) := by decide +kernel
theorem d_Mo_addGraph_81 : decode b_Mo_addGraph 81 = .ok (.iastore, 1) := by decide +kernel
theorem d_Mo_addGraph_82 : decode b_Mo_addGraph 82 = .ok (.aload_n 0, 1) := by decide +kernel
theorem d_Mo_addGraph_83 : decode b_Mo_addGraph 83 = .ok (.getfield 55, 3) := by decide +kernel
theorem d_Mo_addGraph_86 : decode b_Mo_addGraph 86 = .ok (.aload_n 0, 1) := by decide +kernel
theorem d_Mo_addGraph_87 : decode b_Mo_addGraph 87 = .ok (.getfield 192, 3) := by decide +kernel
theorem d_Mo_addGraph_90 : decode b_Mo_addGraph 90 = .ok (.iload_n 3, 1) := by decide +kernel
theorem d_Mo_addGraph_91 : decode b_Mo_addGraph 91 = .ok (.iastore, 1) := by decide +kernel
theorem d_Mo_addGraph_92 : decode b_Mo_addGraph 92 = .ok (.aload_n 0, 1) := by decide +kernel
theorem d_Mo_addGraph_93 : decode b_Mo_addGraph 93 = .ok (.dup, 1) := by decide +kernel
theorem d_Mo_addGraph_94 : decode b_Mo_addGraph 94 = .ok (.getfield 192, 3) := by decide +kernel
theorem d_Mo_addGraph_97 : decode b_Mo_addGraph 97 = .ok (.iconst 1, 1) := by decide +kernel
theorem d_Mo_addGraph_98 : decode b_Mo_addGraph 98 = .ok (.iadd, 1) := by decide +kernel
theorem d_Mo_addGraph_99 : decode b_Mo_addGraph 99 = .ok (.putfield 192, 3) := by decide +kernel
theorem d_Mo_addGraph_102 : decode b_Mo_addGraph 102 = .ok (.return_, 1) := by decide +kernel
theorem d_Mo_composed_0 : decode b_Mo_composed 0 = .ok (.iconst 0, 1) := by decide +kernel
theorem d_Mo_composed_1 : decode b_Mo_composed 1 = .ok (.istore_n 2, 1) := by decide +kernel
theorem d_Mo_composed_2 : decode b_Mo_composed 2 = .ok (.iconst 0, 1) := by decide +kernel
theorem d_Mo_composed_3 : decode b_Mo_composed 3 = .ok (.istore_n 3, 1) := by decide +kernel
theorem d_Mo_composed_4 : decode b_Mo_composed 4 = .ok (.iload_n 3, 1) := by decide +kernel
theorem d_Mo_composed_5 : decode b_Mo_composed 5 = .ok (.iconst 3, 1) := by decide +kernel
theorem d_Mo_composed_6 : decode b_Mo_composed 6 = .ok (.if_icmp .ge 121, 3) := by decide +kernel
theorem d_Mo_composed_9 : decode b_Mo_composed 9 = .ok (.iconst 0, 1) := by decide +kernel
theorem d_Mo_composed_10 : decode b_Mo_composed 10 = .ok (.istore 4, 2) := by decide +kernel
theorem d_Mo_composed_12 : decode b_Mo_composed 12 = .ok (.iload 4, 2) := by decide +kernel
theorem d_Mo_composed_14 : decode b_Mo_composed 14 = .ok (.iconst 3, 1) := by decide +kernel
theorem d_Mo_composed_15 : decode b_Mo_composed 15 = .ok (.if_icmp .ge 106, 3) := by decide +kernel
theorem d_Mo_composed_18 : decode b_Mo_composed 18 = .ok (.iconst 0, 1) := by decide +kernel
theorem d_Mo_composed_19 : decode b_Mo_composed 19 = .ok (.istore 5, 2) := by decide +kernel
theorem d_Mo_composed_21 : decode b_Mo_composed 21 = .ok (.iconst 0, 1) := by decide +kernel
theorem d_Mo_composed_22 : decode b_Mo_composed 22 = .ok (.istore 6, 2) := by decide +kernel
theorem d_Mo_composed_24 : decode b_Mo_composed 24 = .ok (.iload 6, 2) := by decide +kernel
theorem d_Mo_composed_26 : decode b_Mo_composed 26 = .ok (.iconst 3, 1) := by decide +kernel
theorem d_Mo_composed_27 : decode b_Mo_composed 27 = .ok (.if_icmp .ge 74, 3) := by decide +kernel
theorem d_Mo_composed_30 : decode b_Mo_composed 30 = .ok (.iload_n 0, 1) := by decide +kernel
theorem d_Mo_composed_31 : decode b_Mo_composed 31 = .ok (.iload_n 3, 1) := by decide +kernel
theorem d_Mo_composed_32 : decode b_Mo_composed 32 = .ok (.iload 6, 2) := by decide +kernel
theorem d_Mo_composed_34 : decode b_Mo_composed 34 = .ok (.invokestatic 195, 3) := by decide +kernel
theorem d_Mo_composed_37 : decode b_Mo_composed 37 = .ok (.istore 7, 2) := by decide +kernel
theorem d_Mo_composed_39 : decode b_Mo_composed 39 = .ok (.iload_n 1, 1) := by decide +kernel
theorem d_Mo_composed_40 : decode b_Mo_composed 40 = .ok (.iload 6, 2) := by decide +kernel
theorem d_Mo_composed_42 : decode b_Mo_composed 42 = .ok (.iload 4, 2) := by decide +kernel
theorem d_Mo_composed_44 : decode b_Mo_composed 44 = .ok (.invokestatic 195, 3) := by decide +kernel
theorem d_Mo_composed_47 : decode b_Mo_composed 47 = .ok (.istore 8, 2) := by decide +kernel
theorem d_Mo_composed_49 : decode b_Mo_composed 49 = .ok (.iload 7, 2) := by decide +kernel
theorem d_Mo_composed_51 : decode b_Mo_composed 51 = .ok (.ifCond .eq 8, 3) := by decide +kernel
theorem d_Mo_composed_54 : decode b_Mo_composed 54 = .ok (.iload 8, 2) := by decide +kernel
theorem d_Mo_composed_56 : decode b_Mo_composed 56 = .ok (.ifCond .ne 7, 3) := by decide +kernel
theorem d_Mo_composed_59 : decode b_Mo_composed 59 = .ok (.iconst 0, 1) := by decide +kernel
theorem d_Mo_composed_60 : decode b_Mo_composed 60 = .ok (.goto 17, 3) := by decide +kernel
theorem d_Mo_composed_63 : decode b_Mo_composed 63 = .ok (.iload 7, 2) := by decide +kernel
theorem d_Mo_composed_65 : decode b_Mo_composed 65 = .ok (.iload 8, 2) := by decide +kernel
theorem d_Mo_composed_67 : decode b_Mo_composed 67 = .ok (.if_icmp .le 8, 3) := by decide +kernel
theorem d_Mo_composed_70 : decode b_Mo_composed 70 = .ok (.iload 7, 2) := by decide +kernel
theorem d_Mo_composed_72 : decode b_Mo_composed 72 = .ok (.goto 5, 3) := by decide +kernel
theorem d_Mo_composed_75 : decode b_Mo_composed 75 = .ok (.iload 8, 2) := by decide +kernel
theorem d_Mo_composed_77 : decode b_Mo_composed 77 = .ok (.istore 9, 2) := by decide +kernel
theorem d_Mo_composed_79 : decode b_Mo_composed 79 = .ok (.iload 9, 2) := by decide +kernel
theorem d_Mo_composed_81 : decode b_Mo_composed 81 = .ok (.iload 5, 2) := by decide +kernel
theorem d_Mo_composed_83 : decode b_Mo_composed 83 = .ok (.if_icmp .le 8, 3) := by decide +kernel
theorem d_Mo_composed_86 : decode b_Mo_composed 86 = .ok (.iload 9, 2) := by decide +kernel
theorem d_Mo_composed_88 : decode b_Mo_composed 88 = .ok (.goto 5, 3) := by decide +kernel
theorem d_Mo_composed_91 : decode b_Mo_composed 91 = .ok (.iload 5, 2) := by decide +kernel
theorem d_Mo_composed_93 : decode b_Mo_composed 93 = .ok (.istore 5, 2) := by decide +kernel
theorem d_Mo_composed_95 : decode b_Mo_composed 95 = .ok (.iinc 6 1, 3) := by decide +kernel
theorem d_Mo_composed_98 : decode b_Mo_composed 98 = .ok (.goto (-74), 3) := by decide +kernel
theorem d_Mo_composed_101 : decode b_Mo_composed 101 = .ok (.iload_n 2, 1) := by decide +kernel
theorem d_Mo_composed_102 : decode b_Mo_composed 102 = .ok (.iload 5, 2) := by decide +kernel
theorem d_Mo_composed_104 : decode b_Mo_composed 104 = .ok (.iconst 2, 1) := by decide +kernel
theorem d_Mo_composed_105 : decode b_Mo_composed 105 = .ok (.iconst 3, 1) := by decide +kernel
theorem d_Mo_composed_106 : decode b_Mo_composed 106 = .ok (.iload_n 3, 1) := by decide +kernel
theorem d_Mo_composed_107 : decode b_Mo_composed 107 = .ok (.imul, 1) := by decide +kernel
theorem d_Mo_composed_108 : decode b_Mo_composed 108 = .ok (.iload 4, 2) := by decide +kernel
theorem d_Mo_composed_110 : decode b_Mo_composed 110 = .ok (.iadd, 1) := by decide +kernel
theorem d_Mo_composed_111 : decode b_Mo_composed 111 = .ok (.imul, 1) := by decide +kernel
theorem d_Mo_composed_112 : decode b_Mo_composed 112 = .ok (.ishl, 1) := by decide +kernel
theorem d_Mo_composed_113 : decode b_Mo_composed 113 = .ok (.ior, 1) := by decide +kernel
theorem d_Mo_composed_114 : decode b_Mo_composed 114 = .ok (.istore_n 2, 1) := by decide +kernel
theorem d_Mo_composed_115 : decode b_Mo_composed 115 = .ok (.iinc 4 1, 3) := by decide +kernel
theorem d_Mo_composed_118 : decode b_Mo_composed 118 = .ok (.goto (-106), 3) := by decide +kernel
theorem d_Mo_composed_121 : decode b_Mo_composed 121 = .ok (.iinc 3 1, 3) := by decide +kernel
theorem d_Mo_composed_124 : decode b_Mo_composed 124 = .ok (.goto (-120), 3) := by decide +kernel
theorem d_Mo_composed_127 : decode b_Mo_composed 127 = .ok (.iload_n 2, 1) := by decide +kernel
theorem d_Mo_composed_128 : decode b_Mo_composed 128 = .ok (.ireturn, 1) := by decide +kernel
theorem d_Mo_arcAt_0 : decode b_Mo_arcAt 0 = .ok (.iload_n 0, 1) := by decide +kernel
theorem d_Mo_arcAt_1 : decode b_Mo_arcAt 1 = .ok (.iconst 2, 1) := by decide +kernel
theorem d_Mo_arcAt_2 : decode b_Mo_arcAt 2 = .ok (.iconst 3, 1) := by decide +kernel
theorem d_Mo_arcAt_3 : decode b_Mo_arcAt 3 = .ok (.iload_n 1, 1) := by decide +kernel
theorem d_Mo_arcAt_4 : decode b_Mo_arcAt 4 = .ok (.imul, 1) := by decide +kernel
theorem d_Mo_arcAt_5 : decode b_Mo_arcAt 5 = .ok (.iload_n 2, 1) := by decide +kernel
theorem d_Mo_arcAt_6 : decode b_Mo_arcAt 6 = .ok (.iadd, 1) := by decide +kernel
theorem d_Mo_arcAt_7 : decode b_Mo_arcAt 7 = .ok (.imul, 1) := by decide +kernel
theorem d_Mo_arcAt_8 : decode b_Mo_arcAt 8 = .ok (.ishr, 1) := by decide +kernel
theorem d_Mo_arcAt_9 : decode b_Mo_arcAt 9 = .ok (.iconst 3, 1) := by decide +kernel
theorem d_Mo_arcAt_10 : decode b_Mo_arcAt 10 = .ok (.iand, 1) := by decide +kernel
theorem d_Mo_arcAt_11 : decode b_Mo_arcAt 11 = .ok (.ireturn, 1) := by decide +kernel
theorem d_Mo_graphs_0 : decode b_Mo_graphs 0 = .ok (.aload_n 0, 1) := by decide +kernel
theorem d_Mo_graphs_1 : decode b_Mo_graphs 1 = .ok (.iconst 0, 1) := by decide +kernel
theorem d_Mo_graphs_2 : decode b_Mo_graphs 2 = .ok (.putfield 104, 3) := by decide +kernel
theorem d_Mo_graphs_5 : decode b_Mo_graphs 5 = .ok (.aload_n 0, 1) := by decide +kernel
theorem d_Mo_graphs_6 : decode b_Mo_graphs 6 = .ok (.getfield 192, 3) := by decide +kernel
theorem d_Mo_graphs_9 : decode b_Mo_graphs 9 = .ok (.ireturn, 1) := by decide +kernel
theorem d_Mo_arc_0 : decode b_Mo_arc 0 = .ok (.iload_n 1, 1) := by decide +kernel
theorem d_Mo_arc_1 : decode b_Mo_arc 1 = .ok (.ifCond .lt 19, 3) := by decide +kernel
theorem d_Mo_arc_4 : decode b_Mo_arc 4 = .ok (.iload_n 1, 1) := by decide +kernel
theorem d_Mo_arc_5 : decode b_Mo_arc 5 = .ok (.aload_n 0, 1) := by decide +kernel
theorem d_Mo_arc_6 : decode b_Mo_arc 6 = .ok (.getfield 166, 3) := by decide +kernel
theorem d_Mo_arc_9 : decode b_Mo_arc 9 = .ok (.if_icmp .ge 11, 3) := by decide +kernel
theorem d_Mo_arc_12 : decode b_Mo_arc 12 = .ok (.iload_n 2, 1) := by decide +kernel
theorem d_Mo_arc_13 : decode b_Mo_arc 13 = .ok (.ifCond .lt 7, 3) := by decide +kernel
theorem d_Mo_arc_16 : decode b_Mo_arc 16 = .ok (.iconst 1, 1) := by decide +kernel
theorem d_Mo_arc_17 : decode b_Mo_arc 17 = .ok (.goto 4, 3) := by decide +kernel
theorem d_Mo_arc_20 : decode b_Mo_arc 20 = .ok (.iconst 0, 1) := by decide +kernel
theorem d_Mo_arc_21 : decode b_Mo_arc 21 = .ok (.istore 5, 2) := by decide +kernel
theorem d_Mo_arc_23 : decode b_Mo_arc 23 = .ok (.iload 5, 2) := by decide +kernel
theorem d_Mo_arc_25 : decode b_Mo_arc 25 = .ok (.ifCond .eq 12, 3) := by decide +kernel
theorem d_Mo_arc_28 : decode b_Mo_arc 28 = .ok (.aload_n 0, 1) := by decide +kernel
theorem d_Mo_arc_29 : decode b_Mo_arc 29 = .ok (.iload_n 1, 1) := by decide +kernel
theorem d_Mo_arc_30 : decode b_Mo_arc 30 = .ok (.iload_n 2, 1) := by decide +kernel
theorem d_Mo_arc_31 : decode b_Mo_arc 31 = .ok (.invokevirtual 198, 3) := by decide +kernel
theorem d_Mo_arc_34 : decode b_Mo_arc 34 = .ok (.goto 4, 3) := by decide +kernel
theorem d_Mo_arc_37 : decode b_Mo_arc 37 = .ok (.iconst (-1), 1) := by decide +kernel
theorem d_Mo_arc_38 : decode b_Mo_arc 38 = .ok (.istore 6, 2) := by decide +kernel
theorem d_Mo_arc_40 : decode b_Mo_arc 40 = .ok (.iload 6, 2) := by decide +kernel
theorem d_Mo_arc_42 : decode b_Mo_arc 42 = .ok (.ifCond .lt 69, 3) := by decide +kernel
theorem d_Mo_arc_45 : decode b_Mo_arc 45 = .ok (.iload_n 3, 1) := by decide +kernel
theorem d_Mo_arc_46 : decode b_Mo_arc 46 = .ok (.ifCond .lt 65, 3) := by decide +kernel
theorem d_Mo_arc_49 : decode b_Mo_arc 49 = .ok (.iload 4, 2) := by decide +kernel
theorem d_Mo_arc_51 : decode b_Mo_arc 51 = .ok (.ifCond .lt 60, 3) := by decide +kernel
theorem d_Mo_arc_54 : decode b_Mo_arc 54 = .ok (.iload_n 3, 1) := by decide +kernel
theorem d_Mo_arc_55 : decode b_Mo_arc 55 = .ok (.aload_n 0, 1) := by decide +kernel
theorem d_Mo_arc_56 : decode b_Mo_arc 56 = .ok (.getfield 22, 3) := by decide +kernel
theorem d_Mo_arc_59 : decode b_Mo_arc 59 = .ok (.aload_n 0, 1) := by decide +kernel
theorem d_Mo_arc_60 : decode b_Mo_arc 60 = .ok (.getfield 40, 3) := by decide +kernel
theorem d_Mo_arc_63 : decode b_Mo_arc 63 = .ok (.iload 5, 2) := by decide +kernel
theorem d_Mo_arc_65 : decode b_Mo_arc 65 = .ok (.ifCond .eq 7, 3) := by decide +kernel
theorem d_Mo_arc_68 : decode b_Mo_arc 68 = .ok (.iload_n 1, 1) := by decide +kernel
theorem d_Mo_arc_69 : decode b_Mo_arc 69 = .ok (.goto 4, 3) := by decide +kernel
theorem d_Mo_arc_72 : decode b_Mo_arc 72 = .ok (.iconst 0, 1) := by decide +kernel
theorem d_Mo_arc_73 : decode b_Mo_arc 73 = .ok (.iaload, 1) := by decide +kernel
theorem d_Mo_arc_74 : decode b_Mo_arc 74 = .ok (.iaload, 1) := by decide +kernel
theorem d_Mo_arc_75 : decode b_Mo_arc 75 = .ok (.if_icmp .ge 36, 3) := by decide +kernel
theorem d_Mo_arc_78 : decode b_Mo_arc 78 = .ok (.iload 4, 2) := by decide +kernel
theorem d_Mo_arc_80 : decode b_Mo_arc 80 = .ok (.aload_n 0, 1) := by decide +kernel
theorem d_Mo_arc_81 : decode b_Mo_arc 81 = .ok (.getfield 22, 3) := by decide +kernel
theorem d_Mo_arc_84 : decode b_Mo_arc 84 = .ok (.iload 6, 2) := by decide +kernel
theorem d_Mo_arc_86 : decode b_Mo_arc 86 = .ok (.ifCond .ge 7, 3) := by decide +kernel
theorem d_Mo_arc_89 : decode b_Mo_arc 89 = .ok (.iconst 0, 1) := by decide +kernel
theorem d_Mo_arc_90 : decode b_Mo_arc 90 = .ok (.goto 13, 3) := by decide +kernel
theorem d_Mo_arc_93 : decode b_Mo_arc 93 = .ok (.aload_n 0, 1) := by decide +kernel
theorem d_Mo_arc_94 : decode b_Mo_arc 94 = .ok (.getfield 28, 3) := by decide +kernel
theorem d_Mo_arc_97 : decode b_Mo_arc 97 = .ok (.iload 6, 2) := by decide +kernel
theorem d_Mo_arc_99 : decode b_Mo_arc 99 = .ok (.iaload, 1) := by decide +kernel
theorem d_Mo_arc_100 : decode b_Mo_arc 100 = .ok (.bipush 16, 2) := by decide +kernel
theorem d_Mo_arc_102 : decode b_Mo_arc 102 = .ok (.isub, 1) := by decide +kernel
theorem d_Mo_arc_103 : decode b_Mo_arc 103 = .ok (.iaload, 1) := by decide +kernel
theorem d_Mo_arc_104 : decode b_Mo_arc 104 = .ok (.if_icmp .ge 7, 3) := by decide +kernel
theorem d_Mo_arc_107 : decode b_Mo_arc 107 = .ok (.iconst 1, 1) := by decide +kernel
theorem d_Mo_arc_108 : decode b_Mo_arc 108 = .ok (.goto 4, 3) := by decide +kernel
theorem d_Mo_arc_111 : decode b_Mo_arc 111 = .ok (.iconst 0, 1) := by decide +kernel
theorem d_Mo_arc_112 : decode b_Mo_arc 112 = .ok (.istore 7, 2) := by decide +kernel
theorem d_Mo_arc_114 : decode b_Mo_arc 114 = .ok (.aload_n 0, 1) := by decide +kernel
theorem d_Mo_arc_115 : decode b_Mo_arc 115 = .ok (.iload 7, 2) := by decide +kernel
theorem d_Mo_arc_117 : decode b_Mo_arc 117 = .ok (.ifCond .eq 7, 3) := by decide +kernel
theorem d_Mo_arc_120 : decode b_Mo_arc 120 = .ok (.iconst 0, 1) := by decide +kernel
theorem d_Mo_arc_121 : decode b_Mo_arc 121 = .ok (.goto 4, 3) := by decide +kernel
theorem d_Mo_arc_124 : decode b_Mo_arc 124 = .ok (.iconst 1, 1) := by decide +kernel
theorem d_Mo_arc_125 : decode b_Mo_arc 125 = .ok (.putfield 104, 3) := by decide +kernel
theorem d_Mo_arc_128 : decode b_Mo_arc 128 = .ok (.iload 7, 2) := by decide +kernel
theorem d_Mo_arc_130 : decode b_Mo_arc 130 = .ok (.ifCond .eq 16, 3) := by decide +kernel
theorem d_Mo_arc_133 : decode b_Mo_arc 133 = .ok (.aload_n 0, 1) := by decide +kernel
theorem d_Mo_arc_134 : decode b_Mo_arc 134 = .ok (.iload_n 1, 1) := by decide +kernel
theorem d_Mo_arc_135 : decode b_Mo_arc 135 = .ok (.iload 6, 2) := by decide +kernel
theorem d_Mo_arc_137 : decode b_Mo_arc 137 = .ok (.iload_n 3, 1) := by decide +kernel
theorem d_Mo_arc_138 : decode b_Mo_arc 138 = .ok (.iload 4, 2) := by decide +kernel
theorem d_Mo_arc_140 : decode b_Mo_arc 140 = .ok (.invokevirtual 201, 3) := by decide +kernel
theorem d_Mo_arc_143 : decode b_Mo_arc 143 = .ok (.goto 4, 3) := by decide +kernel
theorem d_Mo_arc_146 : decode b_Mo_arc 146 = .ok (.iconst 0, 1) := by decide +kernel
theorem d_Mo_arc_147 : decode b_Mo_arc 147 = .ok (.ireturn, 1) := by decide +kernel
theorem d_Mo_isValue_0 : decode b_Mo_isValue 0 = .ok (.aload_n 0, 1) := by decide +kernel
theorem d_Mo_isValue_1 : decode b_Mo_isValue 1 = .ok (.iconst 0, 1) := by decide +kernel
theorem d_Mo_isValue_2 : decode b_Mo_isValue 2 = .ok (.putfield 104, 3) := by decide +kernel
theorem d_Mo_isValue_5 : decode b_Mo_isValue 5 = .ok (.aload_n 0, 1) := by decide +kernel
theorem d_Mo_isValue_6 : decode b_Mo_isValue 6 = .ok (.iload_n 1, 1) := by decide +kernel
theorem d_Mo_isValue_7 : decode b_Mo_isValue 7 = .ok (.invokevirtual 133, 3) := by decide +kernel
theorem d_Mo_isValue_10 : decode b_Mo_isValue 10 = .ok (.ifCond .eq 33, 3) := by decide +kernel
theorem d_Mo_isValue_13 : decode b_Mo_isValue 13 = .ok (.iload_n 2, 1) := by decide +kernel
theorem d_Mo_isValue_14 : decode b_Mo_isValue 14 = .ok (.iconst 2, 1) := by decide +kernel
theorem d_Mo_isValue_15 : decode b_Mo_isValue 15 = .ok (.invokestatic 108, 3) := by decide +kernel
theorem d_Mo_isValue_18 : decode b_Mo_isValue 18 = .ok (.ifCond .ne 25, 3) := by decide +kernel
theorem d_Mo_isValue_21 : decode b_Mo_isValue 21 = .ok (.aload_n 0, 1) := by decide +kernel
theorem d_Mo_isValue_22 : decode b_Mo_isValue 22 = .ok (.iload_n 1, 1) := by decide +kernel
theorem d_Mo_isValue_23 : decode b_Mo_isValue 23 = .ok (.invokevirtual 228, 3) := by decide +kernel
theorem d_Mo_isValue_26 : decode b_Mo_isValue 26 = .ok (.ifCond .eq 17, 3) := by decide +kernel
theorem d_Mo_isValue_29 : decode b_Mo_isValue 29 = .ok (.aload_n 0, 1) := by decide +kernel
theorem d_Mo_isValue_30 : decode b_Mo_isValue 30 = .ok (.iload_n 1, 1) := by decide +kernel
theorem d_Mo_isValue_31 : decode b_Mo_isValue 31 = .ok (.iload_n 2, 1) := by decide +kernel
theorem d_Mo_isValue_32 : decode b_Mo_isValue 32 = .ok (.iconst 0, 1) := by decide +kernel
theorem d_Mo_isValue_33 : decode b_Mo_isValue 33 = .ok (.invokevirtual 169, 3) := by decide +kernel
theorem d_Mo_isValue_36 : decode b_Mo_isValue 36 = .ok (.ifCond .eq 7, 3) := by decide +kernel
theorem d_Mo_isValue_39 : decode b_Mo_isValue 39 = .ok (.iconst 1, 1) := by decide +kernel
theorem d_Mo_isValue_40 : decode b_Mo_isValue 40 = .ok (.goto 4, 3) := by decide +kernel
theorem d_Mo_isValue_43 : decode b_Mo_isValue 43 = .ok (.iconst 0, 1) := by decide +kernel
theorem d_Mo_isValue_44 : decode b_Mo_isValue 44 = .ok (.ireturn, 1) := by decide +kernel
theorem d_Mo_isClosed_0 : decode b_Mo_isClosed 0 = .ok (.aload_n 0, 1) := by decide +kernel
theorem d_Mo_isClosed_1 : decode b_Mo_isClosed 1 = .ok (.iconst 0, 1) := by decide +kernel
theorem d_Mo_isClosed_2 : decode b_Mo_isClosed 2 = .ok (.putfield 141, 3) := by decide +kernel
theorem d_Mo_isClosed_5 : decode b_Mo_isClosed 5 = .ok (.aload_n 0, 1) := by decide +kernel
theorem d_Mo_isClosed_6 : decode b_Mo_isClosed 6 = .ok (.iload_n 1, 1) := by decide +kernel
theorem d_Mo_isClosed_7 : decode b_Mo_isClosed 7 = .ok (.iconst 0, 1) := by decide +kernel
theorem d_Mo_isClosed_8 : decode b_Mo_isClosed 8 = .ok (.invokevirtual 148, 3) := by decide +kernel
theorem d_Mo_isClosed_11 : decode b_Mo_isClosed 11 = .ok (.aload_n 0, 1) := by decide +kernel
theorem d_Mo_isClosed_12 : decode b_Mo_isClosed 12 = .ok (.getfield 141, 3) := by decide +kernel
theorem d_Mo_isClosed_15 : decode b_Mo_isClosed 15 = .ok (.ifCond .le 55, 3) := by decide +kernel
theorem d_Mo_isClosed_18 : decode b_Mo_isClosed 18 = .ok (.aload_n 0, 1) := by decide +kernel
theorem d_Mo_isClosed_19 : decode b_Mo_isClosed 19 = .ok (.dup, 1) := by decide +kernel
theorem d_Mo_isClosed_20 : decode b_Mo_isClosed 20 = .ok (.getfield 141, 3) := by decide +kernel
theorem d_Mo_isClosed_23 : decode b_Mo_isClosed 23 = .ok (.iconst 1, 1) := by decide +kernel
theorem d_Mo_isClosed_24 : decode b_Mo_isClosed 24 = .ok (.isub, 1) := by decide +kernel
theorem d_Mo_isClosed_25 : decode b_Mo_isClosed 25 = .ok (.putfield 141, 3) := by decide +kernel
theorem d_Mo_isClosed_28 : decode b_Mo_isClosed 28 = .ok (.aload_n 0, 1) := by decide +kernel
theorem d_Mo_isClosed_29 : decode b_Mo_isClosed 29 = .ok (.getfield 58, 3) := by decide +kernel
theorem d_Mo_isClosed_32 : decode b_Mo_isClosed 32 = .ok (.aload_n 0, 1) := by decide +kernel
theorem d_Mo_isClosed_33 : decode b_Mo_isClosed 33 = .ok (.getfield 141, 3) := by decide +kernel
theorem d_Mo_isClosed_36 : decode b_Mo_isClosed 36 = .ok (.iaload, 1) := by decide +kernel
theorem d_Mo_isClosed_37 : decode b_Mo_isClosed 37 = .ok (.istore_n 2, 1) := by decide +kernel
theorem d_Mo_isClosed_38 : decode b_Mo_isClosed 38 = .ok (.aload_n 0, 1) := by decide +kernel
theorem d_Mo_isClosed_39 : decode b_Mo_isClosed 39 = .ok (.getfield 28, 3) := by decide +kernel
theorem d_Mo_isClosed_42 : decode b_Mo_isClosed 42 = .ok (.iload_n 2, 1) := by decide +kernel
theorem d_Mo_isClosed_43 : decode b_Mo_isClosed 43 = .ok (.iaload, 1) := by decide +kernel
theorem d_Mo_isClosed_44 : decode b_Mo_isClosed 44 = .ok (.bipush 8, 2) := by decide +kernel
theorem d_Mo_isClosed_46 : decode b_Mo_isClosed 46 = .ok (.if_icmp .lt 14, 3) := by decide +kernel
theorem d_Mo_isClosed_49 : decode b_Mo_isClosed 49 = .ok (.aload_n 0, 1) := by decide +kernel
theorem d_Mo_isClosed_50 : decode b_Mo_isClosed 50 = .ok (.getfield 28, 3) := by decide +kernel
theorem d_Mo_isClosed_53 : decode b_Mo_isClosed 53 = .ok (.iload_n 2, 1) := by decide +kernel
theorem d_Mo_isClosed_54 : decode b_Mo_isClosed 54 = .ok (.iaload, 1) := by decide +kernel
theorem d_Mo_isClosed_55 : decode b_Mo_isClosed 55 = .ok (.bipush 16, 2) := by decide +kernel
theorem d_Mo_isClosed_57 : decode b_Mo_isClosed 57 = .ok (.if_icmp .lt 5, 3) := by decide +kernel
