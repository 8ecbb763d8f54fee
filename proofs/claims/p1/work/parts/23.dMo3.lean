theorem d_Mo_isClosed_60 : decode b_Mo_isClosed 60 = .ok (.iconst 0, 1) := by decide +kernel
theorem d_Mo_isClosed_61 : decode b_Mo_isClosed 61 = .ok (.ireturn, 1) := by decide +kernel
theorem d_Mo_isClosed_62 : decode b_Mo_isClosed 62 = .ok (.aload_n 0, 1) := by decide +kernel
theorem d_Mo_isClosed_63 : decode b_Mo_isClosed 63 = .ok (.iload_n 2, 1) := by decide +kernel
theorem d_Mo_isClosed_64 : decode b_Mo_isClosed 64 = .ok (.invokevirtual 152, 3) := by decide +kernel
theorem d_Mo_isClosed_67 : decode b_Mo_isClosed 67 = .ok (.goto (-56), 3) := by decide +kernel
theorem d_Mo_isClosed_70 : decode b_Mo_isClosed 70 = .ok (.iconst 1, 1) := by decide +kernel
theorem d_Mo_isClosed_71 : decode b_Mo_isClosed 71 = .ok (.ireturn, 1) := by decide +kernel
theorem d_Mo_run_0 : decode b_Mo_run 0 = .ok (.aload_n 0, 1) := by decide +kernel
theorem d_Mo_run_1 : decode b_Mo_run 1 = .ok (.getfield 123, 3) := by decide +kernel
theorem d_Mo_run_4 : decode b_Mo_run 4 = .ok (.ifCond .eq 19, 3) := by decide +kernel
theorem d_Mo_run_7 : decode b_Mo_run 7 = .ok (.iload_n 1, 1) := by decide +kernel
theorem d_Mo_run_8 : decode b_Mo_run 8 = .ok (.ifCond .lt 15, 3) := by decide +kernel
theorem d_Mo_run_11 : decode b_Mo_run 11 = .ok (.iload_n 1, 1) := by decide +kernel
theorem d_Mo_run_12 : decode b_Mo_run 12 = .ok (.aload_n 0, 1) := by decide +kernel
theorem d_Mo_run_13 : decode b_Mo_run 13 = .ok (.getfield 127, 3) := by decide +kernel
theorem d_Mo_run_16 : decode b_Mo_run 16 = .ok (.if_icmp .ge 7, 3) := by decide +kernel
theorem d_Mo_run_19 : decode b_Mo_run 19 = .ok (.iconst 1, 1) := by decide +kernel
theorem d_Mo_run_20 : decode b_Mo_run 20 = .ok (.goto 4, 3) := by decide +kernel
theorem d_Mo_run_23 : decode b_Mo_run 23 = .ok (.iconst 0, 1) := by decide +kernel
theorem d_Mo_run_24 : decode b_Mo_run 24 = .ok (.istore 5, 2) := by decide +kernel
theorem d_Mo_run_26 : decode b_Mo_run 26 = .ok (.aload_n 0, 1) := by decide +kernel
theorem d_Mo_run_27 : decode b_Mo_run 27 = .ok (.getfield 98, 3) := by decide +kernel
theorem d_Mo_run_30 : decode b_Mo_run 30 = .ok (.iconst 0, 1) := by decide +kernel
theorem d_Mo_run_31 : decode b_Mo_run 31 = .ok (.iload_n 2, 1) := by decide +kernel
theorem d_Mo_run_32 : decode b_Mo_run 32 = .ok (.iastore, 1) := by decide +kernel
theorem d_Mo_run_33 : decode b_Mo_run 33 = .ok (.aload_n 0, 1) := by decide +kernel
theorem d_Mo_run_34 : decode b_Mo_run 34 = .ok (.getfield 98, 3) := by decide +kernel
theorem d_Mo_run_37 : decode b_Mo_run 37 = .ok (.iconst 1, 1) := by decide +kernel
theorem d_Mo_run_38 : decode b_Mo_run 38 = .ok (.iload_n 3, 1) := by decide +kernel
theorem d_Mo_run_39 : decode b_Mo_run 39 = .ok (.iastore, 1) := by decide +kernel
theorem d_Mo_run_40 : decode b_Mo_run 40 = .ok (.aload_n 0, 1) := by decide +kernel
theorem d_Mo_run_41 : decode b_Mo_run 41 = .ok (.getfield 98, 3) := by decide +kernel
theorem d_Mo_run_44 : decode b_Mo_run 44 = .ok (.iconst 2, 1) := by decide +kernel
theorem d_Mo_run_45 : decode b_Mo_run 45 = .ok (.iload 4, 2) := by decide +kernel
theorem d_Mo_run_47 : decode b_Mo_run 47 = .ok (.iastore, 1) := by decide +kernel
theorem d_Mo_run_48 : decode b_Mo_run 48 = .ok (.iconst 0, 1) := by decide +kernel
theorem d_Mo_run_49 : decode b_Mo_run 49 = .ok (.istore 6, 2) := by decide +kernel
theorem d_Mo_run_51 : decode b_Mo_run 51 = .ok (.iload 5, 2) := by decide +kernel
theorem d_Mo_run_53 : decode b_Mo_run 53 = .ok (.ifCond .eq 44, 3) := by decide +kernel
theorem d_Mo_run_56 : decode b_Mo_run 56 = .ok (.iload 6, 2) := by decide +kernel
theorem d_Mo_run_58 : decode b_Mo_run 58 = .ok (.aload_n 0, 1) := by decide +kernel
theorem d_Mo_run_59 : decode b_Mo_run 59 = .ok (.getfield 22, 3) := by decide +kernel
theorem d_Mo_run_62 : decode b_Mo_run 62 = .ok (.iload_n 1, 1) := by decide +kernel
theorem d_Mo_run_63 : decode b_Mo_run 63 = .ok (.iaload, 1) := by decide +kernel
theorem d_Mo_run_64 : decode b_Mo_run 64 = .ok (.if_icmp .ge 33, 3) := by decide +kernel
theorem d_Mo_run_67 : decode b_Mo_run 67 = .ok (.aload_n 0, 1) := by decide +kernel
theorem d_Mo_run_68 : decode b_Mo_run 68 = .ok (.aload_n 0, 1) := by decide +kernel
theorem d_Mo_run_69 : decode b_Mo_run 69 = .ok (.getfield 98, 3) := by decide +kernel
theorem d_Mo_run_72 : decode b_Mo_run 72 = .ok (.iload 6, 2) := by decide +kernel
theorem d_Mo_run_74 : decode b_Mo_run 74 = .ok (.iaload, 1) := by decide +kernel
theorem d_Mo_run_75 : decode b_Mo_run 75 = .ok (.aload_n 0, 1) := by decide +kernel
theorem d_Mo_run_76 : decode b_Mo_run 76 = .ok (.getfield 25, 3) := by decide +kernel
theorem d_Mo_run_79 : decode b_Mo_run 79 = .ok (.iconst 3, 1) := by decide +kernel
theorem d_Mo_run_80 : decode b_Mo_run 80 = .ok (.iload_n 1, 1) := by decide +kernel
theorem d_Mo_run_81 : decode b_Mo_run 81 = .ok (.imul, 1) := by decide +kernel
theorem d_Mo_run_82 : decode b_Mo_run 82 = .ok (.iload 6, 2) := by decide +kernel
theorem d_Mo_run_84 : decode b_Mo_run 84 = .ok (.iadd, 1) := by decide +kernel
theorem d_Mo_run_85 : decode b_Mo_run 85 = .ok (.iaload, 1) := by decide +kernel
theorem d_Mo_run_86 : decode b_Mo_run 86 = .ok (.invokevirtual 265, 3) := by decide +kernel
theorem d_Mo_run_89 : decode b_Mo_run 89 = .ok (.istore 5, 2) := by decide +kernel
theorem d_Mo_run_91 : decode b_Mo_run 91 = .ok (.iinc 6 1, 3) := by decide +kernel
theorem d_Mo_run_94 : decode b_Mo_run 94 = .ok (.goto (-43), 3) := by decide +kernel
theorem d_Mo_run_97 : decode b_Mo_run 97 = .ok (.aload_n 0, 1) := by decide +kernel
theorem d_Mo_run_98 : decode b_Mo_run 98 = .ok (.aload_n 0, 1) := by decide +kernel
theorem d_Mo_run_99 : decode b_Mo_run 99 = .ok (.getfield 123, 3) := by decide +kernel
theorem d_Mo_run_102 : decode b_Mo_run 102 = .ok (.ifCond .ne 7, 3) := by decide +kernel
theorem d_Mo_run_105 : decode b_Mo_run 105 = .ok (.iconst 1, 1) := by decide +kernel
theorem d_Mo_run_106 : decode b_Mo_run 106 = .ok (.goto 13, 3) := by decide +kernel
theorem d_Mo_run_109 : decode b_Mo_run 109 = .ok (.iload 5, 2) := by decide +kernel
theorem d_Mo_run_111 : decode b_Mo_run 111 = .ok (.ifCond .ne 7, 3) := by decide +kernel
theorem d_Mo_run_114 : decode b_Mo_run 114 = .ok (.iconst 2, 1) := by decide +kernel
theorem d_Mo_run_115 : decode b_Mo_run 115 = .ok (.goto 4, 3) := by decide +kernel
theorem d_Mo_run_118 : decode b_Mo_run 118 = .ok (.iconst 0, 1) := by decide +kernel
theorem d_Mo_run_119 : decode b_Mo_run 119 = .ok (.putfield 104, 3) := by decide +kernel
theorem d_Mo_run_122 : decode b_Mo_run 122 = .ok (.aload_n 0, 1) := by decide +kernel
theorem d_Mo_run_123 : decode b_Mo_run 123 = .ok (.getfield 104, 3) := by decide +kernel
theorem d_Mo_run_126 : decode b_Mo_run 126 = .ok (.ifCond .eq 5, 3) := by decide +kernel
theorem d_Mo_run_129 : decode b_Mo_run 129 = .ok (.iconst 0, 1) := by decide +kernel
theorem d_Mo_run_130 : decode b_Mo_run 130 = .ok (.ireturn, 1) := by decide +kernel
theorem d_Mo_run_131 : decode b_Mo_run 131 = .ok (.aload_n 0, 1) := by decide +kernel
theorem d_Mo_run_132 : decode b_Mo_run 132 = .ok (.iconst 0, 1) := by decide +kernel
theorem d_Mo_run_133 : decode b_Mo_run 133 = .ok (.putfield 237, 3) := by decide +kernel
theorem d_Mo_run_136 : decode b_Mo_run 136 = .ok (.aload_n 0, 1) := by decide +kernel
theorem d_Mo_run_137 : decode b_Mo_run 137 = .ok (.iconst 0, 1) := by decide +kernel
theorem d_Mo_run_138 : decode b_Mo_run 138 = .ok (.putfield 234, 3) := by decide +kernel
theorem d_Mo_run_141 : decode b_Mo_run 141 = .ok (.aload_n 0, 1) := by decide +kernel
theorem d_Mo_run_142 : decode b_Mo_run 142 = .ok (.iconst 0, 1) := by decide +kernel
theorem d_Mo_run_143 : decode b_Mo_run 143 = .ok (.putfield 256, 3) := by decide +kernel
theorem d_Mo_run_146 : decode b_Mo_run 146 = .ok (.aload_n 0, 1) := by decide +kernel
theorem d_Mo_run_147 : decode b_Mo_run 147 = .ok (.iconst 0, 1) := by decide +kernel
theorem d_Mo_run_148 : decode b_Mo_run 148 = .ok (.putfield 243, 3) := by decide +kernel
theorem d_Mo_run_151 : decode b_Mo_run 151 = .ok (.aload_n 0, 1) := by decide +kernel
theorem d_Mo_run_152 : decode b_Mo_run 152 = .ok (.iconst 0, 1) := by decide +kernel
theorem d_Mo_run_153 : decode b_Mo_run 153 = .ok (.putfield 262, 3) := by decide +kernel
theorem d_Mo_run_156 : decode b_Mo_run 156 = .ok (.iconst 0, 1) := by decide +kernel
theorem d_Mo_run_157 : decode b_Mo_run 157 = .ok (.istore 6, 2) := by decide +kernel
theorem d_Mo_run_159 : decode b_Mo_run 159 = .ok (.iload 6, 2) := by decide +kernel
theorem d_Mo_run_161 : decode b_Mo_run 161 = .ok (.aload_n 0, 1) := by decide +kernel
theorem d_Mo_run_162 : decode b_Mo_run 162 = .ok (.getfield 22, 3) := by decide +kernel
theorem d_Mo_run_165 : decode b_Mo_run 165 = .ok (.iload_n 1, 1) := by decide +kernel
theorem d_Mo_run_166 : decode b_Mo_run 166 = .ok (.iaload, 1) := by decide +kernel
theorem d_Mo_run_167 : decode b_Mo_run 167 = .ok (.if_icmp .ge 20, 3) := by decide +kernel
theorem d_Mo_run_170 : decode b_Mo_run 170 = .ok (.aload_n 0, 1) := by decide +kernel
theorem d_Mo_run_171 : decode b_Mo_run 171 = .ok (.aload_n 0, 1) := by decide +kernel
theorem d_Mo_run_172 : decode b_Mo_run 172 = .ok (.getfield 98, 3) := by decide +kernel
theorem d_Mo_run_175 : decode b_Mo_run 175 = .ok (.iload 6, 2) := by decide +kernel
theorem d_Mo_run_177 : decode b_Mo_run 177 = .ok (.iaload, 1) := by decide +kernel
theorem d_Mo_run_178 : decode b_Mo_run 178 = .ok (.invokevirtual 268, 3) := by decide +kernel
theorem d_Mo_run_181 : decode b_Mo_run 181 = .ok (.iinc 6 1, 3) := by decide +kernel
theorem d_Mo_run_184 : decode b_Mo_run 184 = .ok (.goto (-25), 3) := by decide +kernel
theorem d_Mo_run_187 : decode b_Mo_run 187 = .ok (.aload_n 0, 1) := by decide +kernel
theorem d_Mo_run_188 : decode b_Mo_run 188 = .ok (.iconst 0, 1) := by decide +kernel
theorem d_Mo_run_189 : decode b_Mo_run 189 = .ok (.putfield 231, 3) := by decide +kernel
theorem d_Mo_run_192 : decode b_Mo_run 192 = .ok (.aload_n 0, 1) := by decide +kernel
theorem d_Mo_run_193 : decode b_Mo_run 193 = .ok (.bipush (-11), 2) := by decide +kernel
theorem d_Mo_run_195 : decode b_Mo_run 195 = .ok (.iload_n 1, 1) := by decide +kernel
theorem d_Mo_run_196 : decode b_Mo_run 196 = .ok (.isub, 1) := by decide +kernel
theorem d_Mo_run_197 : decode b_Mo_run 197 = .ok (.iconst 0, 1) := by decide +kernel
theorem d_Mo_run_198 : decode b_Mo_run 198 = .ok (.invokevirtual 240, 3) := by decide +kernel
theorem d_Mo_run_201 : decode b_Mo_run 201 = .ok (.aload_n 0, 1) := by decide +kernel
theorem d_Mo_run_202 : decode b_Mo_run 202 = .ok (.invokevirtual 271, 3) := by decide +kernel
theorem d_Mo_run_205 : decode b_Mo_run 205 = .ok (.ifCond .eq 13, 3) := by decide +kernel
theorem d_Mo_run_208 : decode b_Mo_run 208 = .ok (.aload_n 0, 1) := by decide +kernel
theorem d_Mo_run_209 : decode b_Mo_run 209 = .ok (.aload_n 0, 1) := by decide +kernel
theorem d_Mo_run_210 : decode b_Mo_run 210 = .ok (.getfield 92, 3) := by decide +kernel
theorem d_Mo_run_213 : decode b_Mo_run 213 = .ok (.iconst 0, 1) := by decide +kernel
theorem d_Mo_run_214 : decode b_Mo_run 214 = .ok (.iaload, 1) := by decide +kernel
theorem d_Mo_run_215 : decode b_Mo_run 215 = .ok (.invokevirtual 274, 3) := by decide +kernel
theorem d_Mo_run_218 : decode b_Mo_run 218 = .ok (.aload_n 0, 1) := by decide +kernel
theorem d_Mo_run_219 : decode b_Mo_run 219 = .ok (.getfield 262, 3) := by decide +kernel
theorem d_Mo_run_222 : decode b_Mo_run 222 = .ok (.ireturn, 1) := by decide +kernel
theorem d_Mo_give_0 : decode b_Mo_give 0 = .ok (.aload_n 0, 1) := by decide +kernel
theorem d_Mo_give_1 : decode b_Mo_give 1 = .ok (.iconst 0, 1) := by decide +kernel
theorem d_Mo_give_2 : decode b_Mo_give 2 = .ok (.putfield 231, 3) := by decide +kernel
theorem d_Mo_give_5 : decode b_Mo_give 5 = .ok (.aload_n 0, 1) := by decide +kernel
theorem d_Mo_give_6 : decode b_Mo_give 6 = .ok (.iload_n 1, 1) := by decide +kernel
theorem d_Mo_give_7 : decode b_Mo_give 7 = .ok (.iconst 0, 1) := by decide +kernel
theorem d_Mo_give_8 : decode b_Mo_give 8 = .ok (.invokevirtual 240, 3) := by decide +kernel
theorem d_Mo_give_11 : decode b_Mo_give 11 = .ok (.aload_n 0, 1) := by decide +kernel
theorem d_Mo_give_12 : decode b_Mo_give 12 = .ok (.getfield 231, 3) := by decide +kernel
theorem d_Mo_give_15 : decode b_Mo_give 15 = .ok (.ifCond .le 46, 3) := by decide +kernel
theorem d_Mo_give_18 : decode b_Mo_give 18 = .ok (.aload_n 0, 1) := by decide +kernel
theorem d_Mo_give_19 : decode b_Mo_give 19 = .ok (.dup, 1) := by decide +kernel
theorem d_Mo_give_20 : decode b_Mo_give 20 = .ok (.getfield 231, 3) := by decide +kernel
theorem d_Mo_give_23 : decode b_Mo_give 23 = .ok (.iconst 1, 1) := by decide +kernel
theorem d_Mo_give_24 : decode b_Mo_give 24 = .ok (.isub, 1) := by decide +kernel
theorem d_Mo_give_25 : decode b_Mo_give 25 = .ok (.putfield 231, 3) := by decide +kernel
theorem d_Mo_give_28 : decode b_Mo_give 28 = .ok (.aload_n 0, 1) := by decide +kernel
theorem d_Mo_give_29 : decode b_Mo_give 29 = .ok (.getfield 86, 3) := by decide +kernel
theorem d_Mo_give_32 : decode b_Mo_give 32 = .ok (.aload_n 0, 1) := by decide +kernel
theorem d_Mo_give_33 : decode b_Mo_give 33 = .ok (.getfield 231, 3) := by decide +kernel
theorem d_Mo_give_36 : decode b_Mo_give 36 = .ok (.iaload, 1) := by decide +kernel
theorem d_Mo_give_37 : decode b_Mo_give 37 = .ok (.istore_n 2, 1) := by decide +kernel
theorem d_Mo_give_38 : decode b_Mo_give 38 = .ok (.iload_n 2, 1) := by decide +kernel
theorem d_Mo_give_39 : decode b_Mo_give 39 = .ok (.ifCond .lt 12, 3) := by decide +kernel
theorem d_Mo_give_42 : decode b_Mo_give 42 = .ok (.aload_n 0, 1) := by decide +kernel
theorem d_Mo_give_43 : decode b_Mo_give 43 = .ok (.iload_n 2, 1) := by decide +kernel
theorem d_Mo_give_44 : decode b_Mo_give 44 = .ok (.iconst 0, 1) := by decide +kernel
theorem d_Mo_give_45 : decode b_Mo_give 45 = .ok (.invokevirtual 250, 3) := by decide +kernel
theorem d_Mo_give_48 : decode b_Mo_give 48 = .ok (.goto 10, 3) := by decide +kernel
theorem d_Mo_give_51 : decode b_Mo_give 51 = .ok (.aload_n 0, 1) := by decide +kernel
theorem d_Mo_give_52 : decode b_Mo_give 52 = .ok (.iconst (-1), 1) := by decide +kernel
theorem d_Mo_give_53 : decode b_Mo_give 53 = .ok (.iload_n 2, 1) := by decide +kernel
theorem d_Mo_give_54 : decode b_Mo_give 54 = .ok (.isub, 1) := by decide +kernel
theorem d_Mo_give_55 : decode b_Mo_give 55 = .ok (.invokevirtual 259, 3) := by decide +kernel
theorem d_Mo_give_58 : decode b_Mo_give 58 = .ok (.goto (-47), 3) := by decide +kernel
theorem d_Mo_give_61 : decode b_Mo_give 61 = .ok (.return_, 1) := by decide +kernel
theorem d_Mo_doLater_0 : decode b_Mo_doLater 0 = .ok (.aload_n 0, 1) := by decide +kernel
theorem d_Mo_doLater_1 : decode b_Mo_doLater 1 = .ok (.getfield 86, 3) := by decide +kernel
theorem d_Mo_doLater_4 : decode b_Mo_doLater 4 = .ok (.aload_n 0, 1) := by decide +kernel
theorem d_Mo_doLater_5 : decode b_Mo_doLater 5 = .ok (.getfield 231, 3) := by decide +kernel
theorem d_Mo_doLater_8 : decode b_Mo_doLater 8 = .ok (.iload_n 1, 1) := by decide +kernel
theorem d_Mo_doLater_9 : decode b_Mo_doLater 9 = .ok (.iastore, 1) := by decide +kernel
theorem d_Mo_doLater_10 : decode b_Mo_doLater 10 = .ok (.aload_n 0, 1) := by decide +kernel
theorem d_Mo_doLater_11 : decode b_Mo_doLater 11 = .ok (.getfield 89, 3) := by decide +kernel
theorem d_Mo_doLater_14 : decode b_Mo_doLater 14 = .ok (.aload_n 0, 1) := by decide +kernel
theorem d_Mo_doLater_15 : decode b_Mo_doLater 15 = .ok (.getfield 231, 3) := by decide +kernel
theorem d_Mo_doLater_18 : decode b_Mo_doLater 18 = .ok (.iload_n 2, 1) := by decide +kernel
theorem d_Mo_doLater_19 : decode b_Mo_doLater 19 = .ok (.iastore, 1) := by decide +kernel
theorem d_Mo_doLater_20 : decode b_Mo_doLater 20 = .ok (.aload_n 0, 1) := by decide +kernel
theorem d_Mo_doLater_21 : decode b_Mo_doLater 21 = .ok (.dup, 1) := by decide +kernel
theorem d_Mo_doLater_22 : decode b_Mo_doLater 22 = .ok (.getfield 231, 3) := by decide +kernel
theorem d_Mo_doLater_25 : decode b_Mo_doLater 25 = .ok (.iconst 1, 1) := by decide +kernel
theorem d_Mo_doLater_26 : decode b_Mo_doLater 26 = .ok (.iadd, 1) := by decide +kernel
theorem d_Mo_doLater_27 : decode b_Mo_doLater 27 = .ok (.putfield 231, 3) := by decide +kernel
theorem d_Mo_doLater_30 : decode b_Mo_doLater 30 = .ok (.return_, 1) := by decide +kernel
theorem d_Mo_evaluate_0 : decode b_Mo_evaluate 0 = .ok (.aload_n 0, 1) := by decide +kernel
theorem d_Mo_evaluate_1 : decode b_Mo_evaluate 1 = .ok (.getfield 28, 3) := by decide +kernel
theorem d_Mo_evaluate_4 : decode b_Mo_evaluate 4 = .ok (.iload_n 1, 1) := by decide +kernel
theorem d_Mo_evaluate_5 : decode b_Mo_evaluate 5 = .ok (.iaload, 1) := by decide +kernel
theorem d_Mo_evaluate_6 : decode b_Mo_evaluate 6 = .ok (.istore_n 3, 1) := by decide +kernel
theorem d_Mo_evaluate_7 : decode b_Mo_evaluate 7 = .ok (.iload_n 3, 1) := by decide +kernel
theorem d_Mo_evaluate_8 : decode b_Mo_evaluate 8 = .ok (.bipush 8, 2) := by decide +kernel
theorem d_Mo_evaluate_10 : decode b_Mo_evaluate 10 = .ok (.if_icmp .ge 34, 3) := by decide +kernel
theorem d_Mo_evaluate_13 : decode b_Mo_evaluate 13 = .ok (.aload_n 0, 1) := by decide +kernel
theorem d_Mo_evaluate_14 : decode b_Mo_evaluate 14 = .ok (.getfield 92, 3) := by decide +kernel
theorem d_Mo_evaluate_17 : decode b_Mo_evaluate 17 = .ok (.aload_n 0, 1) := by decide +kernel
theorem d_Mo_evaluate_18 : decode b_Mo_evaluate 18 = .ok (.getfield 234, 3) := by decide +kernel
theorem d_Mo_evaluate_21 : decode b_Mo_evaluate 21 = .ok (.aload_n 0, 1) := by decide +kernel
theorem d_Mo_evaluate_22 : decode b_Mo_evaluate 22 = .ok (.getfield 95, 3) := by decide +kernel
theorem d_Mo_evaluate_25 : decode b_Mo_evaluate 25 = .ok (.bipush 8, 2) := by decide +kernel
theorem d_Mo_evaluate_27 : decode b_Mo_evaluate 27 = .ok (.iload_n 2, 1) := by decide +kernel
theorem d_Mo_evaluate_28 : decode b_Mo_evaluate 28 = .ok (.imul, 1) := by decide +kernel
theorem d_Mo_evaluate_29 : decode b_Mo_evaluate 29 = .ok (.iload_n 3, 1) := by decide +kernel
theorem d_Mo_evaluate_30 : decode b_Mo_evaluate 30 = .ok (.iadd, 1) := by decide +kernel
theorem d_Mo_evaluate_31 : decode b_Mo_evaluate 31 = .ok (.iaload, 1) := by decide +kernel
theorem d_Mo_evaluate_32 : decode b_Mo_evaluate 32 = .ok (.iastore, 1) := by decide +kernel
theorem d_Mo_evaluate_33 : decode b_Mo_evaluate 33 = .ok (.aload_n 0, 1) := by decide +kernel
theorem d_Mo_evaluate_34 : decode b_Mo_evaluate 34 = .ok (.dup, 1) := by decide +kernel
theorem d_Mo_evaluate_35 : decode b_Mo_evaluate 35 = .ok (.getfield 234, 3) := by decide +kernel
theorem d_Mo_evaluate_38 : decode b_Mo_evaluate 38 = .ok (.iconst 1, 1) := by decide +kernel
theorem d_Mo_evaluate_39 : decode b_Mo_evaluate 39 = .ok (.iadd, 1) := by decide +kernel
theorem d_Mo_evaluate_40 : decode b_Mo_evaluate 40 = .ok (.putfield 234, 3) := by decide +kernel
theorem d_Mo_evaluate_43 : decode b_Mo_evaluate 43 = .ok (.return_, 1) := by decide +kernel
theorem d_Mo_evaluate_44 : decode b_Mo_evaluate 44 = .ok (.aload_n 0, 1) := by decide +kernel
theorem d_Mo_evaluate_45 : decode b_Mo_evaluate 45 = .ok (.iload_n 3, 1) := by decide +kernel
theorem d_Mo_evaluate_46 : decode b_Mo_evaluate 46 = .ok (.bipush 16, 2) := by decide +kernel
theorem d_Mo_evaluate_48 : decode b_Mo_evaluate 48 = .ok (.if_icmp .ge 12, 3) := by decide +kernel
theorem d_Mo_evaluate_51 : decode b_Mo_evaluate 51 = .ok (.iconst (-1), 1) := by decide +kernel
theorem d_Mo_evaluate_52 : decode b_Mo_evaluate 52 = .ok (.iload_n 3, 1) := by decide +kernel
theorem d_Mo_evaluate_53 : decode b_Mo_evaluate 53 = .ok (.bipush 8, 2) := by decide +kernel
theorem d_Mo_evaluate_55 : decode b_Mo_evaluate 55 = .ok (.isub, 1) := by decide +kernel
theorem d_Mo_evaluate_56 : decode b_Mo_evaluate 56 = .ok (.isub, 1) := by decide +kernel
theorem d_Mo_evaluate_57 : decode b_Mo_evaluate 57 = .ok (.goto 10, 3) := by decide +kernel
theorem d_Mo_evaluate_60 : decode b_Mo_evaluate 60 = .ok (.bipush (-11), 2) := by decide +kernel
theorem d_Mo_evaluate_62 : decode b_Mo_evaluate 62 = .ok (.iload_n 3, 1) := by decide +kernel
theorem d_Mo_evaluate_63 : decode b_Mo_evaluate 63 = .ok (.bipush 16, 2) := by decide +kernel
theorem d_Mo_evaluate_65 : decode b_Mo_evaluate 65 = .ok (.isub, 1) := by decide +kernel
theorem d_Mo_evaluate_66 : decode b_Mo_evaluate 66 = .ok (.isub, 1) := by decide +kernel
theorem d_Mo_evaluate_67 : decode b_Mo_evaluate 67 = .ok (.iload_n 2, 1) := by decide +kernel
theorem d_Mo_evaluate_68 : decode b_Mo_evaluate 68 = .ok (.invokevirtual 240, 3) := by decide +kernel
theorem d_Mo_evaluate_71 : decode b_Mo_evaluate 71 = .ok (.aload_n 0, 1) := by decide +kernel
theorem d_Mo_evaluate_72 : decode b_Mo_evaluate 72 = .ok (.iload_n 1, 1) := by decide +kernel
theorem d_Mo_evaluate_73 : decode b_Mo_evaluate 73 = .ok (.invokevirtual 144, 3) := by decide +kernel
theorem d_Mo_evaluate_76 : decode b_Mo_evaluate 76 = .ok (.iconst 1, 1) := by decide +kernel
theorem d_Mo_evaluate_77 : decode b_Mo_evaluate 77 = .ok (.isub, 1) := by decide +kernel
theorem d_Mo_evaluate_78 : decode b_Mo_evaluate 78 = .ok (.istore 4, 2) := by decide +kernel
theorem d_Mo_evaluate_80 : decode b_Mo_evaluate 80 = .ok (.iload 4, 2) := by decide +kernel
theorem d_Mo_evaluate_82 : decode b_Mo_evaluate 82 = .ok (.ifCond .lt 25, 3) := by decide +kernel
theorem d_Mo_evaluate_85 : decode b_Mo_evaluate 85 = .ok (.aload_n 0, 1) := by decide +kernel
theorem d_Mo_evaluate_86 : decode b_Mo_evaluate 86 = .ok (.aload_n 0, 1) := by decide +kernel
theorem d_Mo_evaluate_87 : decode b_Mo_evaluate 87 = .ok (.getfield 31, 3) := by decide +kernel
theorem d_Mo_evaluate_90 : decode b_Mo_evaluate 90 = .ok (.iconst 3, 1) := by decide +kernel
theorem d_Mo_evaluate_91 : decode b_Mo_evaluate 91 = .ok (.iload_n 1, 1) := by decide +kernel
theorem d_Mo_evaluate_92 : decode b_Mo_evaluate 92 = .ok (.imul, 1) := by decide +kernel
theorem d_Mo_evaluate_93 : decode b_Mo_evaluate 93 = .ok (.iload 4, 2) := by decide +kernel
theorem d_Mo_evaluate_95 : decode b_Mo_evaluate 95 = .ok (.iadd, 1) := by decide +kernel
theorem d_Mo_evaluate_96 : decode b_Mo_evaluate 96 = .ok (.iaload, 1) := by decide +kernel
theorem d_Mo_evaluate_97 : decode b_Mo_evaluate 97 = .ok (.iload_n 2, 1) := by decide +kernel
theorem d_Mo_evaluate_98 : decode b_Mo_evaluate 98 = .ok (.invokevirtual 240, 3) := by decide +kernel
theorem d_Mo_evaluate_101 : decode b_Mo_evaluate 101 = .ok (.iinc 4 (-1), 3) := by decide +kernel
theorem d_Mo_evaluate_104 : decode b_Mo_evaluate 104 = .ok (.goto (-24), 3) := by decide +kernel
theorem d_Mo_evaluate_107 : decode b_Mo_evaluate 107 = .ok (.return_, 1) := by decide +kernel
theorem d_Mo_hold_0 : decode b_Mo_hold 0 = .ok (.aload_n 0, 1) := by decide +kernel
theorem d_Mo_hold_1 : decode b_Mo_hold 1 = .ok (.getfield 13, 3) := by decide +kernel
theorem d_Mo_hold_4 : decode b_Mo_hold 4 = .ok (.iload_n 1, 1) := by decide +kernel
theorem d_Mo_hold_5 : decode b_Mo_hold 5 = .ok (.iaload, 1) := by decide +kernel
theorem d_Mo_hold_6 : decode b_Mo_hold 6 = .ok (.istore_n 2, 1) := by decide +kernel
theorem d_Mo_hold_7 : decode b_Mo_hold 7 = .ok (.iconst 1, 1) := by decide +kernel
theorem d_Mo_hold_8 : decode b_Mo_hold 8 = .ok (.istore_n 3, 1) := by decide +kernel
theorem d_Mo_hold_9 : decode b_Mo_hold 9 = .ok (.iconst 0, 1) := by decide +kernel
theorem d_Mo_hold_10 : decode b_Mo_hold 10 = .ok (.istore 4, 2) := by decide +kernel
theorem d_Mo_hold_12 : decode b_Mo_hold 12 = .ok (.iload 4, 2) := by decide +kernel
theorem d_Mo_hold_14 : decode b_Mo_hold 14 = .ok (.iload_n 2, 1) := by decide +kernel
theorem d_Mo_hold_15 : decode b_Mo_hold 15 = .ok (.if_icmp .ge 51, 3) := by decide +kernel
theorem d_Mo_hold_18 : decode b_Mo_hold 18 = .ok (.aload_n 0, 1) := by decide +kernel
theorem d_Mo_hold_19 : decode b_Mo_hold 19 = .ok (.getfield 92, 3) := by decide +kernel
theorem d_Mo_hold_22 : decode b_Mo_hold 22 = .ok (.aload_n 0, 1) := by decide +kernel
theorem d_Mo_hold_23 : decode b_Mo_hold 23 = .ok (.getfield 234, 3) := by decide +kernel
theorem d_Mo_hold_26 : decode b_Mo_hold 26 = .ok (.iload_n 2, 1) := by decide +kernel
theorem d_Mo_hold_27 : decode b_Mo_hold 27 = .ok (.isub, 1) := by decide +kernel
theorem d_Mo_hold_28 : decode b_Mo_hold 28 = .ok (.iload 4, 2) := by decide +kernel
theorem d_Mo_hold_30 : decode b_Mo_hold 30 = .ok (.iadd, 1) := by decide +kernel
theorem d_Mo_hold_31 : decode b_Mo_hold 31 = .ok (.iaload, 1) := by decide +kernel
theorem d_Mo_hold_32 : decode b_Mo_hold 32 = .ok (.istore 5, 2) := by decide +kernel
theorem d_Mo_hold_34 : decode b_Mo_hold 34 = .ok (.aload_n 0, 1) := by decide +kernel
theorem d_Mo_hold_35 : decode b_Mo_hold 35 = .ok (.getfield 80, 3) := by decide +kernel
theorem d_Mo_hold_38 : decode b_Mo_hold 38 = .ok (.iconst 3, 1) := by decide +kernel
theorem d_Mo_hold_39 : decode b_Mo_hold 39 = .ok (.aload_n 0, 1) := by decide +kernel
theorem d_Mo_hold_40 : decode b_Mo_hold 40 = .ok (.getfield 237, 3) := by decide +kernel
theorem d_Mo_hold_43 : decode b_Mo_hold 43 = .ok (.imul, 1) := by decide +kernel
theorem d_Mo_hold_44 : decode b_Mo_hold 44 = .ok (.iload 4, 2) := by decide +kernel
theorem d_Mo_hold_46 : decode b_Mo_hold 46 = .ok (.iadd, 1) := by decide +kernel
theorem d_Mo_hold_47 : decode b_Mo_hold 47 = .ok (.iload 5, 2) := by decide +kernel
theorem d_Mo_hold_49 : decode b_Mo_hold 49 = .ok (.iastore, 1) := by decide +kernel
theorem d_Mo_hold_50 : decode b_Mo_hold 50 = .ok (.iload_n 3, 1) := by decide +kernel
theorem d_Mo_hold_51 : decode b_Mo_hold 51 = .ok (.aload_n 0, 1) := by decide +kernel
theorem d_Mo_hold_52 : decode b_Mo_hold 52 = .ok (.getfield 83, 3) := by decide +kernel
theorem d_Mo_hold_55 : decode b_Mo_hold 55 = .ok (.iload 5, 2) := by decide +kernel
theorem d_Mo_hold_57 : decode b_Mo_hold 57 = .ok (.iaload, 1) := by decide +kernel
theorem d_Mo_hold_58 : decode b_Mo_hold 58 = .ok (.iadd, 1) := by decide +kernel
theorem d_Mo_hold_59 : decode b_Mo_hold 59 = .ok (.istore_n 3, 1) := by decide +kernel
theorem d_Mo_hold_60 : decode b_Mo_hold 60 = .ok (.iinc 4 1, 3) := by decide +kernel
theorem d_Mo_hold_63 : decode b_Mo_hold 63 = .ok (.goto (-51), 3) := by decide +kernel
theorem d_Mo_hold_66 : decode b_Mo_hold 66 = .ok (.aload_n 0, 1) := by decide +kernel
theorem d_Mo_hold_67 : decode b_Mo_hold 67 = .ok (.dup, 1) := by decide +kernel
theorem d_Mo_hold_68 : decode b_Mo_hold 68 = .ok (.getfield 234, 3) := by decide +kernel
theorem d_Mo_hold_71 : decode b_Mo_hold 71 = .ok (.iload_n 2, 1) := by decide +kernel
theorem d_Mo_hold_72 : decode b_Mo_hold 72 = .ok (.isub, 1) := by decide +kernel
theorem d_Mo_hold_73 : decode b_Mo_hold 73 = .ok (.putfield 234, 3) := by decide +kernel
theorem d_Mo_hold_76 : decode b_Mo_hold 76 = .ok (.aload_n 0, 1) := by decide +kernel
theorem d_Mo_hold_77 : decode b_Mo_hold 77 = .ok (.getfield 77, 3) := by decide +kernel
theorem d_Mo_hold_80 : decode b_Mo_hold 80 = .ok (.aload_n 0, 1) := by decide +kernel
theorem d_Mo_hold_81 : decode b_Mo_hold 81 = .ok (.getfield 237, 3) := by decide +kernel
theorem d_Mo_hold_84 : decode b_Mo_hold 84 = .ok (.iload_n 1, 1) := by decide +kernel
theorem d_Mo_hold_85 : decode b_Mo_hold 85 = .ok (.iastore, 1) := by decide +kernel
theorem d_Mo_hold_86 : decode b_Mo_hold 86 = .ok (.aload_n 0, 1) := by decide +kernel
theorem d_Mo_hold_87 : decode b_Mo_hold 87 = .ok (.getfield 83, 3) := by decide +kernel
theorem d_Mo_hold_90 : decode b_Mo_hold 90 = .ok (.aload_n 0, 1) := by decide +kernel
theorem d_Mo_hold_91 : decode b_Mo_hold 91 = .ok (.getfield 237, 3) := by decide +kernel
theorem d_Mo_hold_94 : decode b_Mo_hold 94 = .ok (.iload_n 3, 1) := by decide +kernel
theorem d_Mo_hold_95 : decode b_Mo_hold 95 = .ok (.iastore, 1) := by decide +kernel
theorem d_Mo_hold_96 : decode b_Mo_hold 96 = .ok (.aload_n 0, 1) := by decide +kernel
theorem d_Mo_hold_97 : decode b_Mo_hold 97 = .ok (.getfield 92, 3) := by decide +kernel
theorem d_Mo_hold_100 : decode b_Mo_hold 100 = .ok (.aload_n 0, 1) := by decide +kernel
theorem d_Mo_hold_101 : decode b_Mo_hold 101 = .ok (.getfield 234, 3) := by decide +kernel
theorem d_Mo_hold_104 : decode b_Mo_hold 104 = .ok (.aload_n 0, 1) := by decide +kernel
theorem d_Mo_hold_105 : decode b_Mo_hold 105 = .ok (.getfield 237, 3) := by decide +kernel
theorem d_Mo_hold_108 : decode b_Mo_hold 108 = .ok (.iastore, 1) := by decide +kernel
theorem d_Mo_hold_109 : decode b_Mo_hold 109 = .ok (.aload_n 0, 1) := by decide +kernel
theorem d_Mo_hold_110 : decode b_Mo_hold 110 = .ok (.dup, 1) := by decide +kernel
theorem d_Mo_hold_111 : decode b_Mo_hold 111 = .ok (.getfield 234, 3) := by decide +kernel
theorem d_Mo_hold_114 : decode b_Mo_hold 114 = .ok (.iconst 1, 1) := by decide +kernel
theorem d_Mo_hold_115 : decode b_Mo_hold 115 = .ok (.iadd, 1) := by decide +kernel
theorem d_Mo_hold_116 : decode b_Mo_hold 116 = .ok (.putfield 234, 3) := by decide +kernel
theorem d_Mo_hold_119 : decode b_Mo_hold 119 = .ok (.aload_n 0, 1) := by decide +kernel
theorem d_Mo_hold_120 : decode b_Mo_hold 120 = .ok (.dup, 1) := by decide +kernel
theorem d_Mo_hold_121 : decode b_Mo_hold 121 = .ok (.getfield 237, 3) := by decide +kernel
theorem d_Mo_hold_124 : decode b_Mo_hold 124 = .ok (.iconst 1, 1) := by decide +kernel
theorem d_Mo_hold_125 : decode b_Mo_hold 125 = .ok (.iadd, 1) := by decide +kernel
theorem d_Mo_hold_126 : decode b_Mo_hold 126 = .ok (.putfield 237, 3) := by decide +kernel
theorem d_Mo_hold_129 : decode b_Mo_hold 129 = .ok (.return_, 1) := by decide +kernel
theorem d_Mo_finished_0 : decode b_Mo_finished 0 = .ok (.aload_n 0, 1) := by decide +kernel
theorem d_Mo_finished_1 : decode b_Mo_finished 1 = .ok (.getfield 231, 3) := by decide +kernel
theorem d_Mo_finished_4 : decode b_Mo_finished 4 = .ok (.ifCond .le 115, 3) := by decide +kernel
theorem d_Mo_finished_7 : decode b_Mo_finished 7 = .ok (.aload_n 0, 1) := by decide +kernel
theorem d_Mo_finished_8 : decode b_Mo_finished 8 = .ok (.dup, 1) := by decide +kernel
theorem d_Mo_finished_9 : decode b_Mo_finished 9 = .ok (.getfield 231, 3) := by decide +kernel
theorem d_Mo_finished_12 : decode b_Mo_finished 12 = .ok (.iconst 1, 1) := by decide +kernel
theorem d_Mo_finished_13 : decode b_Mo_finished 13 = .ok (.isub, 1) := by decide +kernel
theorem d_Mo_finished_14 : decode b_Mo_finished 14 = .ok (.putfield 231, 3) := by decide +kernel
theorem d_Mo_finished_17 : decode b_Mo_finished 17 = .ok (.aload_n 0, 1) := by decide +kernel
theorem d_Mo_finished_18 : decode b_Mo_finished 18 = .ok (.getfield 86, 3) := by decide +kernel
theorem d_Mo_finished_21 : decode b_Mo_finished 21 = .ok (.aload_n 0, 1) := by decide +kernel
theorem d_Mo_finished_22 : decode b_Mo_finished 22 = .ok (.getfield 231, 3) := by decide +kernel
theorem d_Mo_finished_25 : decode b_Mo_finished 25 = .ok (.iaload, 1) := by decide +kernel
theorem d_Mo_finished_26 : decode b_Mo_finished 26 = .ok (.istore_n 1, 1) := by decide +kernel
theorem d_Mo_finished_27 : decode b_Mo_finished 27 = .ok (.aload_n 0, 1) := by decide +kernel
theorem d_Mo_finished_28 : decode b_Mo_finished 28 = .ok (.getfield 89, 3) := by decide +kernel
theorem d_Mo_finished_31 : decode b_Mo_finished 31 = .ok (.aload_n 0, 1) := by decide +kernel
theorem d_Mo_finished_32 : decode b_Mo_finished 32 = .ok (.getfield 231, 3) := by decide +kernel
theorem d_Mo_finished_35 : decode b_Mo_finished 35 = .ok (.iaload, 1) := by decide +kernel
theorem d_Mo_finished_36 : decode b_Mo_finished 36 = .ok (.istore_n 2, 1) := by decide +kernel
theorem d_Mo_finished_37 : decode b_Mo_finished 37 = .ok (.iload_n 1, 1) := by decide +kernel
theorem d_Mo_finished_38 : decode b_Mo_finished 38 = .ok (.ifCond .lt 12, 3) := by decide +kernel
theorem d_Mo_finished_41 : decode b_Mo_finished 41 = .ok (.aload_n 0, 1) := by decide +kernel
theorem d_Mo_finished_42 : decode b_Mo_finished 42 = .ok (.iload_n 1, 1) := by decide +kernel
theorem d_Mo_finished_43 : decode b_Mo_finished 43 = .ok (.iload_n 2, 1) := by decide +kernel
theorem d_Mo_finished_44 : decode b_Mo_finished 44 = .ok (.invokevirtual 250, 3) := by decide +kernel
theorem d_Mo_finished_47 : decode b_Mo_finished 47 = .ok (.goto 69, 3) := by decide +kernel
theorem d_Mo_finished_50 : decode b_Mo_finished 50 = .ok (.iload_n 1, 1) := by decide +kernel
theorem d_Mo_finished_51 : decode b_Mo_finished 51 = .ok (.bipush (-11), 2) := by decide +kernel
theorem d_Mo_finished_53 : decode b_Mo_finished 53 = .ok (.if_icmp .gt 16, 3) := by decide +kernel
theorem d_Mo_finished_56 : decode b_Mo_finished 56 = .ok (.aload_n 0, 1) := by decide +kernel
theorem d_Mo_finished_57 : decode b_Mo_finished 57 = .ok (.bipush (-11), 2) := by decide +kernel
theorem d_Mo_finished_59 : decode b_Mo_finished 59 = .ok (.iload_n 1, 1) := by decide +kernel
theorem d_Mo_finished_60 : decode b_Mo_finished 60 = .ok (.isub, 1) := by decide +kernel
theorem d_Mo_finished_61 : decode b_Mo_finished 61 = .ok (.invokevirtual 253, 3) := by decide +kernel
theorem d_Mo_finished_64 : decode b_Mo_finished 64 = .ok (.ifCond .ne 52, 3) := by decide +kernel
theorem d_Mo_finished_67 : decode b_Mo_finished 67 = .ok (.iconst 0, 1) := by decide +kernel
theorem d_Mo_finished_68 : decode b_Mo_finished 68 = .ok (.ireturn, 1) := by decide +kernel
theorem d_Mo_finished_69 : decode b_Mo_finished 69 = .ok (.aload_n 0, 1) := by decide +kernel
theorem d_Mo_finished_70 : decode b_Mo_finished 70 = .ok (.getfield 256, 3) := by decide +kernel
theorem d_Mo_finished_73 : decode b_Mo_finished 73 = .ok (.sipush 600, 3) := by decide +kernel
theorem d_Mo_finished_76 : decode b_Mo_finished 76 = .ok (.if_icmp .ne 5, 3) := by decide +kernel
theorem d_Mo_finished_79 : decode b_Mo_finished 79 = .ok (.iconst 0, 1) := by decide +kernel
theorem d_Mo_finished_80 : decode b_Mo_finished 80 = .ok (.ireturn, 1) := by decide +kernel
theorem d_Mo_finished_81 : decode b_Mo_finished 81 = .ok (.aload_n 0, 1) := by decide +kernel
theorem d_Mo_finished_82 : decode b_Mo_finished 82 = .ok (.dup, 1) := by decide +kernel
theorem d_Mo_finished_83 : decode b_Mo_finished 83 = .ok (.getfield 256, 3) := by decide +kernel
theorem d_Mo_finished_86 : decode b_Mo_finished 86 = .ok (.iconst 1, 1) := by decide +kernel
theorem d_Mo_finished_87 : decode b_Mo_finished 87 = .ok (.iadd, 1) := by decide +kernel
theorem d_Mo_finished_88 : decode b_Mo_finished 88 = .ok (.putfield 256, 3) := by decide +kernel
theorem d_Mo_finished_91 : decode b_Mo_finished 91 = .ok (.aload_n 0, 1) := by decide +kernel
theorem d_Mo_finished_92 : decode b_Mo_finished 92 = .ok (.iconst (-1), 1) := by decide +kernel
theorem d_Mo_finished_93 : decode b_Mo_finished 93 = .ok (.iload_n 1, 1) := by decide +kernel
theorem d_Mo_finished_94 : decode b_Mo_finished 94 = .ok (.isub, 1) := by decide +kernel
theorem d_Mo_finished_95 : decode b_Mo_finished 95 = .ok (.invokevirtual 259, 3) := by decide +kernel
theorem d_Mo_finished_98 : decode b_Mo_finished 98 = .ok (.aload_n 0, 1) := by decide +kernel
theorem d_Mo_finished_99 : decode b_Mo_finished 99 = .ok (.getfield 83, 3) := by decide +kernel
theorem d_Mo_finished_102 : decode b_Mo_finished 102 = .ok (.aload_n 0, 1) := by decide +kernel
theorem d_Mo_finished_103 : decode b_Mo_finished 103 = .ok (.getfield 237, 3) := by decide +kernel
theorem d_Mo_finished_106 : decode b_Mo_finished 106 = .ok (.iconst 1, 1) := by decide +kernel
theorem d_Mo_finished_107 : decode b_Mo_finished 107 = .ok (.isub, 1) := by decide +kernel
theorem d_Mo_finished_108 : decode b_Mo_finished 108 = .ok (.iaload, 1) := by decide +kernel
theorem d_Mo_finished_109 : decode b_Mo_finished 109 = .ok (.bipush 60, 2) := by decide +kernel
theorem d_Mo_finished_111 : decode b_Mo_finished 111 = .ok (.if_icmp .le 5, 3) := by decide +kernel
theorem d_Mo_finished_114 : decode b_Mo_finished 114 = .ok (.iconst 0, 1) := by decide +kernel
theorem d_Mo_finished_115 : decode b_Mo_finished 115 = .ok (.ireturn, 1) := by decide +kernel
theorem d_Mo_finished_116 : decode b_Mo_finished 116 = .ok (.goto (-116), 3) := by decide +kernel
theorem d_Mo_finished_119 : decode b_Mo_finished 119 = .ok (.iconst 1, 1) := by decide +kernel
theorem d_Mo_finished_120 : decode b_Mo_finished 120 = .ok (.ireturn, 1) := by decide +kernel
theorem d_Mo_enter_0 : decode b_Mo_enter 0 = .ok (.aload_n 0, 1) := by decide +kernel
theorem d_Mo_enter_1 : decode b_Mo_enter 1 = .ok (.getfield 243, 3) := by decide +kernel
theorem d_Mo_enter_4 : decode b_Mo_enter 4 = .ok (.sipush 200, 3) := by decide +kernel
theorem d_Mo_enter_7 : decode b_Mo_enter 7 = .ok (.if_icmp .ne 5, 3) := by decide +kernel
theorem d_Mo_enter_10 : decode b_Mo_enter 10 = .ok (.iconst 0, 1) := by decide +kernel
theorem d_Mo_enter_11 : decode b_Mo_enter 11 = .ok (.ireturn, 1) := by decide +kernel
theorem d_Mo_enter_12 : decode b_Mo_enter 12 = .ok (.aload_n 0, 1) := by decide +kernel
theorem d_Mo_enter_13 : decode b_Mo_enter 13 = .ok (.dup, 1) := by decide +kernel
theorem d_Mo_enter_14 : decode b_Mo_enter 14 = .ok (.getfield 243, 3) := by decide +kernel
theorem d_Mo_enter_17 : decode b_Mo_enter 17 = .ok (.iconst 1, 1) := by decide +kernel
theorem d_Mo_enter_18 : decode b_Mo_enter 18 = .ok (.iadd, 1) := by decide +kernel
theorem d_Mo_enter_19 : decode b_Mo_enter 19 = .ok (.putfield 243, 3) := by decide +kernel
theorem d_Mo_enter_22 : decode b_Mo_enter 22 = .ok (.aload_n 0, 1) := by decide +kernel
theorem d_Mo_enter_23 : decode b_Mo_enter 23 = .ok (.getfield 22, 3) := by decide +kernel
theorem d_Mo_enter_26 : decode b_Mo_enter 26 = .ok (.iload_n 1, 1) := by decide +kernel
theorem d_Mo_enter_27 : decode b_Mo_enter 27 = .ok (.iaload, 1) := by decide +kernel
theorem d_Mo_enter_28 : decode b_Mo_enter 28 = .ok (.istore_n 2, 1) := by decide +kernel
theorem d_Mo_enter_29 : decode b_Mo_enter 29 = .ok (.aload_n 0, 1) := by decide +kernel
theorem d_Mo_enter_30 : decode b_Mo_enter 30 = .ok (.getfield 243, 3) := by decide +kernel
theorem d_Mo_enter_33 : decode b_Mo_enter 33 = .ok (.istore_n 3, 1) := by decide +kernel
theorem d_Mo_enter_34 : decode b_Mo_enter 34 = .ok (.aload_n 0, 1) := by decide +kernel
theorem d_Mo_enter_35 : decode b_Mo_enter 35 = .ok (.dup, 1) := by decide +kernel
theorem d_Mo_enter_36 : decode b_Mo_enter 36 = .ok (.getfield 234, 3) := by decide +kernel
theorem d_Mo_enter_39 : decode b_Mo_enter 39 = .ok (.iload_n 2, 1) := by decide +kernel
theorem d_Mo_enter_40 : decode b_Mo_enter 40 = .ok (.isub, 1) := by decide +kernel
theorem d_Mo_enter_41 : decode b_Mo_enter 41 = .ok (.putfield 234, 3) := by decide +kernel
theorem d_Mo_enter_44 : decode b_Mo_enter 44 = .ok (.iconst 0, 1) := by decide +kernel
theorem d_Mo_enter_45 : decode b_Mo_enter 45 = .ok (.istore 4, 2) := by decide +kernel
theorem d_Mo_enter_47 : decode b_Mo_enter 47 = .ok (.iload 4, 2) := by decide +kernel
theorem d_Mo_enter_49 : decode b_Mo_enter 49 = .ok (.aload_n 0, 1) := by decide +kernel
theorem d_Mo_enter_50 : decode b_Mo_enter 50 = .ok (.getfield 166, 3) := by decide +kernel
theorem d_Mo_enter_53 : decode b_Mo_enter 53 = .ok (.if_icmp .ge 97, 3) := by decide +kernel
theorem d_Mo_enter_56 : decode b_Mo_enter 56 = .ok (.aload_n 0, 1) := by decide +kernel
theorem d_Mo_enter_57 : decode b_Mo_enter 57 = .ok (.getfield 40, 3) := by decide +kernel
theorem d_Mo_enter_60 : decode b_Mo_enter 60 = .ok (.iload 4, 2) := by decide +kernel
theorem d_Mo_enter_62 : decode b_Mo_enter 62 = .ok (.iaload, 1) := by decide +kernel
theorem d_Mo_enter_63 : decode b_Mo_enter 63 = .ok (.iload_n 1, 1) := by decide +kernel
theorem d_Mo_enter_64 : decode b_Mo_enter 64 = .ok (.if_icmp .ne 7, 3) := by decide +kernel
theorem d_Mo_enter_67 : decode b_Mo_enter 67 = .ok (.iconst 1, 1) := by decide +kernel
theorem d_Mo_enter_68 : decode b_Mo_enter 68 = .ok (.goto 4, 3) := by decide +kernel
theorem d_Mo_enter_71 : decode b_Mo_enter 71 = .ok (.iconst 0, 1) := by decide +kernel
theorem d_Mo_enter_72 : decode b_Mo_enter 72 = .ok (.istore 5, 2) := by decide +kernel
theorem d_Mo_enter_74 : decode b_Mo_enter 74 = .ok (.iconst 0, 1) := by decide +kernel
theorem d_Mo_enter_75 : decode b_Mo_enter 75 = .ok (.istore 6, 2) := by decide +kernel
theorem d_Mo_enter_77 : decode b_Mo_enter 77 = .ok (.iload 6, 2) := by decide +kernel
theorem d_Mo_enter_79 : decode b_Mo_enter 79 = .ok (.iload_n 2, 1) := by decide +kernel
theorem d_Mo_enter_80 : decode b_Mo_enter 80 = .ok (.if_icmp .ge 45, 3) := by decide +kernel
theorem d_Mo_enter_83 : decode b_Mo_enter 83 = .ok (.iload 5, 2) := by decide +kernel
theorem d_Mo_enter_85 : decode b_Mo_enter 85 = .ok (.ifCond .eq 40, 3) := by decide +kernel
theorem d_Mo_enter_88 : decode b_Mo_enter 88 = .ok (.aload_n 0, 1) := by decide +kernel
theorem d_Mo_enter_89 : decode b_Mo_enter 89 = .ok (.aload_n 0, 1) := by decide +kernel
theorem d_Mo_enter_90 : decode b_Mo_enter 90 = .ok (.getfield 43, 3) := by decide +kernel
theorem d_Mo_enter_93 : decode b_Mo_enter 93 = .ok (.iconst 3, 1) := by decide +kernel
theorem d_Mo_enter_94 : decode b_Mo_enter 94 = .ok (.iload 4, 2) := by decide +kernel
theorem d_Mo_enter_96 : decode b_Mo_enter 96 = .ok (.imul, 1) := by decide +kernel
theorem d_Mo_enter_97 : decode b_Mo_enter 97 = .ok (.iload 6, 2) := by decide +kernel
theorem d_Mo_enter_99 : decode b_Mo_enter 99 = .ok (.iadd, 1) := by decide +kernel
theorem d_Mo_enter_100 : decode b_Mo_enter 100 = .ok (.iaload, 1) := by decide +kernel
theorem d_Mo_enter_101 : decode b_Mo_enter 101 = .ok (.aload_n 0, 1) := by decide +kernel
theorem d_Mo_enter_102 : decode b_Mo_enter 102 = .ok (.getfield 92, 3) := by decide +kernel
theorem d_Mo_enter_105 : decode b_Mo_enter 105 = .ok (.aload_n 0, 1) := by decide +kernel
theorem d_Mo_enter_106 : decode b_Mo_enter 106 = .ok (.getfield 234, 3) := by decide +kernel
theorem d_Mo_enter_109 : decode b_Mo_enter 109 = .ok (.iload 6, 2) := by decide +kernel
theorem d_Mo_enter_111 : decode b_Mo_enter 111 = .ok (.iadd, 1) := by decide +kernel
theorem d_Mo_enter_112 : decode b_Mo_enter 112 = .ok (.iaload, 1) := by decide +kernel
theorem d_Mo_enter_113 : decode b_Mo_enter 113 = .ok (.iload_n 3, 1) := by decide +kernel
theorem d_Mo_enter_114 : decode b_Mo_enter 114 = .ok (.invokevirtual 246, 3) := by decide +kernel
theorem d_Mo_enter_117 : decode b_Mo_enter 117 = .ok (.istore 5, 2) := by decide +kernel
theorem d_Mo_enter_119 : decode b_Mo_enter 119 = .ok (.iinc 6 1, 3) := by decide +kernel
theorem d_Mo_enter_122 : decode b_Mo_enter 122 = .ok (.goto (-45), 3) := by decide +kernel
theorem d_Mo_enter_125 : decode b_Mo_enter 125 = .ok (.iload 5, 2) := by decide +kernel
theorem d_Mo_enter_127 : decode b_Mo_enter 127 = .ok (.ifCond .eq 17, 3) := by decide +kernel
theorem d_Mo_enter_130 : decode b_Mo_enter 130 = .ok (.aload_n 0, 1) := by decide +kernel
theorem d_Mo_enter_131 : decode b_Mo_enter 131 = .ok (.aload_n 0, 1) := by decide +kernel
theorem d_Mo_enter_132 : decode b_Mo_enter 132 = .ok (.getfield 46, 3) := by decide +kernel
theorem d_Mo_enter_135 : decode b_Mo_enter 135 = .ok (.iload 4, 2) := by decide +kernel
theorem d_Mo_enter_137 : decode b_Mo_enter 137 = .ok (.iaload, 1) := by decide +kernel
theorem d_Mo_enter_138 : decode b_Mo_enter 138 = .ok (.iload_n 3, 1) := by decide +kernel
theorem d_Mo_enter_139 : decode b_Mo_enter 139 = .ok (.invokevirtual 240, 3) := by decide +kernel
theorem d_Mo_enter_142 : decode b_Mo_enter 142 = .ok (.iconst 1, 1) := by decide +kernel
theorem d_Mo_enter_143 : decode b_Mo_enter 143 = .ok (.ireturn, 1) := by decide +kernel
theorem d_Mo_enter_144 : decode b_Mo_enter 144 = .ok (.iinc 4 1, 3) := by decide +kernel
theorem d_Mo_enter_147 : decode b_Mo_enter 147 = .ok (.goto (-100), 3) := by decide +kernel
theorem d_Mo_enter_150 : decode b_Mo_enter 150 = .ok (.iconst 0, 1) := by decide +kernel
theorem d_Mo_enter_151 : decode b_Mo_enter 151 = .ok (.ireturn, 1) := by decide +kernel
theorem d_Mo_matches_0 : decode b_Mo_matches 0 = .ok (.aload_n 0, 1) := by decide +kernel
theorem d_Mo_matches_1 : decode b_Mo_matches 1 = .ok (.getfield 28, 3) := by decide +kernel
theorem d_Mo_matches_4 : decode b_Mo_matches 4 = .ok (.iload_n 1, 1) := by decide +kernel
theorem d_Mo_matches_5 : decode b_Mo_matches 5 = .ok (.iaload, 1) := by decide +kernel
theorem d_Mo_matches_6 : decode b_Mo_matches 6 = .ok (.bipush 8, 2) := by decide +kernel
theorem d_Mo_matches_8 : decode b_Mo_matches 8 = .ok (.if_icmp .ge 22, 3) := by decide +kernel
theorem d_Mo_matches_11 : decode b_Mo_matches 11 = .ok (.aload_n 0, 1) := by decide +kernel
theorem d_Mo_matches_12 : decode b_Mo_matches 12 = .ok (.getfield 95, 3) := by decide +kernel
theorem d_Mo_matches_15 : decode b_Mo_matches 15 = .ok (.bipush 8, 2) := by decide +kernel
theorem d_Mo_matches_17 : decode b_Mo_matches 17 = .ok (.iload_n 3, 1) := by decide +kernel
theorem d_Mo_matches_18 : decode b_Mo_matches 18 = .ok (.imul, 1) := by decide +kernel
theorem d_Mo_matches_19 : decode b_Mo_matches 19 = .ok (.aload_n 0, 1) := by decide +kernel
theorem d_Mo_matches_20 : decode b_Mo_matches 20 = .ok (.getfield 28, 3) := by decide +kernel
theorem d_Mo_matches_23 : decode b_Mo_matches 23 = .ok (.iload_n 1, 1) := by decide +kernel
theorem d_Mo_matches_24 : decode b_Mo_matches 24 = .ok (.iaload, 1) := by decide +kernel
theorem d_Mo_matches_25 : decode b_Mo_matches 25 = .ok (.iadd, 1) := by decide +kernel
theorem d_Mo_matches_26 : decode b_Mo_matches 26 = .ok (.iload_n 2, 1) := by decide +kernel
theorem d_Mo_matches_27 : decode b_Mo_matches 27 = .ok (.iastore, 1) := by decide +kernel
theorem d_Mo_matches_28 : decode b_Mo_matches 28 = .ok (.iconst 1, 1) := by decide +kernel
theorem d_Mo_matches_29 : decode b_Mo_matches 29 = .ok (.ireturn, 1) := by decide +kernel
theorem d_Mo_matches_30 : decode b_Mo_matches 30 = .ok (.aload_n 0, 1) := by decide +kernel
theorem d_Mo_matches_31 : decode b_Mo_matches 31 = .ok (.getfield 28, 3) := by decide +kernel
theorem d_Mo_matches_34 : decode b_Mo_matches 34 = .ok (.iload_n 1, 1) := by decide +kernel
theorem d_Mo_matches_35 : decode b_Mo_matches 35 = .ok (.iaload, 1) := by decide +kernel
theorem d_Mo_matches_36 : decode b_Mo_matches 36 = .ok (.bipush 8, 2) := by decide +kernel
theorem d_Mo_matches_38 : decode b_Mo_matches 38 = .ok (.isub, 1) := by decide +kernel
theorem d_Mo_matches_39 : decode b_Mo_matches 39 = .ok (.aload_n 0, 1) := by decide +kernel
theorem d_Mo_matches_40 : decode b_Mo_matches 40 = .ok (.getfield 77, 3) := by decide +kernel
theorem d_Mo_matches_43 : decode b_Mo_matches 43 = .ok (.iload_n 2, 1) := by decide +kernel
theorem d_Mo_matches_44 : decode b_Mo_matches 44 = .ok (.iaload, 1) := by decide +kernel
theorem d_Mo_matches_45 : decode b_Mo_matches 45 = .ok (.if_icmp .eq 5, 3) := by decide +kernel
theorem d_Mo_matches_48 : decode b_Mo_matches 48 = .ok (.iconst 0, 1) := by decide +kernel
theorem d_Mo_matches_49 : decode b_Mo_matches 49 = .ok (.ireturn, 1) := by decide +kernel
theorem d_Mo_matches_50 : decode b_Mo_matches 50 = .ok (.iconst 0, 1) := by decide +kernel
theorem d_Mo_matches_51 : decode b_Mo_matches 51 = .ok (.istore 4, 2) := by decide +kernel
theorem d_Mo_matches_53 : decode b_Mo_matches 53 = .ok (.iload 4, 2) := by decide +kernel
theorem d_Mo_matches_55 : decode b_Mo_matches 55 = .ok (.aload_n 0, 1) := by decide +kernel
theorem d_Mo_matches_56 : decode b_Mo_matches 56 = .ok (.iload_n 1, 1) := by decide +kernel
theorem d_Mo_matches_57 : decode b_Mo_matches 57 = .ok (.invokevirtual 144, 3) := by decide +kernel
theorem d_Mo_matches_60 : decode b_Mo_matches 60 = .ok (.if_icmp .ge 150, 3) := by decide +kernel
theorem d_Mo_matches_63 : decode b_Mo_matches 63 = .ok (.aload_n 0, 1) := by decide +kernel
theorem d_Mo_matches_64 : decode b_Mo_matches 64 = .ok (.getfield 31, 3) := by decide +kernel
theorem d_Mo_matches_67 : decode b_Mo_matches 67 = .ok (.iconst 3, 1) := by decide +kernel
theorem d_Mo_matches_68 : decode b_Mo_matches 68 = .ok (.iload_n 1, 1) := by decide +kernel
theorem d_Mo_matches_69 : decode b_Mo_matches 69 = .ok (.imul, 1) := by decide +kernel
theorem d_Mo_matches_70 : decode b_Mo_matches 70 = .ok (.iload 4, 2) := by decide +kernel
theorem d_Mo_matches_72 : decode b_Mo_matches 72 = .ok (.iadd, 1) := by decide +kernel
theorem d_Mo_matches_73 : decode b_Mo_matches 73 = .ok (.iaload, 1) := by decide +kernel
theorem d_Mo_matches_74 : decode b_Mo_matches 74 = .ok (.istore 5, 2) := by decide +kernel
theorem d_Mo_matches_76 : decode b_Mo_matches 76 = .ok (.aload_n 0, 1) := by decide +kernel
theorem d_Mo_matches_77 : decode b_Mo_matches 77 = .ok (.getfield 80, 3) := by decide +kernel
theorem d_Mo_matches_80 : decode b_Mo_matches 80 = .ok (.iconst 3, 1) := by decide +kernel
theorem d_Mo_matches_81 : decode b_Mo_matches 81 = .ok (.iload_n 2, 1) := by decide +kernel
theorem d_Mo_matches_82 : decode b_Mo_matches 82 = .ok (.imul, 1) := by decide +kernel
theorem d_Mo_matches_83 : decode b_Mo_matches 83 = .ok (.iload 4, 2) := by decide +kernel
theorem d_Mo_matches_85 : decode b_Mo_matches 85 = .ok (.iadd, 1) := by decide +kernel
theorem d_Mo_matches_86 : decode b_Mo_matches 86 = .ok (.iaload, 1) := by decide +kernel
theorem d_Mo_matches_87 : decode b_Mo_matches 87 = .ok (.istore 6, 2) := by decide +kernel
theorem d_Mo_matches_89 : decode b_Mo_matches 89 = .ok (.aload_n 0, 1) := by decide +kernel
theorem d_Mo_matches_90 : decode b_Mo_matches 90 = .ok (.getfield 28, 3) := by decide +kernel
theorem d_Mo_matches_93 : decode b_Mo_matches 93 = .ok (.iload 5, 2) := by decide +kernel
theorem d_Mo_matches_95 : decode b_Mo_matches 95 = .ok (.iaload, 1) := by decide +kernel
theorem d_Mo_matches_96 : decode b_Mo_matches 96 = .ok (.bipush 8, 2) := by decide +kernel
theorem d_Mo_matches_98 : decode b_Mo_matches 98 = .ok (.if_icmp .ge 25, 3) := by decide +kernel
theorem d_Mo_matches_101 : decode b_Mo_matches 101 = .ok (.aload_n 0, 1) := by decide +kernel
theorem d_Mo_matches_102 : decode b_Mo_matches 102 = .ok (.getfield 95, 3) := by decide +kernel
theorem d_Mo_matches_105 : decode b_Mo_matches 105 = .ok (.bipush 8, 2) := by decide +kernel
theorem d_Mo_matches_107 : decode b_Mo_matches 107 = .ok (.iload_n 3, 1) := by decide +kernel
theorem d_Mo_matches_108 : decode b_Mo_matches 108 = .ok (.imul, 1) := by decide +kernel
theorem d_Mo_matches_109 : decode b_Mo_matches 109 = .ok (.aload_n 0, 1) := by decide +kernel
theorem d_Mo_matches_110 : decode b_Mo_matches 110 = .ok (.getfield 28, 3) := by decide +kernel
theorem d_Mo_matches_113 : decode b_Mo_matches 113 = .ok (.iload 5, 2) := by decide +kernel
theorem d_Mo_matches_115 : decode b_Mo_matches 115 = .ok (.iaload, 1) := by decide +kernel
theorem d_Mo_matches_116 : decode b_Mo_matches 116 = .ok (.iadd, 1) := by decide +kernel
theorem d_Mo_matches_117 : decode b_Mo_matches 117 = .ok (.iload 6, 2) := by decide +kernel
theorem d_Mo_matches_119 : decode b_Mo_matches 119 = .ok (.iastore, 1) := by decide +kernel
theorem d_Mo_matches_120 : decode b_Mo_matches 120 = .ok (.goto 25, 3) := by decide +kernel
theorem d_Mo_matches_123 : decode b_Mo_matches 123 = .ok (.aload_n 0, 1) := by decide +kernel
theorem d_Mo_matches_124 : decode b_Mo_matches 124 = .ok (.getfield 28, 3) := by decide +kernel
theorem d_Mo_matches_127 : decode b_Mo_matches 127 = .ok (.iload 5, 2) := by decide +kernel
theorem d_Mo_matches_129 : decode b_Mo_matches 129 = .ok (.iaload, 1) := by decide +kernel
theorem d_Mo_matches_130 : decode b_Mo_matches 130 = .ok (.bipush 8, 2) := by decide +kernel
theorem d_Mo_matches_132 : decode b_Mo_matches 132 = .ok (.isub, 1) := by decide +kernel
theorem d_Mo_matches_133 : decode b_Mo_matches 133 = .ok (.aload_n 0, 1) := by decide +kernel
theorem d_Mo_matches_134 : decode b_Mo_matches 134 = .ok (.getfield 77, 3) := by decide +kernel
theorem d_Mo_matches_137 : decode b_Mo_matches 137 = .ok (.iload 6, 2) := by decide +kernel
theorem d_Mo_matches_139 : decode b_Mo_matches 139 = .ok (.iaload, 1) := by decide +kernel
theorem d_Mo_matches_140 : decode b_Mo_matches 140 = .ok (.if_icmp .eq 5, 3) := by decide +kernel
theorem d_Mo_matches_143 : decode b_Mo_matches 143 = .ok (.iconst 0, 1) := by decide +kernel
theorem d_Mo_matches_144 : decode b_Mo_matches 144 = .ok (.ireturn, 1) := by decide +kernel
theorem d_Mo_matches_145 : decode b_Mo_matches 145 = .ok (.iconst 0, 1) := by decide +kernel
theorem d_Mo_matches_146 : decode b_Mo_matches 146 = .ok (.istore 7, 2) := by decide +kernel
theorem d_Mo_matches_148 : decode b_Mo_matches 148 = .ok (.iload 7, 2) := by decide +kernel
theorem d_Mo_matches_150 : decode b_Mo_matches 150 = .ok (.aload_n 0, 1) := by decide +kernel
theorem d_Mo_matches_151 : decode b_Mo_matches 151 = .ok (.iload 5, 2) := by decide +kernel
theorem d_Mo_matches_153 : decode b_Mo_matches 153 = .ok (.invokevirtual 144, 3) := by decide +kernel
theorem d_Mo_matches_156 : decode b_Mo_matches 156 = .ok (.if_icmp .ge 48, 3) := by decide +kernel
theorem d_Mo_matches_159 : decode b_Mo_matches 159 = .ok (.aload_n 0, 1) := by decide +kernel
theorem d_Mo_matches_160 : decode b_Mo_matches 160 = .ok (.getfield 95, 3) := by decide +kernel
theorem d_Mo_matches_163 : decode b_Mo_matches 163 = .ok (.bipush 8, 2) := by decide +kernel
theorem d_Mo_matches_165 : decode b_Mo_matches 165 = .ok (.iload_n 3, 1) := by decide +kernel
theorem d_Mo_matches_166 : decode b_Mo_matches 166 = .ok (.imul, 1) := by decide +kernel
theorem d_Mo_matches_167 : decode b_Mo_matches 167 = .ok (.aload_n 0, 1) := by decide +kernel
theorem d_Mo_matches_168 : decode b_Mo_matches 168 = .ok (.getfield 28, 3) := by decide +kernel
theorem d_Mo_matches_171 : decode b_Mo_matches 171 = .ok (.aload_n 0, 1) := by decide +kernel
theorem d_Mo_matches_172 : decode b_Mo_matches 172 = .ok (.getfield 31, 3) := by decide +kernel
theorem d_Mo_matches_175 : decode b_Mo_matches 175 = .ok (.iconst 3, 1) := by decide +kernel
theorem d_Mo_matches_176 : decode b_Mo_matches 176 = .ok (.iload 5, 2) := by decide +kernel
theorem d_Mo_matches_178 : decode b_Mo_matches 178 = .ok (.imul, 1) := by decide +kernel
theorem d_Mo_matches_179 : decode b_Mo_matches 179 = .ok (.iload 7, 2) := by decide +kernel
theorem d_Mo_matches_181 : decode b_Mo_matches 181 = .ok (.iadd, 1) := by decide +kernel
theorem d_Mo_matches_182 : decode b_Mo_matches 182 = .ok (.iaload, 1) := by decide +kernel
theorem d_Mo_matches_183 : decode b_Mo_matches 183 = .ok (.iaload, 1) := by decide +kernel
theorem d_Mo_matches_184 : decode b_Mo_matches 184 = .ok (.iadd, 1) := by decide +kernel
theorem d_Mo_matches_185 : decode b_Mo_matches 185 = .ok (.aload_n 0, 1) := by decide +kernel
theorem d_Mo_matches_186 : decode b_Mo_matches 186 = .ok (.getfield 80, 3) := by decide +kernel
theorem d_Mo_matches_189 : decode b_Mo_matches 189 = .ok (.iconst 3, 1) := by decide +kernel
theorem d_Mo_matches_190 : decode b_Mo_matches 190 = .ok (.iload 6, 2) := by decide +kernel
theorem d_Mo_matches_192 : decode b_Mo_matches 192 = .ok (.imul, 1) := by decide +kernel
theorem d_Mo_matches_193 : decode b_Mo_matches 193 = .ok (.iload 7, 2) := by decide +kernel
theorem d_Mo_matches_195 : decode b_Mo_matches 195 = .ok (.iadd, 1) := by decide +kernel
theorem d_Mo_matches_196 : decode b_Mo_matches 196 = .ok (.iaload, 1) := by decide +kernel
theorem d_Mo_matches_197 : decode b_Mo_matches 197 = .ok (.iastore, 1) := by decide +kernel
theorem d_Mo_matches_198 : decode b_Mo_matches 198 = .ok (.iinc 7 1, 3) := by decide +kernel
theorem d_Mo_matches_201 : decode b_Mo_matches 201 = .ok (.goto (-53), 3) := by decide +kernel
theorem d_Mo_matches_204 : decode b_Mo_matches 204 = .ok (.iinc 4 1, 3) := by decide +kernel
theorem d_Mo_matches_207 : decode b_Mo_matches 207 = .ok (.goto (-154), 3) := by decide +kernel
theorem d_Mo_matches_210 : decode b_Mo_matches 210 = .ok (.iconst 1, 1) := by decide +kernel
theorem d_Mo_matches_211 : decode b_Mo_matches 211 = .ok (.ireturn, 1) := by decide +kernel
theorem d_Mo_write_0 : decode b_Mo_write 0 = .ok (.aload_n 0, 1) := by decide +kernel
theorem d_Mo_write_1 : decode b_Mo_write 1 = .ok (.iconst 0, 1) := by decide +kernel
theorem d_Mo_write_2 : decode b_Mo_write 2 = .ok (.putfield 141, 3) := by decide +kernel
theorem d_Mo_write_5 : decode b_Mo_write 5 = .ok (.aload_n 0, 1) := by decide +kernel
theorem d_Mo_write_6 : decode b_Mo_write 6 = .ok (.iload_n 1, 1) := by decide +kernel
theorem d_Mo_write_7 : decode b_Mo_write 7 = .ok (.iconst 0, 1) := by decide +kernel
theorem d_Mo_write_8 : decode b_Mo_write 8 = .ok (.invokevirtual 148, 3) := by decide +kernel
theorem d_Mo_write_11 : decode b_Mo_write 11 = .ok (.aload_n 0, 1) := by decide +kernel
theorem d_Mo_write_12 : decode b_Mo_write 12 = .ok (.iconst 0, 1) := by decide +kernel
theorem d_Mo_write_13 : decode b_Mo_write 13 = .ok (.putfield 262, 3) := by decide +kernel
theorem d_Mo_write_16 : decode b_Mo_write 16 = .ok (.aload_n 0, 1) := by decide +kernel
theorem d_Mo_write_17 : decode b_Mo_write 17 = .ok (.getfield 141, 3) := by decide +kernel
theorem d_Mo_write_20 : decode b_Mo_write 20 = .ok (.ifCond .le 90, 3) := by decide +kernel
theorem d_Mo_write_23 : decode b_Mo_write 23 = .ok (.aload_n 0, 1) := by decide +kernel
theorem d_Mo_write_24 : decode b_Mo_write 24 = .ok (.dup, 1) := by decide +kernel
theorem d_Mo_write_25 : decode b_Mo_write 25 = .ok (.getfield 141, 3) := by decide +kernel
theorem d_Mo_write_28 : decode b_Mo_write 28 = .ok (.iconst 1, 1) := by decide +kernel
theorem d_Mo_write_29 : decode b_Mo_write 29 = .ok (.isub, 1) := by decide +kernel
theorem d_Mo_write_30 : decode b_Mo_write 30 = .ok (.putfield 141, 3) := by decide +kernel
theorem d_Mo_write_33 : decode b_Mo_write 33 = .ok (.aload_n 0, 1) := by decide +kernel
theorem d_Mo_write_34 : decode b_Mo_write 34 = .ok (.getfield 58, 3) := by decide +kernel
theorem d_Mo_write_37 : decode b_Mo_write 37 = .ok (.aload_n 0, 1) := by decide +kernel
theorem d_Mo_write_38 : decode b_Mo_write 38 = .ok (.getfield 141, 3) := by decide +kernel
theorem d_Mo_write_41 : decode b_Mo_write 41 = .ok (.iaload, 1) := by decide +kernel
theorem d_Mo_write_42 : decode b_Mo_write 42 = .ok (.istore_n 2, 1) := by decide +kernel
theorem d_Mo_write_43 : decode b_Mo_write 43 = .ok (.aload_n 0, 1) := by decide +kernel
theorem d_Mo_write_44 : decode b_Mo_write 44 = .ok (.getfield 101, 3) := by decide +kernel
theorem d_Mo_write_47 : decode b_Mo_write 47 = .ok (.aload_n 0, 1) := by decide +kernel
theorem d_Mo_write_48 : decode b_Mo_write 48 = .ok (.getfield 262, 3) := by decide +kernel
theorem d_Mo_write_51 : decode b_Mo_write 51 = .ok (.aload_n 0, 1) := by decide +kernel
theorem d_Mo_write_52 : decode b_Mo_write 52 = .ok (.getfield 77, 3) := by decide +kernel
theorem d_Mo_write_55 : decode b_Mo_write 55 = .ok (.iload_n 2, 1) := by decide +kernel
theorem d_Mo_write_56 : decode b_Mo_write 56 = .ok (.iaload, 1) := by decide +kernel
theorem d_Mo_write_57 : decode b_Mo_write 57 = .ok (.iastore, 1) := by decide +kernel
theorem d_Mo_write_58 : decode b_Mo_write 58 = .ok (.aload_n 0, 1) := by decide +kernel
theorem d_Mo_write_59 : decode b_Mo_write 59 = .ok (.dup, 1) := by decide +kernel
theorem d_Mo_write_60 : decode b_Mo_write 60 = .ok (.getfield 262, 3) := by decide +kernel
theorem d_Mo_write_63 : decode b_Mo_write 63 = .ok (.iconst 1, 1) := by decide +kernel
theorem d_Mo_write_64 : decode b_Mo_write 64 = .ok (.iadd, 1) := by decide +kernel
theorem d_Mo_write_65 : decode b_Mo_write 65 = .ok (.putfield 262, 3) := by decide +kernel
theorem d_Mo_write_68 : decode b_Mo_write 68 = .ok (.aload_n 0, 1) := by decide +kernel
theorem d_Mo_write_69 : decode b_Mo_write 69 = .ok (.getfield 13, 3) := by decide +kernel
theorem d_Mo_write_72 : decode b_Mo_write 72 = .ok (.aload_n 0, 1) := by decide +kernel
theorem d_Mo_write_73 : decode b_Mo_write 73 = .ok (.getfield 77, 3) := by decide +kernel
theorem d_Mo_write_76 : decode b_Mo_write 76 = .ok (.iload_n 2, 1) := by decide +kernel
theorem d_Mo_write_77 : decode b_Mo_write 77 = .ok (.iaload, 1) := by decide +kernel
theorem d_Mo_write_78 : decode b_Mo_write 78 = .ok (.iaload, 1) := by decide +kernel
theorem d_Mo_write_79 : decode b_Mo_write 79 = .ok (.iconst 1, 1) := by decide +kernel
theorem d_Mo_write_80 : decode b_Mo_write 80 = .ok (.isub, 1) := by decide +kernel
theorem d_Mo_write_81 : decode b_Mo_write 81 = .ok (.istore_n 3, 1) := by decide +kernel
theorem d_Mo_write_82 : decode b_Mo_write 82 = .ok (.iload_n 3, 1) := by decide +kernel
theorem d_Mo_write_83 : decode b_Mo_write 83 = .ok (.ifCond .lt 24, 3) := by decide +kernel
theorem d_Mo_write_86 : decode b_Mo_write 86 = .ok (.aload_n 0, 1) := by decide +kernel
theorem d_Mo_write_87 : decode b_Mo_write 87 = .ok (.aload_n 0, 1) := by decide +kernel
theorem d_Mo_write_88 : decode b_Mo_write 88 = .ok (.getfield 80, 3) := by decide +kernel
theorem d_Mo_write_91 : decode b_Mo_write 91 = .ok (.iconst 3, 1) := by decide +kernel
theorem d_Mo_write_92 : decode b_Mo_write 92 = .ok (.iload_n 2, 1) := by decide +kernel
theorem d_Mo_write_93 : decode b_Mo_write 93 = .ok (.imul, 1) := by decide +kernel
theorem d_Mo_write_94 : decode b_Mo_write 94 = .ok (.iload_n 3, 1) := by decide +kernel
theorem d_Mo_write_95 : decode b_Mo_write 95 = .ok (.iadd, 1) := by decide +kernel
theorem d_Mo_write_96 : decode b_Mo_write 96 = .ok (.iaload, 1) := by decide +kernel
theorem d_Mo_write_97 : decode b_Mo_write 97 = .ok (.iconst 0, 1) := by decide +kernel
theorem d_Mo_write_98 : decode b_Mo_write 98 = .ok (.invokevirtual 148, 3) := by decide +kernel
theorem d_Mo_write_101 : decode b_Mo_write 101 = .ok (.iinc 3 (-1), 3) := by decide +kernel
theorem d_Mo_write_104 : decode b_Mo_write 104 = .ok (.goto (-22), 3) := by decide +kernel
theorem d_Mo_write_107 : decode b_Mo_write 107 = .ok (.goto (-91), 3) := by decide +kernel
theorem d_Mo_write_110 : decode b_Mo_write 110 = .ok (.return_, 1) := by decide +kernel
theorem d_Mo_answer_0 : decode b_Mo_answer 0 = .ok (.aload_n 0, 1) := by decide +kernel
theorem d_Mo_answer_1 : decode b_Mo_answer 1 = .ok (.iload_n 1, 1) := by decide +kernel
theorem d_Mo_answer_2 : decode b_Mo_answer 2 = .ok (.ifCond .lt 11, 3) := by decide +kernel
theorem d_Mo_answer_5 : decode b_Mo_answer 5 = .ok (.iload_n 1, 1) := by decide +kernel
theorem d_Mo_answer_6 : decode b_Mo_answer 6 = .ok (.aload_n 0, 1) := by decide +kernel
theorem d_Mo_answer_7 : decode b_Mo_answer 7 = .ok (.getfield 262, 3) := by decide +kernel
theorem d_Mo_answer_10 : decode b_Mo_answer 10 = .ok (.if_icmp .lt 7, 3) := by decide +kernel
theorem d_Mo_answer_13 : decode b_Mo_answer 13 = .ok (.iconst 1, 1) := by decide +kernel
theorem d_Mo_answer_14 : decode b_Mo_answer 14 = .ok (.goto 4, 3) := by decide +kernel
theorem d_Mo_answer_17 : decode b_Mo_answer 17 = .ok (.iconst 0, 1) := by decide +kernel
theorem d_Mo_answer_18 : decode b_Mo_answer 18 = .ok (.putfield 104, 3) := by decide +kernel
theorem d_Mo_answer_21 : decode b_Mo_answer 21 = .ok (.aload_n 0, 1) := by decide +kernel
theorem d_Mo_answer_22 : decode b_Mo_answer 22 = .ok (.getfield 104, 3) := by decide +kernel
theorem d_Mo_answer_25 : decode b_Mo_answer 25 = .ok (.ifCond .ne 12, 3) := by decide +kernel
theorem d_Mo_answer_28 : decode b_Mo_answer 28 = .ok (.aload_n 0, 1) := by decide +kernel
theorem d_Mo_answer_29 : decode b_Mo_answer 29 = .ok (.getfield 101, 3) := by decide +kernel
theorem d_Mo_answer_32 : decode b_Mo_answer 32 = .ok (.iload_n 1, 1) := by decide +kernel
theorem d_Mo_answer_33 : decode b_Mo_answer 33 = .ok (.iaload, 1) := by decide +kernel
theorem d_Mo_answer_34 : decode b_Mo_answer 34 = .ok (.goto 4, 3) := by decide +kernel
theorem d_Mo_answer_37 : decode b_Mo_answer 37 = .ok (.iconst 0, 1) := by decide +kernel
theorem d_Mo_answer_38 : decode b_Mo_answer 38 = .ok (.ireturn, 1) := by decide +kernel
theorem d_Mo_count_0 : decode b_Mo_count 0 = .ok (.aload_n 0, 1) := by decide +kernel
theorem d_Mo_count_1 : decode b_Mo_count 1 = .ok (.iconst 0, 1) := by decide +kernel
theorem d_Mo_count_2 : decode b_Mo_count 2 = .ok (.putfield 104, 3) := by decide +kernel
theorem d_Mo_count_5 : decode b_Mo_count 5 = .ok (.iload_n 1, 1) := by decide +kernel
theorem d_Mo_count_6 : decode b_Mo_count 6 = .ok (.tableswitch 76 0 5 #[38, 43, 48, 53, 58, 63], 38) := by decide +kernel
theorem d_Mo_count_44 : decode b_Mo_count 44 = .ok (.aload_n 0, 1) := by decide +kernel
theorem d_Mo_count_45 : decode b_Mo_count 45 = .ok (.getfield 243, 3) := by decide +kernel
theorem d_Mo_count_48 : decode b_Mo_count 48 = .ok (.ireturn, 1) := by decide +kernel
theorem d_Mo_count_49 : decode b_Mo_count 49 = .ok (.aload_n 0, 1) := by decide +kernel
theorem d_Mo_count_50 : decode b_Mo_count 50 = .ok (.getfield 116, 3) := by decide +kernel
theorem d_Mo_count_53 : decode b_Mo_count 53 = .ok (.ireturn, 1) := by decide +kernel
theorem d_Mo_count_54 : decode b_Mo_count 54 = .ok (.aload_n 0, 1) := by decide +kernel
theorem d_Mo_count_55 : decode b_Mo_count 55 = .ok (.getfield 127, 3) := by decide +kernel
theorem d_Mo_count_58 : decode b_Mo_count 58 = .ok (.ireturn, 1) := by decide +kernel
theorem d_Mo_count_59 : decode b_Mo_count 59 = .ok (.aload_n 0, 1) := by decide +kernel
theorem d_Mo_count_60 : decode b_Mo_count 60 = .ok (.getfield 130, 3) := by decide +kernel
theorem d_Mo_count_63 : decode b_Mo_count 63 = .ok (.ireturn, 1) := by decide +kernel
theorem d_Mo_count_64 : decode b_Mo_count 64 = .ok (.aload_n 0, 1) := by decide +kernel
theorem d_Mo_count_65 : decode b_Mo_count 65 = .ok (.getfield 166, 3) := by decide +kernel
theorem d_Mo_count_68 : decode b_Mo_count 68 = .ok (.ireturn, 1) := by decide +kernel
theorem d_Mo_count_69 : decode b_Mo_count 69 = .ok (.aload_n 0, 1) := by decide +kernel
theorem d_Mo_count_70 : decode b_Mo_count 70 = .ok (.getfield 123, 3) := by decide +kernel
theorem d_Mo_count_73 : decode b_Mo_count 73 = .ok (.ifCond .eq 7, 3) := by decide +kernel
theorem d_Mo_count_76 : decode b_Mo_count 76 = .ok (.iconst 1, 1) := by decide +kernel
theorem d_Mo_count_77 : decode b_Mo_count 77 = .ok (.goto 4, 3) := by decide +kernel
theorem d_Mo_count_80 : decode b_Mo_count 80 = .ok (.iconst 0, 1) := by decide +kernel
theorem d_Mo_count_81 : decode b_Mo_count 81 = .ok (.ireturn, 1) := by decide +kernel
theorem d_Mo_count_82 : decode b_Mo_count 82 = .ok (.iconst (-1), 1) := by decide +kernel
theorem d_Mo_count_83 : decode b_Mo_count 83 = .ok (.ireturn, 1) := by decide +kernel
