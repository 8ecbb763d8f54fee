theorem d_Mo_init_0 : decode b_Mo_init 0 = .ok (.aload_n 0, 1) := by decide +kernel
theorem d_Mo_init_1 : decode b_Mo_init 1 = .ok (.invokespecial 1, 3) := by decide +kernel
theorem d_Mo_init_4 : decode b_Mo_init 4 = .ok (.aload_n 0, 1) := by decide +kernel
theorem d_Mo_init_5 : decode b_Mo_init 5 = .ok (.bipush 8, 2) := by decide +kernel
theorem d_Mo_init_7 : decode b_Mo_init 7 = .ok (.newarray .int, 2) := by decide +kernel
theorem d_Mo_init_9 : decode b_Mo_init 9 = .ok (.putfield 7, 3) := by decide +kernel
theorem d_Mo_init_12 : decode b_Mo_init 12 = .ok (.aload_n 0, 1) := by decide +kernel
theorem d_Mo_init_13 : decode b_Mo_init 13 = .ok (.bipush 8, 2) := by decide +kernel
theorem d_Mo_init_15 : decode b_Mo_init 15 = .ok (.newarray .int, 2) := by decide +kernel
theorem d_Mo_init_17 : decode b_Mo_init 17 = .ok (.putfield 13, 3) := by decide +kernel
theorem d_Mo_init_20 : decode b_Mo_init 20 = .ok (.aload_n 0, 1) := by decide +kernel
theorem d_Mo_init_21 : decode b_Mo_init 21 = .ok (.bipush 24, 2) := by decide +kernel
theorem d_Mo_init_23 : decode b_Mo_init 23 = .ok (.newarray .int, 2) := by decide +kernel
theorem d_Mo_init_25 : decode b_Mo_init 25 = .ok (.putfield 16, 3) := by decide +kernel
theorem d_Mo_init_28 : decode b_Mo_init 28 = .ok (.aload_n 0, 1) := by decide +kernel
theorem d_Mo_init_29 : decode b_Mo_init 29 = .ok (.bipush 6, 2) := by decide +kernel
theorem d_Mo_init_31 : decode b_Mo_init 31 = .ok (.newarray .int, 2) := by decide +kernel
theorem d_Mo_init_33 : decode b_Mo_init 33 = .ok (.putfield 19, 3) := by decide +kernel
theorem d_Mo_init_36 : decode b_Mo_init 36 = .ok (.aload_n 0, 1) := by decide +kernel
theorem d_Mo_init_37 : decode b_Mo_init 37 = .ok (.bipush 6, 2) := by decide +kernel
theorem d_Mo_init_39 : decode b_Mo_init 39 = .ok (.newarray .int, 2) := by decide +kernel
theorem d_Mo_init_41 : decode b_Mo_init 41 = .ok (.putfield 22, 3) := by decide +kernel
theorem d_Mo_init_44 : decode b_Mo_init 44 = .ok (.aload_n 0, 1) := by decide +kernel
theorem d_Mo_init_45 : decode b_Mo_init 45 = .ok (.bipush 18, 2) := by decide +kernel
theorem d_Mo_init_47 : decode b_Mo_init 47 = .ok (.newarray .int, 2) := by decide +kernel
theorem d_Mo_init_49 : decode b_Mo_init 49 = .ok (.putfield 25, 3) := by decide +kernel
theorem d_Mo_init_52 : decode b_Mo_init 52 = .ok (.aload_n 0, 1) := by decide +kernel
theorem d_Mo_init_53 : decode b_Mo_init 53 = .ok (.bipush 100, 2) := by decide +kernel
theorem d_Mo_init_55 : decode b_Mo_init 55 = .ok (.newarray .int, 2) := by decide +kernel
theorem d_Mo_init_57 : decode b_Mo_init 57 = .ok (.putfield 28, 3) := by decide +kernel
theorem d_Mo_init_60 : decode b_Mo_init 60 = .ok (.aload_n 0, 1) := by decide +kernel
theorem d_Mo_init_61 : decode b_Mo_init 61 = .ok (.sipush 300, 3) := by decide +kernel
theorem d_Mo_init_64 : decode b_Mo_init 64 = .ok (.newarray .int, 2) := by decide +kernel
theorem d_Mo_init_66 : decode b_Mo_init 66 = .ok (.putfield 31, 3) := by decide +kernel
theorem d_Mo_init_69 : decode b_Mo_init 69 = .ok (.aload_n 0, 1) := by decide +kernel
theorem d_Mo_init_70 : decode b_Mo_init 70 = .ok (.bipush 100, 2) := by decide +kernel
theorem d_Mo_init_72 : decode b_Mo_init 72 = .ok (.newarray .int, 2) := by decide +kernel
theorem d_Mo_init_74 : decode b_Mo_init 74 = .ok (.putfield 34, 3) := by decide +kernel
theorem d_Mo_init_77 : decode b_Mo_init 77 = .ok (.aload_n 0, 1) := by decide +kernel
theorem d_Mo_init_78 : decode b_Mo_init 78 = .ok (.bipush 100, 2) := by decide +kernel
theorem d_Mo_init_80 : decode b_Mo_init 80 = .ok (.newarray .int, 2) := by decide +kernel
theorem d_Mo_init_82 : decode b_Mo_init 82 = .ok (.putfield 37, 3) := by decide +kernel
theorem d_Mo_init_85 : decode b_Mo_init 85 = .ok (.aload_n 0, 1) := by decide +kernel
theorem d_Mo_init_86 : decode b_Mo_init 86 = .ok (.bipush 24, 2) := by decide +kernel
theorem d_Mo_init_88 : decode b_Mo_init 88 = .ok (.newarray .int, 2) := by decide +kernel
theorem d_Mo_init_90 : decode b_Mo_init 90 = .ok (.putfield 40, 3) := by decide +kernel
theorem d_Mo_init_93 : decode b_Mo_init 93 = .ok (.aload_n 0, 1) := by decide +kernel
theorem d_Mo_init_94 : decode b_Mo_init 94 = .ok (.bipush 72, 2) := by decide +kernel
theorem d_Mo_init_96 : decode b_Mo_init 96 = .ok (.newarray .int, 2) := by decide +kernel
theorem d_Mo_init_98 : decode b_Mo_init 98 = .ok (.putfield 43, 3) := by decide +kernel
theorem d_Mo_init_101 : decode b_Mo_init 101 = .ok (.aload_n 0, 1) := by decide +kernel
theorem d_Mo_init_102 : decode b_Mo_init 102 = .ok (.bipush 24, 2) := by decide +kernel
theorem d_Mo_init_104 : decode b_Mo_init 104 = .ok (.newarray .int, 2) := by decide +kernel
theorem d_Mo_init_106 : decode b_Mo_init 106 = .ok (.putfield 46, 3) := by decide +kernel
theorem d_Mo_init_109 : decode b_Mo_init 109 = .ok (.aload_n 0, 1) := by decide +kernel
theorem d_Mo_init_110 : decode b_Mo_init 110 = .ok (.sipush 201, 3) := by decide +kernel
theorem d_Mo_init_113 : decode b_Mo_init 113 = .ok (.newarray .int, 2) := by decide +kernel
theorem d_Mo_init_115 : decode b_Mo_init 115 = .ok (.putfield 49, 3) := by decide +kernel
theorem d_Mo_init_118 : decode b_Mo_init 118 = .ok (.aload_n 0, 1) := by decide +kernel
theorem d_Mo_init_119 : decode b_Mo_init 119 = .ok (.sipush 201, 3) := by decide +kernel
theorem d_Mo_init_122 : decode b_Mo_init 122 = .ok (.newarray .int, 2) := by decide +kernel
theorem d_Mo_init_124 : decode b_Mo_init 124 = .ok (.putfield 52, 3) := by decide +kernel
theorem d_Mo_init_127 : decode b_Mo_init 127 = .ok (.aload_n 0, 1) := by decide +kernel
theorem d_Mo_init_128 : decode b_Mo_init 128 = .ok (.sipush 201, 3) := by decide +kernel
theorem d_Mo_init_131 : decode b_Mo_init 131 = .ok (.newarray .int, 2) := by decide +kernel
theorem d_Mo_init_133 : decode b_Mo_init 133 = .ok (.putfield 55, 3) := by decide +kernel
theorem d_Mo_init_136 : decode b_Mo_init 136 = .ok (.aload_n 0, 1) := by decide +kernel
theorem d_Mo_init_137 : decode b_Mo_init 137 = .ok (.sipush 200, 3) := by decide +kernel
theorem d_Mo_init_140 : decode b_Mo_init 140 = .ok (.newarray .int, 2) := by decide +kernel
theorem d_Mo_init_142 : decode b_Mo_init 142 = .ok (.putfield 58, 3) := by decide +kernel
theorem d_Mo_init_145 : decode b_Mo_init 145 = .ok (.aload_n 0, 1) := by decide +kernel
theorem d_Mo_init_146 : decode b_Mo_init 146 = .ok (.sipush 200, 3) := by decide +kernel
theorem d_Mo_init_149 : decode b_Mo_init 149 = .ok (.newarray .int, 2) := by decide +kernel
theorem d_Mo_init_151 : decode b_Mo_init 151 = .ok (.putfield 61, 3) := by decide +kernel
theorem d_Mo_init_154 : decode b_Mo_init 154 = .ok (.aload_n 0, 1) := by decide +kernel
theorem d_Mo_init_155 : decode b_Mo_init 155 = .ok (.bipush 8, 2) := by decide +kernel
theorem d_Mo_init_157 : decode b_Mo_init 157 = .ok (.newarray .boolean, 2) := by decide +kernel
theorem d_Mo_init_159 : decode b_Mo_init 159 = .ok (.putfield 64, 3) := by decide +kernel
theorem d_Mo_init_162 : decode b_Mo_init 162 = .ok (.aload_n 0, 1) := by decide +kernel
theorem d_Mo_init_163 : decode b_Mo_init 163 = .ok (.bipush 8, 2) := by decide +kernel
theorem d_Mo_init_165 : decode b_Mo_init 165 = .ok (.newarray .int, 2) := by decide +kernel
theorem d_Mo_init_167 : decode b_Mo_init 167 = .ok (.putfield 68, 3) := by decide +kernel
theorem d_Mo_init_170 : decode b_Mo_init 170 = .ok (.aload_n 0, 1) := by decide +kernel
theorem d_Mo_init_171 : decode b_Mo_init 171 = .ok (.iconst 3, 1) := by decide +kernel
theorem d_Mo_init_172 : decode b_Mo_init 172 = .ok (.newarray .boolean, 2) := by decide +kernel
theorem d_Mo_init_174 : decode b_Mo_init 174 = .ok (.putfield 71, 3) := by decide +kernel
theorem d_Mo_init_177 : decode b_Mo_init 177 = .ok (.aload_n 0, 1) := by decide +kernel
theorem d_Mo_init_178 : decode b_Mo_init 178 = .ok (.sipush 1200, 3) := by decide +kernel
theorem d_Mo_init_181 : decode b_Mo_init 181 = .ok (.newarray .int, 2) := by decide +kernel
theorem d_Mo_init_183 : decode b_Mo_init 183 = .ok (.putfield 74, 3) := by decide +kernel
theorem d_Mo_init_186 : decode b_Mo_init 186 = .ok (.aload_n 0, 1) := by decide +kernel
theorem d_Mo_init_187 : decode b_Mo_init 187 = .ok (.sipush 730, 3) := by decide +kernel
theorem d_Mo_init_190 : decode b_Mo_init 190 = .ok (.newarray .int, 2) := by decide +kernel
theorem d_Mo_init_192 : decode b_Mo_init 192 = .ok (.putfield 77, 3) := by decide +kernel
theorem d_Mo_init_195 : decode b_Mo_init 195 = .ok (.aload_n 0, 1) := by decide +kernel
theorem d_Mo_init_196 : decode b_Mo_init 196 = .ok (.sipush 2190, 3) := by decide +kernel
theorem d_Mo_init_199 : decode b_Mo_init 199 = .ok (.newarray .int, 2) := by decide +kernel
theorem d_Mo_init_201 : decode b_Mo_init 201 = .ok (.putfield 80, 3) := by decide +kernel
theorem d_Mo_init_204 : decode b_Mo_init 204 = .ok (.aload_n 0, 1) := by decide +kernel
theorem d_Mo_init_205 : decode b_Mo_init 205 = .ok (.sipush 730, 3) := by decide +kernel
theorem d_Mo_init_208 : decode b_Mo_init 208 = .ok (.newarray .int, 2) := by decide +kernel
theorem d_Mo_init_210 : decode b_Mo_init 210 = .ok (.putfield 83, 3) := by decide +kernel
theorem d_Mo_init_213 : decode b_Mo_init 213 = .ok (.aload_n 0, 1) := by decide +kernel
theorem d_Mo_init_214 : decode b_Mo_init 214 = .ok (.sipush 3700, 3) := by decide +kernel
theorem d_Mo_init_217 : decode b_Mo_init 217 = .ok (.newarray .int, 2) := by decide +kernel
theorem d_Mo_init_219 : decode b_Mo_init 219 = .ok (.putfield 86, 3) := by decide +kernel
theorem d_Mo_init_222 : decode b_Mo_init 222 = .ok (.aload_n 0, 1) := by decide +kernel
theorem d_Mo_init_223 : decode b_Mo_init 223 = .ok (.sipush 3700, 3) := by decide +kernel
theorem d_Mo_init_226 : decode b_Mo_init 226 = .ok (.newarray .int, 2) := by decide +kernel
theorem d_Mo_init_228 : decode b_Mo_init 228 = .ok (.putfield 89, 3) := by decide +kernel
theorem d_Mo_init_231 : decode b_Mo_init 231 = .ok (.aload_n 0, 1) := by decide +kernel
theorem d_Mo_init_232 : decode b_Mo_init 232 = .ok (.sipush 2500, 3) := by decide +kernel
theorem d_Mo_init_235 : decode b_Mo_init 235 = .ok (.newarray .int, 2) := by decide +kernel
theorem d_Mo_init_237 : decode b_Mo_init 237 = .ok (.putfield 92, 3) := by decide +kernel
theorem d_Mo_init_240 : decode b_Mo_init 240 = .ok (.aload_n 0, 1) := by decide +kernel
theorem d_Mo_init_241 : decode b_Mo_init 241 = .ok (.sipush 1640, 3) := by decide +kernel
theorem d_Mo_init_244 : decode b_Mo_init 244 = .ok (.newarray .int, 2) := by decide +kernel
theorem d_Mo_init_246 : decode b_Mo_init 246 = .ok (.putfield 95, 3) := by decide +kernel
theorem d_Mo_init_249 : decode b_Mo_init 249 = .ok (.aload_n 0, 1) := by decide +kernel
theorem d_Mo_init_250 : decode b_Mo_init 250 = .ok (.iconst 3, 1) := by decide +kernel
theorem d_Mo_init_251 : decode b_Mo_init 251 = .ok (.newarray .int, 2) := by decide +kernel
theorem d_Mo_init_253 : decode b_Mo_init 253 = .ok (.putfield 98, 3) := by decide +kernel
theorem d_Mo_init_256 : decode b_Mo_init 256 = .ok (.aload_n 0, 1) := by decide +kernel
theorem d_Mo_init_257 : decode b_Mo_init 257 = .ok (.bipush 60, 2) := by decide +kernel
theorem d_Mo_init_259 : decode b_Mo_init 259 = .ok (.newarray .int, 2) := by decide +kernel
theorem d_Mo_init_261 : decode b_Mo_init 261 = .ok (.putfield 101, 3) := by decide +kernel
theorem d_Mo_init_264 : decode b_Mo_init 264 = .ok (.return_, 1) := by decide +kernel
theorem d_Mo_thrown_0 : decode b_Mo_thrown 0 = .ok (.aload_n 0, 1) := by decide +kernel
theorem d_Mo_thrown_1 : decode b_Mo_thrown 1 = .ok (.getfield 104, 3) := by decide +kernel
theorem d_Mo_thrown_4 : decode b_Mo_thrown 4 = .ok (.ireturn, 1) := by decide +kernel
theorem d_Mo_constructor_0 : decode b_Mo_constructor 0 = .ok (.aload_n 0, 1) := by decide +kernel
theorem d_Mo_constructor_1 : decode b_Mo_constructor 1 = .ok (.iload_n 1, 1) := by decide +kernel
theorem d_Mo_constructor_2 : decode b_Mo_constructor 2 = .ok (.iload_n 2, 1) := by decide +kernel
theorem d_Mo_constructor_3 : decode b_Mo_constructor 3 = .ok (.iload_n 3, 1) := by decide +kernel
theorem d_Mo_constructor_4 : decode b_Mo_constructor 4 = .ok (.iload 4, 2) := by decide +kernel
theorem d_Mo_constructor_6 : decode b_Mo_constructor 6 = .ok (.invokestatic 112, 3) := by decide +kernel
theorem d_Mo_constructor_9 : decode b_Mo_constructor 9 = .ok (.ifCond .eq 7, 3) := by decide +kernel
theorem d_Mo_constructor_12 : decode b_Mo_constructor 12 = .ok (.iconst 1, 1) := by decide +kernel
theorem d_Mo_constructor_13 : decode b_Mo_constructor 13 = .ok (.goto 17, 3) := by decide +kernel
theorem d_Mo_constructor_16 : decode b_Mo_constructor 16 = .ok (.aload_n 0, 1) := by decide +kernel
theorem d_Mo_constructor_17 : decode b_Mo_constructor 17 = .ok (.getfield 116, 3) := by decide +kernel
theorem d_Mo_constructor_20 : decode b_Mo_constructor 20 = .ok (.bipush 8, 2) := by decide +kernel
theorem d_Mo_constructor_22 : decode b_Mo_constructor 22 = .ok (.if_icmp .ne 7, 3) := by decide +kernel
theorem d_Mo_constructor_25 : decode b_Mo_constructor 25 = .ok (.iconst 2, 1) := by decide +kernel
theorem d_Mo_constructor_26 : decode b_Mo_constructor 26 = .ok (.goto 4, 3) := by decide +kernel
theorem d_Mo_constructor_29 : decode b_Mo_constructor 29 = .ok (.iconst 0, 1) := by decide +kernel
theorem d_Mo_constructor_30 : decode b_Mo_constructor 30 = .ok (.putfield 104, 3) := by decide +kernel
theorem d_Mo_constructor_33 : decode b_Mo_constructor 33 = .ok (.aload_n 0, 1) := by decide +kernel
theorem d_Mo_constructor_34 : decode b_Mo_constructor 34 = .ok (.getfield 104, 3) := by decide +kernel
theorem d_Mo_constructor_37 : decode b_Mo_constructor 37 = .ok (.ifCond .eq 5, 3) := by decide +kernel
theorem d_Mo_constructor_40 : decode b_Mo_constructor 40 = .ok (.iconst 0, 1) := by decide +kernel
theorem d_Mo_constructor_41 : decode b_Mo_constructor 41 = .ok (.ireturn, 1) := by decide +kernel
theorem d_Mo_constructor_42 : decode b_Mo_constructor 42 = .ok (.aload_n 0, 1) := by decide +kernel
theorem d_Mo_constructor_43 : decode b_Mo_constructor 43 = .ok (.getfield 7, 3) := by decide +kernel
theorem d_Mo_constructor_46 : decode b_Mo_constructor 46 = .ok (.aload_n 0, 1) := by decide +kernel
theorem d_Mo_constructor_47 : decode b_Mo_constructor 47 = .ok (.getfield 116, 3) := by decide +kernel
theorem d_Mo_constructor_50 : decode b_Mo_constructor 50 = .ok (.iload_n 1, 1) := by decide +kernel
theorem d_Mo_constructor_51 : decode b_Mo_constructor 51 = .ok (.iastore, 1) := by decide +kernel
theorem d_Mo_constructor_52 : decode b_Mo_constructor 52 = .ok (.aload_n 0, 1) := by decide +kernel
theorem d_Mo_constructor_53 : decode b_Mo_constructor 53 = .ok (.getfield 13, 3) := by decide +kernel
theorem d_Mo_constructor_56 : decode b_Mo_constructor 56 = .ok (.aload_n 0, 1) := by decide +kernel
theorem d_Mo_constructor_57 : decode b_Mo_constructor 57 = .ok (.getfield 116, 3) := by decide +kernel
theorem d_Mo_constructor_60 : decode b_Mo_constructor 60 = .ok (.iload_n 2, 1) := by decide +kernel
theorem d_Mo_constructor_61 : decode b_Mo_constructor 61 = .ok (.iload_n 3, 1) := by decide +kernel
theorem d_Mo_constructor_62 : decode b_Mo_constructor 62 = .ok (.iload 4, 2) := by decide +kernel
theorem d_Mo_constructor_64 : decode b_Mo_constructor 64 = .ok (.invokestatic 119, 3) := by decide +kernel
theorem d_Mo_constructor_67 : decode b_Mo_constructor 67 = .ok (.iastore, 1) := by decide +kernel
theorem d_Mo_constructor_68 : decode b_Mo_constructor 68 = .ok (.aload_n 0, 1) := by decide +kernel
theorem d_Mo_constructor_69 : decode b_Mo_constructor 69 = .ok (.getfield 16, 3) := by decide +kernel
theorem d_Mo_constructor_72 : decode b_Mo_constructor 72 = .ok (.iconst 3, 1) := by decide +kernel
theorem d_Mo_constructor_73 : decode b_Mo_constructor 73 = .ok (.aload_n 0, 1) := by decide +kernel
theorem d_Mo_constructor_74 : decode b_Mo_constructor 74 = .ok (.getfield 116, 3) := by decide +kernel
theorem d_Mo_constructor_77 : decode b_Mo_constructor 77 = .ok (.imul, 1) := by decide +kernel
theorem d_Mo_constructor_78 : decode b_Mo_constructor 78 = .ok (.iload_n 2, 1) := by decide +kernel
theorem d_Mo_constructor_79 : decode b_Mo_constructor 79 = .ok (.iastore, 1) := by decide +kernel
theorem d_Mo_constructor_80 : decode b_Mo_constructor 80 = .ok (.aload_n 0, 1) := by decide +kernel
theorem d_Mo_constructor_81 : decode b_Mo_constructor 81 = .ok (.getfield 16, 3) := by decide +kernel
theorem d_Mo_constructor_84 : decode b_Mo_constructor 84 = .ok (.iconst 3, 1) := by decide +kernel
theorem d_Mo_constructor_85 : decode b_Mo_constructor 85 = .ok (.aload_n 0, 1) := by decide +kernel
theorem d_Mo_constructor_86 : decode b_Mo_constructor 86 = .ok (.getfield 116, 3) := by decide +kernel
theorem d_Mo_constructor_89 : decode b_Mo_constructor 89 = .ok (.imul, 1) := by decide +kernel
theorem d_Mo_constructor_90 : decode b_Mo_constructor 90 = .ok (.iconst 1, 1) := by decide +kernel
theorem d_Mo_constructor_91 : decode b_Mo_constructor 91 = .ok (.iadd, 1) := by decide +kernel
theorem d_Mo_constructor_92 : decode b_Mo_constructor 92 = .ok (.iload_n 3, 1) := by decide +kernel
theorem d_Mo_constructor_93 : decode b_Mo_constructor 93 = .ok (.iastore, 1) := by decide +kernel
theorem d_Mo_constructor_94 : decode b_Mo_constructor 94 = .ok (.aload_n 0, 1) := by decide +kernel
theorem d_Mo_constructor_95 : decode b_Mo_constructor 95 = .ok (.getfield 16, 3) := by decide +kernel
theorem d_Mo_constructor_98 : decode b_Mo_constructor 98 = .ok (.iconst 3, 1) := by decide +kernel
theorem d_Mo_constructor_99 : decode b_Mo_constructor 99 = .ok (.aload_n 0, 1) := by decide +kernel
theorem d_Mo_constructor_100 : decode b_Mo_constructor 100 = .ok (.getfield 116, 3) := by decide +kernel
theorem d_Mo_constructor_103 : decode b_Mo_constructor 103 = .ok (.imul, 1) := by decide +kernel
theorem d_Mo_constructor_104 : decode b_Mo_constructor 104 = .ok (.iconst 2, 1) := by decide +kernel
theorem d_Mo_constructor_105 : decode b_Mo_constructor 105 = .ok (.iadd, 1) := by decide +kernel
theorem d_Mo_constructor_106 : decode b_Mo_constructor 106 = .ok (.iload 4, 2) := by decide +kernel
theorem d_Mo_constructor_108 : decode b_Mo_constructor 108 = .ok (.iastore, 1) := by decide +kernel
theorem d_Mo_constructor_109 : decode b_Mo_constructor 109 = .ok (.aload_n 0, 1) := by decide +kernel
theorem d_Mo_constructor_110 : decode b_Mo_constructor 110 = .ok (.dup, 1) := by decide +kernel
theorem d_Mo_constructor_111 : decode b_Mo_constructor 111 = .ok (.getfield 116, 3) := by decide +kernel
theorem d_Mo_constructor_114 : decode b_Mo_constructor 114 = .ok (.iconst 1, 1) := by decide +kernel
theorem d_Mo_constructor_115 : decode b_Mo_constructor 115 = .ok (.iadd, 1) := by decide +kernel
theorem d_Mo_constructor_116 : decode b_Mo_constructor 116 = .ok (.putfield 116, 3) := by decide +kernel
theorem d_Mo_constructor_119 : decode b_Mo_constructor 119 = .ok (.aload_n 0, 1) := by decide +kernel
theorem d_Mo_constructor_120 : decode b_Mo_constructor 120 = .ok (.iconst 0, 1) := by decide +kernel
theorem d_Mo_constructor_121 : decode b_Mo_constructor 121 = .ok (.putfield 123, 3) := by decide +kernel
theorem d_Mo_constructor_124 : decode b_Mo_constructor 124 = .ok (.aload_n 0, 1) := by decide +kernel
theorem d_Mo_constructor_125 : decode b_Mo_constructor 125 = .ok (.getfield 116, 3) := by decide +kernel
theorem d_Mo_constructor_128 : decode b_Mo_constructor 128 = .ok (.iconst 1, 1) := by decide +kernel
theorem d_Mo_constructor_129 : decode b_Mo_constructor 129 = .ok (.isub, 1) := by decide +kernel
theorem d_Mo_constructor_130 : decode b_Mo_constructor 130 = .ok (.ireturn, 1) := by decide +kernel
theorem d_Mo_wrongTypes_0 : decode b_Mo_wrongTypes 0 = .ok (.iload_n 1, 1) := by decide +kernel
theorem d_Mo_wrongTypes_1 : decode b_Mo_wrongTypes 1 = .ok (.iconst (-1), 1) := by decide +kernel
theorem d_Mo_wrongTypes_2 : decode b_Mo_wrongTypes 2 = .ok (.if_icmp .lt 8, 3) := by decide +kernel
theorem d_Mo_wrongTypes_5 : decode b_Mo_wrongTypes 5 = .ok (.iload_n 1, 1) := by decide +kernel
theorem d_Mo_wrongTypes_6 : decode b_Mo_wrongTypes 6 = .ok (.iconst 2, 1) := by decide +kernel
theorem d_Mo_wrongTypes_7 : decode b_Mo_wrongTypes 7 = .ok (.if_icmp .le 7, 3) := by decide +kernel
theorem d_Mo_wrongTypes_10 : decode b_Mo_wrongTypes 10 = .ok (.iconst 1, 1) := by decide +kernel
theorem d_Mo_wrongTypes_11 : decode b_Mo_wrongTypes 11 = .ok (.goto 4, 3) := by decide +kernel
theorem d_Mo_wrongTypes_14 : decode b_Mo_wrongTypes 14 = .ok (.iconst 0, 1) := by decide +kernel
theorem d_Mo_wrongTypes_15 : decode b_Mo_wrongTypes 15 = .ok (.istore 4, 2) := by decide +kernel
theorem d_Mo_wrongTypes_17 : decode b_Mo_wrongTypes 17 = .ok (.iload_n 1, 1) := by decide +kernel
theorem d_Mo_wrongTypes_18 : decode b_Mo_wrongTypes 18 = .ok (.ifCond .lt 17, 3) := by decide +kernel
theorem d_Mo_wrongTypes_21 : decode b_Mo_wrongTypes 21 = .ok (.iload_n 2, 1) := by decide +kernel
theorem d_Mo_wrongTypes_22 : decode b_Mo_wrongTypes 22 = .ok (.iconst (-1), 1) := by decide +kernel
theorem d_Mo_wrongTypes_23 : decode b_Mo_wrongTypes 23 = .ok (.if_icmp .lt 8, 3) := by decide +kernel
theorem d_Mo_wrongTypes_26 : decode b_Mo_wrongTypes 26 = .ok (.iload_n 2, 1) := by decide +kernel
theorem d_Mo_wrongTypes_27 : decode b_Mo_wrongTypes 27 = .ok (.iconst 2, 1) := by decide +kernel
theorem d_Mo_wrongTypes_28 : decode b_Mo_wrongTypes 28 = .ok (.if_icmp .le 7, 3) := by decide +kernel
theorem d_Mo_wrongTypes_31 : decode b_Mo_wrongTypes 31 = .ok (.iconst 1, 1) := by decide +kernel
theorem d_Mo_wrongTypes_32 : decode b_Mo_wrongTypes 32 = .ok (.goto 4, 3) := by decide +kernel
theorem d_Mo_wrongTypes_35 : decode b_Mo_wrongTypes 35 = .ok (.iconst 0, 1) := by decide +kernel
theorem d_Mo_wrongTypes_36 : decode b_Mo_wrongTypes 36 = .ok (.istore 5, 2) := by decide +kernel
theorem d_Mo_wrongTypes_38 : decode b_Mo_wrongTypes 38 = .ok (.iload_n 1, 1) := by decide +kernel
theorem d_Mo_wrongTypes_39 : decode b_Mo_wrongTypes 39 = .ok (.ifCond .lt 21, 3) := by decide +kernel
theorem d_Mo_wrongTypes_42 : decode b_Mo_wrongTypes 42 = .ok (.iload_n 2, 1) := by decide +kernel
theorem d_Mo_wrongTypes_43 : decode b_Mo_wrongTypes 43 = .ok (.ifCond .lt 17, 3) := by decide +kernel
theorem d_Mo_wrongTypes_46 : decode b_Mo_wrongTypes 46 = .ok (.iload_n 3, 1) := by decide +kernel
theorem d_Mo_wrongTypes_47 : decode b_Mo_wrongTypes 47 = .ok (.iconst (-1), 1) := by decide +kernel
theorem d_Mo_wrongTypes_48 : decode b_Mo_wrongTypes 48 = .ok (.if_icmp .lt 8, 3) := by decide +kernel
theorem d_Mo_wrongTypes_51 : decode b_Mo_wrongTypes 51 = .ok (.iload_n 3, 1) := by decide +kernel
theorem d_Mo_wrongTypes_52 : decode b_Mo_wrongTypes 52 = .ok (.iconst 2, 1) := by decide +kernel
theorem d_Mo_wrongTypes_53 : decode b_Mo_wrongTypes 53 = .ok (.if_icmp .le 7, 3) := by decide +kernel
theorem d_Mo_wrongTypes_56 : decode b_Mo_wrongTypes 56 = .ok (.iconst 1, 1) := by decide +kernel
theorem d_Mo_wrongTypes_57 : decode b_Mo_wrongTypes 57 = .ok (.goto 4, 3) := by decide +kernel
theorem d_Mo_wrongTypes_60 : decode b_Mo_wrongTypes 60 = .ok (.iconst 0, 1) := by decide +kernel
theorem d_Mo_wrongTypes_61 : decode b_Mo_wrongTypes 61 = .ok (.istore 6, 2) := by decide +kernel
theorem d_Mo_wrongTypes_63 : decode b_Mo_wrongTypes 63 = .ok (.iload_n 0, 1) := by decide +kernel
theorem d_Mo_wrongTypes_64 : decode b_Mo_wrongTypes 64 = .ok (.iconst 2, 1) := by decide +kernel
theorem d_Mo_wrongTypes_65 : decode b_Mo_wrongTypes 65 = .ok (.invokestatic 108, 3) := by decide +kernel
theorem d_Mo_wrongTypes_68 : decode b_Mo_wrongTypes 68 = .ok (.ifCond .ne 18, 3) := by decide +kernel
theorem d_Mo_wrongTypes_71 : decode b_Mo_wrongTypes 71 = .ok (.iload 4, 2) := by decide +kernel
theorem d_Mo_wrongTypes_73 : decode b_Mo_wrongTypes 73 = .ok (.ifCond .ne 13, 3) := by decide +kernel
theorem d_Mo_wrongTypes_76 : decode b_Mo_wrongTypes 76 = .ok (.iload 5, 2) := by decide +kernel
theorem d_Mo_wrongTypes_78 : decode b_Mo_wrongTypes 78 = .ok (.ifCond .ne 8, 3) := by decide +kernel
theorem d_Mo_wrongTypes_81 : decode b_Mo_wrongTypes 81 = .ok (.iload 6, 2) := by decide +kernel
theorem d_Mo_wrongTypes_83 : decode b_Mo_wrongTypes 83 = .ok (.ifCond .eq 7, 3) := by decide +kernel
theorem d_Mo_wrongTypes_86 : decode b_Mo_wrongTypes 86 = .ok (.iconst 1, 1) := by decide +kernel
theorem d_Mo_wrongTypes_87 : decode b_Mo_wrongTypes 87 = .ok (.goto 4, 3) := by decide +kernel
theorem d_Mo_wrongTypes_90 : decode b_Mo_wrongTypes 90 = .ok (.iconst 0, 1) := by decide +kernel
theorem d_Mo_wrongTypes_91 : decode b_Mo_wrongTypes 91 = .ok (.ireturn, 1) := by decide +kernel
theorem d_Mo_outside_0 : decode b_Mo_outside 0 = .ok (.iload_n 0, 1) := by decide +kernel
theorem d_Mo_outside_1 : decode b_Mo_outside 1 = .ok (.ifCond .lt 8, 3) := by decide +kernel
theorem d_Mo_outside_4 : decode b_Mo_outside 4 = .ok (.iload_n 0, 1) := by decide +kernel
theorem d_Mo_outside_5 : decode b_Mo_outside 5 = .ok (.iload_n 1, 1) := by decide +kernel
theorem d_Mo_outside_6 : decode b_Mo_outside 6 = .ok (.if_icmp .le 7, 3) := by decide +kernel
theorem d_Mo_outside_9 : decode b_Mo_outside 9 = .ok (.iconst 1, 1) := by decide +kernel
theorem d_Mo_outside_10 : decode b_Mo_outside 10 = .ok (.goto 4, 3) := by decide +kernel
theorem d_Mo_outside_13 : decode b_Mo_outside 13 = .ok (.iconst 0, 1) := by decide +kernel
theorem d_Mo_outside_14 : decode b_Mo_outside 14 = .ok (.ireturn, 1) := by decide +kernel
theorem d_Mo_many_0 : decode b_Mo_many 0 = .ok (.iload_n 0, 1) := by decide +kernel
theorem d_Mo_many_1 : decode b_Mo_many 1 = .ok (.ifCond .ge 7, 3) := by decide +kernel
theorem d_Mo_many_4 : decode b_Mo_many 4 = .ok (.iconst 0, 1) := by decide +kernel
theorem d_Mo_many_5 : decode b_Mo_many 5 = .ok (.goto 20, 3) := by decide +kernel
theorem d_Mo_many_8 : decode b_Mo_many 8 = .ok (.iload_n 1, 1) := by decide +kernel
theorem d_Mo_many_9 : decode b_Mo_many 9 = .ok (.ifCond .ge 7, 3) := by decide +kernel
theorem d_Mo_many_12 : decode b_Mo_many 12 = .ok (.iconst 1, 1) := by decide +kernel
theorem d_Mo_many_13 : decode b_Mo_many 13 = .ok (.goto 12, 3) := by decide +kernel
theorem d_Mo_many_16 : decode b_Mo_many 16 = .ok (.iload_n 2, 1) := by decide +kernel
theorem d_Mo_many_17 : decode b_Mo_many 17 = .ok (.ifCond .ge 7, 3) := by decide +kernel
theorem d_Mo_many_20 : decode b_Mo_many 20 = .ok (.iconst 2, 1) := by decide +kernel
theorem d_Mo_many_21 : decode b_Mo_many 21 = .ok (.goto 4, 3) := by decide +kernel
theorem d_Mo_many_24 : decode b_Mo_many 24 = .ok (.iconst 3, 1) := by decide +kernel
theorem d_Mo_many_25 : decode b_Mo_many 25 = .ok (.ireturn, 1) := by decide +kernel
theorem d_Mo_function_0 : decode b_Mo_function 0 = .ok (.aload_n 0, 1) := by decide +kernel
theorem d_Mo_function_1 : decode b_Mo_function 1 = .ok (.iload_n 1, 1) := by decide +kernel
theorem d_Mo_function_2 : decode b_Mo_function 2 = .ok (.iload_n 2, 1) := by decide +kernel
theorem d_Mo_function_3 : decode b_Mo_function 3 = .ok (.iload_n 3, 1) := by decide +kernel
theorem d_Mo_function_4 : decode b_Mo_function 4 = .ok (.iload 4, 2) := by decide +kernel
theorem d_Mo_function_6 : decode b_Mo_function 6 = .ok (.invokestatic 112, 3) := by decide +kernel
theorem d_Mo_function_9 : decode b_Mo_function 9 = .ok (.ifCond .eq 7, 3) := by decide +kernel
theorem d_Mo_function_12 : decode b_Mo_function 12 = .ok (.iconst 1, 1) := by decide +kernel
theorem d_Mo_function_13 : decode b_Mo_function 13 = .ok (.goto 17, 3) := by decide +kernel
theorem d_Mo_function_16 : decode b_Mo_function 16 = .ok (.aload_n 0, 1) := by decide +kernel
theorem d_Mo_function_17 : decode b_Mo_function 17 = .ok (.getfield 127, 3) := by decide +kernel
theorem d_Mo_function_20 : decode b_Mo_function 20 = .ok (.bipush 6, 2) := by decide +kernel
theorem d_Mo_function_22 : decode b_Mo_function 22 = .ok (.if_icmp .ne 7, 3) := by decide +kernel
theorem d_Mo_function_25 : decode b_Mo_function 25 = .ok (.iconst 2, 1) := by decide +kernel
theorem d_Mo_function_26 : decode b_Mo_function 26 = .ok (.goto 4, 3) := by decide +kernel
theorem d_Mo_function_29 : decode b_Mo_function 29 = .ok (.iconst 0, 1) := by decide +kernel
theorem d_Mo_function_30 : decode b_Mo_function 30 = .ok (.putfield 104, 3) := by decide +kernel
theorem d_Mo_function_33 : decode b_Mo_function 33 = .ok (.aload_n 0, 1) := by decide +kernel
theorem d_Mo_function_34 : decode b_Mo_function 34 = .ok (.getfield 104, 3) := by decide +kernel
theorem d_Mo_function_37 : decode b_Mo_function 37 = .ok (.ifCond .eq 5, 3) := by decide +kernel
theorem d_Mo_function_40 : decode b_Mo_function 40 = .ok (.iconst 0, 1) := by decide +kernel
theorem d_Mo_function_41 : decode b_Mo_function 41 = .ok (.ireturn, 1) := by decide +kernel
theorem d_Mo_function_42 : decode b_Mo_function 42 = .ok (.aload_n 0, 1) := by decide +kernel
theorem d_Mo_function_43 : decode b_Mo_function 43 = .ok (.getfield 19, 3) := by decide +kernel
theorem d_Mo_function_46 : decode b_Mo_function 46 = .ok (.aload_n 0, 1) := by decide +kernel
theorem d_Mo_function_47 : decode b_Mo_function 47 = .ok (.getfield 127, 3) := by decide +kernel
theorem d_Mo_function_50 : decode b_Mo_function 50 = .ok (.iload_n 1, 1) := by decide +kernel
theorem d_Mo_function_51 : decode b_Mo_function 51 = .ok (.iastore, 1) := by decide +kernel
theorem d_Mo_function_52 : decode b_Mo_function 52 = .ok (.aload_n 0, 1) := by decide +kernel
theorem d_Mo_function_53 : decode b_Mo_function 53 = .ok (.getfield 22, 3) := by decide +kernel
theorem d_Mo_function_56 : decode b_Mo_function 56 = .ok (.aload_n 0, 1) := by decide +kernel
theorem d_Mo_function_57 : decode b_Mo_function 57 = .ok (.getfield 127, 3) := by decide +kernel
theorem d_Mo_function_60 : decode b_Mo_function 60 = .ok (.iload_n 2, 1) := by decide +kernel
theorem d_Mo_function_61 : decode b_Mo_function 61 = .ok (.iload_n 3, 1) := by decide +kernel
theorem d_Mo_function_62 : decode b_Mo_function 62 = .ok (.iload 4, 2) := by decide +kernel
theorem d_Mo_function_64 : decode b_Mo_function 64 = .ok (.invokestatic 119, 3) := by decide +kernel
theorem d_Mo_function_67 : decode b_Mo_function 67 = .ok (.iastore, 1) := by decide +kernel
theorem d_Mo_function_68 : decode b_Mo_function 68 = .ok (.aload_n 0, 1) := by decide +kernel
theorem d_Mo_function_69 : decode b_Mo_function 69 = .ok (.getfield 25, 3) := by decide +kernel
theorem d_Mo_function_72 : decode b_Mo_function 72 = .ok (.iconst 3, 1) := by decide +kernel
theorem d_Mo_function_73 : decode b_Mo_function 73 = .ok (.aload_n 0, 1) := by decide +kernel
theorem d_Mo_function_74 : decode b_Mo_function 74 = .ok (.getfield 127, 3) := by decide +kernel
theorem d_Mo_function_77 : decode b_Mo_function 77 = .ok (.imul, 1) := by decide +kernel
theorem d_Mo_function_78 : decode b_Mo_function 78 = .ok (.iload_n 2, 1) := by decide +kernel
theorem d_Mo_function_79 : decode b_Mo_function 79 = .ok (.iastore, 1) := by decide +kernel
theorem d_Mo_function_80 : decode b_Mo_function 80 = .ok (.aload_n 0, 1) := by decide +kernel
theorem d_Mo_function_81 : decode b_Mo_function 81 = .ok (.getfield 25, 3) := by decide +kernel
theorem d_Mo_function_84 : decode b_Mo_function 84 = .ok (.iconst 3, 1) := by decide +kernel
theorem d_Mo_function_85 : decode b_Mo_function 85 = .ok (.aload_n 0, 1) := by decide +kernel
theorem d_Mo_function_86 : decode b_Mo_function 86 = .ok (.getfield 127, 3) := by decide +kernel
theorem d_Mo_function_89 : decode b_Mo_function 89 = .ok (.imul, 1) := by decide +kernel
theorem d_Mo_function_90 : decode b_Mo_function 90 = .ok (.iconst 1, 1) := by decide +kernel
theorem d_Mo_function_91 : decode b_Mo_function 91 = .ok (.iadd, 1) := by decide +kernel
theorem d_Mo_function_92 : decode b_Mo_function 92 = .ok (.iload_n 3, 1) := by decide +kernel
theorem d_Mo_function_93 : decode b_Mo_function 93 = .ok (.iastore, 1) := by decide +kernel
theorem d_Mo_function_94 : decode b_Mo_function 94 = .ok (.aload_n 0, 1) := by decide +kernel
theorem d_Mo_function_95 : decode b_Mo_function 95 = .ok (.getfield 25, 3) := by decide +kernel
theorem d_Mo_function_98 : decode b_Mo_function 98 = .ok (.iconst 3, 1) := by decide +kernel
theorem d_Mo_function_99 : decode b_Mo_function 99 = .ok (.aload_n 0, 1) := by decide +kernel
theorem d_Mo_function_100 : decode b_Mo_function 100 = .ok (.getfield 127, 3) := by decide +kernel
theorem d_Mo_function_103 : decode b_Mo_function 103 = .ok (.imul, 1) := by decide +kernel
theorem d_Mo_function_104 : decode b_Mo_function 104 = .ok (.iconst 2, 1) := by decide +kernel
theorem d_Mo_function_105 : decode b_Mo_function 105 = .ok (.iadd, 1) := by decide +kernel
theorem d_Mo_function_106 : decode b_Mo_function 106 = .ok (.iload 4, 2) := by decide +kernel
theorem d_Mo_function_108 : decode b_Mo_function 108 = .ok (.iastore, 1) := by decide +kernel
theorem d_Mo_function_109 : decode b_Mo_function 109 = .ok (.aload_n 0, 1) := by decide +kernel
theorem d_Mo_function_110 : decode b_Mo_function 110 = .ok (.dup, 1) := by decide +kernel
theorem d_Mo_function_111 : decode b_Mo_function 111 = .ok (.getfield 127, 3) := by decide +kernel
theorem d_Mo_function_114 : decode b_Mo_function 114 = .ok (.iconst 1, 1) := by decide +kernel
theorem d_Mo_function_115 : decode b_Mo_function 115 = .ok (.iadd, 1) := by decide +kernel
theorem d_Mo_function_116 : decode b_Mo_function 116 = .ok (.putfield 127, 3) := by decide +kernel
theorem d_Mo_function_119 : decode b_Mo_function 119 = .ok (.aload_n 0, 1) := by decide +kernel
theorem d_Mo_function_120 : decode b_Mo_function 120 = .ok (.iconst 0, 1) := by decide +kernel
theorem d_Mo_function_121 : decode b_Mo_function 121 = .ok (.putfield 123, 3) := by decide +kernel
theorem d_Mo_function_124 : decode b_Mo_function 124 = .ok (.aload_n 0, 1) := by decide +kernel
theorem d_Mo_function_125 : decode b_Mo_function 125 = .ok (.getfield 127, 3) := by decide +kernel
theorem d_Mo_function_128 : decode b_Mo_function 128 = .ok (.iconst 1, 1) := by decide +kernel
theorem d_Mo_function_129 : decode b_Mo_function 129 = .ok (.isub, 1) := by decide +kernel
theorem d_Mo_function_130 : decode b_Mo_function 130 = .ok (.ireturn, 1) := by decide +kernel
theorem d_Mo_variable_0 : decode b_Mo_variable 0 = .ok (.aload_n 0, 1) := by decide +kernel
theorem d_Mo_variable_1 : decode b_Mo_variable 1 = .ok (.iload_n 1, 1) := by decide +kernel
theorem d_Mo_variable_2 : decode b_Mo_variable 2 = .ok (.bipush 7, 2) := by decide +kernel
theorem d_Mo_variable_4 : decode b_Mo_variable 4 = .ok (.invokestatic 108, 3) := by decide +kernel
theorem d_Mo_variable_7 : decode b_Mo_variable 7 = .ok (.ifCond .eq 7, 3) := by decide +kernel
theorem d_Mo_variable_10 : decode b_Mo_variable 10 = .ok (.iconst 1, 1) := by decide +kernel
theorem d_Mo_variable_11 : decode b_Mo_variable 11 = .ok (.goto 17, 3) := by decide +kernel
theorem d_Mo_variable_14 : decode b_Mo_variable 14 = .ok (.aload_n 0, 1) := by decide +kernel
theorem d_Mo_variable_15 : decode b_Mo_variable 15 = .ok (.getfield 130, 3) := by decide +kernel
theorem d_Mo_variable_18 : decode b_Mo_variable 18 = .ok (.bipush 100, 2) := by decide +kernel
theorem d_Mo_variable_20 : decode b_Mo_variable 20 = .ok (.if_icmp .ne 7, 3) := by decide +kernel
theorem d_Mo_variable_23 : decode b_Mo_variable 23 = .ok (.iconst 2, 1) := by decide +kernel
theorem d_Mo_variable_24 : decode b_Mo_variable 24 = .ok (.goto 4, 3) := by decide +kernel
theorem d_Mo_variable_27 : decode b_Mo_variable 27 = .ok (.iconst 0, 1) := by decide +kernel
theorem d_Mo_variable_28 : decode b_Mo_variable 28 = .ok (.putfield 104, 3) := by decide +kernel
theorem d_Mo_variable_31 : decode b_Mo_variable 31 = .ok (.aload_n 0, 1) := by decide +kernel
theorem d_Mo_variable_32 : decode b_Mo_variable 32 = .ok (.getfield 104, 3) := by decide +kernel
theorem d_Mo_variable_35 : decode b_Mo_variable 35 = .ok (.ifCond .eq 5, 3) := by decide +kernel
theorem d_Mo_variable_38 : decode b_Mo_variable 38 = .ok (.iconst 0, 1) := by decide +kernel
theorem d_Mo_variable_39 : decode b_Mo_variable 39 = .ok (.ireturn, 1) := by decide +kernel
theorem d_Mo_variable_40 : decode b_Mo_variable 40 = .ok (.aload_n 0, 1) := by decide +kernel
theorem d_Mo_variable_41 : decode b_Mo_variable 41 = .ok (.getfield 28, 3) := by decide +kernel
theorem d_Mo_variable_44 : decode b_Mo_variable 44 = .ok (.aload_n 0, 1) := by decide +kernel
theorem d_Mo_variable_45 : decode b_Mo_variable 45 = .ok (.getfield 130, 3) := by decide +kernel
theorem d_Mo_variable_48 : decode b_Mo_variable 48 = .ok (.iload_n 1, 1) := by decide +kernel
theorem d_Mo_variable_49 : decode b_Mo_variable 49 = .ok (.iastore, 1) := by decide +kernel
theorem d_Mo_variable_50 : decode b_Mo_variable 50 = .ok (.aload_n 0, 1) := by decide +kernel
theorem d_Mo_variable_51 : decode b_Mo_variable 51 = .ok (.getfield 34, 3) := by decide +kernel
theorem d_Mo_variable_54 : decode b_Mo_variable 54 = .ok (.aload_n 0, 1) := by decide +kernel
theorem d_Mo_variable_55 : decode b_Mo_variable 55 = .ok (.getfield 130, 3) := by decide +kernel
theorem d_Mo_variable_58 : decode b_Mo_variable 58 = .ok (.iconst 0, 1) := by decide +kernel
theorem d_Mo_variable_59 : decode b_Mo_variable 59 = .ok (.iastore, 1) := by decide +kernel
theorem d_Mo_variable_60 : decode b_Mo_variable 60 = .ok (.aload_n 0, 1) := by decide +kernel
theorem d_Mo_variable_61 : decode b_Mo_variable 61 = .ok (.getfield 37, 3) := by decide +kernel
theorem d_Mo_variable_64 : decode b_Mo_variable 64 = .ok (.aload_n 0, 1) := by decide +kernel
theorem d_Mo_variable_65 : decode b_Mo_variable 65 = .ok (.getfield 130, 3) := by decide +kernel
theorem d_Mo_variable_68 : decode b_Mo_variable 68 = .ok (.iconst 1, 1) := by decide +kernel
theorem d_Mo_variable_69 : decode b_Mo_variable 69 = .ok (.iastore, 1) := by decide +kernel
theorem d_Mo_variable_70 : decode b_Mo_variable 70 = .ok (.aload_n 0, 1) := by decide +kernel
theorem d_Mo_variable_71 : decode b_Mo_variable 71 = .ok (.dup, 1) := by decide +kernel
theorem d_Mo_variable_72 : decode b_Mo_variable 72 = .ok (.getfield 130, 3) := by decide +kernel
theorem d_Mo_variable_75 : decode b_Mo_variable 75 = .ok (.iconst 1, 1) := by decide +kernel
theorem d_Mo_variable_76 : decode b_Mo_variable 76 = .ok (.iadd, 1) := by decide +kernel
theorem d_Mo_variable_77 : decode b_Mo_variable 77 = .ok (.putfield 130, 3) := by decide +kernel
theorem d_Mo_variable_80 : decode b_Mo_variable 80 = .ok (.aload_n 0, 1) := by decide +kernel
theorem d_Mo_variable_81 : decode b_Mo_variable 81 = .ok (.getfield 130, 3) := by decide +kernel
theorem d_Mo_variable_84 : decode b_Mo_variable 84 = .ok (.iconst 1, 1) := by decide +kernel
theorem d_Mo_variable_85 : decode b_Mo_variable 85 = .ok (.isub, 1) := by decide +kernel
theorem d_Mo_variable_86 : decode b_Mo_variable 86 = .ok (.ireturn, 1) := by decide +kernel
theorem d_Mo_make_0 : decode b_Mo_make 0 = .ok (.aload_n 0, 1) := by decide +kernel
theorem d_Mo_make_1 : decode b_Mo_make 1 = .ok (.iload_n 1, 1) := by decide +kernel
theorem d_Mo_make_2 : decode b_Mo_make 2 = .ok (.ifCond .lt 11, 3) := by decide +kernel
theorem d_Mo_make_5 : decode b_Mo_make 5 = .ok (.iload_n 1, 1) := by decide +kernel
theorem d_Mo_make_6 : decode b_Mo_make 6 = .ok (.aload_n 0, 1) := by decide +kernel
theorem d_Mo_make_7 : decode b_Mo_make 7 = .ok (.getfield 116, 3) := by decide +kernel
theorem d_Mo_make_10 : decode b_Mo_make 10 = .ok (.if_icmp .lt 7, 3) := by decide +kernel
theorem d_Mo_make_13 : decode b_Mo_make 13 = .ok (.iconst 1, 1) := by decide +kernel
theorem d_Mo_make_14 : decode b_Mo_make 14 = .ok (.goto 4, 3) := by decide +kernel
theorem d_Mo_make_17 : decode b_Mo_make 17 = .ok (.iconst 0, 1) := by decide +kernel
theorem d_Mo_make_18 : decode b_Mo_make 18 = .ok (.putfield 104, 3) := by decide +kernel
theorem d_Mo_make_21 : decode b_Mo_make 21 = .ok (.aload_n 0, 1) := by decide +kernel
theorem d_Mo_make_22 : decode b_Mo_make 22 = .ok (.getfield 104, 3) := by decide +kernel
theorem d_Mo_make_25 : decode b_Mo_make 25 = .ok (.ifCond .eq 7, 3) := by decide +kernel
theorem d_Mo_make_28 : decode b_Mo_make 28 = .ok (.iconst 0, 1) := by decide +kernel
theorem d_Mo_make_29 : decode b_Mo_make 29 = .ok (.goto 21, 3) := by decide +kernel
theorem d_Mo_make_32 : decode b_Mo_make 32 = .ok (.aload_n 0, 1) := by decide +kernel
theorem d_Mo_make_33 : decode b_Mo_make 33 = .ok (.bipush 8, 2) := by decide +kernel
theorem d_Mo_make_35 : decode b_Mo_make 35 = .ok (.iload_n 1, 1) := by decide +kernel
theorem d_Mo_make_36 : decode b_Mo_make 36 = .ok (.iadd, 1) := by decide +kernel
theorem d_Mo_make_37 : decode b_Mo_make 37 = .ok (.aload_n 0, 1) := by decide +kernel
theorem d_Mo_make_38 : decode b_Mo_make 38 = .ok (.getfield 13, 3) := by decide +kernel
theorem d_Mo_make_41 : decode b_Mo_make 41 = .ok (.iload_n 1, 1) := by decide +kernel
theorem d_Mo_make_42 : decode b_Mo_make 42 = .ok (.iaload, 1) := by decide +kernel
theorem d_Mo_make_43 : decode b_Mo_make 43 = .ok (.iload_n 2, 1) := by decide +kernel
theorem d_Mo_make_44 : decode b_Mo_make 44 = .ok (.iload_n 3, 1) := by decide +kernel
theorem d_Mo_make_45 : decode b_Mo_make 45 = .ok (.iload 4, 2) := by decide +kernel
theorem d_Mo_make_47 : decode b_Mo_make 47 = .ok (.invokevirtual 137, 3) := by decide +kernel
theorem d_Mo_make_50 : decode b_Mo_make 50 = .ok (.ireturn, 1) := by decide +kernel
theorem d_Mo_build_0 : decode b_Mo_build 0 = .ok (.iload_n 2, 1) := by decide +kernel
theorem d_Mo_build_1 : decode b_Mo_build 1 = .ok (.iconst 1, 1) := by decide +kernel
theorem d_Mo_build_2 : decode b_Mo_build 2 = .ok (.if_icmp .lt 11, 3) := by decide +kernel
theorem d_Mo_build_5 : decode b_Mo_build 5 = .ok (.aload_n 0, 1) := by decide +kernel
theorem d_Mo_build_6 : decode b_Mo_build 6 = .ok (.iload_n 3, 1) := by decide +kernel
theorem d_Mo_build_7 : decode b_Mo_build 7 = .ok (.invokevirtual 133, 3) := by decide +kernel
theorem d_Mo_build_10 : decode b_Mo_build 10 = .ok (.ifCond .eq 35, 3) := by decide +kernel
theorem d_Mo_build_13 : decode b_Mo_build 13 = .ok (.iload_n 2, 1) := by decide +kernel
theorem d_Mo_build_14 : decode b_Mo_build 14 = .ok (.iconst 2, 1) := by decide +kernel
theorem d_Mo_build_15 : decode b_Mo_build 15 = .ok (.if_icmp .lt 12, 3) := by decide +kernel
theorem d_Mo_build_18 : decode b_Mo_build 18 = .ok (.aload_n 0, 1) := by decide +kernel
theorem d_Mo_build_19 : decode b_Mo_build 19 = .ok (.iload 4, 2) := by decide +kernel
theorem d_Mo_build_21 : decode b_Mo_build 21 = .ok (.invokevirtual 133, 3) := by decide +kernel
theorem d_Mo_build_24 : decode b_Mo_build 24 = .ok (.ifCond .eq 21, 3) := by decide +kernel
theorem d_Mo_build_27 : decode b_Mo_build 27 = .ok (.iload_n 2, 1) := by decide +kernel
theorem d_Mo_build_28 : decode b_Mo_build 28 = .ok (.iconst 3, 1) := by decide +kernel
theorem d_Mo_build_29 : decode b_Mo_build 29 = .ok (.if_icmp .lt 12, 3) := by decide +kernel
theorem d_Mo_build_32 : decode b_Mo_build 32 = .ok (.aload_n 0, 1) := by decide +kernel
theorem d_Mo_build_33 : decode b_Mo_build 33 = .ok (.iload 5, 2) := by decide +kernel
theorem d_Mo_build_35 : decode b_Mo_build 35 = .ok (.invokevirtual 133, 3) := by decide +kernel
theorem d_Mo_build_38 : decode b_Mo_build 38 = .ok (.ifCond .eq 7, 3) := by decide +kernel
theorem d_Mo_build_41 : decode b_Mo_build 41 = .ok (.iconst 1, 1) := by decide +kernel
theorem d_Mo_build_42 : decode b_Mo_build 42 = .ok (.goto 4, 3) := by decide +kernel
theorem d_Mo_build_45 : decode b_Mo_build 45 = .ok (.iconst 0, 1) := by decide +kernel
theorem d_Mo_build_46 : decode b_Mo_build 46 = .ok (.istore 6, 2) := by decide +kernel
theorem d_Mo_build_48 : decode b_Mo_build 48 = .ok (.iconst 0, 1) := by decide +kernel
theorem d_Mo_build_49 : decode b_Mo_build 49 = .ok (.istore 7, 2) := by decide +kernel
theorem d_Mo_build_51 : decode b_Mo_build 51 = .ok (.iconst 1, 1) := by decide +kernel
theorem d_Mo_build_52 : decode b_Mo_build 52 = .ok (.istore 8, 2) := by decide +kernel
theorem d_Mo_build_54 : decode b_Mo_build 54 = .ok (.iconst 0, 1) := by decide +kernel
theorem d_Mo_build_55 : decode b_Mo_build 55 = .ok (.istore 9, 2) := by decide +kernel
theorem d_Mo_build_57 : decode b_Mo_build 57 = .ok (.iload 9, 2) := by decide +kernel
theorem d_Mo_build_59 : decode b_Mo_build 59 = .ok (.iload_n 2, 1) := by decide +kernel
theorem d_Mo_build_60 : decode b_Mo_build 60 = .ok (.if_icmp .ge 76, 3) := by decide +kernel
theorem d_Mo_build_63 : decode b_Mo_build 63 = .ok (.iload 6, 2) := by decide +kernel
theorem d_Mo_build_65 : decode b_Mo_build 65 = .ok (.ifCond .eq 71, 3) := by decide +kernel
theorem d_Mo_build_68 : decode b_Mo_build 68 = .ok (.iload 9, 2) := by decide +kernel
theorem d_Mo_build_70 : decode b_Mo_build 70 = .ok (.ifCond .ne 7, 3) := by decide +kernel
theorem d_Mo_build_73 : decode b_Mo_build 73 = .ok (.iload_n 3, 1) := by decide +kernel
theorem d_Mo_build_74 : decode b_Mo_build 74 = .ok (.goto 16, 3) := by decide +kernel
theorem d_Mo_build_77 : decode b_Mo_build 77 = .ok (.iload 9, 2) := by decide +kernel
theorem d_Mo_build_79 : decode b_Mo_build 79 = .ok (.iconst 1, 1) := by decide +kernel
theorem d_Mo_build_80 : decode b_Mo_build 80 = .ok (.if_icmp .ne 8, 3) := by decide +kernel
theorem d_Mo_build_83 : decode b_Mo_build 83 = .ok (.iload 4, 2) := by decide +kernel
theorem d_Mo_build_85 : decode b_Mo_build 85 = .ok (.goto 5, 3) := by decide +kernel
theorem d_Mo_build_88 : decode b_Mo_build 88 = .ok (.iload 5, 2) := by decide +kernel
theorem d_Mo_build_90 : decode b_Mo_build 90 = .ok (.istore 10, 2) := by decide +kernel
theorem d_Mo_build_92 : decode b_Mo_build 92 = .ok (.aload_n 0, 1) := by decide +kernel
theorem d_Mo_build_93 : decode b_Mo_build 93 = .ok (.getfield 34, 3) := by decide +kernel
theorem d_Mo_build_96 : decode b_Mo_build 96 = .ok (.iload 10, 2) := by decide +kernel
theorem d_Mo_build_98 : decode b_Mo_build 98 = .ok (.iaload, 1) := by decide +kernel
theorem d_Mo_build_99 : decode b_Mo_build 99 = .ok (.iload 7, 2) := by decide +kernel
theorem d_Mo_build_101 : decode b_Mo_build 101 = .ok (.if_icmp .le 13, 3) := by decide +kernel
theorem d_Mo_build_104 : decode b_Mo_build 104 = .ok (.aload_n 0, 1) := by decide +kernel
theorem d_Mo_build_105 : decode b_Mo_build 105 = .ok (.getfield 34, 3) := by decide +kernel
theorem d_Mo_build_108 : decode b_Mo_build 108 = .ok (.iload 10, 2) := by decide +kernel
theorem d_Mo_build_110 : decode b_Mo_build 110 = .ok (.iaload, 1) := by decide +kernel
theorem d_Mo_build_111 : decode b_Mo_build 111 = .ok (.goto 5, 3) := by decide +kernel
theorem d_Mo_build_114 : decode b_Mo_build 114 = .ok (.iload 7, 2) := by decide +kernel
theorem d_Mo_build_116 : decode b_Mo_build 116 = .ok (.istore 7, 2) := by decide +kernel
theorem d_Mo_build_118 : decode b_Mo_build 118 = .ok (.iload 8, 2) := by decide +kernel
theorem d_Mo_build_120 : decode b_Mo_build 120 = .ok (.aload_n 0, 1) := by decide +kernel
theorem d_Mo_build_121 : decode b_Mo_build 121 = .ok (.getfield 37, 3) := by decide +kernel
theorem d_Mo_build_124 : decode b_Mo_build 124 = .ok (.iload 10, 2) := by decide +kernel
theorem d_Mo_build_126 : decode b_Mo_build 126 = .ok (.iaload, 1) := by decide +kernel
theorem d_Mo_build_127 : decode b_Mo_build 127 = .ok (.iadd, 1) := by decide +kernel
theorem d_Mo_build_128 : decode b_Mo_build 128 = .ok (.istore 8, 2) := by decide +kernel
theorem d_Mo_build_130 : decode b_Mo_build 130 = .ok (.iinc 9 1, 3) := by decide +kernel
theorem d_Mo_build_133 : decode b_Mo_build 133 = .ok (.goto (-76), 3) := by decide +kernel
theorem d_Mo_build_136 : decode b_Mo_build 136 = .ok (.aload_n 0, 1) := by decide +kernel
theorem d_Mo_build_137 : decode b_Mo_build 137 = .ok (.iload 6, 2) := by decide +kernel
theorem d_Mo_build_139 : decode b_Mo_build 139 = .ok (.ifCond .eq 19, 3) := by decide +kernel
theorem d_Mo_build_142 : decode b_Mo_build 142 = .ok (.iload 7, 2) := by decide +kernel
theorem d_Mo_build_144 : decode b_Mo_build 144 = .ok (.iconst 1, 1) := by decide +kernel
theorem d_Mo_build_145 : decode b_Mo_build 145 = .ok (.iadd, 1) := by decide +kernel
theorem d_Mo_build_146 : decode b_Mo_build 146 = .ok (.bipush 6, 2) := by decide +kernel
theorem d_Mo_build_148 : decode b_Mo_build 148 = .ok (.if_icmp .gt 10, 3) := by decide +kernel
theorem d_Mo_build_151 : decode b_Mo_build 151 = .ok (.iload 8, 2) := by decide +kernel
theorem d_Mo_build_153 : decode b_Mo_build 153 = .ok (.bipush 40, 2) := by decide +kernel
theorem d_Mo_build_155 : decode b_Mo_build 155 = .ok (.if_icmp .le 7, 3) := by decide +kernel
theorem d_Mo_build_158 : decode b_Mo_build 158 = .ok (.iconst 1, 1) := by decide +kernel
theorem d_Mo_build_159 : decode b_Mo_build 159 = .ok (.goto 17, 3) := by decide +kernel
theorem d_Mo_build_162 : decode b_Mo_build 162 = .ok (.aload_n 0, 1) := by decide +kernel
theorem d_Mo_build_163 : decode b_Mo_build 163 = .ok (.getfield 130, 3) := by decide +kernel
theorem d_Mo_build_166 : decode b_Mo_build 166 = .ok (.bipush 100, 2) := by decide +kernel
theorem d_Mo_build_168 : decode b_Mo_build 168 = .ok (.if_icmp .ne 7, 3) := by decide +kernel
theorem d_Mo_build_171 : decode b_Mo_build 171 = .ok (.iconst 2, 1) := by decide +kernel
theorem d_Mo_build_172 : decode b_Mo_build 172 = .ok (.goto 4, 3) := by decide +kernel
theorem d_Mo_build_175 : decode b_Mo_build 175 = .ok (.iconst 0, 1) := by decide +kernel
theorem d_Mo_build_176 : decode b_Mo_build 176 = .ok (.putfield 104, 3) := by decide +kernel
theorem d_Mo_build_179 : decode b_Mo_build 179 = .ok (.aload_n 0, 1) := by decide +kernel
theorem d_Mo_build_180 : decode b_Mo_build 180 = .ok (.getfield 104, 3) := by decide +kernel
theorem d_Mo_build_183 : decode b_Mo_build 183 = .ok (.ifCond .eq 5, 3) := by decide +kernel
theorem d_Mo_build_186 : decode b_Mo_build 186 = .ok (.iconst 0, 1) := by decide +kernel
theorem d_Mo_build_187 : decode b_Mo_build 187 = .ok (.ireturn, 1) := by decide +kernel
theorem d_Mo_build_188 : decode b_Mo_build 188 = .ok (.aload_n 0, 1) := by decide +kernel
theorem d_Mo_build_189 : decode b_Mo_build 189 = .ok (.getfield 28, 3) := by decide +kernel
theorem d_Mo_build_192 : decode b_Mo_build 192 = .ok (.aload_n 0, 1) := by decide +kernel
theorem d_Mo_build_193 : decode b_Mo_build 193 = .ok (.getfield 130, 3) := by decide +kernel
theorem d_Mo_build_196 : decode b_Mo_build 196 = .ok (.iload_n 1, 1) := by decide +kernel
theorem d_Mo_build_197 : decode b_Mo_build 197 = .ok (.iastore, 1) := by decide +kernel
theorem d_Mo_build_198 : decode b_Mo_build 198 = .ok (.aload_n 0, 1) := by decide +kernel
theorem d_Mo_build_199 : decode b_Mo_build 199 = .ok (.getfield 31, 3) := by decide +kernel
theorem d_Mo_build_202 : decode b_Mo_build 202 = .ok (.iconst 3, 1) := by decide +kernel
theorem d_Mo_build_203 : decode b_Mo_build 203 = .ok (.aload_n 0, 1) := by decide +kernel
theorem d_Mo_build_204 : decode b_Mo_build 204 = .ok (.getfield 130, 3) := by decide +kernel
theorem d_Mo_build_207 : decode b_Mo_build 207 = .ok (.imul, 1) := by decide +kernel
theorem d_Mo_build_208 : decode b_Mo_build 208 = .ok (.iload_n 3, 1) := by decide +kernel
theorem d_Mo_build_209 : decode b_Mo_build 209 = .ok (.iastore, 1) := by decide +kernel
theorem d_Mo_build_210 : decode b_Mo_build 210 = .ok (.aload_n 0, 1) := by decide +kernel
theorem d_Mo_build_211 : decode b_Mo_build 211 = .ok (.getfield 31, 3) := by decide +kernel
theorem d_Mo_build_214 : decode b_Mo_build 214 = .ok (.iconst 3, 1) := by decide +kernel
theorem d_Mo_build_215 : decode b_Mo_build 215 = .ok (.aload_n 0, 1) := by decide +kernel
theorem d_Mo_build_216 : decode b_Mo_build 216 = .ok (.getfield 130, 3) := by decide +kernel
theorem d_Mo_build_219 : decode b_Mo_build 219 = .ok (.imul, 1) := by decide +kernel
theorem d_Mo_build_220 : decode b_Mo_build 220 = .ok (.iconst 1, 1) := by decide +kernel
theorem d_Mo_build_221 : decode b_Mo_build 221 = .ok (.iadd, 1) := by decide +kernel
theorem d_Mo_build_222 : decode b_Mo_build 222 = .ok (.iload 4, 2) := by decide +kernel
theorem d_Mo_build_224 : decode b_Mo_build 224 = .ok (.iastore, 1) := by decide +kernel
theorem d_Mo_build_225 : decode b_Mo_build 225 = .ok (.aload_n 0, 1) := by decide +kernel
theorem d_Mo_build_226 : decode b_Mo_build 226 = .ok (.getfield 31, 3) := by decide +kernel
theorem d_Mo_build_229 : decode b_Mo_build 229 = .ok (.iconst 3, 1) := by decide +kernel
theorem d_Mo_build_230 : decode b_Mo_build 230 = .ok (.aload_n 0, 1) := by decide +kernel
theorem d_Mo_build_231 : decode b_Mo_build 231 = .ok (.getfield 130, 3) := by decide +kernel
theorem d_Mo_build_234 : decode b_Mo_build 234 = .ok (.imul, 1) := by decide +kernel
theorem d_Mo_build_235 : decode b_Mo_build 235 = .ok (.iconst 2, 1) := by decide +kernel
theorem d_Mo_build_236 : decode b_Mo_build 236 = .ok (.iadd, 1) := by decide +kernel
theorem d_Mo_build_237 : decode b_Mo_build 237 = .ok (.iload 5, 2) := by decide +kernel
theorem d_Mo_build_239 : decode b_Mo_build 239 = .ok (.iastore, 1) := by decide +kernel
theorem d_Mo_build_240 : decode b_Mo_build 240 = .ok (.aload_n 0, 1) := by decide +kernel
theorem d_Mo_build_241 : decode b_Mo_build 241 = .ok (.getfield 34, 3) := by decide +kernel
theorem d_Mo_build_244 : decode b_Mo_build 244 = .ok (.aload_n 0, 1) := by decide +kernel
theorem d_Mo_build_245 : decode b_Mo_build 245 = .ok (.getfield 130, 3) := by decide +kernel
theorem d_Mo_build_248 : decode b_Mo_build 248 = .ok (.iload 7, 2) := by decide +kernel
theorem d_Mo_build_250 : decode b_Mo_build 250 = .ok (.iconst 1, 1) := by decide +kernel
theorem d_Mo_build_251 : decode b_Mo_build 251 = .ok (.iadd, 1) := by decide +kernel
theorem d_Mo_build_252 : decode b_Mo_build 252 = .ok (.iastore, 1) := by decide +kernel
theorem d_Mo_build_253 : decode b_Mo_build 253 = .ok (.aload_n 0, 1) := by decide +kernel
theorem d_Mo_build_254 : decode b_Mo_build 254 = .ok (.getfield 37, 3) := by decide +kernel
theorem d_Mo_build_257 : decode b_Mo_build 257 = .ok (.aload_n 0, 1) := by decide +kernel
theorem d_Mo_build_258 : decode b_Mo_build 258 = .ok (.getfield 130, 3) := by decide +kernel
theorem d_Mo_build_261 : decode b_Mo_build 261 = .ok (.iload 8, 2) := by decide +kernel
theorem d_Mo_build_263 : decode b_Mo_build 263 = .ok (.iastore, 1) := by decide +kernel
theorem d_Mo_build_264 : decode b_Mo_build 264 = .ok (.aload_n 0, 1) := by decide +kernel
theorem d_Mo_build_265 : decode b_Mo_build 265 = .ok (.dup, 1) := by decide +kernel
theorem d_Mo_build_266 : decode b_Mo_build 266 = .ok (.getfield 130, 3) := by decide +kernel
theorem d_Mo_build_269 : decode b_Mo_build 269 = .ok (.iconst 1, 1) := by decide +kernel
theorem d_Mo_build_270 : decode b_Mo_build 270 = .ok (.iadd, 1) := by decide +kernel
theorem d_Mo_build_271 : decode b_Mo_build 271 = .ok (.putfield 130, 3) := by decide +kernel
theorem d_Mo_build_274 : decode b_Mo_build 274 = .ok (.aload_n 0, 1) := by decide +kernel
theorem d_Mo_build_275 : decode b_Mo_build 275 = .ok (.getfield 130, 3) := by decide +kernel
theorem d_Mo_build_278 : decode b_Mo_build 278 = .ok (.iconst 1, 1) := by decide +kernel
theorem d_Mo_build_279 : decode b_Mo_build 279 = .ok (.isub, 1) := by decide +kernel
theorem d_Mo_build_280 : decode b_Mo_build 280 = .ok (.ireturn, 1) := by decide +kernel
theorem d_Mo_isTerm_0 : decode b_Mo_isTerm 0 = .ok (.iload_n 1, 1) := by decide +kernel
theorem d_Mo_isTerm_1 : decode b_Mo_isTerm 1 = .ok (.ifCond .lt 15, 3) := by decide +kernel
theorem d_Mo_isTerm_4 : decode b_Mo_isTerm 4 = .ok (.iload_n 1, 1) := by decide +kernel
theorem d_Mo_isTerm_5 : decode b_Mo_isTerm 5 = .ok (.aload_n 0, 1) := by decide +kernel
theorem d_Mo_isTerm_6 : decode b_Mo_isTerm 6 = .ok (.getfield 130, 3) := by decide +kernel
theorem d_Mo_isTerm_9 : decode b_Mo_isTerm 9 = .ok (.if_icmp .ge 7, 3) := by decide +kernel
theorem d_Mo_isTerm_12 : decode b_Mo_isTerm 12 = .ok (.iconst 1, 1) := by decide +kernel
theorem d_Mo_isTerm_13 : decode b_Mo_isTerm 13 = .ok (.goto 4, 3) := by decide +kernel
theorem d_Mo_isTerm_16 : decode b_Mo_isTerm 16 = .ok (.iconst 0, 1) := by decide +kernel
theorem d_Mo_isTerm_17 : decode b_Mo_isTerm 17 = .ok (.ireturn, 1) := by decide +kernel
theorem d_Mo_call_0 : decode b_Mo_call 0 = .ok (.aload_n 0, 1) := by decide +kernel
theorem d_Mo_call_1 : decode b_Mo_call 1 = .ok (.iload_n 1, 1) := by decide +kernel
theorem d_Mo_call_2 : decode b_Mo_call 2 = .ok (.ifCond .lt 11, 3) := by decide +kernel
theorem d_Mo_call_5 : decode b_Mo_call 5 = .ok (.iload_n 1, 1) := by decide +kernel
theorem d_Mo_call_6 : decode b_Mo_call 6 = .ok (.aload_n 0, 1) := by decide +kernel
theorem d_Mo_call_7 : decode b_Mo_call 7 = .ok (.getfield 127, 3) := by decide +kernel
theorem d_Mo_call_10 : decode b_Mo_call 10 = .ok (.if_icmp .lt 7, 3) := by decide +kernel
theorem d_Mo_call_13 : decode b_Mo_call 13 = .ok (.iconst 1, 1) := by decide +kernel
theorem d_Mo_call_14 : decode b_Mo_call 14 = .ok (.goto 4, 3) := by decide +kernel
theorem d_Mo_call_17 : decode b_Mo_call 17 = .ok (.iconst 0, 1) := by decide +kernel
theorem d_Mo_call_18 : decode b_Mo_call 18 = .ok (.putfield 104, 3) := by decide +kernel
theorem d_Mo_call_21 : decode b_Mo_call 21 = .ok (.aload_n 0, 1) := by decide +kernel
theorem d_Mo_call_22 : decode b_Mo_call 22 = .ok (.getfield 104, 3) := by decide +kernel
theorem d_Mo_call_25 : decode b_Mo_call 25 = .ok (.ifCond .eq 7, 3) := by decide +kernel
theorem d_Mo_call_28 : decode b_Mo_call 28 = .ok (.iconst 0, 1) := by decide +kernel
theorem d_Mo_call_29 : decode b_Mo_call 29 = .ok (.goto 21, 3) := by decide +kernel
theorem d_Mo_call_32 : decode b_Mo_call 32 = .ok (.aload_n 0, 1) := by decide +kernel
theorem d_Mo_call_33 : decode b_Mo_call 33 = .ok (.bipush 16, 2) := by decide +kernel
theorem d_Mo_call_35 : decode b_Mo_call 35 = .ok (.iload_n 1, 1) := by decide +kernel
theorem d_Mo_call_36 : decode b_Mo_call 36 = .ok (.iadd, 1) := by decide +kernel
theorem d_Mo_call_37 : decode b_Mo_call 37 = .ok (.aload_n 0, 1) := by decide +kernel
theorem d_Mo_call_38 : decode b_Mo_call 38 = .ok (.getfield 22, 3) := by decide +kernel
theorem d_Mo_call_41 : decode b_Mo_call 41 = .ok (.iload_n 1, 1) := by decide +kernel
theorem d_Mo_call_42 : decode b_Mo_call 42 = .ok (.iaload, 1) := by decide +kernel
theorem d_Mo_call_43 : decode b_Mo_call 43 = .ok (.iload_n 2, 1) := by decide +kernel
theorem d_Mo_call_44 : decode b_Mo_call 44 = .ok (.iload_n 3, 1) := by decide +kernel
theorem d_Mo_call_45 : decode b_Mo_call 45 = .ok (.iload 4, 2) := by decide +kernel
theorem d_Mo_call_47 : decode b_Mo_call 47 = .ok (.invokevirtual 137, 3) := by decide +kernel
theorem d_Mo_call_50 : decode b_Mo_call 50 = .ok (.ireturn, 1) := by decide +kernel
theorem d_Mo_clause_0 : decode b_Mo_clause 0 = .ok (.aload_n 0, 1) := by decide +kernel
theorem d_Mo_clause_1 : decode b_Mo_clause 1 = .ok (.iload_n 1, 1) := by decide +kernel
theorem d_Mo_clause_2 : decode b_Mo_clause 2 = .ok (.iload_n 2, 1) := by decide +kernel
theorem d_Mo_clause_3 : decode b_Mo_clause 3 = .ok (.iload_n 3, 1) := by decide +kernel
theorem d_Mo_clause_4 : decode b_Mo_clause 4 = .ok (.iload 4, 2) := by decide +kernel
theorem d_Mo_clause_6 : decode b_Mo_clause 6 = .ok (.iload 5, 2) := by decide +kernel
theorem d_Mo_clause_8 : decode b_Mo_clause 8 = .ok (.invokevirtual 162, 3) := by decide +kernel
theorem d_Mo_clause_11 : decode b_Mo_clause 11 = .ok (.istore 6, 2) := by decide +kernel
theorem d_Mo_clause_13 : decode b_Mo_clause 13 = .ok (.iconst 0, 1) := by decide +kernel
theorem d_Mo_clause_14 : decode b_Mo_clause 14 = .ok (.istore 7, 2) := by decide +kernel
theorem d_Mo_clause_16 : decode b_Mo_clause 16 = .ok (.iconst 0, 1) := by decide +kernel
theorem d_Mo_clause_17 : decode b_Mo_clause 17 = .ok (.istore 8, 2) := by decide +kernel
theorem d_Mo_clause_19 : decode b_Mo_clause 19 = .ok (.iload 8, 2) := by decide +kernel
theorem d_Mo_clause_21 : decode b_Mo_clause 21 = .ok (.aload_n 0, 1) := by decide +kernel
theorem d_Mo_clause_22 : decode b_Mo_clause 22 = .ok (.getfield 166, 3) := by decide +kernel
theorem d_Mo_clause_25 : decode b_Mo_clause 25 = .ok (.if_icmp .ge 31, 3) := by decide +kernel
theorem d_Mo_clause_28 : decode b_Mo_clause 28 = .ok (.aload_n 0, 1) := by decide +kernel
theorem d_Mo_clause_29 : decode b_Mo_clause 29 = .ok (.getfield 40, 3) := by decide +kernel
theorem d_Mo_clause_32 : decode b_Mo_clause 32 = .ok (.iload 8, 2) := by decide +kernel
theorem d_Mo_clause_34 : decode b_Mo_clause 34 = .ok (.iaload, 1) := by decide +kernel
theorem d_Mo_clause_35 : decode b_Mo_clause 35 = .ok (.iload_n 1, 1) := by decide +kernel
theorem d_Mo_clause_36 : decode b_Mo_clause 36 = .ok (.if_icmp .ne 10, 3) := by decide +kernel
theorem d_Mo_clause_39 : decode b_Mo_clause 39 = .ok (.iload 7, 2) := by decide +kernel
theorem d_Mo_clause_41 : decode b_Mo_clause 41 = .ok (.iconst 1, 1) := by decide +kernel
theorem d_Mo_clause_42 : decode b_Mo_clause 42 = .ok (.iadd, 1) := by decide +kernel
theorem d_Mo_clause_43 : decode b_Mo_clause 43 = .ok (.goto 5, 3) := by decide +kernel
theorem d_Mo_clause_46 : decode b_Mo_clause 46 = .ok (.iload 7, 2) := by decide +kernel
theorem d_Mo_clause_48 : decode b_Mo_clause 48 = .ok (.istore 7, 2) := by decide +kernel
theorem d_Mo_clause_50 : decode b_Mo_clause 50 = .ok (.iinc 8 1, 3) := by decide +kernel
theorem d_Mo_clause_53 : decode b_Mo_clause 53 = .ok (.goto (-34), 3) := by decide +kernel
theorem d_Mo_clause_56 : decode b_Mo_clause 56 = .ok (.aload_n 0, 1) := by decide +kernel
theorem d_Mo_clause_57 : decode b_Mo_clause 57 = .ok (.iload 6, 2) := by decide +kernel
theorem d_Mo_clause_59 : decode b_Mo_clause 59 = .ok (.ifCond .ne 7, 3) := by decide +kernel
theorem d_Mo_clause_62 : decode b_Mo_clause 62 = .ok (.iconst 1, 1) := by decide +kernel
theorem d_Mo_clause_63 : decode b_Mo_clause 63 = .ok (.goto 24, 3) := by decide +kernel
theorem d_Mo_clause_66 : decode b_Mo_clause 66 = .ok (.iload 7, 2) := by decide +kernel
theorem d_Mo_clause_68 : decode b_Mo_clause 68 = .ok (.bipush 6, 2) := by decide +kernel
theorem d_Mo_clause_70 : decode b_Mo_clause 70 = .ok (.if_icmp .eq 12, 3) := by decide +kernel
theorem d_Mo_clause_73 : decode b_Mo_clause 73 = .ok (.aload_n 0, 1) := by decide +kernel
theorem d_Mo_clause_74 : decode b_Mo_clause 74 = .ok (.getfield 166, 3) := by decide +kernel
theorem d_Mo_clause_77 : decode b_Mo_clause 77 = .ok (.bipush 24, 2) := by decide +kernel
theorem d_Mo_clause_79 : decode b_Mo_clause 79 = .ok (.if_icmp .ne 7, 3) := by decide +kernel
theorem d_Mo_clause_82 : decode b_Mo_clause 82 = .ok (.iconst 2, 1) := by decide +kernel
theorem d_Mo_clause_83 : decode b_Mo_clause 83 = .ok (.goto 4, 3) := by decide +kernel
theorem d_Mo_clause_86 : decode b_Mo_clause 86 = .ok (.iconst 0, 1) := by decide +kernel
theorem d_Mo_clause_87 : decode b_Mo_clause 87 = .ok (.putfield 104, 3) := by decide +kernel
theorem d_Mo_clause_90 : decode b_Mo_clause 90 = .ok (.aload_n 0, 1) := by decide +kernel
theorem d_Mo_clause_91 : decode b_Mo_clause 91 = .ok (.getfield 104, 3) := by decide +kernel
theorem d_Mo_clause_94 : decode b_Mo_clause 94 = .ok (.ifCond .eq 5, 3) := by decide +kernel
theorem d_Mo_clause_97 : decode b_Mo_clause 97 = .ok (.iconst 0, 1) := by decide +kernel
theorem d_Mo_clause_98 : decode b_Mo_clause 98 = .ok (.ireturn, 1) := by decide +kernel
theorem d_Mo_clause_99 : decode b_Mo_clause 99 = .ok (.aload_n 0, 1) := by decide +kernel
theorem d_Mo_clause_100 : decode b_Mo_clause 100 = .ok (.getfield 40, 3) := by decide +kernel
theorem d_Mo_clause_103 : decode b_Mo_clause 103 = .ok (.aload_n 0, 1) := by decide +kernel
theorem d_Mo_clause_104 : decode b_Mo_clause 104 = .ok (.getfield 166, 3) := by decide +kernel
theorem d_Mo_clause_107 : decode b_Mo_clause 107 = .ok (.iload_n 1, 1) := by decide +kernel
theorem d_Mo_clause_108 : decode b_Mo_clause 108 = .ok (.iastore, 1) := by decide +kernel
theorem d_Mo_clause_109 : decode b_Mo_clause 109 = .ok (.aload_n 0, 1) := by decide +kernel
theorem d_Mo_clause_110 : decode b_Mo_clause 110 = .ok (.getfield 43, 3) := by decide +kernel
theorem d_Mo_clause_113 : decode b_Mo_clause 113 = .ok (.iconst 3, 1) := by decide +kernel
theorem d_Mo_clause_114 : decode b_Mo_clause 114 = .ok (.aload_n 0, 1) := by decide +kernel
theorem d_Mo_clause_115 : decode b_Mo_clause 115 = .ok (.getfield 166, 3) := by decide +kernel
theorem d_Mo_clause_118 : decode b_Mo_clause 118 = .ok (.imul, 1) := by decide +kernel
theorem d_Mo_clause_119 : decode b_Mo_clause 119 = .ok (.iload_n 2, 1) := by decide +kernel
theorem d_Mo_clause_120 : decode b_Mo_clause 120 = .ok (.iastore, 1) := by decide +kernel
theorem d_Mo_clause_121 : decode b_Mo_clause 121 = .ok (.aload_n 0, 1) := by decide +kernel
theorem d_Mo_clause_122 : decode b_Mo_clause 122 = .ok (.getfield 43, 3) := by decide +kernel
theorem d_Mo_clause_125 : decode b_Mo_clause 125 = .ok (.iconst 3, 1) := by decide +kernel
theorem d_Mo_clause_126 : decode b_Mo_clause 126 = .ok (.aload_n 0, 1) := by decide +kernel
theorem d_Mo_clause_127 : decode b_Mo_clause 127 = .ok (.getfield 166, 3) := by decide +kernel
theorem d_Mo_clause_130 : decode b_Mo_clause 130 = .ok (.imul, 1) := by decide +kernel
theorem d_Mo_clause_131 : decode b_Mo_clause 131 = .ok (.iconst 1, 1) := by decide +kernel
theorem d_Mo_clause_132 : decode b_Mo_clause 132 = .ok (.iadd, 1) := by decide +kernel
theorem d_Mo_clause_133 : decode b_Mo_clause 133 = .ok (.iload_n 3, 1) := by decide +kernel
theorem d_Mo_clause_134 : decode b_Mo_clause 134 = .ok (.iastore, 1) := by decide +kernel
theorem d_Mo_clause_135 : decode b_Mo_clause 135 = .ok (.aload_n 0, 1) := by decide +kernel
theorem d_Mo_clause_136 : decode b_Mo_clause 136 = .ok (.getfield 43, 3) := by decide +kernel
theorem d_Mo_clause_139 : decode b_Mo_clause 139 = .ok (.iconst 3, 1) := by decide +kernel
theorem d_Mo_clause_140 : decode b_Mo_clause 140 = .ok (.aload_n 0, 1) := by decide +kernel
theorem d_Mo_clause_141 : decode b_Mo_clause 141 = .ok (.getfield 166, 3) := by decide +kernel
theorem d_Mo_clause_144 : decode b_Mo_clause 144 = .ok (.imul, 1) := by decide +kernel
theorem d_Mo_clause_145 : decode b_Mo_clause 145 = .ok (.iconst 2, 1) := by decide +kernel
theorem d_Mo_clause_146 : decode b_Mo_clause 146 = .ok (.iadd, 1) := by decide +kernel
theorem d_Mo_clause_147 : decode b_Mo_clause 147 = .ok (.iload 4, 2) := by decide +kernel
theorem d_Mo_clause_149 : decode b_Mo_clause 149 = .ok (.iastore, 1) := by decide +kernel
theorem d_Mo_clause_150 : decode b_Mo_clause 150 = .ok (.aload_n 0, 1) := by decide +kernel
theorem d_Mo_clause_151 : decode b_Mo_clause 151 = .ok (.getfield 46, 3) := by decide +kernel
theorem d_Mo_clause_154 : decode b_Mo_clause 154 = .ok (.aload_n 0, 1) := by decide +kernel
theorem d_Mo_clause_155 : decode b_Mo_clause 155 = .ok (.getfield 166, 3) := by decide +kernel
theorem d_Mo_clause_158 : decode b_Mo_clause 158 = .ok (.iload 5, 2) := by decide +kernel
theorem d_Mo_clause_160 : decode b_Mo_clause 160 = .ok (.iastore, 1) := by decide +kernel
theorem d_Mo_clause_161 : decode b_Mo_clause 161 = .ok (.aload_n 0, 1) := by decide +kernel
theorem d_Mo_clause_162 : decode b_Mo_clause 162 = .ok (.dup, 1) := by decide +kernel
theorem d_Mo_clause_163 : decode b_Mo_clause 163 = .ok (.getfield 166, 3) := by decide +kernel
theorem d_Mo_clause_166 : decode b_Mo_clause 166 = .ok (.iconst 1, 1) := by decide +kernel
theorem d_Mo_clause_167 : decode b_Mo_clause 167 = .ok (.iadd, 1) := by decide +kernel
theorem d_Mo_clause_168 : decode b_Mo_clause 168 = .ok (.putfield 166, 3) := by decide +kernel
theorem d_Mo_clause_171 : decode b_Mo_clause 171 = .ok (.aload_n 0, 1) := by decide +kernel
theorem d_Mo_clause_172 : decode b_Mo_clause 172 = .ok (.iconst 0, 1) := by decide +kernel
theorem d_Mo_clause_173 : decode b_Mo_clause 173 = .ok (.putfield 123, 3) := by decide +kernel
theorem d_Mo_clause_176 : decode b_Mo_clause 176 = .ok (.aload_n 0, 1) := by decide +kernel
theorem d_Mo_clause_177 : decode b_Mo_clause 177 = .ok (.getfield 166, 3) := by decide +kernel
theorem d_Mo_clause_180 : decode b_Mo_clause 180 = .ok (.ireturn, 1) := by decide +kernel
theorem d_Mo_isClause_0 : decode b_Mo_isClause 0 = .ok (.iload_n 1, 1) := by decide +kernel
theorem d_Mo_isClause_1 : decode b_Mo_isClause 1 = .ok (.ifCond .lt 20, 3) := by decide +kernel
theorem d_Mo_isClause_4 : decode b_Mo_isClause 4 = .ok (.iload_n 1, 1) := by decide +kernel
theorem d_Mo_isClause_5 : decode b_Mo_isClause 5 = .ok (.aload_n 0, 1) := by decide +kernel
theorem d_Mo_isClause_6 : decode b_Mo_isClause 6 = .ok (.getfield 127, 3) := by decide +kernel
theorem d_Mo_isClause_9 : decode b_Mo_isClause 9 = .ok (.if_icmp .ge 12, 3) := by decide +kernel
theorem d_Mo_isClause_12 : decode b_Mo_isClause 12 = .ok (.aload_n 0, 1) := by decide +kernel
theorem d_Mo_isClause_13 : decode b_Mo_isClause 13 = .ok (.iload 5, 2) := by decide +kernel
theorem d_Mo_isClause_15 : decode b_Mo_isClause 15 = .ok (.invokevirtual 133, 3) := by decide +kernel
theorem d_Mo_isClause_18 : decode b_Mo_isClause 18 = .ok (.ifCond .ne 5, 3) := by decide +kernel
theorem d_Mo_isClause_21 : decode b_Mo_isClause 21 = .ok (.iconst 0, 1) := by decide +kernel
theorem d_Mo_isClause_22 : decode b_Mo_isClause 22 = .ok (.ireturn, 1) := by decide +kernel
theorem d_Mo_isClause_23 : decode b_Mo_isClause 23 = .ok (.iconst 0, 1) := by decide +kernel
theorem d_Mo_isClause_24 : decode b_Mo_isClause 24 = .ok (.istore 6, 2) := by decide +kernel
theorem d_Mo_isClause_26 : decode b_Mo_isClause 26 = .ok (.iload 6, 2) := by decide +kernel
theorem d_Mo_isClause_28 : decode b_Mo_isClause 28 = .ok (.bipush 8, 2) := by decide +kernel
theorem d_Mo_isClause_30 : decode b_Mo_isClause 30 = .ok (.if_icmp .ge 17, 3) := by decide +kernel
theorem d_Mo_isClause_33 : decode b_Mo_isClause 33 = .ok (.aload_n 0, 1) := by decide +kernel
theorem d_Mo_isClause_34 : decode b_Mo_isClause 34 = .ok (.getfield 64, 3) := by decide +kernel
theorem d_Mo_isClause_37 : decode b_Mo_isClause 37 = .ok (.iload 6, 2) := by decide +kernel
theorem d_Mo_isClause_39 : decode b_Mo_isClause 39 = .ok (.iconst 0, 1) := by decide +kernel
theorem d_Mo_isClause_40 : decode b_Mo_isClause 40 = .ok (.bastore, 1) := by decide +kernel
theorem d_Mo_isClause_41 : decode b_Mo_isClause 41 = .ok (.iinc 6 1, 3) := by decide +kernel
theorem d_Mo_isClause_44 : decode b_Mo_isClause 44 = .ok (.goto (-18), 3) := by decide +kernel
theorem d_Mo_isClause_47 : decode b_Mo_isClause 47 = .ok (.iconst 0, 1) := by decide +kernel
theorem d_Mo_isClause_48 : decode b_Mo_isClause 48 = .ok (.istore 6, 2) := by decide +kernel
theorem d_Mo_isClause_50 : decode b_Mo_isClause 50 = .ok (.iload 6, 2) := by decide +kernel
theorem d_Mo_isClause_52 : decode b_Mo_isClause 52 = .ok (.aload_n 0, 1) := by decide +kernel
theorem d_Mo_isClause_53 : decode b_Mo_isClause 53 = .ok (.getfield 22, 3) := by decide +kernel
theorem d_Mo_isClause_56 : decode b_Mo_isClause 56 = .ok (.iload_n 1, 1) := by decide +kernel
theorem d_Mo_isClause_57 : decode b_Mo_isClause 57 = .ok (.iaload, 1) := by decide +kernel
theorem d_Mo_isClause_58 : decode b_Mo_isClause 58 = .ok (.if_icmp .ge 52, 3) := by decide +kernel
theorem d_Mo_isClause_61 : decode b_Mo_isClause 61 = .ok (.iload 6, 2) := by decide +kernel
theorem d_Mo_isClause_63 : decode b_Mo_isClause 63 = .ok (.ifCond .ne 7, 3) := by decide +kernel
theorem d_Mo_isClause_66 : decode b_Mo_isClause 66 = .ok (.iload_n 2, 1) := by decide +kernel
theorem d_Mo_isClause_67 : decode b_Mo_isClause 67 = .ok (.goto 15, 3) := by decide +kernel
theorem d_Mo_isClause_70 : decode b_Mo_isClause 70 = .ok (.iload 6, 2) := by decide +kernel
theorem d_Mo_isClause_72 : decode b_Mo_isClause 72 = .ok (.iconst 1, 1) := by decide +kernel
theorem d_Mo_isClause_73 : decode b_Mo_isClause 73 = .ok (.if_icmp .ne 7, 3) := by decide +kernel
theorem d_Mo_isClause_76 : decode b_Mo_isClause 76 = .ok (.iload_n 3, 1) := by decide +kernel
theorem d_Mo_isClause_77 : decode b_Mo_isClause 77 = .ok (.goto 5, 3) := by decide +kernel
theorem d_Mo_isClause_80 : decode b_Mo_isClause 80 = .ok (.iload 4, 2) := by decide +kernel
theorem d_Mo_isClause_82 : decode b_Mo_isClause 82 = .ok (.istore 7, 2) := by decide +kernel
theorem d_Mo_isClause_84 : decode b_Mo_isClause 84 = .ok (.aload_n 0, 1) := by decide +kernel
theorem d_Mo_isClause_85 : decode b_Mo_isClause 85 = .ok (.iload 7, 2) := by decide +kernel
theorem d_Mo_isClause_87 : decode b_Mo_isClause 87 = .ok (.invokevirtual 133, 3) := by decide +kernel
theorem d_Mo_isClause_90 : decode b_Mo_isClause 90 = .ok (.ifCond .eq 12, 3) := by decide +kernel
theorem d_Mo_isClause_93 : decode b_Mo_isClause 93 = .ok (.aload_n 0, 1) := by decide +kernel
theorem d_Mo_isClause_94 : decode b_Mo_isClause 94 = .ok (.iload 7, 2) := by decide +kernel
theorem d_Mo_isClause_96 : decode b_Mo_isClause 96 = .ok (.invokevirtual 156, 3) := by decide +kernel
theorem d_Mo_isClause_99 : decode b_Mo_isClause 99 = .ok (.ifCond .ne 5, 3) := by decide +kernel
theorem d_Mo_isClause_102 : decode b_Mo_isClause 102 = .ok (.iconst 0, 1) := by decide +kernel
theorem d_Mo_isClause_103 : decode b_Mo_isClause 103 = .ok (.ireturn, 1) := by decide +kernel
theorem d_Mo_isClause_104 : decode b_Mo_isClause 104 = .ok (.iinc 6 1, 3) := by decide +kernel
theorem d_Mo_isClause_107 : decode b_Mo_isClause 107 = .ok (.goto (-57), 3) := by decide +kernel
theorem d_Mo_isClause_110 : decode b_Mo_isClause 110 = .ok (.aload_n 0, 1) := by decide +kernel
theorem d_Mo_isClause_111 : decode b_Mo_isClause 111 = .ok (.iload 5, 2) := by decide +kernel
theorem d_Mo_isClause_113 : decode b_Mo_isClause 113 = .ok (.invokevirtual 159, 3) := by decide +kernel
theorem d_Mo_isClause_116 : decode b_Mo_isClause 116 = .ok (.ireturn, 1) := by decide +kernel
theorem d_Mo_isPattern_0 : decode b_Mo_isPattern 0 = .ok (.aload_n 0, 1) := by decide +kernel
theorem d_Mo_isPattern_1 : decode b_Mo_isPattern 1 = .ok (.getfield 34, 3) := by decide +kernel
theorem d_Mo_isPattern_4 : decode b_Mo_isPattern 4 = .ok (.iload_n 1, 1) := by decide +kernel
theorem d_Mo_isPattern_5 : decode b_Mo_isPattern 5 = .ok (.iaload, 1) := by decide +kernel
theorem d_Mo_isPattern_6 : decode b_Mo_isPattern 6 = .ok (.iconst 2, 1) := by decide +kernel
theorem d_Mo_isPattern_7 : decode b_Mo_isPattern 7 = .ok (.if_icmp .gt 14, 3) := by decide +kernel
