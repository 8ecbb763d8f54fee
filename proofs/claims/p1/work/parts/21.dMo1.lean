theorem d_Mo_isPattern_10 : decode b_Mo_isPattern 10 = .ok (.aload_n 0, 1) := by decide +kernel
theorem d_Mo_isPattern_11 : decode b_Mo_isPattern 11 = .ok (.getfield 37, 3) := by decide +kernel
theorem d_Mo_isPattern_14 : decode b_Mo_isPattern 14 = .ok (.iload_n 1, 1) := by decide +kernel
theorem d_Mo_isPattern_15 : decode b_Mo_isPattern 15 = .ok (.iaload, 1) := by decide +kernel
theorem d_Mo_isPattern_16 : decode b_Mo_isPattern 16 = .ok (.bipush 8, 2) := by decide +kernel
theorem d_Mo_isPattern_18 : decode b_Mo_isPattern 18 = .ok (.if_icmp .le 5, 3) := by decide +kernel
theorem d_Mo_isPattern_21 : decode b_Mo_isPattern 21 = .ok (.iconst 0, 1) := by decide +kernel
theorem d_Mo_isPattern_22 : decode b_Mo_isPattern 22 = .ok (.ireturn, 1) := by decide +kernel
theorem d_Mo_isPattern_23 : decode b_Mo_isPattern 23 = .ok (.aload_n 0, 1) := by decide +kernel
theorem d_Mo_isPattern_24 : decode b_Mo_isPattern 24 = .ok (.iconst 0, 1) := by decide +kernel
theorem d_Mo_isPattern_25 : decode b_Mo_isPattern 25 = .ok (.putfield 141, 3) := by decide +kernel
theorem d_Mo_isPattern_28 : decode b_Mo_isPattern 28 = .ok (.aload_n 0, 1) := by decide +kernel
theorem d_Mo_isPattern_29 : decode b_Mo_isPattern 29 = .ok (.iload_n 1, 1) := by decide +kernel
theorem d_Mo_isPattern_30 : decode b_Mo_isPattern 30 = .ok (.iconst 0, 1) := by decide +kernel
theorem d_Mo_isPattern_31 : decode b_Mo_isPattern 31 = .ok (.invokevirtual 148, 3) := by decide +kernel
theorem d_Mo_isPattern_34 : decode b_Mo_isPattern 34 = .ok (.aload_n 0, 1) := by decide +kernel
theorem d_Mo_isPattern_35 : decode b_Mo_isPattern 35 = .ok (.getfield 141, 3) := by decide +kernel
theorem d_Mo_isPattern_38 : decode b_Mo_isPattern 38 = .ok (.ifCond .le 92, 3) := by decide +kernel
theorem d_Mo_isPattern_41 : decode b_Mo_isPattern 41 = .ok (.aload_n 0, 1) := by decide +kernel
theorem d_Mo_isPattern_42 : decode b_Mo_isPattern 42 = .ok (.dup, 1) := by decide +kernel
theorem d_Mo_isPattern_43 : decode b_Mo_isPattern 43 = .ok (.getfield 141, 3) := by decide +kernel
theorem d_Mo_isPattern_46 : decode b_Mo_isPattern 46 = .ok (.iconst 1, 1) := by decide +kernel
theorem d_Mo_isPattern_47 : decode b_Mo_isPattern 47 = .ok (.isub, 1) := by decide +kernel
theorem d_Mo_isPattern_48 : decode b_Mo_isPattern 48 = .ok (.putfield 141, 3) := by decide +kernel
theorem d_Mo_isPattern_51 : decode b_Mo_isPattern 51 = .ok (.aload_n 0, 1) := by decide +kernel
theorem d_Mo_isPattern_52 : decode b_Mo_isPattern 52 = .ok (.getfield 58, 3) := by decide +kernel
theorem d_Mo_isPattern_55 : decode b_Mo_isPattern 55 = .ok (.aload_n 0, 1) := by decide +kernel
theorem d_Mo_isPattern_56 : decode b_Mo_isPattern 56 = .ok (.getfield 141, 3) := by decide +kernel
theorem d_Mo_isPattern_59 : decode b_Mo_isPattern 59 = .ok (.iaload, 1) := by decide +kernel
theorem d_Mo_isPattern_60 : decode b_Mo_isPattern 60 = .ok (.istore_n 2, 1) := by decide +kernel
theorem d_Mo_isPattern_61 : decode b_Mo_isPattern 61 = .ok (.aload_n 0, 1) := by decide +kernel
theorem d_Mo_isPattern_62 : decode b_Mo_isPattern 62 = .ok (.getfield 28, 3) := by decide +kernel
theorem d_Mo_isPattern_65 : decode b_Mo_isPattern 65 = .ok (.iload_n 2, 1) := by decide +kernel
theorem d_Mo_isPattern_66 : decode b_Mo_isPattern 66 = .ok (.iaload, 1) := by decide +kernel
theorem d_Mo_isPattern_67 : decode b_Mo_isPattern 67 = .ok (.bipush 16, 2) := by decide +kernel
theorem d_Mo_isPattern_69 : decode b_Mo_isPattern 69 = .ok (.if_icmp .ge 28, 3) := by decide +kernel
theorem d_Mo_isPattern_72 : decode b_Mo_isPattern 72 = .ok (.aload_n 0, 1) := by decide +kernel
theorem d_Mo_isPattern_73 : decode b_Mo_isPattern 73 = .ok (.getfield 28, 3) := by decide +kernel
theorem d_Mo_isPattern_76 : decode b_Mo_isPattern 76 = .ok (.iload_n 2, 1) := by decide +kernel
theorem d_Mo_isPattern_77 : decode b_Mo_isPattern 77 = .ok (.iaload, 1) := by decide +kernel
theorem d_Mo_isPattern_78 : decode b_Mo_isPattern 78 = .ok (.bipush 8, 2) := by decide +kernel
theorem d_Mo_isPattern_80 : decode b_Mo_isPattern 80 = .ok (.if_icmp .ge 19, 3) := by decide +kernel
theorem d_Mo_isPattern_83 : decode b_Mo_isPattern 83 = .ok (.aload_n 0, 1) := by decide +kernel
theorem d_Mo_isPattern_84 : decode b_Mo_isPattern 84 = .ok (.getfield 64, 3) := by decide +kernel
theorem d_Mo_isPattern_87 : decode b_Mo_isPattern 87 = .ok (.aload_n 0, 1) := by decide +kernel
theorem d_Mo_isPattern_88 : decode b_Mo_isPattern 88 = .ok (.getfield 28, 3) := by decide +kernel
theorem d_Mo_isPattern_91 : decode b_Mo_isPattern 91 = .ok (.iload_n 2, 1) := by decide +kernel
theorem d_Mo_isPattern_92 : decode b_Mo_isPattern 92 = .ok (.iaload, 1) := by decide +kernel
theorem d_Mo_isPattern_93 : decode b_Mo_isPattern 93 = .ok (.baload, 1) := by decide +kernel
theorem d_Mo_isPattern_94 : decode b_Mo_isPattern 94 = .ok (.ifCond .eq 5, 3) := by decide +kernel
theorem d_Mo_isPattern_97 : decode b_Mo_isPattern 97 = .ok (.iconst 0, 1) := by decide +kernel
theorem d_Mo_isPattern_98 : decode b_Mo_isPattern 98 = .ok (.ireturn, 1) := by decide +kernel
theorem d_Mo_isPattern_99 : decode b_Mo_isPattern 99 = .ok (.aload_n 0, 1) := by decide +kernel
theorem d_Mo_isPattern_100 : decode b_Mo_isPattern 100 = .ok (.getfield 28, 3) := by decide +kernel
theorem d_Mo_isPattern_103 : decode b_Mo_isPattern 103 = .ok (.iload_n 2, 1) := by decide +kernel
theorem d_Mo_isPattern_104 : decode b_Mo_isPattern 104 = .ok (.iaload, 1) := by decide +kernel
theorem d_Mo_isPattern_105 : decode b_Mo_isPattern 105 = .ok (.bipush 8, 2) := by decide +kernel
theorem d_Mo_isPattern_107 : decode b_Mo_isPattern 107 = .ok (.if_icmp .ge 15, 3) := by decide +kernel
theorem d_Mo_isPattern_110 : decode b_Mo_isPattern 110 = .ok (.aload_n 0, 1) := by decide +kernel
theorem d_Mo_isPattern_111 : decode b_Mo_isPattern 111 = .ok (.getfield 64, 3) := by decide +kernel
theorem d_Mo_isPattern_114 : decode b_Mo_isPattern 114 = .ok (.aload_n 0, 1) := by decide +kernel
theorem d_Mo_isPattern_115 : decode b_Mo_isPattern 115 = .ok (.getfield 28, 3) := by decide +kernel
theorem d_Mo_isPattern_118 : decode b_Mo_isPattern 118 = .ok (.iload_n 2, 1) := by decide +kernel
theorem d_Mo_isPattern_119 : decode b_Mo_isPattern 119 = .ok (.iaload, 1) := by decide +kernel
theorem d_Mo_isPattern_120 : decode b_Mo_isPattern 120 = .ok (.iconst 1, 1) := by decide +kernel
theorem d_Mo_isPattern_121 : decode b_Mo_isPattern 121 = .ok (.bastore, 1) := by decide +kernel
theorem d_Mo_isPattern_122 : decode b_Mo_isPattern 122 = .ok (.aload_n 0, 1) := by decide +kernel
theorem d_Mo_isPattern_123 : decode b_Mo_isPattern 123 = .ok (.iload_n 2, 1) := by decide +kernel
theorem d_Mo_isPattern_124 : decode b_Mo_isPattern 124 = .ok (.invokevirtual 152, 3) := by decide +kernel
theorem d_Mo_isPattern_127 : decode b_Mo_isPattern 127 = .ok (.goto (-93), 3) := by decide +kernel
theorem d_Mo_isPattern_130 : decode b_Mo_isPattern 130 = .ok (.iconst 1, 1) := by decide +kernel
theorem d_Mo_isPattern_131 : decode b_Mo_isPattern 131 = .ok (.ireturn, 1) := by decide +kernel
theorem d_Mo_push_0 : decode b_Mo_push 0 = .ok (.aload_n 0, 1) := by decide +kernel
theorem d_Mo_push_1 : decode b_Mo_push 1 = .ok (.getfield 58, 3) := by decide +kernel
theorem d_Mo_push_4 : decode b_Mo_push 4 = .ok (.aload_n 0, 1) := by decide +kernel
theorem d_Mo_push_5 : decode b_Mo_push 5 = .ok (.getfield 141, 3) := by decide +kernel
theorem d_Mo_push_8 : decode b_Mo_push 8 = .ok (.iload_n 1, 1) := by decide +kernel
theorem d_Mo_push_9 : decode b_Mo_push 9 = .ok (.iastore, 1) := by decide +kernel
theorem d_Mo_push_10 : decode b_Mo_push 10 = .ok (.aload_n 0, 1) := by decide +kernel
theorem d_Mo_push_11 : decode b_Mo_push 11 = .ok (.getfield 61, 3) := by decide +kernel
theorem d_Mo_push_14 : decode b_Mo_push 14 = .ok (.aload_n 0, 1) := by decide +kernel
theorem d_Mo_push_15 : decode b_Mo_push 15 = .ok (.getfield 141, 3) := by decide +kernel
theorem d_Mo_push_18 : decode b_Mo_push 18 = .ok (.iload_n 2, 1) := by decide +kernel
theorem d_Mo_push_19 : decode b_Mo_push 19 = .ok (.iastore, 1) := by decide +kernel
theorem d_Mo_push_20 : decode b_Mo_push 20 = .ok (.aload_n 0, 1) := by decide +kernel
theorem d_Mo_push_21 : decode b_Mo_push 21 = .ok (.dup, 1) := by decide +kernel
theorem d_Mo_push_22 : decode b_Mo_push 22 = .ok (.getfield 141, 3) := by decide +kernel
theorem d_Mo_push_25 : decode b_Mo_push 25 = .ok (.iconst 1, 1) := by decide +kernel
theorem d_Mo_push_26 : decode b_Mo_push 26 = .ok (.iadd, 1) := by decide +kernel
theorem d_Mo_push_27 : decode b_Mo_push 27 = .ok (.putfield 141, 3) := by decide +kernel
theorem d_Mo_push_30 : decode b_Mo_push 30 = .ok (.return_, 1) := by decide +kernel
theorem d_Mo_pushBelow_0 : decode b_Mo_pushBelow 0 = .ok (.aload_n 0, 1) := by decide +kernel
theorem d_Mo_pushBelow_1 : decode b_Mo_pushBelow 1 = .ok (.iload_n 1, 1) := by decide +kernel
theorem d_Mo_pushBelow_2 : decode b_Mo_pushBelow 2 = .ok (.invokevirtual 144, 3) := by decide +kernel
theorem d_Mo_pushBelow_5 : decode b_Mo_pushBelow 5 = .ok (.iconst 1, 1) := by decide +kernel
theorem d_Mo_pushBelow_6 : decode b_Mo_pushBelow 6 = .ok (.isub, 1) := by decide +kernel
theorem d_Mo_pushBelow_7 : decode b_Mo_pushBelow 7 = .ok (.istore_n 2, 1) := by decide +kernel
theorem d_Mo_pushBelow_8 : decode b_Mo_pushBelow 8 = .ok (.iload_n 2, 1) := by decide +kernel
theorem d_Mo_pushBelow_9 : decode b_Mo_pushBelow 9 = .ok (.ifCond .lt 24, 3) := by decide +kernel
theorem d_Mo_pushBelow_12 : decode b_Mo_pushBelow 12 = .ok (.aload_n 0, 1) := by decide +kernel
theorem d_Mo_pushBelow_13 : decode b_Mo_pushBelow 13 = .ok (.aload_n 0, 1) := by decide +kernel
theorem d_Mo_pushBelow_14 : decode b_Mo_pushBelow 14 = .ok (.getfield 31, 3) := by decide +kernel
theorem d_Mo_pushBelow_17 : decode b_Mo_pushBelow 17 = .ok (.iconst 3, 1) := by decide +kernel
theorem d_Mo_pushBelow_18 : decode b_Mo_pushBelow 18 = .ok (.iload_n 1, 1) := by decide +kernel
theorem d_Mo_pushBelow_19 : decode b_Mo_pushBelow 19 = .ok (.imul, 1) := by decide +kernel
theorem d_Mo_pushBelow_20 : decode b_Mo_pushBelow 20 = .ok (.iload_n 2, 1) := by decide +kernel
theorem d_Mo_pushBelow_21 : decode b_Mo_pushBelow 21 = .ok (.iadd, 1) := by decide +kernel
theorem d_Mo_pushBelow_22 : decode b_Mo_pushBelow 22 = .ok (.iaload, 1) := by decide +kernel
theorem d_Mo_pushBelow_23 : decode b_Mo_pushBelow 23 = .ok (.iconst 0, 1) := by decide +kernel
theorem d_Mo_pushBelow_24 : decode b_Mo_pushBelow 24 = .ok (.invokevirtual 148, 3) := by decide +kernel
theorem d_Mo_pushBelow_27 : decode b_Mo_pushBelow 27 = .ok (.iinc 2 (-1), 3) := by decide +kernel
theorem d_Mo_pushBelow_30 : decode b_Mo_pushBelow 30 = .ok (.goto (-22), 3) := by decide +kernel
theorem d_Mo_pushBelow_33 : decode b_Mo_pushBelow 33 = .ok (.return_, 1) := by decide +kernel
theorem d_Mo_places_0 : decode b_Mo_places 0 = .ok (.aload_n 0, 1) := by decide +kernel
theorem d_Mo_places_1 : decode b_Mo_places 1 = .ok (.getfield 28, 3) := by decide +kernel
theorem d_Mo_places_4 : decode b_Mo_places 4 = .ok (.iload_n 1, 1) := by decide +kernel
theorem d_Mo_places_5 : decode b_Mo_places 5 = .ok (.iaload, 1) := by decide +kernel
theorem d_Mo_places_6 : decode b_Mo_places 6 = .ok (.istore_n 2, 1) := by decide +kernel
theorem d_Mo_places_7 : decode b_Mo_places 7 = .ok (.iload_n 2, 1) := by decide +kernel
theorem d_Mo_places_8 : decode b_Mo_places 8 = .ok (.bipush 8, 2) := by decide +kernel
theorem d_Mo_places_10 : decode b_Mo_places 10 = .ok (.if_icmp .ge 7, 3) := by decide +kernel
theorem d_Mo_places_13 : decode b_Mo_places 13 = .ok (.iconst 0, 1) := by decide +kernel
theorem d_Mo_places_14 : decode b_Mo_places 14 = .ok (.goto 30, 3) := by decide +kernel
theorem d_Mo_places_17 : decode b_Mo_places 17 = .ok (.iload_n 2, 1) := by decide +kernel
theorem d_Mo_places_18 : decode b_Mo_places 18 = .ok (.bipush 16, 2) := by decide +kernel
theorem d_Mo_places_20 : decode b_Mo_places 20 = .ok (.if_icmp .ge 15, 3) := by decide +kernel
theorem d_Mo_places_23 : decode b_Mo_places 23 = .ok (.aload_n 0, 1) := by decide +kernel
theorem d_Mo_places_24 : decode b_Mo_places 24 = .ok (.getfield 13, 3) := by decide +kernel
theorem d_Mo_places_27 : decode b_Mo_places 27 = .ok (.iload_n 2, 1) := by decide +kernel
theorem d_Mo_places_28 : decode b_Mo_places 28 = .ok (.bipush 8, 2) := by decide +kernel
theorem d_Mo_places_30 : decode b_Mo_places 30 = .ok (.isub, 1) := by decide +kernel
theorem d_Mo_places_31 : decode b_Mo_places 31 = .ok (.iaload, 1) := by decide +kernel
theorem d_Mo_places_32 : decode b_Mo_places 32 = .ok (.goto 12, 3) := by decide +kernel
theorem d_Mo_places_35 : decode b_Mo_places 35 = .ok (.aload_n 0, 1) := by decide +kernel
theorem d_Mo_places_36 : decode b_Mo_places 36 = .ok (.getfield 22, 3) := by decide +kernel
theorem d_Mo_places_39 : decode b_Mo_places 39 = .ok (.iload_n 2, 1) := by decide +kernel
theorem d_Mo_places_40 : decode b_Mo_places 40 = .ok (.bipush 16, 2) := by decide +kernel
theorem d_Mo_places_42 : decode b_Mo_places 42 = .ok (.isub, 1) := by decide +kernel
theorem d_Mo_places_43 : decode b_Mo_places 43 = .ok (.iaload, 1) := by decide +kernel
theorem d_Mo_places_44 : decode b_Mo_places 44 = .ok (.ireturn, 1) := by decide +kernel
theorem d_Mo_isBody_0 : decode b_Mo_isBody 0 = .ok (.aload_n 0, 1) := by decide +kernel
theorem d_Mo_isBody_1 : decode b_Mo_isBody 1 = .ok (.iconst 0, 1) := by decide +kernel
theorem d_Mo_isBody_2 : decode b_Mo_isBody 2 = .ok (.putfield 141, 3) := by decide +kernel
theorem d_Mo_isBody_5 : decode b_Mo_isBody 5 = .ok (.aload_n 0, 1) := by decide +kernel
theorem d_Mo_isBody_6 : decode b_Mo_isBody 6 = .ok (.iload_n 1, 1) := by decide +kernel
theorem d_Mo_isBody_7 : decode b_Mo_isBody 7 = .ok (.iconst 0, 1) := by decide +kernel
theorem d_Mo_isBody_8 : decode b_Mo_isBody 8 = .ok (.invokevirtual 148, 3) := by decide +kernel
theorem d_Mo_isBody_11 : decode b_Mo_isBody 11 = .ok (.aload_n 0, 1) := by decide +kernel
theorem d_Mo_isBody_12 : decode b_Mo_isBody 12 = .ok (.getfield 141, 3) := by decide +kernel
theorem d_Mo_isBody_15 : decode b_Mo_isBody 15 = .ok (.ifCond .le 58, 3) := by decide +kernel
theorem d_Mo_isBody_18 : decode b_Mo_isBody 18 = .ok (.aload_n 0, 1) := by decide +kernel
theorem d_Mo_isBody_19 : decode b_Mo_isBody 19 = .ok (.dup, 1) := by decide +kernel
theorem d_Mo_isBody_20 : decode b_Mo_isBody 20 = .ok (.getfield 141, 3) := by decide +kernel
theorem d_Mo_isBody_23 : decode b_Mo_isBody 23 = .ok (.iconst 1, 1) := by decide +kernel
theorem d_Mo_isBody_24 : decode b_Mo_isBody 24 = .ok (.isub, 1) := by decide +kernel
theorem d_Mo_isBody_25 : decode b_Mo_isBody 25 = .ok (.putfield 141, 3) := by decide +kernel
theorem d_Mo_isBody_28 : decode b_Mo_isBody 28 = .ok (.aload_n 0, 1) := by decide +kernel
theorem d_Mo_isBody_29 : decode b_Mo_isBody 29 = .ok (.getfield 58, 3) := by decide +kernel
theorem d_Mo_isBody_32 : decode b_Mo_isBody 32 = .ok (.aload_n 0, 1) := by decide +kernel
theorem d_Mo_isBody_33 : decode b_Mo_isBody 33 = .ok (.getfield 141, 3) := by decide +kernel
theorem d_Mo_isBody_36 : decode b_Mo_isBody 36 = .ok (.iaload, 1) := by decide +kernel
theorem d_Mo_isBody_37 : decode b_Mo_isBody 37 = .ok (.istore_n 2, 1) := by decide +kernel
theorem d_Mo_isBody_38 : decode b_Mo_isBody 38 = .ok (.aload_n 0, 1) := by decide +kernel
theorem d_Mo_isBody_39 : decode b_Mo_isBody 39 = .ok (.getfield 28, 3) := by decide +kernel
theorem d_Mo_isBody_42 : decode b_Mo_isBody 42 = .ok (.iload_n 2, 1) := by decide +kernel
theorem d_Mo_isBody_43 : decode b_Mo_isBody 43 = .ok (.iaload, 1) := by decide +kernel
theorem d_Mo_isBody_44 : decode b_Mo_isBody 44 = .ok (.bipush 8, 2) := by decide +kernel
theorem d_Mo_isBody_46 : decode b_Mo_isBody 46 = .ok (.if_icmp .ge 19, 3) := by decide +kernel
theorem d_Mo_isBody_49 : decode b_Mo_isBody 49 = .ok (.aload_n 0, 1) := by decide +kernel
theorem d_Mo_isBody_50 : decode b_Mo_isBody 50 = .ok (.getfield 64, 3) := by decide +kernel
theorem d_Mo_isBody_53 : decode b_Mo_isBody 53 = .ok (.aload_n 0, 1) := by decide +kernel
theorem d_Mo_isBody_54 : decode b_Mo_isBody 54 = .ok (.getfield 28, 3) := by decide +kernel
theorem d_Mo_isBody_57 : decode b_Mo_isBody 57 = .ok (.iload_n 2, 1) := by decide +kernel
theorem d_Mo_isBody_58 : decode b_Mo_isBody 58 = .ok (.iaload, 1) := by decide +kernel
theorem d_Mo_isBody_59 : decode b_Mo_isBody 59 = .ok (.baload, 1) := by decide +kernel
theorem d_Mo_isBody_60 : decode b_Mo_isBody 60 = .ok (.ifCond .ne 5, 3) := by decide +kernel
theorem d_Mo_isBody_63 : decode b_Mo_isBody 63 = .ok (.iconst 0, 1) := by decide +kernel
theorem d_Mo_isBody_64 : decode b_Mo_isBody 64 = .ok (.ireturn, 1) := by decide +kernel
theorem d_Mo_isBody_65 : decode b_Mo_isBody 65 = .ok (.aload_n 0, 1) := by decide +kernel
theorem d_Mo_isBody_66 : decode b_Mo_isBody 66 = .ok (.iload_n 2, 1) := by decide +kernel
theorem d_Mo_isBody_67 : decode b_Mo_isBody 67 = .ok (.invokevirtual 152, 3) := by decide +kernel
theorem d_Mo_isBody_70 : decode b_Mo_isBody 70 = .ok (.goto (-59), 3) := by decide +kernel
theorem d_Mo_isBody_73 : decode b_Mo_isBody 73 = .ok (.iconst 1, 1) := by decide +kernel
theorem d_Mo_isBody_74 : decode b_Mo_isBody 74 = .ok (.ireturn, 1) := by decide +kernel
theorem d_Mo_check_0 : decode b_Mo_check 0 = .ok (.aload_n 0, 1) := by decide +kernel
theorem d_Mo_check_1 : decode b_Mo_check 1 = .ok (.iconst 0, 1) := by decide +kernel
theorem d_Mo_check_2 : decode b_Mo_check 2 = .ok (.putfield 104, 3) := by decide +kernel
theorem d_Mo_check_5 : decode b_Mo_check 5 = .ok (.aload_n 0, 1) := by decide +kernel
theorem d_Mo_check_6 : decode b_Mo_check 6 = .ok (.iconst 0, 1) := by decide +kernel
theorem d_Mo_check_7 : decode b_Mo_check 7 = .ok (.putfield 192, 3) := by decide +kernel
theorem d_Mo_check_10 : decode b_Mo_check 10 = .ok (.aload_n 0, 1) := by decide +kernel
theorem d_Mo_check_11 : decode b_Mo_check 11 = .ok (.invokevirtual 215, 3) := by decide +kernel
theorem d_Mo_check_14 : decode b_Mo_check 14 = .ok (.ifCond .ne 7, 3) := by decide +kernel
theorem d_Mo_check_17 : decode b_Mo_check 17 = .ok (.iconst 1, 1) := by decide +kernel
theorem d_Mo_check_18 : decode b_Mo_check 18 = .ok (.goto 15, 3) := by decide +kernel
theorem d_Mo_check_21 : decode b_Mo_check 21 = .ok (.aload_n 0, 1) := by decide +kernel
theorem d_Mo_check_22 : decode b_Mo_check 22 = .ok (.invokevirtual 219, 3) := by decide +kernel
theorem d_Mo_check_25 : decode b_Mo_check 25 = .ok (.ifCond .ne 7, 3) := by decide +kernel
theorem d_Mo_check_28 : decode b_Mo_check 28 = .ok (.iconst 2, 1) := by decide +kernel
theorem d_Mo_check_29 : decode b_Mo_check 29 = .ok (.goto 4, 3) := by decide +kernel
theorem d_Mo_check_32 : decode b_Mo_check 32 = .ok (.iconst 0, 1) := by decide +kernel
theorem d_Mo_check_33 : decode b_Mo_check 33 = .ok (.istore_n 1, 1) := by decide +kernel
theorem d_Mo_check_34 : decode b_Mo_check 34 = .ok (.iconst 0, 1) := by decide +kernel
theorem d_Mo_check_35 : decode b_Mo_check 35 = .ok (.istore_n 2, 1) := by decide +kernel
theorem d_Mo_check_36 : decode b_Mo_check 36 = .ok (.iload_n 2, 1) := by decide +kernel
theorem d_Mo_check_37 : decode b_Mo_check 37 = .ok (.aload_n 0, 1) := by decide +kernel
theorem d_Mo_check_38 : decode b_Mo_check 38 = .ok (.getfield 127, 3) := by decide +kernel
theorem d_Mo_check_41 : decode b_Mo_check 41 = .ok (.if_icmp .ge 27, 3) := by decide +kernel
theorem d_Mo_check_44 : decode b_Mo_check 44 = .ok (.iload_n 1, 1) := by decide +kernel
theorem d_Mo_check_45 : decode b_Mo_check 45 = .ok (.ifCond .ne 23, 3) := by decide +kernel
theorem d_Mo_check_48 : decode b_Mo_check 48 = .ok (.aload_n 0, 1) := by decide +kernel
theorem d_Mo_check_49 : decode b_Mo_check 49 = .ok (.iload_n 2, 1) := by decide +kernel
theorem d_Mo_check_50 : decode b_Mo_check 50 = .ok (.invokevirtual 222, 3) := by decide +kernel
theorem d_Mo_check_53 : decode b_Mo_check 53 = .ok (.ifCond .eq 7, 3) := by decide +kernel
theorem d_Mo_check_56 : decode b_Mo_check 56 = .ok (.iconst 0, 1) := by decide +kernel
theorem d_Mo_check_57 : decode b_Mo_check 57 = .ok (.goto 4, 3) := by decide +kernel
theorem d_Mo_check_60 : decode b_Mo_check 60 = .ok (.iconst 3, 1) := by decide +kernel
theorem d_Mo_check_61 : decode b_Mo_check 61 = .ok (.istore_n 1, 1) := by decide +kernel
theorem d_Mo_check_62 : decode b_Mo_check 62 = .ok (.iinc 2 1, 3) := by decide +kernel
theorem d_Mo_check_65 : decode b_Mo_check 65 = .ok (.goto (-29), 3) := by decide +kernel
theorem d_Mo_check_68 : decode b_Mo_check 68 = .ok (.iload_n 1, 1) := by decide +kernel
theorem d_Mo_check_69 : decode b_Mo_check 69 = .ok (.ifCond .ne 14, 3) := by decide +kernel
theorem d_Mo_check_72 : decode b_Mo_check 72 = .ok (.aload_n 0, 1) := by decide +kernel
theorem d_Mo_check_73 : decode b_Mo_check 73 = .ok (.invokevirtual 225, 3) := by decide +kernel
theorem d_Mo_check_76 : decode b_Mo_check 76 = .ok (.ifCond .ne 7, 3) := by decide +kernel
theorem d_Mo_check_79 : decode b_Mo_check 79 = .ok (.iconst 4, 1) := by decide +kernel
theorem d_Mo_check_80 : decode b_Mo_check 80 = .ok (.goto 4, 3) := by decide +kernel
theorem d_Mo_check_83 : decode b_Mo_check 83 = .ok (.iload_n 1, 1) := by decide +kernel
theorem d_Mo_check_84 : decode b_Mo_check 84 = .ok (.istore_n 1, 1) := by decide +kernel
theorem d_Mo_check_85 : decode b_Mo_check 85 = .ok (.aload_n 0, 1) := by decide +kernel
theorem d_Mo_check_86 : decode b_Mo_check 86 = .ok (.iload_n 1, 1) := by decide +kernel
theorem d_Mo_check_87 : decode b_Mo_check 87 = .ok (.ifCond .ne 7, 3) := by decide +kernel
theorem d_Mo_check_90 : decode b_Mo_check 90 = .ok (.iconst 1, 1) := by decide +kernel
theorem d_Mo_check_91 : decode b_Mo_check 91 = .ok (.goto 4, 3) := by decide +kernel
theorem d_Mo_check_94 : decode b_Mo_check 94 = .ok (.iconst 0, 1) := by decide +kernel
theorem d_Mo_check_95 : decode b_Mo_check 95 = .ok (.putfield 123, 3) := by decide +kernel
theorem d_Mo_check_98 : decode b_Mo_check 98 = .ok (.iload_n 1, 1) := by decide +kernel
theorem d_Mo_check_99 : decode b_Mo_check 99 = .ok (.ireturn, 1) := by decide +kernel
theorem d_Mo_allInhabited_0 : decode b_Mo_allInhabited 0 = .ok (.iconst 0, 1) := by decide +kernel
theorem d_Mo_allInhabited_1 : decode b_Mo_allInhabited 1 = .ok (.istore_n 1, 1) := by decide +kernel
theorem d_Mo_allInhabited_2 : decode b_Mo_allInhabited 2 = .ok (.iload_n 1, 1) := by decide +kernel
theorem d_Mo_allInhabited_3 : decode b_Mo_allInhabited 3 = .ok (.iconst 3, 1) := by decide +kernel
theorem d_Mo_allInhabited_4 : decode b_Mo_allInhabited 4 = .ok (.if_icmp .ge 16, 3) := by decide +kernel
theorem d_Mo_allInhabited_7 : decode b_Mo_allInhabited 7 = .ok (.aload_n 0, 1) := by decide +kernel
theorem d_Mo_allInhabited_8 : decode b_Mo_allInhabited 8 = .ok (.getfield 71, 3) := by decide +kernel
theorem d_Mo_allInhabited_11 : decode b_Mo_allInhabited 11 = .ok (.iload_n 1, 1) := by decide +kernel
theorem d_Mo_allInhabited_12 : decode b_Mo_allInhabited 12 = .ok (.iconst 0, 1) := by decide +kernel
theorem d_Mo_allInhabited_13 : decode b_Mo_allInhabited 13 = .ok (.bastore, 1) := by decide +kernel
theorem d_Mo_allInhabited_14 : decode b_Mo_allInhabited 14 = .ok (.iinc 1 1, 3) := by decide +kernel
theorem d_Mo_allInhabited_17 : decode b_Mo_allInhabited 17 = .ok (.goto (-15), 3) := by decide +kernel
theorem d_Mo_allInhabited_20 : decode b_Mo_allInhabited 20 = .ok (.iconst 0, 1) := by decide +kernel
theorem d_Mo_allInhabited_21 : decode b_Mo_allInhabited 21 = .ok (.istore_n 1, 1) := by decide +kernel
theorem d_Mo_allInhabited_22 : decode b_Mo_allInhabited 22 = .ok (.iload_n 1, 1) := by decide +kernel
theorem d_Mo_allInhabited_23 : decode b_Mo_allInhabited 23 = .ok (.iconst 3, 1) := by decide +kernel
theorem d_Mo_allInhabited_24 : decode b_Mo_allInhabited 24 = .ok (.if_icmp .ge 110, 3) := by decide +kernel
theorem d_Mo_allInhabited_27 : decode b_Mo_allInhabited 27 = .ok (.iconst 0, 1) := by decide +kernel
theorem d_Mo_allInhabited_28 : decode b_Mo_allInhabited 28 = .ok (.istore_n 2, 1) := by decide +kernel
theorem d_Mo_allInhabited_29 : decode b_Mo_allInhabited 29 = .ok (.iload_n 2, 1) := by decide +kernel
theorem d_Mo_allInhabited_30 : decode b_Mo_allInhabited 30 = .ok (.aload_n 0, 1) := by decide +kernel
theorem d_Mo_allInhabited_31 : decode b_Mo_allInhabited 31 = .ok (.getfield 116, 3) := by decide +kernel
theorem d_Mo_allInhabited_34 : decode b_Mo_allInhabited 34 = .ok (.if_icmp .ge 94, 3) := by decide +kernel
theorem d_Mo_allInhabited_37 : decode b_Mo_allInhabited 37 = .ok (.iconst 1, 1) := by decide +kernel
theorem d_Mo_allInhabited_38 : decode b_Mo_allInhabited 38 = .ok (.istore_n 3, 1) := by decide +kernel
theorem d_Mo_allInhabited_39 : decode b_Mo_allInhabited 39 = .ok (.iconst 0, 1) := by decide +kernel
theorem d_Mo_allInhabited_40 : decode b_Mo_allInhabited 40 = .ok (.istore 4, 2) := by decide +kernel
theorem d_Mo_allInhabited_42 : decode b_Mo_allInhabited 42 = .ok (.iload 4, 2) := by decide +kernel
theorem d_Mo_allInhabited_44 : decode b_Mo_allInhabited 44 = .ok (.aload_n 0, 1) := by decide +kernel
theorem d_Mo_allInhabited_45 : decode b_Mo_allInhabited 45 = .ok (.getfield 13, 3) := by decide +kernel
theorem d_Mo_allInhabited_48 : decode b_Mo_allInhabited 48 = .ok (.iload_n 2, 1) := by decide +kernel
theorem d_Mo_allInhabited_49 : decode b_Mo_allInhabited 49 = .ok (.iaload, 1) := by decide +kernel
theorem d_Mo_allInhabited_50 : decode b_Mo_allInhabited 50 = .ok (.if_icmp .ge 38, 3) := by decide +kernel
theorem d_Mo_allInhabited_53 : decode b_Mo_allInhabited 53 = .ok (.iload_n 3, 1) := by decide +kernel
theorem d_Mo_allInhabited_54 : decode b_Mo_allInhabited 54 = .ok (.ifCond .eq 26, 3) := by decide +kernel
theorem d_Mo_allInhabited_57 : decode b_Mo_allInhabited 57 = .ok (.aload_n 0, 1) := by decide +kernel
theorem d_Mo_allInhabited_58 : decode b_Mo_allInhabited 58 = .ok (.getfield 71, 3) := by decide +kernel
theorem d_Mo_allInhabited_61 : decode b_Mo_allInhabited 61 = .ok (.aload_n 0, 1) := by decide +kernel
theorem d_Mo_allInhabited_62 : decode b_Mo_allInhabited 62 = .ok (.getfield 16, 3) := by decide +kernel
theorem d_Mo_allInhabited_65 : decode b_Mo_allInhabited 65 = .ok (.iconst 3, 1) := by decide +kernel
theorem d_Mo_allInhabited_66 : decode b_Mo_allInhabited 66 = .ok (.iload_n 2, 1) := by decide +kernel
theorem d_Mo_allInhabited_67 : decode b_Mo_allInhabited 67 = .ok (.imul, 1) := by decide +kernel
theorem d_Mo_allInhabited_68 : decode b_Mo_allInhabited 68 = .ok (.iload 4, 2) := by decide +kernel
theorem d_Mo_allInhabited_70 : decode b_Mo_allInhabited 70 = .ok (.iadd, 1) := by decide +kernel
theorem d_Mo_allInhabited_71 : decode b_Mo_allInhabited 71 = .ok (.iaload, 1) := by decide +kernel
theorem d_Mo_allInhabited_72 : decode b_Mo_allInhabited 72 = .ok (.baload, 1) := by decide +kernel
theorem d_Mo_allInhabited_73 : decode b_Mo_allInhabited 73 = .ok (.ifCond .eq 7, 3) := by decide +kernel
theorem d_Mo_allInhabited_76 : decode b_Mo_allInhabited 76 = .ok (.iconst 1, 1) := by decide +kernel
theorem d_Mo_allInhabited_77 : decode b_Mo_allInhabited 77 = .ok (.goto 4, 3) := by decide +kernel
theorem d_Mo_allInhabited_80 : decode b_Mo_allInhabited 80 = .ok (.iconst 0, 1) := by decide +kernel
theorem d_Mo_allInhabited_81 : decode b_Mo_allInhabited 81 = .ok (.istore_n 3, 1) := by decide +kernel
theorem d_Mo_allInhabited_82 : decode b_Mo_allInhabited 82 = .ok (.iinc 4 1, 3) := by decide +kernel
theorem d_Mo_allInhabited_85 : decode b_Mo_allInhabited 85 = .ok (.goto (-43), 3) := by decide +kernel
theorem d_Mo_allInhabited_88 : decode b_Mo_allInhabited 88 = .ok (.aload_n 0, 1) := by decide +kernel
theorem d_Mo_allInhabited_89 : decode b_Mo_allInhabited 89 = .ok (.getfield 71, 3) := by decide +kernel
theorem d_Mo_allInhabited_92 : decode b_Mo_allInhabited 92 = .ok (.aload_n 0, 1) := by decide +kernel
theorem d_Mo_allInhabited_93 : decode b_Mo_allInhabited 93 = .ok (.getfield 7, 3) := by decide +kernel
theorem d_Mo_allInhabited_96 : decode b_Mo_allInhabited 96 = .ok (.iload_n 2, 1) := by decide +kernel
theorem d_Mo_allInhabited_97 : decode b_Mo_allInhabited 97 = .ok (.iaload, 1) := by decide +kernel
theorem d_Mo_allInhabited_98 : decode b_Mo_allInhabited 98 = .ok (.aload_n 0, 1) := by decide +kernel
theorem d_Mo_allInhabited_99 : decode b_Mo_allInhabited 99 = .ok (.getfield 71, 3) := by decide +kernel
theorem d_Mo_allInhabited_102 : decode b_Mo_allInhabited 102 = .ok (.aload_n 0, 1) := by decide +kernel
theorem d_Mo_allInhabited_103 : decode b_Mo_allInhabited 103 = .ok (.getfield 7, 3) := by decide +kernel
theorem d_Mo_allInhabited_106 : decode b_Mo_allInhabited 106 = .ok (.iload_n 2, 1) := by decide +kernel
theorem d_Mo_allInhabited_107 : decode b_Mo_allInhabited 107 = .ok (.iaload, 1) := by decide +kernel
theorem d_Mo_allInhabited_108 : decode b_Mo_allInhabited 108 = .ok (.baload, 1) := by decide +kernel
theorem d_Mo_allInhabited_109 : decode b_Mo_allInhabited 109 = .ok (.ifCond .ne 7, 3) := by decide +kernel
theorem d_Mo_allInhabited_112 : decode b_Mo_allInhabited 112 = .ok (.iload_n 3, 1) := by decide +kernel
theorem d_Mo_allInhabited_113 : decode b_Mo_allInhabited 113 = .ok (.ifCond .eq 7, 3) := by decide +kernel
theorem d_Mo_allInhabited_116 : decode b_Mo_allInhabited 116 = .ok (.iconst 1, 1) := by decide +kernel
theorem d_Mo_allInhabited_117 : decode b_Mo_allInhabited 117 = .ok (.goto 4, 3) := by decide +kernel
theorem d_Mo_allInhabited_120 : decode b_Mo_allInhabited 120 = .ok (.iconst 0, 1) := by decide +kernel
theorem d_Mo_allInhabited_121 : decode b_Mo_allInhabited 121 = .ok (.bastore, 1) := by decide +kernel
theorem d_Mo_allInhabited_122 : decode b_Mo_allInhabited 122 = .ok (.iinc 2 1, 3) := by decide +kernel
theorem d_Mo_allInhabited_125 : decode b_Mo_allInhabited 125 = .ok (.goto (-96), 3) := by decide +kernel
theorem d_Mo_allInhabited_128 : decode b_Mo_allInhabited 128 = .ok (.iinc 1 1, 3) := by decide +kernel
theorem d_Mo_allInhabited_131 : decode b_Mo_allInhabited 131 = .ok (.goto (-109), 3) := by decide +kernel
theorem d_Mo_allInhabited_134 : decode b_Mo_allInhabited 134 = .ok (.iconst 1, 1) := by decide +kernel
theorem d_Mo_allInhabited_135 : decode b_Mo_allInhabited 135 = .ok (.istore_n 1, 1) := by decide +kernel
theorem d_Mo_allInhabited_136 : decode b_Mo_allInhabited 136 = .ok (.iconst 0, 1) := by decide +kernel
theorem d_Mo_allInhabited_137 : decode b_Mo_allInhabited 137 = .ok (.istore_n 2, 1) := by decide +kernel
theorem d_Mo_allInhabited_138 : decode b_Mo_allInhabited 138 = .ok (.iload_n 2, 1) := by decide +kernel
theorem d_Mo_allInhabited_139 : decode b_Mo_allInhabited 139 = .ok (.aload_n 0, 1) := by decide +kernel
theorem d_Mo_allInhabited_140 : decode b_Mo_allInhabited 140 = .ok (.getfield 116, 3) := by decide +kernel
theorem d_Mo_allInhabited_143 : decode b_Mo_allInhabited 143 = .ok (.if_icmp .ge 79, 3) := by decide +kernel
theorem d_Mo_allInhabited_146 : decode b_Mo_allInhabited 146 = .ok (.iload_n 1, 1) := by decide +kernel
theorem d_Mo_allInhabited_147 : decode b_Mo_allInhabited 147 = .ok (.ifCond .eq 21, 3) := by decide +kernel
theorem d_Mo_allInhabited_150 : decode b_Mo_allInhabited 150 = .ok (.aload_n 0, 1) := by decide +kernel
theorem d_Mo_allInhabited_151 : decode b_Mo_allInhabited 151 = .ok (.getfield 71, 3) := by decide +kernel
theorem d_Mo_allInhabited_154 : decode b_Mo_allInhabited 154 = .ok (.aload_n 0, 1) := by decide +kernel
theorem d_Mo_allInhabited_155 : decode b_Mo_allInhabited 155 = .ok (.getfield 7, 3) := by decide +kernel
theorem d_Mo_allInhabited_158 : decode b_Mo_allInhabited 158 = .ok (.iload_n 2, 1) := by decide +kernel
theorem d_Mo_allInhabited_159 : decode b_Mo_allInhabited 159 = .ok (.iaload, 1) := by decide +kernel
theorem d_Mo_allInhabited_160 : decode b_Mo_allInhabited 160 = .ok (.baload, 1) := by decide +kernel
theorem d_Mo_allInhabited_161 : decode b_Mo_allInhabited 161 = .ok (.ifCond .eq 7, 3) := by decide +kernel
theorem d_Mo_allInhabited_164 : decode b_Mo_allInhabited 164 = .ok (.iconst 1, 1) := by decide +kernel
theorem d_Mo_allInhabited_165 : decode b_Mo_allInhabited 165 = .ok (.goto 4, 3) := by decide +kernel
theorem d_Mo_allInhabited_168 : decode b_Mo_allInhabited 168 = .ok (.iconst 0, 1) := by decide +kernel
theorem d_Mo_allInhabited_169 : decode b_Mo_allInhabited 169 = .ok (.istore_n 1, 1) := by decide +kernel
theorem d_Mo_allInhabited_170 : decode b_Mo_allInhabited 170 = .ok (.iconst 0, 1) := by decide +kernel
theorem d_Mo_allInhabited_171 : decode b_Mo_allInhabited 171 = .ok (.istore_n 3, 1) := by decide +kernel
theorem d_Mo_allInhabited_172 : decode b_Mo_allInhabited 172 = .ok (.iload_n 3, 1) := by decide +kernel
theorem d_Mo_allInhabited_173 : decode b_Mo_allInhabited 173 = .ok (.aload_n 0, 1) := by decide +kernel
theorem d_Mo_allInhabited_174 : decode b_Mo_allInhabited 174 = .ok (.getfield 13, 3) := by decide +kernel
theorem d_Mo_allInhabited_177 : decode b_Mo_allInhabited 177 = .ok (.iload_n 2, 1) := by decide +kernel
theorem d_Mo_allInhabited_178 : decode b_Mo_allInhabited 178 = .ok (.iaload, 1) := by decide +kernel
theorem d_Mo_allInhabited_179 : decode b_Mo_allInhabited 179 = .ok (.if_icmp .ge 37, 3) := by decide +kernel
theorem d_Mo_allInhabited_182 : decode b_Mo_allInhabited 182 = .ok (.iload_n 1, 1) := by decide +kernel
theorem d_Mo_allInhabited_183 : decode b_Mo_allInhabited 183 = .ok (.ifCond .eq 25, 3) := by decide +kernel
theorem d_Mo_allInhabited_186 : decode b_Mo_allInhabited 186 = .ok (.aload_n 0, 1) := by decide +kernel
theorem d_Mo_allInhabited_187 : decode b_Mo_allInhabited 187 = .ok (.getfield 71, 3) := by decide +kernel
theorem d_Mo_allInhabited_190 : decode b_Mo_allInhabited 190 = .ok (.aload_n 0, 1) := by decide +kernel
theorem d_Mo_allInhabited_191 : decode b_Mo_allInhabited 191 = .ok (.getfield 16, 3) := by decide +kernel
theorem d_Mo_allInhabited_194 : decode b_Mo_allInhabited 194 = .ok (.iconst 3, 1) := by decide +kernel
theorem d_Mo_allInhabited_195 : decode b_Mo_allInhabited 195 = .ok (.iload_n 2, 1) := by decide +kernel
theorem d_Mo_allInhabited_196 : decode b_Mo_allInhabited 196 = .ok (.imul, 1) := by decide +kernel
theorem d_Mo_allInhabited_197 : decode b_Mo_allInhabited 197 = .ok (.iload_n 3, 1) := by decide +kernel
theorem d_Mo_allInhabited_198 : decode b_Mo_allInhabited 198 = .ok (.iadd, 1) := by decide +kernel
theorem d_Mo_allInhabited_199 : decode b_Mo_allInhabited 199 = .ok (.iaload, 1) := by decide +kernel
theorem d_Mo_allInhabited_200 : decode b_Mo_allInhabited 200 = .ok (.baload, 1) := by decide +kernel
theorem d_Mo_allInhabited_201 : decode b_Mo_allInhabited 201 = .ok (.ifCond .eq 7, 3) := by decide +kernel
theorem d_Mo_allInhabited_204 : decode b_Mo_allInhabited 204 = .ok (.iconst 1, 1) := by decide +kernel
theorem d_Mo_allInhabited_205 : decode b_Mo_allInhabited 205 = .ok (.goto 4, 3) := by decide +kernel
theorem d_Mo_allInhabited_208 : decode b_Mo_allInhabited 208 = .ok (.iconst 0, 1) := by decide +kernel
theorem d_Mo_allInhabited_209 : decode b_Mo_allInhabited 209 = .ok (.istore_n 1, 1) := by decide +kernel
theorem d_Mo_allInhabited_210 : decode b_Mo_allInhabited 210 = .ok (.iinc 3 1, 3) := by decide +kernel
theorem d_Mo_allInhabited_213 : decode b_Mo_allInhabited 213 = .ok (.goto (-41), 3) := by decide +kernel
theorem d_Mo_allInhabited_216 : decode b_Mo_allInhabited 216 = .ok (.iinc 2 1, 3) := by decide +kernel
theorem d_Mo_allInhabited_219 : decode b_Mo_allInhabited 219 = .ok (.goto (-81), 3) := by decide +kernel
theorem d_Mo_allInhabited_222 : decode b_Mo_allInhabited 222 = .ok (.iconst 0, 1) := by decide +kernel
theorem d_Mo_allInhabited_223 : decode b_Mo_allInhabited 223 = .ok (.istore_n 2, 1) := by decide +kernel
theorem d_Mo_allInhabited_224 : decode b_Mo_allInhabited 224 = .ok (.iload_n 2, 1) := by decide +kernel
theorem d_Mo_allInhabited_225 : decode b_Mo_allInhabited 225 = .ok (.aload_n 0, 1) := by decide +kernel
theorem d_Mo_allInhabited_226 : decode b_Mo_allInhabited 226 = .ok (.getfield 127, 3) := by decide +kernel
theorem d_Mo_allInhabited_229 : decode b_Mo_allInhabited 229 = .ok (.if_icmp .ge 79, 3) := by decide +kernel
theorem d_Mo_allInhabited_232 : decode b_Mo_allInhabited 232 = .ok (.iload_n 1, 1) := by decide +kernel
theorem d_Mo_allInhabited_233 : decode b_Mo_allInhabited 233 = .ok (.ifCond .eq 21, 3) := by decide +kernel
theorem d_Mo_allInhabited_236 : decode b_Mo_allInhabited 236 = .ok (.aload_n 0, 1) := by decide +kernel
theorem d_Mo_allInhabited_237 : decode b_Mo_allInhabited 237 = .ok (.getfield 71, 3) := by decide +kernel
theorem d_Mo_allInhabited_240 : decode b_Mo_allInhabited 240 = .ok (.aload_n 0, 1) := by decide +kernel
theorem d_Mo_allInhabited_241 : decode b_Mo_allInhabited 241 = .ok (.getfield 19, 3) := by decide +kernel
theorem d_Mo_allInhabited_244 : decode b_Mo_allInhabited 244 = .ok (.iload_n 2, 1) := by decide +kernel
theorem d_Mo_allInhabited_245 : decode b_Mo_allInhabited 245 = .ok (.iaload, 1) := by decide +kernel
theorem d_Mo_allInhabited_246 : decode b_Mo_allInhabited 246 = .ok (.baload, 1) := by decide +kernel
theorem d_Mo_allInhabited_247 : decode b_Mo_allInhabited 247 = .ok (.ifCond .eq 7, 3) := by decide +kernel
theorem d_Mo_allInhabited_250 : decode b_Mo_allInhabited 250 = .ok (.iconst 1, 1) := by decide +kernel
theorem d_Mo_allInhabited_251 : decode b_Mo_allInhabited 251 = .ok (.goto 4, 3) := by decide +kernel
theorem d_Mo_allInhabited_254 : decode b_Mo_allInhabited 254 = .ok (.iconst 0, 1) := by decide +kernel
theorem d_Mo_allInhabited_255 : decode b_Mo_allInhabited 255 = .ok (.istore_n 1, 1) := by decide +kernel
theorem d_Mo_allInhabited_256 : decode b_Mo_allInhabited 256 = .ok (.iconst 0, 1) := by decide +kernel
theorem d_Mo_allInhabited_257 : decode b_Mo_allInhabited 257 = .ok (.istore_n 3, 1) := by decide +kernel
theorem d_Mo_allInhabited_258 : decode b_Mo_allInhabited 258 = .ok (.iload_n 3, 1) := by decide +kernel
theorem d_Mo_allInhabited_259 : decode b_Mo_allInhabited 259 = .ok (.aload_n 0, 1) := by decide +kernel
theorem d_Mo_allInhabited_260 : decode b_Mo_allInhabited 260 = .ok (.getfield 22, 3) := by decide +kernel
theorem d_Mo_allInhabited_263 : decode b_Mo_allInhabited 263 = .ok (.iload_n 2, 1) := by decide +kernel
theorem d_Mo_allInhabited_264 : decode b_Mo_allInhabited 264 = .ok (.iaload, 1) := by decide +kernel
theorem d_Mo_allInhabited_265 : decode b_Mo_allInhabited 265 = .ok (.if_icmp .ge 37, 3) := by decide +kernel
theorem d_Mo_allInhabited_268 : decode b_Mo_allInhabited 268 = .ok (.iload_n 1, 1) := by decide +kernel
theorem d_Mo_allInhabited_269 : decode b_Mo_allInhabited 269 = .ok (.ifCond .eq 25, 3) := by decide +kernel
theorem d_Mo_allInhabited_272 : decode b_Mo_allInhabited 272 = .ok (.aload_n 0, 1) := by decide +kernel
theorem d_Mo_allInhabited_273 : decode b_Mo_allInhabited 273 = .ok (.getfield 71, 3) := by decide +kernel
theorem d_Mo_allInhabited_276 : decode b_Mo_allInhabited 276 = .ok (.aload_n 0, 1) := by decide +kernel
theorem d_Mo_allInhabited_277 : decode b_Mo_allInhabited 277 = .ok (.getfield 25, 3) := by decide +kernel
theorem d_Mo_allInhabited_280 : decode b_Mo_allInhabited 280 = .ok (.iconst 3, 1) := by decide +kernel
theorem d_Mo_allInhabited_281 : decode b_Mo_allInhabited 281 = .ok (.iload_n 2, 1) := by decide +kernel
theorem d_Mo_allInhabited_282 : decode b_Mo_allInhabited 282 = .ok (.imul, 1) := by decide +kernel
theorem d_Mo_allInhabited_283 : decode b_Mo_allInhabited 283 = .ok (.iload_n 3, 1) := by decide +kernel
theorem d_Mo_allInhabited_284 : decode b_Mo_allInhabited 284 = .ok (.iadd, 1) := by decide +kernel
theorem d_Mo_allInhabited_285 : decode b_Mo_allInhabited 285 = .ok (.iaload, 1) := by decide +kernel
theorem d_Mo_allInhabited_286 : decode b_Mo_allInhabited 286 = .ok (.baload, 1) := by decide +kernel
theorem d_Mo_allInhabited_287 : decode b_Mo_allInhabited 287 = .ok (.ifCond .eq 7, 3) := by decide +kernel
theorem d_Mo_allInhabited_290 : decode b_Mo_allInhabited 290 = .ok (.iconst 1, 1) := by decide +kernel
theorem d_Mo_allInhabited_291 : decode b_Mo_allInhabited 291 = .ok (.goto 4, 3) := by decide +kernel
theorem d_Mo_allInhabited_294 : decode b_Mo_allInhabited 294 = .ok (.iconst 0, 1) := by decide +kernel
theorem d_Mo_allInhabited_295 : decode b_Mo_allInhabited 295 = .ok (.istore_n 1, 1) := by decide +kernel
theorem d_Mo_allInhabited_296 : decode b_Mo_allInhabited 296 = .ok (.iinc 3 1, 3) := by decide +kernel
theorem d_Mo_allInhabited_299 : decode b_Mo_allInhabited 299 = .ok (.goto (-41), 3) := by decide +kernel
theorem d_Mo_allInhabited_302 : decode b_Mo_allInhabited 302 = .ok (.iinc 2 1, 3) := by decide +kernel
theorem d_Mo_allInhabited_305 : decode b_Mo_allInhabited 305 = .ok (.goto (-81), 3) := by decide +kernel
theorem d_Mo_allInhabited_308 : decode b_Mo_allInhabited 308 = .ok (.iload_n 1, 1) := by decide +kernel
theorem d_Mo_allInhabited_309 : decode b_Mo_allInhabited 309 = .ok (.ireturn, 1) := by decide +kernel
theorem d_Mo_allTyped_0 : decode b_Mo_allTyped 0 = .ok (.iconst 0, 1) := by decide +kernel
theorem d_Mo_allTyped_1 : decode b_Mo_allTyped 1 = .ok (.istore_n 1, 1) := by decide +kernel
theorem d_Mo_allTyped_2 : decode b_Mo_allTyped 2 = .ok (.iload_n 1, 1) := by decide +kernel
theorem d_Mo_allTyped_3 : decode b_Mo_allTyped 3 = .ok (.aload_n 0, 1) := by decide +kernel
theorem d_Mo_allTyped_4 : decode b_Mo_allTyped 4 = .ok (.getfield 166, 3) := by decide +kernel
theorem d_Mo_allTyped_7 : decode b_Mo_allTyped 7 = .ok (.if_icmp .ge 86, 3) := by decide +kernel
theorem d_Mo_allTyped_10 : decode b_Mo_allTyped 10 = .ok (.aload_n 0, 1) := by decide +kernel
theorem d_Mo_allTyped_11 : decode b_Mo_allTyped 11 = .ok (.getfield 40, 3) := by decide +kernel
theorem d_Mo_allTyped_14 : decode b_Mo_allTyped 14 = .ok (.iload_n 1, 1) := by decide +kernel
theorem d_Mo_allTyped_15 : decode b_Mo_allTyped 15 = .ok (.iaload, 1) := by decide +kernel
theorem d_Mo_allTyped_16 : decode b_Mo_allTyped 16 = .ok (.istore_n 2, 1) := by decide +kernel
theorem d_Mo_allTyped_17 : decode b_Mo_allTyped 17 = .ok (.iconst 0, 1) := by decide +kernel
theorem d_Mo_allTyped_18 : decode b_Mo_allTyped 18 = .ok (.istore_n 3, 1) := by decide +kernel
theorem d_Mo_allTyped_19 : decode b_Mo_allTyped 19 = .ok (.iload_n 3, 1) := by decide +kernel
theorem d_Mo_allTyped_20 : decode b_Mo_allTyped 20 = .ok (.aload_n 0, 1) := by decide +kernel
theorem d_Mo_allTyped_21 : decode b_Mo_allTyped 21 = .ok (.getfield 22, 3) := by decide +kernel
theorem d_Mo_allTyped_24 : decode b_Mo_allTyped 24 = .ok (.iload_n 2, 1) := by decide +kernel
theorem d_Mo_allTyped_25 : decode b_Mo_allTyped 25 = .ok (.iaload, 1) := by decide +kernel
theorem d_Mo_allTyped_26 : decode b_Mo_allTyped 26 = .ok (.if_icmp .ge 39, 3) := by decide +kernel
theorem d_Mo_allTyped_29 : decode b_Mo_allTyped 29 = .ok (.aload_n 0, 1) := by decide +kernel
theorem d_Mo_allTyped_30 : decode b_Mo_allTyped 30 = .ok (.aload_n 0, 1) := by decide +kernel
theorem d_Mo_allTyped_31 : decode b_Mo_allTyped 31 = .ok (.getfield 43, 3) := by decide +kernel
theorem d_Mo_allTyped_34 : decode b_Mo_allTyped 34 = .ok (.iconst 3, 1) := by decide +kernel
theorem d_Mo_allTyped_35 : decode b_Mo_allTyped 35 = .ok (.iload_n 1, 1) := by decide +kernel
theorem d_Mo_allTyped_36 : decode b_Mo_allTyped 36 = .ok (.imul, 1) := by decide +kernel
theorem d_Mo_allTyped_37 : decode b_Mo_allTyped 37 = .ok (.iload_n 3, 1) := by decide +kernel
theorem d_Mo_allTyped_38 : decode b_Mo_allTyped 38 = .ok (.iadd, 1) := by decide +kernel
theorem d_Mo_allTyped_39 : decode b_Mo_allTyped 39 = .ok (.iaload, 1) := by decide +kernel
theorem d_Mo_allTyped_40 : decode b_Mo_allTyped 40 = .ok (.aload_n 0, 1) := by decide +kernel
theorem d_Mo_allTyped_41 : decode b_Mo_allTyped 41 = .ok (.getfield 25, 3) := by decide +kernel
theorem d_Mo_allTyped_44 : decode b_Mo_allTyped 44 = .ok (.iconst 3, 1) := by decide +kernel
theorem d_Mo_allTyped_45 : decode b_Mo_allTyped 45 = .ok (.iload_n 2, 1) := by decide +kernel
theorem d_Mo_allTyped_46 : decode b_Mo_allTyped 46 = .ok (.imul, 1) := by decide +kernel
theorem d_Mo_allTyped_47 : decode b_Mo_allTyped 47 = .ok (.iload_n 3, 1) := by decide +kernel
theorem d_Mo_allTyped_48 : decode b_Mo_allTyped 48 = .ok (.iadd, 1) := by decide +kernel
theorem d_Mo_allTyped_49 : decode b_Mo_allTyped 49 = .ok (.iaload, 1) := by decide +kernel
theorem d_Mo_allTyped_50 : decode b_Mo_allTyped 50 = .ok (.iconst 1, 1) := by decide +kernel
theorem d_Mo_allTyped_51 : decode b_Mo_allTyped 51 = .ok (.invokevirtual 169, 3) := by decide +kernel
theorem d_Mo_allTyped_54 : decode b_Mo_allTyped 54 = .ok (.ifCond .ne 5, 3) := by decide +kernel
theorem d_Mo_allTyped_57 : decode b_Mo_allTyped 57 = .ok (.iconst 0, 1) := by decide +kernel
theorem d_Mo_allTyped_58 : decode b_Mo_allTyped 58 = .ok (.ireturn, 1) := by decide +kernel
theorem d_Mo_allTyped_59 : decode b_Mo_allTyped 59 = .ok (.iinc 3 1, 3) := by decide +kernel
theorem d_Mo_allTyped_62 : decode b_Mo_allTyped 62 = .ok (.goto (-43), 3) := by decide +kernel
theorem d_Mo_allTyped_65 : decode b_Mo_allTyped 65 = .ok (.aload_n 0, 1) := by decide +kernel
theorem d_Mo_allTyped_66 : decode b_Mo_allTyped 66 = .ok (.aload_n 0, 1) := by decide +kernel
theorem d_Mo_allTyped_67 : decode b_Mo_allTyped 67 = .ok (.getfield 46, 3) := by decide +kernel
theorem d_Mo_allTyped_70 : decode b_Mo_allTyped 70 = .ok (.iload_n 1, 1) := by decide +kernel
theorem d_Mo_allTyped_71 : decode b_Mo_allTyped 71 = .ok (.iaload, 1) := by decide +kernel
theorem d_Mo_allTyped_72 : decode b_Mo_allTyped 72 = .ok (.aload_n 0, 1) := by decide +kernel
theorem d_Mo_allTyped_73 : decode b_Mo_allTyped 73 = .ok (.getfield 19, 3) := by decide +kernel
theorem d_Mo_allTyped_76 : decode b_Mo_allTyped 76 = .ok (.iload_n 2, 1) := by decide +kernel
theorem d_Mo_allTyped_77 : decode b_Mo_allTyped 77 = .ok (.iaload, 1) := by decide +kernel
theorem d_Mo_allTyped_78 : decode b_Mo_allTyped 78 = .ok (.iconst 0, 1) := by decide +kernel
theorem d_Mo_allTyped_79 : decode b_Mo_allTyped 79 = .ok (.invokevirtual 169, 3) := by decide +kernel
theorem d_Mo_allTyped_82 : decode b_Mo_allTyped 82 = .ok (.ifCond .ne 5, 3) := by decide +kernel
theorem d_Mo_allTyped_85 : decode b_Mo_allTyped 85 = .ok (.iconst 0, 1) := by decide +kernel
theorem d_Mo_allTyped_86 : decode b_Mo_allTyped 86 = .ok (.ireturn, 1) := by decide +kernel
theorem d_Mo_allTyped_87 : decode b_Mo_allTyped 87 = .ok (.iinc 1 1, 3) := by decide +kernel
theorem d_Mo_allTyped_90 : decode b_Mo_allTyped 90 = .ok (.goto (-88), 3) := by decide +kernel
theorem d_Mo_allTyped_93 : decode b_Mo_allTyped 93 = .ok (.iconst 1, 1) := by decide +kernel
theorem d_Mo_allTyped_94 : decode b_Mo_allTyped 94 = .ok (.ireturn, 1) := by decide +kernel
theorem d_Mo_isTyped_0 : decode b_Mo_isTyped 0 = .ok (.aload_n 0, 1) := by decide +kernel
theorem d_Mo_isTyped_1 : decode b_Mo_isTyped 1 = .ok (.iconst 0, 1) := by decide +kernel
theorem d_Mo_isTyped_2 : decode b_Mo_isTyped 2 = .ok (.putfield 141, 3) := by decide +kernel
theorem d_Mo_isTyped_5 : decode b_Mo_isTyped 5 = .ok (.aload_n 0, 1) := by decide +kernel
theorem d_Mo_isTyped_6 : decode b_Mo_isTyped 6 = .ok (.iload_n 1, 1) := by decide +kernel
theorem d_Mo_isTyped_7 : decode b_Mo_isTyped 7 = .ok (.iload_n 2, 1) := by decide +kernel
theorem d_Mo_isTyped_8 : decode b_Mo_isTyped 8 = .ok (.invokevirtual 148, 3) := by decide +kernel
theorem d_Mo_isTyped_11 : decode b_Mo_isTyped 11 = .ok (.aload_n 0, 1) := by decide +kernel
theorem d_Mo_isTyped_12 : decode b_Mo_isTyped 12 = .ok (.getfield 141, 3) := by decide +kernel
theorem d_Mo_isTyped_15 : decode b_Mo_isTyped 15 = .ok (.ifCond .le 197, 3) := by decide +kernel
theorem d_Mo_isTyped_18 : decode b_Mo_isTyped 18 = .ok (.aload_n 0, 1) := by decide +kernel
theorem d_Mo_isTyped_19 : decode b_Mo_isTyped 19 = .ok (.dup, 1) := by decide +kernel
theorem d_Mo_isTyped_20 : decode b_Mo_isTyped 20 = .ok (.getfield 141, 3) := by decide +kernel
theorem d_Mo_isTyped_23 : decode b_Mo_isTyped 23 = .ok (.iconst 1, 1) := by decide +kernel
theorem d_Mo_isTyped_24 : decode b_Mo_isTyped 24 = .ok (.isub, 1) := by decide +kernel
theorem d_Mo_isTyped_25 : decode b_Mo_isTyped 25 = .ok (.putfield 141, 3) := by decide +kernel
theorem d_Mo_isTyped_28 : decode b_Mo_isTyped 28 = .ok (.aload_n 0, 1) := by decide +kernel
theorem d_Mo_isTyped_29 : decode b_Mo_isTyped 29 = .ok (.getfield 58, 3) := by decide +kernel
theorem d_Mo_isTyped_32 : decode b_Mo_isTyped 32 = .ok (.aload_n 0, 1) := by decide +kernel
theorem d_Mo_isTyped_33 : decode b_Mo_isTyped 33 = .ok (.getfield 141, 3) := by decide +kernel
theorem d_Mo_isTyped_36 : decode b_Mo_isTyped 36 = .ok (.iaload, 1) := by decide +kernel
theorem d_Mo_isTyped_37 : decode b_Mo_isTyped 37 = .ok (.istore 4, 2) := by decide +kernel
theorem d_Mo_isTyped_39 : decode b_Mo_isTyped 39 = .ok (.aload_n 0, 1) := by decide +kernel
theorem d_Mo_isTyped_40 : decode b_Mo_isTyped 40 = .ok (.getfield 61, 3) := by decide +kernel
theorem d_Mo_isTyped_43 : decode b_Mo_isTyped 43 = .ok (.aload_n 0, 1) := by decide +kernel
theorem d_Mo_isTyped_44 : decode b_Mo_isTyped 44 = .ok (.getfield 141, 3) := by decide +kernel
theorem d_Mo_isTyped_47 : decode b_Mo_isTyped 47 = .ok (.iaload, 1) := by decide +kernel
theorem d_Mo_isTyped_48 : decode b_Mo_isTyped 48 = .ok (.istore 5, 2) := by decide +kernel
theorem d_Mo_isTyped_50 : decode b_Mo_isTyped 50 = .ok (.aload_n 0, 1) := by decide +kernel
theorem d_Mo_isTyped_51 : decode b_Mo_isTyped 51 = .ok (.getfield 28, 3) := by decide +kernel
theorem d_Mo_isTyped_54 : decode b_Mo_isTyped 54 = .ok (.iload 4, 2) := by decide +kernel
theorem d_Mo_isTyped_56 : decode b_Mo_isTyped 56 = .ok (.iaload, 1) := by decide +kernel
theorem d_Mo_isTyped_57 : decode b_Mo_isTyped 57 = .ok (.istore 6, 2) := by decide +kernel
theorem d_Mo_isTyped_59 : decode b_Mo_isTyped 59 = .ok (.iload 6, 2) := by decide +kernel
theorem d_Mo_isTyped_61 : decode b_Mo_isTyped 61 = .ok (.bipush 8, 2) := by decide +kernel
theorem d_Mo_isTyped_63 : decode b_Mo_isTyped 63 = .ok (.if_icmp .ge 33, 3) := by decide +kernel
theorem d_Mo_isTyped_66 : decode b_Mo_isTyped 66 = .ok (.iload_n 3, 1) := by decide +kernel
theorem d_Mo_isTyped_67 : decode b_Mo_isTyped 67 = .ok (.ifCond .eq 15, 3) := by decide +kernel
theorem d_Mo_isTyped_70 : decode b_Mo_isTyped 70 = .ok (.aload_n 0, 1) := by decide +kernel
theorem d_Mo_isTyped_71 : decode b_Mo_isTyped 71 = .ok (.getfield 68, 3) := by decide +kernel
theorem d_Mo_isTyped_74 : decode b_Mo_isTyped 74 = .ok (.iload 6, 2) := by decide +kernel
theorem d_Mo_isTyped_76 : decode b_Mo_isTyped 76 = .ok (.iload 5, 2) := by decide +kernel
theorem d_Mo_isTyped_78 : decode b_Mo_isTyped 78 = .ok (.iastore, 1) := by decide +kernel
theorem d_Mo_isTyped_79 : decode b_Mo_isTyped 79 = .ok (.goto 54, 3) := by decide +kernel
theorem d_Mo_isTyped_82 : decode b_Mo_isTyped 82 = .ok (.aload_n 0, 1) := by decide +kernel
theorem d_Mo_isTyped_83 : decode b_Mo_isTyped 83 = .ok (.getfield 68, 3) := by decide +kernel
theorem d_Mo_isTyped_86 : decode b_Mo_isTyped 86 = .ok (.iload 6, 2) := by decide +kernel
theorem d_Mo_isTyped_88 : decode b_Mo_isTyped 88 = .ok (.iaload, 1) := by decide +kernel
theorem d_Mo_isTyped_89 : decode b_Mo_isTyped 89 = .ok (.iload 5, 2) := by decide +kernel
theorem d_Mo_isTyped_91 : decode b_Mo_isTyped 91 = .ok (.if_icmp .eq 42, 3) := by decide +kernel
theorem d_Mo_isTyped_94 : decode b_Mo_isTyped 94 = .ok (.iconst 0, 1) := by decide +kernel
theorem d_Mo_isTyped_95 : decode b_Mo_isTyped 95 = .ok (.ireturn, 1) := by decide +kernel
theorem d_Mo_isTyped_96 : decode b_Mo_isTyped 96 = .ok (.iload 6, 2) := by decide +kernel
theorem d_Mo_isTyped_98 : decode b_Mo_isTyped 98 = .ok (.bipush 16, 2) := by decide +kernel
theorem d_Mo_isTyped_100 : decode b_Mo_isTyped 100 = .ok (.if_icmp .ge 16, 3) := by decide +kernel
theorem d_Mo_isTyped_103 : decode b_Mo_isTyped 103 = .ok (.aload_n 0, 1) := by decide +kernel
theorem d_Mo_isTyped_104 : decode b_Mo_isTyped 104 = .ok (.getfield 7, 3) := by decide +kernel
theorem d_Mo_isTyped_107 : decode b_Mo_isTyped 107 = .ok (.iload 6, 2) := by decide +kernel
theorem d_Mo_isTyped_109 : decode b_Mo_isTyped 109 = .ok (.bipush 8, 2) := by decide +kernel
theorem d_Mo_isTyped_111 : decode b_Mo_isTyped 111 = .ok (.isub, 1) := by decide +kernel
theorem d_Mo_isTyped_112 : decode b_Mo_isTyped 112 = .ok (.iaload, 1) := by decide +kernel
theorem d_Mo_isTyped_113 : decode b_Mo_isTyped 113 = .ok (.goto 13, 3) := by decide +kernel
theorem d_Mo_isTyped_116 : decode b_Mo_isTyped 116 = .ok (.aload_n 0, 1) := by decide +kernel
theorem d_Mo_isTyped_117 : decode b_Mo_isTyped 117 = .ok (.getfield 19, 3) := by decide +kernel
theorem d_Mo_isTyped_120 : decode b_Mo_isTyped 120 = .ok (.iload 6, 2) := by decide +kernel
theorem d_Mo_isTyped_122 : decode b_Mo_isTyped 122 = .ok (.bipush 16, 2) := by decide +kernel
theorem d_Mo_isTyped_124 : decode b_Mo_isTyped 124 = .ok (.isub, 1) := by decide +kernel
theorem d_Mo_isTyped_125 : decode b_Mo_isTyped 125 = .ok (.iaload, 1) := by decide +kernel
theorem d_Mo_isTyped_126 : decode b_Mo_isTyped 126 = .ok (.iload 5, 2) := by decide +kernel
theorem d_Mo_isTyped_128 : decode b_Mo_isTyped 128 = .ok (.if_icmp .eq 5, 3) := by decide +kernel
theorem d_Mo_isTyped_131 : decode b_Mo_isTyped 131 = .ok (.iconst 0, 1) := by decide +kernel
theorem d_Mo_isTyped_132 : decode b_Mo_isTyped 132 = .ok (.ireturn, 1) := by decide +kernel
theorem d_Mo_isTyped_133 : decode b_Mo_isTyped 133 = .ok (.iconst 0, 1) := by decide +kernel
theorem d_Mo_isTyped_134 : decode b_Mo_isTyped 134 = .ok (.istore 7, 2) := by decide +kernel
theorem d_Mo_isTyped_136 : decode b_Mo_isTyped 136 = .ok (.iload 7, 2) := by decide +kernel
theorem d_Mo_isTyped_138 : decode b_Mo_isTyped 138 = .ok (.aload_n 0, 1) := by decide +kernel
theorem d_Mo_isTyped_139 : decode b_Mo_isTyped 139 = .ok (.iload 4, 2) := by decide +kernel
theorem d_Mo_isTyped_141 : decode b_Mo_isTyped 141 = .ok (.invokevirtual 144, 3) := by decide +kernel
theorem d_Mo_isTyped_144 : decode b_Mo_isTyped 144 = .ok (.if_icmp .ge 65, 3) := by decide +kernel
theorem d_Mo_isTyped_147 : decode b_Mo_isTyped 147 = .ok (.aload_n 0, 1) := by decide +kernel
theorem d_Mo_isTyped_148 : decode b_Mo_isTyped 148 = .ok (.aload_n 0, 1) := by decide +kernel
theorem d_Mo_isTyped_149 : decode b_Mo_isTyped 149 = .ok (.getfield 31, 3) := by decide +kernel
theorem d_Mo_isTyped_152 : decode b_Mo_isTyped 152 = .ok (.iconst 3, 1) := by decide +kernel
theorem d_Mo_isTyped_153 : decode b_Mo_isTyped 153 = .ok (.iload 4, 2) := by decide +kernel
theorem d_Mo_isTyped_155 : decode b_Mo_isTyped 155 = .ok (.imul, 1) := by decide +kernel
theorem d_Mo_isTyped_156 : decode b_Mo_isTyped 156 = .ok (.iload 7, 2) := by decide +kernel
theorem d_Mo_isTyped_158 : decode b_Mo_isTyped 158 = .ok (.iadd, 1) := by decide +kernel
theorem d_Mo_isTyped_159 : decode b_Mo_isTyped 159 = .ok (.iaload, 1) := by decide +kernel
theorem d_Mo_isTyped_160 : decode b_Mo_isTyped 160 = .ok (.iload 6, 2) := by decide +kernel
theorem d_Mo_isTyped_162 : decode b_Mo_isTyped 162 = .ok (.bipush 16, 2) := by decide +kernel
theorem d_Mo_isTyped_164 : decode b_Mo_isTyped 164 = .ok (.if_icmp .ge 21, 3) := by decide +kernel
theorem d_Mo_isTyped_167 : decode b_Mo_isTyped 167 = .ok (.aload_n 0, 1) := by decide +kernel
theorem d_Mo_isTyped_168 : decode b_Mo_isTyped 168 = .ok (.getfield 16, 3) := by decide +kernel
theorem d_Mo_isTyped_171 : decode b_Mo_isTyped 171 = .ok (.iconst 3, 1) := by decide +kernel
theorem d_Mo_isTyped_172 : decode b_Mo_isTyped 172 = .ok (.iload 6, 2) := by decide +kernel
theorem d_Mo_isTyped_174 : decode b_Mo_isTyped 174 = .ok (.bipush 8, 2) := by decide +kernel
theorem d_Mo_isTyped_176 : decode b_Mo_isTyped 176 = .ok (.isub, 1) := by decide +kernel
theorem d_Mo_isTyped_177 : decode b_Mo_isTyped 177 = .ok (.imul, 1) := by decide +kernel
theorem d_Mo_isTyped_178 : decode b_Mo_isTyped 178 = .ok (.iload 7, 2) := by decide +kernel
theorem d_Mo_isTyped_180 : decode b_Mo_isTyped 180 = .ok (.iadd, 1) := by decide +kernel
theorem d_Mo_isTyped_181 : decode b_Mo_isTyped 181 = .ok (.iaload, 1) := by decide +kernel
theorem d_Mo_isTyped_182 : decode b_Mo_isTyped 182 = .ok (.goto 18, 3) := by decide +kernel
theorem d_Mo_isTyped_185 : decode b_Mo_isTyped 185 = .ok (.aload_n 0, 1) := by decide +kernel
theorem d_Mo_isTyped_186 : decode b_Mo_isTyped 186 = .ok (.getfield 25, 3) := by decide +kernel
theorem d_Mo_isTyped_189 : decode b_Mo_isTyped 189 = .ok (.iconst 3, 1) := by decide +kernel
theorem d_Mo_isTyped_190 : decode b_Mo_isTyped 190 = .ok (.iload 6, 2) := by decide +kernel
theorem d_Mo_isTyped_192 : decode b_Mo_isTyped 192 = .ok (.bipush 16, 2) := by decide +kernel
theorem d_Mo_isTyped_194 : decode b_Mo_isTyped 194 = .ok (.isub, 1) := by decide +kernel
theorem d_Mo_isTyped_195 : decode b_Mo_isTyped 195 = .ok (.imul, 1) := by decide +kernel
theorem d_Mo_isTyped_196 : decode b_Mo_isTyped 196 = .ok (.iload 7, 2) := by decide +kernel
theorem d_Mo_isTyped_198 : decode b_Mo_isTyped 198 = .ok (.iadd, 1) := by decide +kernel
theorem d_Mo_isTyped_199 : decode b_Mo_isTyped 199 = .ok (.iaload, 1) := by decide +kernel
theorem d_Mo_isTyped_200 : decode b_Mo_isTyped 200 = .ok (.invokevirtual 148, 3) := by decide +kernel
theorem d_Mo_isTyped_203 : decode b_Mo_isTyped 203 = .ok (.iinc 7 1, 3) := by decide +kernel
theorem d_Mo_isTyped_206 : decode b_Mo_isTyped 206 = .ok (.goto (-70), 3) := by decide +kernel
theorem d_Mo_isTyped_209 : decode b_Mo_isTyped 209 = .ok (.goto (-198), 3) := by decide +kernel
theorem d_Mo_isTyped_212 : decode b_Mo_isTyped 212 = .ok (.iconst 1, 1) := by decide +kernel
theorem d_Mo_isTyped_213 : decode b_Mo_isTyped 213 = .ok (.ireturn, 1) := by decide +kernel
theorem d_Mo_isCovered_0 : decode b_Mo_isCovered 0 = .ok (.iconst 0, 1) := by decide +kernel
theorem d_Mo_isCovered_1 : decode b_Mo_isCovered 1 = .ok (.istore_n 2, 1) := by decide +kernel
theorem d_Mo_isCovered_2 : decode b_Mo_isCovered 2 = .ok (.iload_n 2, 1) := by decide +kernel
theorem d_Mo_isCovered_3 : decode b_Mo_isCovered 3 = .ok (.bipush 12, 2) := by decide +kernel
theorem d_Mo_isCovered_5 : decode b_Mo_isCovered 5 = .ok (.if_icmp .ge 16, 3) := by decide +kernel
theorem d_Mo_isCovered_8 : decode b_Mo_isCovered 8 = .ok (.aload_n 0, 1) := by decide +kernel
theorem d_Mo_isCovered_9 : decode b_Mo_isCovered 9 = .ok (.getfield 74, 3) := by decide +kernel
theorem d_Mo_isCovered_12 : decode b_Mo_isCovered 12 = .ok (.iload_n 2, 1) := by decide +kernel
theorem d_Mo_isCovered_13 : decode b_Mo_isCovered 13 = .ok (.iconst (-1), 1) := by decide +kernel
theorem d_Mo_isCovered_14 : decode b_Mo_isCovered 14 = .ok (.iastore, 1) := by decide +kernel
theorem d_Mo_isCovered_15 : decode b_Mo_isCovered 15 = .ok (.iinc 2 1, 3) := by decide +kernel
theorem d_Mo_isCovered_18 : decode b_Mo_isCovered 18 = .ok (.goto (-16), 3) := by decide +kernel
theorem d_Mo_isCovered_21 : decode b_Mo_isCovered 21 = .ok (.iconst 1, 1) := by decide +kernel
theorem d_Mo_isCovered_22 : decode b_Mo_isCovered 22 = .ok (.istore_n 2, 1) := by decide +kernel
theorem d_Mo_isCovered_23 : decode b_Mo_isCovered 23 = .ok (.iload_n 2, 1) := by decide +kernel
theorem d_Mo_isCovered_24 : decode b_Mo_isCovered 24 = .ok (.ifCond .le 113, 3) := by decide +kernel
theorem d_Mo_isCovered_27 : decode b_Mo_isCovered 27 = .ok (.iload_n 2, 1) := by decide +kernel
theorem d_Mo_isCovered_28 : decode b_Mo_isCovered 28 = .ok (.iconst 1, 1) := by decide +kernel
theorem d_Mo_isCovered_29 : decode b_Mo_isCovered 29 = .ok (.isub, 1) := by decide +kernel
theorem d_Mo_isCovered_30 : decode b_Mo_isCovered 30 = .ok (.istore_n 3, 1) := by decide +kernel
theorem d_Mo_isCovered_31 : decode b_Mo_isCovered 31 = .ok (.bipush (-2), 2) := by decide +kernel
theorem d_Mo_isCovered_33 : decode b_Mo_isCovered 33 = .ok (.istore 4, 2) := by decide +kernel
theorem d_Mo_isCovered_35 : decode b_Mo_isCovered 35 = .ok (.iconst 0, 1) := by decide +kernel
theorem d_Mo_isCovered_36 : decode b_Mo_isCovered 36 = .ok (.istore 5, 2) := by decide +kernel
theorem d_Mo_isCovered_38 : decode b_Mo_isCovered 38 = .ok (.iload 5, 2) := by decide +kernel
theorem d_Mo_isCovered_40 : decode b_Mo_isCovered 40 = .ok (.aload_n 0, 1) := by decide +kernel
theorem d_Mo_isCovered_41 : decode b_Mo_isCovered 41 = .ok (.getfield 166, 3) := by decide +kernel
theorem d_Mo_isCovered_44 : decode b_Mo_isCovered 44 = .ok (.if_icmp .ge 64, 3) := by decide +kernel
theorem d_Mo_isCovered_47 : decode b_Mo_isCovered 47 = .ok (.aload_n 0, 1) := by decide +kernel
theorem d_Mo_isCovered_48 : decode b_Mo_isCovered 48 = .ok (.getfield 40, 3) := by decide +kernel
theorem d_Mo_isCovered_51 : decode b_Mo_isCovered 51 = .ok (.iload 5, 2) := by decide +kernel
theorem d_Mo_isCovered_53 : decode b_Mo_isCovered 53 = .ok (.iaload, 1) := by decide +kernel
theorem d_Mo_isCovered_54 : decode b_Mo_isCovered 54 = .ok (.iload_n 1, 1) := by decide +kernel
theorem d_Mo_isCovered_55 : decode b_Mo_isCovered 55 = .ok (.if_icmp .ne 13, 3) := by decide +kernel
theorem d_Mo_isCovered_58 : decode b_Mo_isCovered 58 = .ok (.aload_n 0, 1) := by decide +kernel
theorem d_Mo_isCovered_59 : decode b_Mo_isCovered 59 = .ok (.iload 5, 2) := by decide +kernel
theorem d_Mo_isCovered_61 : decode b_Mo_isCovered 61 = .ok (.iload_n 3, 1) := by decide +kernel
theorem d_Mo_isCovered_62 : decode b_Mo_isCovered 62 = .ok (.invokevirtual 177, 3) := by decide +kernel
theorem d_Mo_isCovered_65 : decode b_Mo_isCovered 65 = .ok (.goto 5, 3) := by decide +kernel
theorem d_Mo_isCovered_68 : decode b_Mo_isCovered 68 = .ok (.bipush (-2), 2) := by decide +kernel
theorem d_Mo_isCovered_70 : decode b_Mo_isCovered 70 = .ok (.istore 6, 2) := by decide +kernel
theorem d_Mo_isCovered_72 : decode b_Mo_isCovered 72 = .ok (.iload 6, 2) := by decide +kernel
theorem d_Mo_isCovered_74 : decode b_Mo_isCovered 74 = .ok (.iconst (-1), 1) := by decide +kernel
theorem d_Mo_isCovered_75 : decode b_Mo_isCovered 75 = .ok (.if_icmp .eq 9, 3) := by decide +kernel
theorem d_Mo_isCovered_78 : decode b_Mo_isCovered 78 = .ok (.iload 4, 2) := by decide +kernel
theorem d_Mo_isCovered_80 : decode b_Mo_isCovered 80 = .ok (.iconst (-1), 1) := by decide +kernel
theorem d_Mo_isCovered_81 : decode b_Mo_isCovered 81 = .ok (.if_icmp .ne 7, 3) := by decide +kernel
theorem d_Mo_isCovered_84 : decode b_Mo_isCovered 84 = .ok (.iconst (-1), 1) := by decide +kernel
theorem d_Mo_isCovered_85 : decode b_Mo_isCovered 85 = .ok (.goto 15, 3) := by decide +kernel
theorem d_Mo_isCovered_88 : decode b_Mo_isCovered 88 = .ok (.iload 4, 2) := by decide +kernel
theorem d_Mo_isCovered_90 : decode b_Mo_isCovered 90 = .ok (.ifCond .lt 8, 3) := by decide +kernel
theorem d_Mo_isCovered_93 : decode b_Mo_isCovered 93 = .ok (.iload 4, 2) := by decide +kernel
theorem d_Mo_isCovered_95 : decode b_Mo_isCovered 95 = .ok (.goto 5, 3) := by decide +kernel
theorem d_Mo_isCovered_98 : decode b_Mo_isCovered 98 = .ok (.iload 6, 2) := by decide +kernel
theorem d_Mo_isCovered_100 : decode b_Mo_isCovered 100 = .ok (.istore 4, 2) := by decide +kernel
theorem d_Mo_isCovered_102 : decode b_Mo_isCovered 102 = .ok (.iinc 5 1, 3) := by decide +kernel
theorem d_Mo_isCovered_105 : decode b_Mo_isCovered 105 = .ok (.goto (-67), 3) := by decide +kernel
theorem d_Mo_isCovered_108 : decode b_Mo_isCovered 108 = .ok (.iload 4, 2) := by decide +kernel
theorem d_Mo_isCovered_110 : decode b_Mo_isCovered 110 = .ok (.bipush (-2), 2) := by decide +kernel
theorem d_Mo_isCovered_112 : decode b_Mo_isCovered 112 = .ok (.if_icmp .ne 5, 3) := by decide +kernel
theorem d_Mo_isCovered_115 : decode b_Mo_isCovered 115 = .ok (.iconst 0, 1) := by decide +kernel
theorem d_Mo_isCovered_116 : decode b_Mo_isCovered 116 = .ok (.ireturn, 1) := by decide +kernel
theorem d_Mo_isCovered_117 : decode b_Mo_isCovered 117 = .ok (.iinc 2 (-1), 3) := by decide +kernel
theorem d_Mo_isCovered_120 : decode b_Mo_isCovered 120 = .ok (.iload 4, 2) := by decide +kernel
theorem d_Mo_isCovered_122 : decode b_Mo_isCovered 122 = .ok (.ifCond .lt 12, 3) := by decide +kernel
theorem d_Mo_isCovered_125 : decode b_Mo_isCovered 125 = .ok (.aload_n 0, 1) := by decide +kernel
theorem d_Mo_isCovered_126 : decode b_Mo_isCovered 126 = .ok (.iload_n 1, 1) := by decide +kernel
theorem d_Mo_isCovered_127 : decode b_Mo_isCovered 127 = .ok (.iload_n 3, 1) := by decide +kernel
theorem d_Mo_isCovered_128 : decode b_Mo_isCovered 128 = .ok (.iload 4, 2) := by decide +kernel
theorem d_Mo_isCovered_130 : decode b_Mo_isCovered 130 = .ok (.invokevirtual 180, 3) := by decide +kernel
theorem d_Mo_isCovered_133 : decode b_Mo_isCovered 133 = .ok (.istore_n 2, 1) := by decide +kernel
theorem d_Mo_isCovered_134 : decode b_Mo_isCovered 134 = .ok (.goto (-111), 3) := by decide +kernel
theorem d_Mo_isCovered_137 : decode b_Mo_isCovered 137 = .ok (.iconst 1, 1) := by decide +kernel
theorem d_Mo_isCovered_138 : decode b_Mo_isCovered 138 = .ok (.ireturn, 1) := by decide +kernel
theorem d_Mo_stands_0 : decode b_Mo_stands 0 = .ok (.iconst (-1), 1) := by decide +kernel
theorem d_Mo_stands_1 : decode b_Mo_stands 1 = .ok (.istore_n 3, 1) := by decide +kernel
theorem d_Mo_stands_2 : decode b_Mo_stands 2 = .ok (.bipush 11, 2) := by decide +kernel
theorem d_Mo_stands_4 : decode b_Mo_stands 4 = .ok (.istore 4, 2) := by decide +kernel
theorem d_Mo_stands_6 : decode b_Mo_stands 6 = .ok (.iload 4, 2) := by decide +kernel
theorem d_Mo_stands_8 : decode b_Mo_stands 8 = .ok (.ifCond .lt 105, 3) := by decide +kernel
theorem d_Mo_stands_11 : decode b_Mo_stands 11 = .ok (.iload 4, 2) := by decide +kernel
theorem d_Mo_stands_13 : decode b_Mo_stands 13 = .ok (.iconst 4, 1) := by decide +kernel
theorem d_Mo_stands_14 : decode b_Mo_stands 14 = .ok (.idiv, 1) := by decide +kernel
theorem d_Mo_stands_15 : decode b_Mo_stands 15 = .ok (.aload_n 0, 1) := by decide +kernel
theorem d_Mo_stands_16 : decode b_Mo_stands 16 = .ok (.getfield 22, 3) := by decide +kernel
theorem d_Mo_stands_19 : decode b_Mo_stands 19 = .ok (.aload_n 0, 1) := by decide +kernel
theorem d_Mo_stands_20 : decode b_Mo_stands 20 = .ok (.getfield 40, 3) := by decide +kernel
theorem d_Mo_stands_23 : decode b_Mo_stands 23 = .ok (.iload_n 1, 1) := by decide +kernel
theorem d_Mo_stands_24 : decode b_Mo_stands 24 = .ok (.iaload, 1) := by decide +kernel
theorem d_Mo_stands_25 : decode b_Mo_stands 25 = .ok (.iaload, 1) := by decide +kernel
theorem d_Mo_stands_26 : decode b_Mo_stands 26 = .ok (.if_icmp .ge 27, 3) := by decide +kernel
theorem d_Mo_stands_29 : decode b_Mo_stands 29 = .ok (.aload_n 0, 1) := by decide +kernel
theorem d_Mo_stands_30 : decode b_Mo_stands 30 = .ok (.aload_n 0, 1) := by decide +kernel
theorem d_Mo_stands_31 : decode b_Mo_stands 31 = .ok (.getfield 43, 3) := by decide +kernel
theorem d_Mo_stands_34 : decode b_Mo_stands 34 = .ok (.iconst 3, 1) := by decide +kernel
theorem d_Mo_stands_35 : decode b_Mo_stands 35 = .ok (.iload_n 1, 1) := by decide +kernel
theorem d_Mo_stands_36 : decode b_Mo_stands 36 = .ok (.imul, 1) := by decide +kernel
theorem d_Mo_stands_37 : decode b_Mo_stands 37 = .ok (.iload 4, 2) := by decide +kernel
theorem d_Mo_stands_39 : decode b_Mo_stands 39 = .ok (.iconst 4, 1) := by decide +kernel
theorem d_Mo_stands_40 : decode b_Mo_stands 40 = .ok (.idiv, 1) := by decide +kernel
theorem d_Mo_stands_41 : decode b_Mo_stands 41 = .ok (.iadd, 1) := by decide +kernel
theorem d_Mo_stands_42 : decode b_Mo_stands 42 = .ok (.iaload, 1) := by decide +kernel
theorem d_Mo_stands_43 : decode b_Mo_stands 43 = .ok (.iload 4, 2) := by decide +kernel
theorem d_Mo_stands_45 : decode b_Mo_stands 45 = .ok (.iconst 4, 1) := by decide +kernel
theorem d_Mo_stands_46 : decode b_Mo_stands 46 = .ok (.irem, 1) := by decide +kernel
theorem d_Mo_stands_47 : decode b_Mo_stands 47 = .ok (.invokevirtual 173, 3) := by decide +kernel
theorem d_Mo_stands_50 : decode b_Mo_stands 50 = .ok (.goto 4, 3) := by decide +kernel
theorem d_Mo_stands_53 : decode b_Mo_stands 53 = .ok (.iconst (-1), 1) := by decide +kernel
theorem d_Mo_stands_54 : decode b_Mo_stands 54 = .ok (.istore 5, 2) := by decide +kernel
theorem d_Mo_stands_56 : decode b_Mo_stands 56 = .ok (.aload_n 0, 1) := by decide +kernel
theorem d_Mo_stands_57 : decode b_Mo_stands 57 = .ok (.getfield 74, 3) := by decide +kernel
theorem d_Mo_stands_60 : decode b_Mo_stands 60 = .ok (.bipush 12, 2) := by decide +kernel
theorem d_Mo_stands_62 : decode b_Mo_stands 62 = .ok (.iload_n 2, 1) := by decide +kernel
theorem d_Mo_stands_63 : decode b_Mo_stands 63 = .ok (.imul, 1) := by decide +kernel
theorem d_Mo_stands_64 : decode b_Mo_stands 64 = .ok (.iload 4, 2) := by decide +kernel
theorem d_Mo_stands_66 : decode b_Mo_stands 66 = .ok (.iadd, 1) := by decide +kernel
theorem d_Mo_stands_67 : decode b_Mo_stands 67 = .ok (.iaload, 1) := by decide +kernel
theorem d_Mo_stands_68 : decode b_Mo_stands 68 = .ok (.istore 6, 2) := by decide +kernel
theorem d_Mo_stands_70 : decode b_Mo_stands 70 = .ok (.iload 5, 2) := by decide +kernel
theorem d_Mo_stands_72 : decode b_Mo_stands 72 = .ok (.ifCond .lt 18, 3) := by decide +kernel
theorem d_Mo_stands_75 : decode b_Mo_stands 75 = .ok (.iload 6, 2) := by decide +kernel
theorem d_Mo_stands_77 : decode b_Mo_stands 77 = .ok (.ifCond .lt 13, 3) := by decide +kernel
theorem d_Mo_stands_80 : decode b_Mo_stands 80 = .ok (.iload 5, 2) := by decide +kernel
theorem d_Mo_stands_82 : decode b_Mo_stands 82 = .ok (.iload 6, 2) := by decide +kernel
theorem d_Mo_stands_84 : decode b_Mo_stands 84 = .ok (.if_icmp .eq 6, 3) := by decide +kernel
theorem d_Mo_stands_87 : decode b_Mo_stands 87 = .ok (.bipush (-2), 2) := by decide +kernel
theorem d_Mo_stands_89 : decode b_Mo_stands 89 = .ok (.ireturn, 1) := by decide +kernel
theorem d_Mo_stands_90 : decode b_Mo_stands 90 = .ok (.iload 5, 2) := by decide +kernel
theorem d_Mo_stands_92 : decode b_Mo_stands 92 = .ok (.ifCond .lt 13, 3) := by decide +kernel
theorem d_Mo_stands_95 : decode b_Mo_stands 95 = .ok (.iload 6, 2) := by decide +kernel
theorem d_Mo_stands_97 : decode b_Mo_stands 97 = .ok (.ifCond .ge 8, 3) := by decide +kernel
theorem d_Mo_stands_100 : decode b_Mo_stands 100 = .ok (.iload 4, 2) := by decide +kernel
theorem d_Mo_stands_102 : decode b_Mo_stands 102 = .ok (.goto 4, 3) := by decide +kernel
theorem d_Mo_stands_105 : decode b_Mo_stands 105 = .ok (.iload_n 3, 1) := by decide +kernel
theorem d_Mo_stands_106 : decode b_Mo_stands 106 = .ok (.istore_n 3, 1) := by decide +kernel
theorem d_Mo_stands_107 : decode b_Mo_stands 107 = .ok (.iinc 4 (-1), 3) := by decide +kernel
theorem d_Mo_stands_110 : decode b_Mo_stands 110 = .ok (.goto (-104), 3) := by decide +kernel
theorem d_Mo_stands_113 : decode b_Mo_stands 113 = .ok (.iload_n 3, 1) := by decide +kernel
theorem d_Mo_stands_114 : decode b_Mo_stands 114 = .ok (.ireturn, 1) := by decide +kernel
theorem d_Mo_wants_0 : decode b_Mo_wants 0 = .ok (.aload_n 0, 1) := by decide +kernel
theorem d_Mo_wants_1 : decode b_Mo_wants 1 = .ok (.getfield 28, 3) := by decide +kernel
theorem d_Mo_wants_4 : decode b_Mo_wants 4 = .ok (.iload_n 1, 1) := by decide +kernel
theorem d_Mo_wants_5 : decode b_Mo_wants 5 = .ok (.iaload, 1) := by decide +kernel
theorem d_Mo_wants_6 : decode b_Mo_wants 6 = .ok (.bipush 8, 2) := by decide +kernel
theorem d_Mo_wants_8 : decode b_Mo_wants 8 = .ok (.if_icmp .ge 5, 3) := by decide +kernel
theorem d_Mo_wants_11 : decode b_Mo_wants 11 = .ok (.iconst (-1), 1) := by decide +kernel
theorem d_Mo_wants_12 : decode b_Mo_wants 12 = .ok (.ireturn, 1) := by decide +kernel
theorem d_Mo_wants_13 : decode b_Mo_wants 13 = .ok (.aload_n 0, 1) := by decide +kernel
theorem d_Mo_wants_14 : decode b_Mo_wants 14 = .ok (.getfield 28, 3) := by decide +kernel
theorem d_Mo_wants_17 : decode b_Mo_wants 17 = .ok (.iload_n 1, 1) := by decide +kernel
theorem d_Mo_wants_18 : decode b_Mo_wants 18 = .ok (.iaload, 1) := by decide +kernel
theorem d_Mo_wants_19 : decode b_Mo_wants 19 = .ok (.bipush 8, 2) := by decide +kernel
theorem d_Mo_wants_21 : decode b_Mo_wants 21 = .ok (.isub, 1) := by decide +kernel
theorem d_Mo_wants_22 : decode b_Mo_wants 22 = .ok (.istore_n 3, 1) := by decide +kernel
theorem d_Mo_wants_23 : decode b_Mo_wants 23 = .ok (.iload_n 2, 1) := by decide +kernel
theorem d_Mo_wants_24 : decode b_Mo_wants 24 = .ok (.ifCond .ne 5, 3) := by decide +kernel
theorem d_Mo_wants_27 : decode b_Mo_wants 27 = .ok (.iload_n 3, 1) := by decide +kernel
theorem d_Mo_wants_28 : decode b_Mo_wants 28 = .ok (.ireturn, 1) := by decide +kernel
theorem d_Mo_wants_29 : decode b_Mo_wants 29 = .ok (.iload_n 2, 1) := by decide +kernel
theorem d_Mo_wants_30 : decode b_Mo_wants 30 = .ok (.aload_n 0, 1) := by decide +kernel
theorem d_Mo_wants_31 : decode b_Mo_wants 31 = .ok (.getfield 13, 3) := by decide +kernel
theorem d_Mo_wants_34 : decode b_Mo_wants 34 = .ok (.iload_n 3, 1) := by decide +kernel
theorem d_Mo_wants_35 : decode b_Mo_wants 35 = .ok (.iaload, 1) := by decide +kernel
theorem d_Mo_wants_36 : decode b_Mo_wants 36 = .ok (.if_icmp .gt 18, 3) := by decide +kernel
theorem d_Mo_wants_39 : decode b_Mo_wants 39 = .ok (.aload_n 0, 1) := by decide +kernel
theorem d_Mo_wants_40 : decode b_Mo_wants 40 = .ok (.getfield 31, 3) := by decide +kernel
theorem d_Mo_wants_43 : decode b_Mo_wants 43 = .ok (.iconst 3, 1) := by decide +kernel
theorem d_Mo_wants_44 : decode b_Mo_wants 44 = .ok (.iload_n 1, 1) := by decide +kernel
theorem d_Mo_wants_45 : decode b_Mo_wants 45 = .ok (.imul, 1) := by decide +kernel
theorem d_Mo_wants_46 : decode b_Mo_wants 46 = .ok (.iload_n 2, 1) := by decide +kernel
theorem d_Mo_wants_47 : decode b_Mo_wants 47 = .ok (.iadd, 1) := by decide +kernel
theorem d_Mo_wants_48 : decode b_Mo_wants 48 = .ok (.iconst 1, 1) := by decide +kernel
theorem d_Mo_wants_49 : decode b_Mo_wants 49 = .ok (.isub, 1) := by decide +kernel
theorem d_Mo_wants_50 : decode b_Mo_wants 50 = .ok (.iaload, 1) := by decide +kernel
theorem d_Mo_wants_51 : decode b_Mo_wants 51 = .ok (.goto 4, 3) := by decide +kernel
theorem d_Mo_wants_54 : decode b_Mo_wants 54 = .ok (.iconst (-1), 1) := by decide +kernel
theorem d_Mo_wants_55 : decode b_Mo_wants 55 = .ok (.istore 4, 2) := by decide +kernel
theorem d_Mo_wants_57 : decode b_Mo_wants 57 = .ok (.iload 4, 2) := by decide +kernel
theorem d_Mo_wants_59 : decode b_Mo_wants 59 = .ok (.ifCond .lt 15, 3) := by decide +kernel
theorem d_Mo_wants_62 : decode b_Mo_wants 62 = .ok (.aload_n 0, 1) := by decide +kernel
theorem d_Mo_wants_63 : decode b_Mo_wants 63 = .ok (.getfield 28, 3) := by decide +kernel
theorem d_Mo_wants_66 : decode b_Mo_wants 66 = .ok (.iload 4, 2) := by decide +kernel
theorem d_Mo_wants_68 : decode b_Mo_wants 68 = .ok (.iaload, 1) := by decide +kernel
theorem d_Mo_wants_69 : decode b_Mo_wants 69 = .ok (.bipush 8, 2) := by decide +kernel
theorem d_Mo_wants_71 : decode b_Mo_wants 71 = .ok (.if_icmp .ge 7, 3) := by decide +kernel
theorem d_Mo_wants_74 : decode b_Mo_wants 74 = .ok (.iconst (-1), 1) := by decide +kernel
theorem d_Mo_wants_75 : decode b_Mo_wants 75 = .ok (.goto 13, 3) := by decide +kernel
theorem d_Mo_wants_78 : decode b_Mo_wants 78 = .ok (.aload_n 0, 1) := by decide +kernel
theorem d_Mo_wants_79 : decode b_Mo_wants 79 = .ok (.getfield 28, 3) := by decide +kernel
theorem d_Mo_wants_82 : decode b_Mo_wants 82 = .ok (.iload 4, 2) := by decide +kernel
theorem d_Mo_wants_84 : decode b_Mo_wants 84 = .ok (.iaload, 1) := by decide +kernel
theorem d_Mo_wants_85 : decode b_Mo_wants 85 = .ok (.bipush 8, 2) := by decide +kernel
theorem d_Mo_wants_87 : decode b_Mo_wants 87 = .ok (.isub, 1) := by decide +kernel
theorem d_Mo_wants_88 : decode b_Mo_wants 88 = .ok (.ireturn, 1) := by decide +kernel
theorem d_Mo_splitAt_0 : decode b_Mo_splitAt 0 = .ok (.aload_n 0, 1) := by decide +kernel
theorem d_Mo_splitAt_1 : decode b_Mo_splitAt 1 = .ok (.iload_n 1, 1) := by decide +kernel
theorem d_Mo_splitAt_2 : decode b_Mo_splitAt 2 = .ok (.iload_n 2, 1) := by decide +kernel
theorem d_Mo_splitAt_3 : decode b_Mo_splitAt 3 = .ok (.iload_n 3, 1) := by decide +kernel
theorem d_Mo_splitAt_4 : decode b_Mo_splitAt 4 = .ok (.invokevirtual 183, 3) := by decide +kernel
theorem d_Mo_splitAt_7 : decode b_Mo_splitAt 7 = .ok (.istore 4, 2) := by decide +kernel
theorem d_Mo_splitAt_9 : decode b_Mo_splitAt 9 = .ok (.iload_n 2, 1) := by decide +kernel
theorem d_Mo_splitAt_10 : decode b_Mo_splitAt 10 = .ok (.istore 5, 2) := by decide +kernel
