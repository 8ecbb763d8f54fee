theorem d_Ty_init_0 : decode b_Ty_init 0 = .ok (.aload_n 0, 1) := by decide +kernel
theorem d_Ty_init_1 : decode b_Ty_init 1 = .ok (.invokespecial 3, 3) := by decide +kernel
theorem d_Ty_init_4 : decode b_Ty_init 4 = .ok (.aload_n 0, 1) := by decide +kernel
theorem d_Ty_init_5 : decode b_Ty_init 5 = .ok (.aload_n 1, 1) := by decide +kernel
theorem d_Ty_init_6 : decode b_Ty_init 6 = .ok (.putfield 9, 3) := by decide +kernel
theorem d_Ty_init_9 : decode b_Ty_init 9 = .ok (.aload_n 0, 1) := by decide +kernel
theorem d_Ty_init_10 : decode b_Ty_init 10 = .ok (.aload_n 2, 1) := by decide +kernel
theorem d_Ty_init_11 : decode b_Ty_init 11 = .ok (.putfield 15, 3) := by decide +kernel
theorem d_Ty_init_14 : decode b_Ty_init 14 = .ok (.aload_n 0, 1) := by decide +kernel
theorem d_Ty_init_15 : decode b_Ty_init 15 = .ok (.aload_n 3, 1) := by decide +kernel
theorem d_Ty_init_16 : decode b_Ty_init 16 = .ok (.putfield 18, 3) := by decide +kernel
theorem d_Ty_init_19 : decode b_Ty_init 19 = .ok (.aload_n 0, 1) := by decide +kernel
theorem d_Ty_init_20 : decode b_Ty_init 20 = .ok (.aload 4, 2) := by decide +kernel
theorem d_Ty_init_22 : decode b_Ty_init 22 = .ok (.putfield 22, 3) := by decide +kernel
theorem d_Ty_init_25 : decode b_Ty_init 25 = .ok (.aload_n 0, 1) := by decide +kernel
theorem d_Ty_init_26 : decode b_Ty_init 26 = .ok (.bipush 8, 2) := by decide +kernel
theorem d_Ty_init_28 : decode b_Ty_init 28 = .ok (.newarray .int, 2) := by decide +kernel
theorem d_Ty_init_30 : decode b_Ty_init 30 = .ok (.putfield 26, 3) := by decide +kernel
theorem d_Ty_init_33 : decode b_Ty_init 33 = .ok (.return_, 1) := by decide +kernel
theorem d_Ty_allInhabited_0 : decode b_Ty_allInhabited 0 = .ok (.aload_n 0, 1) := by decide +kernel
theorem d_Ty_allInhabited_1 : decode b_Ty_allInhabited 1 = .ok (.getfield 9, 3) := by decide +kernel
theorem d_Ty_allInhabited_4 : decode b_Ty_allInhabited 4 = .ok (.invokevirtual 30, 3) := by decide +kernel
theorem d_Ty_allInhabited_7 : decode b_Ty_allInhabited 7 = .ok (.aload_n 0, 1) := by decide +kernel
theorem d_Ty_allInhabited_8 : decode b_Ty_allInhabited 8 = .ok (.getfield 15, 3) := by decide +kernel
theorem d_Ty_allInhabited_11 : decode b_Ty_allInhabited 11 = .ok (.invokevirtual 30, 3) := by decide +kernel
theorem d_Ty_allInhabited_14 : decode b_Ty_allInhabited 14 = .ok (.ior, 1) := by decide +kernel
theorem d_Ty_allInhabited_15 : decode b_Ty_allInhabited 15 = .ok (.istore_n 1, 1) := by decide +kernel
theorem d_Ty_allInhabited_16 : decode b_Ty_allInhabited 16 = .ok (.iload_n 1, 1) := by decide +kernel
theorem d_Ty_allInhabited_17 : decode b_Ty_allInhabited 17 = .ok (.aload_n 0, 1) := by decide +kernel
theorem d_Ty_allInhabited_18 : decode b_Ty_allInhabited 18 = .ok (.invokevirtual 36, 3) := by decide +kernel
theorem d_Ty_allInhabited_21 : decode b_Ty_allInhabited 21 = .ok (.iconst (-1), 1) := by decide +kernel
theorem d_Ty_allInhabited_22 : decode b_Ty_allInhabited 22 = .ok (.ixor, 1) := by decide +kernel
theorem d_Ty_allInhabited_23 : decode b_Ty_allInhabited 23 = .ok (.iand, 1) := by decide +kernel
theorem d_Ty_allInhabited_24 : decode b_Ty_allInhabited 24 = .ok (.ifCond .ne 7, 3) := by decide +kernel
theorem d_Ty_allInhabited_27 : decode b_Ty_allInhabited 27 = .ok (.iconst 1, 1) := by decide +kernel
theorem d_Ty_allInhabited_28 : decode b_Ty_allInhabited 28 = .ok (.goto 4, 3) := by decide +kernel
theorem d_Ty_allInhabited_31 : decode b_Ty_allInhabited 31 = .ok (.iconst 0, 1) := by decide +kernel
theorem d_Ty_allInhabited_32 : decode b_Ty_allInhabited 32 = .ok (.ireturn, 1) := by decide +kernel
theorem d_Ty_typesWithValues_0 : decode b_Ty_typesWithValues 0 = .ok (.iconst 0, 1) := by decide +kernel
theorem d_Ty_typesWithValues_1 : decode b_Ty_typesWithValues 1 = .ok (.istore_n 1, 1) := by decide +kernel
theorem d_Ty_typesWithValues_2 : decode b_Ty_typesWithValues 2 = .ok (.iconst 0, 1) := by decide +kernel
theorem d_Ty_typesWithValues_3 : decode b_Ty_typesWithValues 3 = .ok (.istore_n 2, 1) := by decide +kernel
theorem d_Ty_typesWithValues_4 : decode b_Ty_typesWithValues 4 = .ok (.iload_n 2, 1) := by decide +kernel
theorem d_Ty_typesWithValues_5 : decode b_Ty_typesWithValues 5 = .ok (.iconst 3, 1) := by decide +kernel
theorem d_Ty_typesWithValues_6 : decode b_Ty_typesWithValues 6 = .ok (.if_icmp .ge 56, 3) := by decide +kernel
theorem d_Ty_typesWithValues_9 : decode b_Ty_typesWithValues 9 = .ok (.iconst 0, 1) := by decide +kernel
theorem d_Ty_typesWithValues_10 : decode b_Ty_typesWithValues 10 = .ok (.istore_n 3, 1) := by decide +kernel
theorem d_Ty_typesWithValues_11 : decode b_Ty_typesWithValues 11 = .ok (.iload_n 3, 1) := by decide +kernel
theorem d_Ty_typesWithValues_12 : decode b_Ty_typesWithValues 12 = .ok (.aload_n 0, 1) := by decide +kernel
theorem d_Ty_typesWithValues_13 : decode b_Ty_typesWithValues 13 = .ok (.getfield 9, 3) := by decide +kernel
theorem d_Ty_typesWithValues_16 : decode b_Ty_typesWithValues 16 = .ok (.invokevirtual 39, 3) := by decide +kernel
theorem d_Ty_typesWithValues_19 : decode b_Ty_typesWithValues 19 = .ok (.if_icmp .ge 37, 3) := by decide +kernel
theorem d_Ty_typesWithValues_22 : decode b_Ty_typesWithValues 22 = .ok (.aload_n 0, 1) := by decide +kernel
theorem d_Ty_typesWithValues_23 : decode b_Ty_typesWithValues 23 = .ok (.getfield 9, 3) := by decide +kernel
theorem d_Ty_typesWithValues_26 : decode b_Ty_typesWithValues 26 = .ok (.iload_n 3, 1) := by decide +kernel
theorem d_Ty_typesWithValues_27 : decode b_Ty_typesWithValues 27 = .ok (.invokevirtual 42, 3) := by decide +kernel
theorem d_Ty_typesWithValues_30 : decode b_Ty_typesWithValues 30 = .ok (.iload_n 1, 1) := by decide +kernel
theorem d_Ty_typesWithValues_31 : decode b_Ty_typesWithValues 31 = .ok (.iconst (-1), 1) := by decide +kernel
theorem d_Ty_typesWithValues_32 : decode b_Ty_typesWithValues 32 = .ok (.ixor, 1) := by decide +kernel
theorem d_Ty_typesWithValues_33 : decode b_Ty_typesWithValues 33 = .ok (.iand, 1) := by decide +kernel
theorem d_Ty_typesWithValues_34 : decode b_Ty_typesWithValues 34 = .ok (.ifCond .ne 16, 3) := by decide +kernel
theorem d_Ty_typesWithValues_37 : decode b_Ty_typesWithValues 37 = .ok (.iload_n 1, 1) := by decide +kernel
theorem d_Ty_typesWithValues_38 : decode b_Ty_typesWithValues 38 = .ok (.iconst 1, 1) := by decide +kernel
theorem d_Ty_typesWithValues_39 : decode b_Ty_typesWithValues 39 = .ok (.aload_n 0, 1) := by decide +kernel
theorem d_Ty_typesWithValues_40 : decode b_Ty_typesWithValues 40 = .ok (.getfield 9, 3) := by decide +kernel
theorem d_Ty_typesWithValues_43 : decode b_Ty_typesWithValues 43 = .ok (.iload_n 3, 1) := by decide +kernel
theorem d_Ty_typesWithValues_44 : decode b_Ty_typesWithValues 44 = .ok (.invokevirtual 46, 3) := by decide +kernel
theorem d_Ty_typesWithValues_47 : decode b_Ty_typesWithValues 47 = .ok (.ishl, 1) := by decide +kernel
theorem d_Ty_typesWithValues_48 : decode b_Ty_typesWithValues 48 = .ok (.ior, 1) := by decide +kernel
theorem d_Ty_typesWithValues_49 : decode b_Ty_typesWithValues 49 = .ok (.istore_n 1, 1) := by decide +kernel
theorem d_Ty_typesWithValues_50 : decode b_Ty_typesWithValues 50 = .ok (.iinc 3 1, 3) := by decide +kernel
theorem d_Ty_typesWithValues_53 : decode b_Ty_typesWithValues 53 = .ok (.goto (-42), 3) := by decide +kernel
theorem d_Ty_typesWithValues_56 : decode b_Ty_typesWithValues 56 = .ok (.iinc 2 1, 3) := by decide +kernel
theorem d_Ty_typesWithValues_59 : decode b_Ty_typesWithValues 59 = .ok (.goto (-55), 3) := by decide +kernel
theorem d_Ty_typesWithValues_62 : decode b_Ty_typesWithValues 62 = .ok (.iload_n 1, 1) := by decide +kernel
theorem d_Ty_typesWithValues_63 : decode b_Ty_typesWithValues 63 = .ok (.ireturn, 1) := by decide +kernel
theorem d_Ty_allTyped_0 : decode b_Ty_allTyped 0 = .ok (.iconst 0, 1) := by decide +kernel
theorem d_Ty_allTyped_1 : decode b_Ty_allTyped 1 = .ok (.istore_n 1, 1) := by decide +kernel
theorem d_Ty_allTyped_2 : decode b_Ty_allTyped 2 = .ok (.iload_n 1, 1) := by decide +kernel
theorem d_Ty_allTyped_3 : decode b_Ty_allTyped 3 = .ok (.aload_n 0, 1) := by decide +kernel
theorem d_Ty_allTyped_4 : decode b_Ty_allTyped 4 = .ok (.getfield 22, 3) := by decide +kernel
theorem d_Ty_allTyped_7 : decode b_Ty_allTyped 7 = .ok (.invokevirtual 49, 3) := by decide +kernel
theorem d_Ty_allTyped_10 : decode b_Ty_allTyped 10 = .ok (.if_icmp .ge 19, 3) := by decide +kernel
theorem d_Ty_allTyped_13 : decode b_Ty_allTyped 13 = .ok (.aload_n 0, 1) := by decide +kernel
theorem d_Ty_allTyped_14 : decode b_Ty_allTyped 14 = .ok (.iload_n 1, 1) := by decide +kernel
theorem d_Ty_allTyped_15 : decode b_Ty_allTyped 15 = .ok (.invokevirtual 52, 3) := by decide +kernel
theorem d_Ty_allTyped_18 : decode b_Ty_allTyped 18 = .ok (.ifCond .ne 5, 3) := by decide +kernel
theorem d_Ty_allTyped_21 : decode b_Ty_allTyped 21 = .ok (.iconst 0, 1) := by decide +kernel
theorem d_Ty_allTyped_22 : decode b_Ty_allTyped 22 = .ok (.ireturn, 1) := by decide +kernel
theorem d_Ty_allTyped_23 : decode b_Ty_allTyped 23 = .ok (.iinc 1 1, 3) := by decide +kernel
theorem d_Ty_allTyped_26 : decode b_Ty_allTyped 26 = .ok (.goto (-24), 3) := by decide +kernel
theorem d_Ty_allTyped_29 : decode b_Ty_allTyped 29 = .ok (.iconst 1, 1) := by decide +kernel
theorem d_Ty_allTyped_30 : decode b_Ty_allTyped 30 = .ok (.ireturn, 1) := by decide +kernel
theorem d_Ty_isTyped_0 : decode b_Ty_isTyped 0 = .ok (.aload_n 0, 1) := by decide +kernel
theorem d_Ty_isTyped_1 : decode b_Ty_isTyped 1 = .ok (.getfield 22, 3) := by decide +kernel
theorem d_Ty_isTyped_4 : decode b_Ty_isTyped 4 = .ok (.iload_n 1, 1) := by decide +kernel
theorem d_Ty_isTyped_5 : decode b_Ty_isTyped 5 = .ok (.invokevirtual 56, 3) := by decide +kernel
theorem d_Ty_isTyped_8 : decode b_Ty_isTyped 8 = .ok (.istore_n 2, 1) := by decide +kernel
theorem d_Ty_isTyped_9 : decode b_Ty_isTyped 9 = .ok (.iconst 0, 1) := by decide +kernel
theorem d_Ty_isTyped_10 : decode b_Ty_isTyped 10 = .ok (.istore_n 3, 1) := by decide +kernel
theorem d_Ty_isTyped_11 : decode b_Ty_isTyped 11 = .ok (.iload_n 3, 1) := by decide +kernel
theorem d_Ty_isTyped_12 : decode b_Ty_isTyped 12 = .ok (.aload_n 0, 1) := by decide +kernel
theorem d_Ty_isTyped_13 : decode b_Ty_isTyped 13 = .ok (.getfield 15, 3) := by decide +kernel
theorem d_Ty_isTyped_16 : decode b_Ty_isTyped 16 = .ok (.iload_n 2, 1) := by decide +kernel
theorem d_Ty_isTyped_17 : decode b_Ty_isTyped 17 = .ok (.invokevirtual 59, 3) := by decide +kernel
theorem d_Ty_isTyped_20 : decode b_Ty_isTyped 20 = .ok (.if_icmp .ge 36, 3) := by decide +kernel
theorem d_Ty_isTyped_23 : decode b_Ty_isTyped 23 = .ok (.aload_n 0, 1) := by decide +kernel
theorem d_Ty_isTyped_24 : decode b_Ty_isTyped 24 = .ok (.aload_n 0, 1) := by decide +kernel
theorem d_Ty_isTyped_25 : decode b_Ty_isTyped 25 = .ok (.getfield 22, 3) := by decide +kernel
theorem d_Ty_isTyped_28 : decode b_Ty_isTyped 28 = .ok (.iload_n 1, 1) := by decide +kernel
theorem d_Ty_isTyped_29 : decode b_Ty_isTyped 29 = .ok (.iload_n 3, 1) := by decide +kernel
theorem d_Ty_isTyped_30 : decode b_Ty_isTyped 30 = .ok (.invokevirtual 62, 3) := by decide +kernel
theorem d_Ty_isTyped_33 : decode b_Ty_isTyped 33 = .ok (.aload_n 0, 1) := by decide +kernel
theorem d_Ty_isTyped_34 : decode b_Ty_isTyped 34 = .ok (.getfield 15, 3) := by decide +kernel
theorem d_Ty_isTyped_37 : decode b_Ty_isTyped 37 = .ok (.iload_n 2, 1) := by decide +kernel
theorem d_Ty_isTyped_38 : decode b_Ty_isTyped 38 = .ok (.iload_n 3, 1) := by decide +kernel
theorem d_Ty_isTyped_39 : decode b_Ty_isTyped 39 = .ok (.invokevirtual 66, 3) := by decide +kernel
theorem d_Ty_isTyped_42 : decode b_Ty_isTyped 42 = .ok (.invokevirtual 69, 3) := by decide +kernel
theorem d_Ty_isTyped_45 : decode b_Ty_isTyped 45 = .ok (.ifCond .ne 5, 3) := by decide +kernel
theorem d_Ty_isTyped_48 : decode b_Ty_isTyped 48 = .ok (.iconst 0, 1) := by decide +kernel
theorem d_Ty_isTyped_49 : decode b_Ty_isTyped 49 = .ok (.ireturn, 1) := by decide +kernel
theorem d_Ty_isTyped_50 : decode b_Ty_isTyped 50 = .ok (.iinc 3 1, 3) := by decide +kernel
theorem d_Ty_isTyped_53 : decode b_Ty_isTyped 53 = .ok (.goto (-42), 3) := by decide +kernel
theorem d_Ty_isTyped_56 : decode b_Ty_isTyped 56 = .ok (.aload_n 0, 1) := by decide +kernel
theorem d_Ty_isTyped_57 : decode b_Ty_isTyped 57 = .ok (.aload_n 0, 1) := by decide +kernel
theorem d_Ty_isTyped_58 : decode b_Ty_isTyped 58 = .ok (.getfield 22, 3) := by decide +kernel
theorem d_Ty_isTyped_61 : decode b_Ty_isTyped 61 = .ok (.iload_n 1, 1) := by decide +kernel
theorem d_Ty_isTyped_62 : decode b_Ty_isTyped 62 = .ok (.invokevirtual 73, 3) := by decide +kernel
theorem d_Ty_isTyped_65 : decode b_Ty_isTyped 65 = .ok (.aload_n 0, 1) := by decide +kernel
theorem d_Ty_isTyped_66 : decode b_Ty_isTyped 66 = .ok (.getfield 15, 3) := by decide +kernel
theorem d_Ty_isTyped_69 : decode b_Ty_isTyped 69 = .ok (.iload_n 2, 1) := by decide +kernel
theorem d_Ty_isTyped_70 : decode b_Ty_isTyped 70 = .ok (.invokevirtual 46, 3) := by decide +kernel
theorem d_Ty_isTyped_73 : decode b_Ty_isTyped 73 = .ok (.invokevirtual 76, 3) := by decide +kernel
theorem d_Ty_isTyped_76 : decode b_Ty_isTyped 76 = .ok (.ireturn, 1) := by decide +kernel
theorem d_Ty_isPatternOfType_0 : decode b_Ty_isPatternOfType 0 = .ok (.aload_n 0, 1) := by decide +kernel
theorem d_Ty_isPatternOfType_1 : decode b_Ty_isPatternOfType 1 = .ok (.getfield 18, 3) := by decide +kernel
theorem d_Ty_isPatternOfType_4 : decode b_Ty_isPatternOfType 4 = .ok (.iload_n 1, 1) := by decide +kernel
theorem d_Ty_isPatternOfType_5 : decode b_Ty_isPatternOfType 5 = .ok (.invokevirtual 79, 3) := by decide +kernel
theorem d_Ty_isPatternOfType_8 : decode b_Ty_isPatternOfType 8 = .ok (.ifCond .eq 19, 3) := by decide +kernel
theorem d_Ty_isPatternOfType_11 : decode b_Ty_isPatternOfType 11 = .ok (.aload_n 0, 1) := by decide +kernel
theorem d_Ty_isPatternOfType_12 : decode b_Ty_isPatternOfType 12 = .ok (.getfield 26, 3) := by decide +kernel
theorem d_Ty_isPatternOfType_15 : decode b_Ty_isPatternOfType 15 = .ok (.aload_n 0, 1) := by decide +kernel
theorem d_Ty_isPatternOfType_16 : decode b_Ty_isPatternOfType 16 = .ok (.getfield 18, 3) := by decide +kernel
theorem d_Ty_isPatternOfType_19 : decode b_Ty_isPatternOfType 19 = .ok (.iload_n 1, 1) := by decide +kernel
theorem d_Ty_isPatternOfType_20 : decode b_Ty_isPatternOfType 20 = .ok (.invokevirtual 84, 3) := by decide +kernel
theorem d_Ty_isPatternOfType_23 : decode b_Ty_isPatternOfType 23 = .ok (.iload_n 2, 1) := by decide +kernel
theorem d_Ty_isPatternOfType_24 : decode b_Ty_isPatternOfType 24 = .ok (.iastore, 1) := by decide +kernel
theorem d_Ty_isPatternOfType_25 : decode b_Ty_isPatternOfType 25 = .ok (.iconst 1, 1) := by decide +kernel
theorem d_Ty_isPatternOfType_26 : decode b_Ty_isPatternOfType 26 = .ok (.ireturn, 1) := by decide +kernel
theorem d_Ty_isPatternOfType_27 : decode b_Ty_isPatternOfType 27 = .ok (.aload_n 0, 1) := by decide +kernel
theorem d_Ty_isPatternOfType_28 : decode b_Ty_isPatternOfType 28 = .ok (.getfield 18, 3) := by decide +kernel
theorem d_Ty_isPatternOfType_31 : decode b_Ty_isPatternOfType 31 = .ok (.iload_n 1, 1) := by decide +kernel
theorem d_Ty_isPatternOfType_32 : decode b_Ty_isPatternOfType 32 = .ok (.invokevirtual 84, 3) := by decide +kernel
theorem d_Ty_isPatternOfType_35 : decode b_Ty_isPatternOfType 35 = .ok (.istore_n 3, 1) := by decide +kernel
theorem d_Ty_isPatternOfType_36 : decode b_Ty_isPatternOfType 36 = .ok (.aload_n 0, 1) := by decide +kernel
theorem d_Ty_isPatternOfType_37 : decode b_Ty_isPatternOfType 37 = .ok (.getfield 9, 3) := by decide +kernel
theorem d_Ty_isPatternOfType_40 : decode b_Ty_isPatternOfType 40 = .ok (.iload_n 3, 1) := by decide +kernel
theorem d_Ty_isPatternOfType_41 : decode b_Ty_isPatternOfType 41 = .ok (.invokevirtual 46, 3) := by decide +kernel
theorem d_Ty_isPatternOfType_44 : decode b_Ty_isPatternOfType 44 = .ok (.iload_n 2, 1) := by decide +kernel
theorem d_Ty_isPatternOfType_45 : decode b_Ty_isPatternOfType 45 = .ok (.if_icmp .eq 5, 3) := by decide +kernel
theorem d_Ty_isPatternOfType_48 : decode b_Ty_isPatternOfType 48 = .ok (.iconst 0, 1) := by decide +kernel
theorem d_Ty_isPatternOfType_49 : decode b_Ty_isPatternOfType 49 = .ok (.ireturn, 1) := by decide +kernel
theorem d_Ty_isPatternOfType_50 : decode b_Ty_isPatternOfType 50 = .ok (.iconst 0, 1) := by decide +kernel
theorem d_Ty_isPatternOfType_51 : decode b_Ty_isPatternOfType 51 = .ok (.istore 4, 2) := by decide +kernel
theorem d_Ty_isPatternOfType_53 : decode b_Ty_isPatternOfType 53 = .ok (.iload 4, 2) := by decide +kernel
theorem d_Ty_isPatternOfType_55 : decode b_Ty_isPatternOfType 55 = .ok (.aload_n 0, 1) := by decide +kernel
theorem d_Ty_isPatternOfType_56 : decode b_Ty_isPatternOfType 56 = .ok (.getfield 18, 3) := by decide +kernel
theorem d_Ty_isPatternOfType_59 : decode b_Ty_isPatternOfType 59 = .ok (.iload_n 1, 1) := by decide +kernel
theorem d_Ty_isPatternOfType_60 : decode b_Ty_isPatternOfType 60 = .ok (.invokevirtual 87, 3) := by decide +kernel
theorem d_Ty_isPatternOfType_63 : decode b_Ty_isPatternOfType 63 = .ok (.if_icmp .ge 38, 3) := by decide +kernel
theorem d_Ty_isPatternOfType_66 : decode b_Ty_isPatternOfType 66 = .ok (.aload_n 0, 1) := by decide +kernel
theorem d_Ty_isPatternOfType_67 : decode b_Ty_isPatternOfType 67 = .ok (.aload_n 0, 1) := by decide +kernel
theorem d_Ty_isPatternOfType_68 : decode b_Ty_isPatternOfType 68 = .ok (.getfield 18, 3) := by decide +kernel
theorem d_Ty_isPatternOfType_71 : decode b_Ty_isPatternOfType 71 = .ok (.iload_n 1, 1) := by decide +kernel
theorem d_Ty_isPatternOfType_72 : decode b_Ty_isPatternOfType 72 = .ok (.iload 4, 2) := by decide +kernel
theorem d_Ty_isPatternOfType_74 : decode b_Ty_isPatternOfType 74 = .ok (.invokevirtual 88, 3) := by decide +kernel
theorem d_Ty_isPatternOfType_77 : decode b_Ty_isPatternOfType 77 = .ok (.aload_n 0, 1) := by decide +kernel
theorem d_Ty_isPatternOfType_78 : decode b_Ty_isPatternOfType 78 = .ok (.getfield 9, 3) := by decide +kernel
theorem d_Ty_isPatternOfType_81 : decode b_Ty_isPatternOfType 81 = .ok (.iload_n 3, 1) := by decide +kernel
theorem d_Ty_isPatternOfType_82 : decode b_Ty_isPatternOfType 82 = .ok (.iload 4, 2) := by decide +kernel
theorem d_Ty_isPatternOfType_84 : decode b_Ty_isPatternOfType 84 = .ok (.invokevirtual 66, 3) := by decide +kernel
theorem d_Ty_isPatternOfType_87 : decode b_Ty_isPatternOfType 87 = .ok (.invokevirtual 69, 3) := by decide +kernel
theorem d_Ty_isPatternOfType_90 : decode b_Ty_isPatternOfType 90 = .ok (.ifCond .ne 5, 3) := by decide +kernel
theorem d_Ty_isPatternOfType_93 : decode b_Ty_isPatternOfType 93 = .ok (.iconst 0, 1) := by decide +kernel
theorem d_Ty_isPatternOfType_94 : decode b_Ty_isPatternOfType 94 = .ok (.ireturn, 1) := by decide +kernel
theorem d_Ty_isPatternOfType_95 : decode b_Ty_isPatternOfType 95 = .ok (.iinc 4 1, 3) := by decide +kernel
theorem d_Ty_isPatternOfType_98 : decode b_Ty_isPatternOfType 98 = .ok (.goto (-45), 3) := by decide +kernel
theorem d_Ty_isPatternOfType_101 : decode b_Ty_isPatternOfType 101 = .ok (.iconst 1, 1) := by decide +kernel
theorem d_Ty_isPatternOfType_102 : decode b_Ty_isPatternOfType 102 = .ok (.ireturn, 1) := by decide +kernel
theorem d_Ty_isOfType_0 : decode b_Ty_isOfType 0 = .ok (.aload_n 0, 1) := by decide +kernel
theorem d_Ty_isOfType_1 : decode b_Ty_isOfType 1 = .ok (.getfield 18, 3) := by decide +kernel
theorem d_Ty_isOfType_4 : decode b_Ty_isOfType 4 = .ok (.iload_n 1, 1) := by decide +kernel
theorem d_Ty_isOfType_5 : decode b_Ty_isOfType 5 = .ok (.invokevirtual 84, 3) := by decide +kernel
theorem d_Ty_isOfType_8 : decode b_Ty_isOfType 8 = .ok (.istore_n 3, 1) := by decide +kernel
theorem d_Ty_isOfType_9 : decode b_Ty_isOfType 9 = .ok (.aload_n 0, 1) := by decide +kernel
theorem d_Ty_isOfType_10 : decode b_Ty_isOfType 10 = .ok (.getfield 18, 3) := by decide +kernel
theorem d_Ty_isOfType_13 : decode b_Ty_isOfType 13 = .ok (.iload_n 1, 1) := by decide +kernel
theorem d_Ty_isOfType_14 : decode b_Ty_isOfType 14 = .ok (.invokevirtual 79, 3) := by decide +kernel
theorem d_Ty_isOfType_17 : decode b_Ty_isOfType 17 = .ok (.ifCond .eq 19, 3) := by decide +kernel
theorem d_Ty_isOfType_20 : decode b_Ty_isOfType 20 = .ok (.aload_n 0, 1) := by decide +kernel
theorem d_Ty_isOfType_21 : decode b_Ty_isOfType 21 = .ok (.getfield 26, 3) := by decide +kernel
theorem d_Ty_isOfType_24 : decode b_Ty_isOfType 24 = .ok (.iload_n 3, 1) := by decide +kernel
theorem d_Ty_isOfType_25 : decode b_Ty_isOfType 25 = .ok (.iaload, 1) := by decide +kernel
theorem d_Ty_isOfType_26 : decode b_Ty_isOfType 26 = .ok (.iload_n 2, 1) := by decide +kernel
theorem d_Ty_isOfType_27 : decode b_Ty_isOfType 27 = .ok (.if_icmp .ne 7, 3) := by decide +kernel
theorem d_Ty_isOfType_30 : decode b_Ty_isOfType 30 = .ok (.iconst 1, 1) := by decide +kernel
theorem d_Ty_isOfType_31 : decode b_Ty_isOfType 31 = .ok (.goto 4, 3) := by decide +kernel
theorem d_Ty_isOfType_34 : decode b_Ty_isOfType 34 = .ok (.iconst 0, 1) := by decide +kernel
theorem d_Ty_isOfType_35 : decode b_Ty_isOfType 35 = .ok (.ireturn, 1) := by decide +kernel
theorem d_Ty_isOfType_36 : decode b_Ty_isOfType 36 = .ok (.aload_n 0, 1) := by decide +kernel
theorem d_Ty_isOfType_37 : decode b_Ty_isOfType 37 = .ok (.getfield 18, 3) := by decide +kernel
theorem d_Ty_isOfType_40 : decode b_Ty_isOfType 40 = .ok (.iload_n 1, 1) := by decide +kernel
theorem d_Ty_isOfType_41 : decode b_Ty_isOfType 41 = .ok (.invokevirtual 94, 3) := by decide +kernel
theorem d_Ty_isOfType_44 : decode b_Ty_isOfType 44 = .ok (.ifCond .eq 10, 3) := by decide +kernel
theorem d_Ty_isOfType_47 : decode b_Ty_isOfType 47 = .ok (.aload_n 0, 1) := by decide +kernel
theorem d_Ty_isOfType_48 : decode b_Ty_isOfType 48 = .ok (.getfield 9, 3) := by decide +kernel
theorem d_Ty_isOfType_51 : decode b_Ty_isOfType 51 = .ok (.goto 7, 3) := by decide +kernel
theorem d_Ty_isOfType_54 : decode b_Ty_isOfType 54 = .ok (.aload_n 0, 1) := by decide +kernel
theorem d_Ty_isOfType_55 : decode b_Ty_isOfType 55 = .ok (.getfield 15, 3) := by decide +kernel
theorem d_Ty_isOfType_58 : decode b_Ty_isOfType 58 = .ok (.astore 4, 2) := by decide +kernel
theorem d_Ty_isOfType_60 : decode b_Ty_isOfType 60 = .ok (.aload 4, 2) := by decide +kernel
theorem d_Ty_isOfType_62 : decode b_Ty_isOfType 62 = .ok (.iload_n 3, 1) := by decide +kernel
theorem d_Ty_isOfType_63 : decode b_Ty_isOfType 63 = .ok (.invokevirtual 46, 3) := by decide +kernel
theorem d_Ty_isOfType_66 : decode b_Ty_isOfType 66 = .ok (.iload_n 2, 1) := by decide +kernel
theorem d_Ty_isOfType_67 : decode b_Ty_isOfType 67 = .ok (.if_icmp .eq 5, 3) := by decide +kernel
theorem d_Ty_isOfType_70 : decode b_Ty_isOfType 70 = .ok (.iconst 0, 1) := by decide +kernel
theorem d_Ty_isOfType_71 : decode b_Ty_isOfType 71 = .ok (.ireturn, 1) := by decide +kernel
theorem d_Ty_isOfType_72 : decode b_Ty_isOfType 72 = .ok (.iconst 0, 1) := by decide +kernel
theorem d_Ty_isOfType_73 : decode b_Ty_isOfType 73 = .ok (.istore 5, 2) := by decide +kernel
theorem d_Ty_isOfType_75 : decode b_Ty_isOfType 75 = .ok (.iload 5, 2) := by decide +kernel
theorem d_Ty_isOfType_77 : decode b_Ty_isOfType 77 = .ok (.aload_n 0, 1) := by decide +kernel
theorem d_Ty_isOfType_78 : decode b_Ty_isOfType 78 = .ok (.getfield 18, 3) := by decide +kernel
theorem d_Ty_isOfType_81 : decode b_Ty_isOfType 81 = .ok (.iload_n 1, 1) := by decide +kernel
theorem d_Ty_isOfType_82 : decode b_Ty_isOfType 82 = .ok (.invokevirtual 87, 3) := by decide +kernel
theorem d_Ty_isOfType_85 : decode b_Ty_isOfType 85 = .ok (.if_icmp .ge 36, 3) := by decide +kernel
theorem d_Ty_isOfType_88 : decode b_Ty_isOfType 88 = .ok (.aload_n 0, 1) := by decide +kernel
theorem d_Ty_isOfType_89 : decode b_Ty_isOfType 89 = .ok (.aload_n 0, 1) := by decide +kernel
theorem d_Ty_isOfType_90 : decode b_Ty_isOfType 90 = .ok (.getfield 18, 3) := by decide +kernel
theorem d_Ty_isOfType_93 : decode b_Ty_isOfType 93 = .ok (.iload_n 1, 1) := by decide +kernel
theorem d_Ty_isOfType_94 : decode b_Ty_isOfType 94 = .ok (.iload 5, 2) := by decide +kernel
theorem d_Ty_isOfType_96 : decode b_Ty_isOfType 96 = .ok (.invokevirtual 88, 3) := by decide +kernel
theorem d_Ty_isOfType_99 : decode b_Ty_isOfType 99 = .ok (.aload 4, 2) := by decide +kernel
theorem d_Ty_isOfType_101 : decode b_Ty_isOfType 101 = .ok (.iload_n 3, 1) := by decide +kernel
theorem d_Ty_isOfType_102 : decode b_Ty_isOfType 102 = .ok (.iload 5, 2) := by decide +kernel
theorem d_Ty_isOfType_104 : decode b_Ty_isOfType 104 = .ok (.invokevirtual 66, 3) := by decide +kernel
theorem d_Ty_isOfType_107 : decode b_Ty_isOfType 107 = .ok (.invokevirtual 76, 3) := by decide +kernel
theorem d_Ty_isOfType_110 : decode b_Ty_isOfType 110 = .ok (.ifCond .ne 5, 3) := by decide +kernel
theorem d_Ty_isOfType_113 : decode b_Ty_isOfType 113 = .ok (.iconst 0, 1) := by decide +kernel
theorem d_Ty_isOfType_114 : decode b_Ty_isOfType 114 = .ok (.ireturn, 1) := by decide +kernel
theorem d_Ty_isOfType_115 : decode b_Ty_isOfType 115 = .ok (.iinc 5 1, 3) := by decide +kernel
theorem d_Ty_isOfType_118 : decode b_Ty_isOfType 118 = .ok (.goto (-43), 3) := by decide +kernel
theorem d_Ty_isOfType_121 : decode b_Ty_isOfType 121 = .ok (.iconst 1, 1) := by decide +kernel
theorem d_Ty_isOfType_122 : decode b_Ty_isOfType 122 = .ok (.ireturn, 1) := by decide +kernel
theorem d_Ty_isClosedOfType_0 : decode b_Ty_isClosedOfType 0 = .ok (.aload_n 0, 1) := by decide +kernel
theorem d_Ty_isClosedOfType_1 : decode b_Ty_isClosedOfType 1 = .ok (.getfield 18, 3) := by decide +kernel
theorem d_Ty_isClosedOfType_4 : decode b_Ty_isClosedOfType 4 = .ok (.iload_n 1, 1) := by decide +kernel
theorem d_Ty_isClosedOfType_5 : decode b_Ty_isClosedOfType 5 = .ok (.invokevirtual 91, 3) := by decide +kernel
theorem d_Ty_isClosedOfType_8 : decode b_Ty_isClosedOfType 8 = .ok (.ifCond .eq 16, 3) := by decide +kernel
theorem d_Ty_isClosedOfType_11 : decode b_Ty_isClosedOfType 11 = .ok (.aload_n 0, 1) := by decide +kernel
theorem d_Ty_isClosedOfType_12 : decode b_Ty_isClosedOfType 12 = .ok (.iload_n 1, 1) := by decide +kernel
theorem d_Ty_isClosedOfType_13 : decode b_Ty_isClosedOfType 13 = .ok (.iload_n 2, 1) := by decide +kernel
theorem d_Ty_isClosedOfType_14 : decode b_Ty_isClosedOfType 14 = .ok (.invokevirtual 76, 3) := by decide +kernel
theorem d_Ty_isClosedOfType_17 : decode b_Ty_isClosedOfType 17 = .ok (.ifCond .eq 7, 3) := by decide +kernel
theorem d_Ty_isClosedOfType_20 : decode b_Ty_isClosedOfType 20 = .ok (.iconst 1, 1) := by decide +kernel
theorem d_Ty_isClosedOfType_21 : decode b_Ty_isClosedOfType 21 = .ok (.goto 4, 3) := by decide +kernel
theorem d_Ty_isClosedOfType_24 : decode b_Ty_isClosedOfType 24 = .ok (.iconst 0, 1) := by decide +kernel
theorem d_Ty_isClosedOfType_25 : decode b_Ty_isClosedOfType 25 = .ok (.ireturn, 1) := by decide +kernel
