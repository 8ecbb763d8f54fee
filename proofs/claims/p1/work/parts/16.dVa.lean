theorem d_Va_init_0 : decode b_Va_init 0 = .ok (.aload_n 0, 1) := by decide +kernel
theorem d_Va_init_1 : decode b_Va_init 1 = .ok (.invokespecial 3, 3) := by decide +kernel
theorem d_Va_init_4 : decode b_Va_init 4 = .ok (.aload_n 0, 1) := by decide +kernel
theorem d_Va_init_5 : decode b_Va_init 5 = .ok (.aload_n 1, 1) := by decide +kernel
theorem d_Va_init_6 : decode b_Va_init 6 = .ok (.putfield 9, 3) := by decide +kernel
theorem d_Va_init_9 : decode b_Va_init 9 = .ok (.aload_n 0, 1) := by decide +kernel
theorem d_Va_init_10 : decode b_Va_init 10 = .ok (.aload_n 2, 1) := by decide +kernel
theorem d_Va_init_11 : decode b_Va_init 11 = .ok (.putfield 15, 3) := by decide +kernel
theorem d_Va_init_14 : decode b_Va_init 14 = .ok (.aload_n 0, 1) := by decide +kernel
theorem d_Va_init_15 : decode b_Va_init 15 = .ok (.sipush 600, 3) := by decide +kernel
theorem d_Va_init_18 : decode b_Va_init 18 = .ok (.newarray .int, 2) := by decide +kernel
theorem d_Va_init_20 : decode b_Va_init 20 = .ok (.putfield 19, 3) := by decide +kernel
theorem d_Va_init_23 : decode b_Va_init 23 = .ok (.aload_n 0, 1) := by decide +kernel
theorem d_Va_init_24 : decode b_Va_init 24 = .ok (.sipush 1800, 3) := by decide +kernel
theorem d_Va_init_27 : decode b_Va_init 27 = .ok (.newarray .int, 2) := by decide +kernel
theorem d_Va_init_29 : decode b_Va_init 29 = .ok (.putfield 23, 3) := by decide +kernel
theorem d_Va_init_32 : decode b_Va_init 32 = .ok (.aload_n 0, 1) := by decide +kernel
theorem d_Va_init_33 : decode b_Va_init 33 = .ok (.sipush 600, 3) := by decide +kernel
theorem d_Va_init_36 : decode b_Va_init 36 = .ok (.newarray .int, 2) := by decide +kernel
theorem d_Va_init_38 : decode b_Va_init 38 = .ok (.putfield 26, 3) := by decide +kernel
theorem d_Va_init_41 : decode b_Va_init 41 = .ok (.return_, 1) := by decide +kernel
theorem d_Va_forgetMade_0 : decode b_Va_forgetMade 0 = .ok (.aload_n 0, 1) := by decide +kernel
theorem d_Va_forgetMade_1 : decode b_Va_forgetMade 1 = .ok (.iconst 0, 1) := by decide +kernel
theorem d_Va_forgetMade_2 : decode b_Va_forgetMade 2 = .ok (.putfield 29, 3) := by decide +kernel
theorem d_Va_forgetMade_5 : decode b_Va_forgetMade 5 = .ok (.return_, 1) := by decide +kernel
theorem d_Va_maker_0 : decode b_Va_maker 0 = .ok (.iload_n 1, 1) := by decide +kernel
theorem d_Va_maker_1 : decode b_Va_maker 1 = .ok (.bipush 100, 2) := by decide +kernel
theorem d_Va_maker_3 : decode b_Va_maker 3 = .ok (.if_icmp .ge 14, 3) := by decide +kernel
theorem d_Va_maker_6 : decode b_Va_maker 6 = .ok (.aload_n 0, 1) := by decide +kernel
theorem d_Va_maker_7 : decode b_Va_maker 7 = .ok (.getfield 15, 3) := by decide +kernel
theorem d_Va_maker_10 : decode b_Va_maker 10 = .ok (.iload_n 1, 1) := by decide +kernel
theorem d_Va_maker_11 : decode b_Va_maker 11 = .ok (.invokevirtual 33, 3) := by decide +kernel
theorem d_Va_maker_14 : decode b_Va_maker 14 = .ok (.goto 12, 3) := by decide +kernel
theorem d_Va_maker_17 : decode b_Va_maker 17 = .ok (.aload_n 0, 1) := by decide +kernel
theorem d_Va_maker_18 : decode b_Va_maker 18 = .ok (.getfield 19, 3) := by decide +kernel
theorem d_Va_maker_21 : decode b_Va_maker 21 = .ok (.iload_n 1, 1) := by decide +kernel
theorem d_Va_maker_22 : decode b_Va_maker 22 = .ok (.bipush 100, 2) := by decide +kernel
theorem d_Va_maker_24 : decode b_Va_maker 24 = .ok (.isub, 1) := by decide +kernel
theorem d_Va_maker_25 : decode b_Va_maker 25 = .ok (.iaload, 1) := by decide +kernel
theorem d_Va_maker_26 : decode b_Va_maker 26 = .ok (.ireturn, 1) := by decide +kernel
theorem d_Va_part_0 : decode b_Va_part 0 = .ok (.iload_n 1, 1) := by decide +kernel
theorem d_Va_part_1 : decode b_Va_part 1 = .ok (.bipush 100, 2) := by decide +kernel
theorem d_Va_part_3 : decode b_Va_part 3 = .ok (.if_icmp .ge 15, 3) := by decide +kernel
theorem d_Va_part_6 : decode b_Va_part 6 = .ok (.aload_n 0, 1) := by decide +kernel
theorem d_Va_part_7 : decode b_Va_part 7 = .ok (.getfield 15, 3) := by decide +kernel
theorem d_Va_part_10 : decode b_Va_part 10 = .ok (.iload_n 1, 1) := by decide +kernel
theorem d_Va_part_11 : decode b_Va_part 11 = .ok (.iload_n 2, 1) := by decide +kernel
theorem d_Va_part_12 : decode b_Va_part 12 = .ok (.invokevirtual 46, 3) := by decide +kernel
theorem d_Va_part_15 : decode b_Va_part 15 = .ok (.goto 16, 3) := by decide +kernel
theorem d_Va_part_18 : decode b_Va_part 18 = .ok (.aload_n 0, 1) := by decide +kernel
theorem d_Va_part_19 : decode b_Va_part 19 = .ok (.getfield 23, 3) := by decide +kernel
theorem d_Va_part_22 : decode b_Va_part 22 = .ok (.iload_n 1, 1) := by decide +kernel
theorem d_Va_part_23 : decode b_Va_part 23 = .ok (.bipush 100, 2) := by decide +kernel
theorem d_Va_part_25 : decode b_Va_part 25 = .ok (.isub, 1) := by decide +kernel
theorem d_Va_part_26 : decode b_Va_part 26 = .ok (.iconst 3, 1) := by decide +kernel
theorem d_Va_part_27 : decode b_Va_part 27 = .ok (.imul, 1) := by decide +kernel
theorem d_Va_part_28 : decode b_Va_part 28 = .ok (.iload_n 2, 1) := by decide +kernel
theorem d_Va_part_29 : decode b_Va_part 29 = .ok (.iadd, 1) := by decide +kernel
theorem d_Va_part_30 : decode b_Va_part 30 = .ok (.iaload, 1) := by decide +kernel
theorem d_Va_part_31 : decode b_Va_part 31 = .ok (.ireturn, 1) := by decide +kernel
theorem d_Va_isFull_0 : decode b_Va_isFull 0 = .ok (.aload_n 0, 1) := by decide +kernel
theorem d_Va_isFull_1 : decode b_Va_isFull 1 = .ok (.getfield 29, 3) := by decide +kernel
theorem d_Va_isFull_4 : decode b_Va_isFull 4 = .ok (.sipush 600, 3) := by decide +kernel
theorem d_Va_isFull_7 : decode b_Va_isFull 7 = .ok (.if_icmp .lt 7, 3) := by decide +kernel
theorem d_Va_isFull_10 : decode b_Va_isFull 10 = .ok (.iconst 1, 1) := by decide +kernel
theorem d_Va_isFull_11 : decode b_Va_isFull 11 = .ok (.goto 4, 3) := by decide +kernel
theorem d_Va_isFull_14 : decode b_Va_isFull 14 = .ok (.iconst 0, 1) := by decide +kernel
theorem d_Va_isFull_15 : decode b_Va_isFull 15 = .ok (.ireturn, 1) := by decide +kernel
theorem d_Va_add_0 : decode b_Va_add 0 = .ok (.aload_n 0, 1) := by decide +kernel
theorem d_Va_add_1 : decode b_Va_add 1 = .ok (.getfield 19, 3) := by decide +kernel
theorem d_Va_add_4 : decode b_Va_add 4 = .ok (.aload_n 0, 1) := by decide +kernel
theorem d_Va_add_5 : decode b_Va_add 5 = .ok (.getfield 29, 3) := by decide +kernel
theorem d_Va_add_8 : decode b_Va_add 8 = .ok (.iload_n 1, 1) := by decide +kernel
theorem d_Va_add_9 : decode b_Va_add 9 = .ok (.iastore, 1) := by decide +kernel
theorem d_Va_add_10 : decode b_Va_add 10 = .ok (.aload_n 0, 1) := by decide +kernel
theorem d_Va_add_11 : decode b_Va_add 11 = .ok (.getfield 26, 3) := by decide +kernel
theorem d_Va_add_14 : decode b_Va_add 14 = .ok (.aload_n 0, 1) := by decide +kernel
theorem d_Va_add_15 : decode b_Va_add 15 = .ok (.getfield 29, 3) := by decide +kernel
theorem d_Va_add_18 : decode b_Va_add 18 = .ok (.iconst 1, 1) := by decide +kernel
theorem d_Va_add_19 : decode b_Va_add 19 = .ok (.iastore, 1) := by decide +kernel
theorem d_Va_add_20 : decode b_Va_add 20 = .ok (.iconst 0, 1) := by decide +kernel
theorem d_Va_add_21 : decode b_Va_add 21 = .ok (.istore 4, 2) := by decide +kernel
theorem d_Va_add_23 : decode b_Va_add 23 = .ok (.iload 4, 2) := by decide +kernel
theorem d_Va_add_25 : decode b_Va_add 25 = .ok (.aload_n 0, 1) := by decide +kernel
theorem d_Va_add_26 : decode b_Va_add 26 = .ok (.getfield 9, 3) := by decide +kernel
theorem d_Va_add_29 : decode b_Va_add 29 = .ok (.iload_n 1, 1) := by decide +kernel
theorem d_Va_add_30 : decode b_Va_add 30 = .ok (.invokevirtual 41, 3) := by decide +kernel
theorem d_Va_add_33 : decode b_Va_add 33 = .ok (.if_icmp .ge 51, 3) := by decide +kernel
theorem d_Va_add_36 : decode b_Va_add 36 = .ok (.aload_n 0, 1) := by decide +kernel
theorem d_Va_add_37 : decode b_Va_add 37 = .ok (.getfield 23, 3) := by decide +kernel
theorem d_Va_add_40 : decode b_Va_add 40 = .ok (.aload_n 0, 1) := by decide +kernel
theorem d_Va_add_41 : decode b_Va_add 41 = .ok (.getfield 29, 3) := by decide +kernel
theorem d_Va_add_44 : decode b_Va_add 44 = .ok (.iconst 3, 1) := by decide +kernel
theorem d_Va_add_45 : decode b_Va_add 45 = .ok (.imul, 1) := by decide +kernel
theorem d_Va_add_46 : decode b_Va_add 46 = .ok (.iload 4, 2) := by decide +kernel
theorem d_Va_add_48 : decode b_Va_add 48 = .ok (.iadd, 1) := by decide +kernel
theorem d_Va_add_49 : decode b_Va_add 49 = .ok (.aload_n 2, 1) := by decide +kernel
theorem d_Va_add_50 : decode b_Va_add 50 = .ok (.iload_n 3, 1) := by decide +kernel
theorem d_Va_add_51 : decode b_Va_add 51 = .ok (.iload 4, 2) := by decide +kernel
theorem d_Va_add_53 : decode b_Va_add 53 = .ok (.iadd, 1) := by decide +kernel
theorem d_Va_add_54 : decode b_Va_add 54 = .ok (.iaload, 1) := by decide +kernel
theorem d_Va_add_55 : decode b_Va_add 55 = .ok (.iastore, 1) := by decide +kernel
theorem d_Va_add_56 : decode b_Va_add 56 = .ok (.aload_n 0, 1) := by decide +kernel
theorem d_Va_add_57 : decode b_Va_add 57 = .ok (.getfield 26, 3) := by decide +kernel
theorem d_Va_add_60 : decode b_Va_add 60 = .ok (.aload_n 0, 1) := by decide +kernel
theorem d_Va_add_61 : decode b_Va_add 61 = .ok (.getfield 29, 3) := by decide +kernel
theorem d_Va_add_64 : decode b_Va_add 64 = .ok (.dup2, 1) := by decide +kernel
theorem d_Va_add_65 : decode b_Va_add 65 = .ok (.iaload, 1) := by decide +kernel
theorem d_Va_add_66 : decode b_Va_add 66 = .ok (.aload_n 0, 1) := by decide +kernel
theorem d_Va_add_67 : decode b_Va_add 67 = .ok (.aload_n 2, 1) := by decide +kernel
theorem d_Va_add_68 : decode b_Va_add 68 = .ok (.iload_n 3, 1) := by decide +kernel
theorem d_Va_add_69 : decode b_Va_add 69 = .ok (.iload 4, 2) := by decide +kernel
theorem d_Va_add_71 : decode b_Va_add 71 = .ok (.iadd, 1) := by decide +kernel
theorem d_Va_add_72 : decode b_Va_add 72 = .ok (.iaload, 1) := by decide +kernel
theorem d_Va_add_73 : decode b_Va_add 73 = .ok (.invokevirtual 51, 3) := by decide +kernel
theorem d_Va_add_76 : decode b_Va_add 76 = .ok (.iadd, 1) := by decide +kernel
theorem d_Va_add_77 : decode b_Va_add 77 = .ok (.iastore, 1) := by decide +kernel
theorem d_Va_add_78 : decode b_Va_add 78 = .ok (.iinc 4 1, 3) := by decide +kernel
theorem d_Va_add_81 : decode b_Va_add 81 = .ok (.goto (-58), 3) := by decide +kernel
theorem d_Va_add_84 : decode b_Va_add 84 = .ok (.aload_n 0, 1) := by decide +kernel
theorem d_Va_add_85 : decode b_Va_add 85 = .ok (.dup, 1) := by decide +kernel
theorem d_Va_add_86 : decode b_Va_add 86 = .ok (.getfield 29, 3) := by decide +kernel
theorem d_Va_add_89 : decode b_Va_add 89 = .ok (.iconst 1, 1) := by decide +kernel
theorem d_Va_add_90 : decode b_Va_add 90 = .ok (.iadd, 1) := by decide +kernel
theorem d_Va_add_91 : decode b_Va_add 91 = .ok (.putfield 29, 3) := by decide +kernel
theorem d_Va_add_94 : decode b_Va_add 94 = .ok (.bipush 100, 2) := by decide +kernel
theorem d_Va_add_96 : decode b_Va_add 96 = .ok (.aload_n 0, 1) := by decide +kernel
theorem d_Va_add_97 : decode b_Va_add 97 = .ok (.getfield 29, 3) := by decide +kernel
theorem d_Va_add_100 : decode b_Va_add 100 = .ok (.iadd, 1) := by decide +kernel
theorem d_Va_add_101 : decode b_Va_add 101 = .ok (.iconst 1, 1) := by decide +kernel
theorem d_Va_add_102 : decode b_Va_add 102 = .ok (.isub, 1) := by decide +kernel
theorem d_Va_add_103 : decode b_Va_add 103 = .ok (.ireturn, 1) := by decide +kernel
theorem d_Va_size_0 : decode b_Va_size 0 = .ok (.iload_n 1, 1) := by decide +kernel
theorem d_Va_size_1 : decode b_Va_size 1 = .ok (.bipush 100, 2) := by decide +kernel
theorem d_Va_size_3 : decode b_Va_size 3 = .ok (.if_icmp .ge 14, 3) := by decide +kernel
theorem d_Va_size_6 : decode b_Va_size 6 = .ok (.aload_n 0, 1) := by decide +kernel
theorem d_Va_size_7 : decode b_Va_size 7 = .ok (.getfield 15, 3) := by decide +kernel
theorem d_Va_size_10 : decode b_Va_size 10 = .ok (.iload_n 1, 1) := by decide +kernel
theorem d_Va_size_11 : decode b_Va_size 11 = .ok (.invokevirtual 49, 3) := by decide +kernel
theorem d_Va_size_14 : decode b_Va_size 14 = .ok (.goto 12, 3) := by decide +kernel
theorem d_Va_size_17 : decode b_Va_size 17 = .ok (.aload_n 0, 1) := by decide +kernel
theorem d_Va_size_18 : decode b_Va_size 18 = .ok (.getfield 26, 3) := by decide +kernel
theorem d_Va_size_21 : decode b_Va_size 21 = .ok (.iload_n 1, 1) := by decide +kernel
theorem d_Va_size_22 : decode b_Va_size 22 = .ok (.bipush 100, 2) := by decide +kernel
theorem d_Va_size_24 : decode b_Va_size 24 = .ok (.isub, 1) := by decide +kernel
theorem d_Va_size_25 : decode b_Va_size 25 = .ok (.iaload, 1) := by decide +kernel
theorem d_Va_size_26 : decode b_Va_size 26 = .ok (.ireturn, 1) := by decide +kernel
theorem d_Va_width_0 : decode b_Va_width 0 = .ok (.aload_n 0, 1) := by decide +kernel
theorem d_Va_width_1 : decode b_Va_width 1 = .ok (.getfield 9, 3) := by decide +kernel
theorem d_Va_width_4 : decode b_Va_width 4 = .ok (.aload_n 0, 1) := by decide +kernel
theorem d_Va_width_5 : decode b_Va_width 5 = .ok (.iload_n 1, 1) := by decide +kernel
theorem d_Va_width_6 : decode b_Va_width 6 = .ok (.invokevirtual 39, 3) := by decide +kernel
theorem d_Va_width_9 : decode b_Va_width 9 = .ok (.invokevirtual 41, 3) := by decide +kernel
theorem d_Va_width_12 : decode b_Va_width 12 = .ok (.ireturn, 1) := by decide +kernel
