theorem d_Te_init_0 : decode b_Te_init 0 = .ok (.aload_n 0, 1) := by decide +kernel
theorem d_Te_init_1 : decode b_Te_init 1 = .ok (.invokespecial 3, 3) := by decide +kernel
theorem d_Te_init_4 : decode b_Te_init 4 = .ok (.aload_n 0, 1) := by decide +kernel
theorem d_Te_init_5 : decode b_Te_init 5 = .ok (.bipush 100, 2) := by decide +kernel
theorem d_Te_init_7 : decode b_Te_init 7 = .ok (.newarray .int, 2) := by decide +kernel
theorem d_Te_init_9 : decode b_Te_init 9 = .ok (.putfield 9, 3) := by decide +kernel
theorem d_Te_init_12 : decode b_Te_init 12 = .ok (.aload_n 0, 1) := by decide +kernel
theorem d_Te_init_13 : decode b_Te_init 13 = .ok (.bipush 100, 2) := by decide +kernel
theorem d_Te_init_15 : decode b_Te_init 15 = .ok (.newarray .int, 2) := by decide +kernel
theorem d_Te_init_17 : decode b_Te_init 17 = .ok (.putfield 15, 3) := by decide +kernel
theorem d_Te_init_20 : decode b_Te_init 20 = .ok (.aload_n 0, 1) := by decide +kernel
theorem d_Te_init_21 : decode b_Te_init 21 = .ok (.bipush 100, 2) := by decide +kernel
theorem d_Te_init_23 : decode b_Te_init 23 = .ok (.newarray .int, 2) := by decide +kernel
theorem d_Te_init_25 : decode b_Te_init 25 = .ok (.putfield 18, 3) := by decide +kernel
theorem d_Te_init_28 : decode b_Te_init 28 = .ok (.aload_n 0, 1) := by decide +kernel
theorem d_Te_init_29 : decode b_Te_init 29 = .ok (.sipush 300, 3) := by decide +kernel
theorem d_Te_init_32 : decode b_Te_init 32 = .ok (.newarray .int, 2) := by decide +kernel
theorem d_Te_init_34 : decode b_Te_init 34 = .ok (.putfield 21, 3) := by decide +kernel
theorem d_Te_init_37 : decode b_Te_init 37 = .ok (.aload_n 0, 1) := by decide +kernel
theorem d_Te_init_38 : decode b_Te_init 38 = .ok (.bipush 100, 2) := by decide +kernel
theorem d_Te_init_40 : decode b_Te_init 40 = .ok (.newarray .int, 2) := by decide +kernel
theorem d_Te_init_42 : decode b_Te_init 42 = .ok (.putfield 24, 3) := by decide +kernel
theorem d_Te_init_45 : decode b_Te_init 45 = .ok (.aload_n 0, 1) := by decide +kernel
theorem d_Te_init_46 : decode b_Te_init 46 = .ok (.bipush 100, 2) := by decide +kernel
theorem d_Te_init_48 : decode b_Te_init 48 = .ok (.newarray .int, 2) := by decide +kernel
theorem d_Te_init_50 : decode b_Te_init 50 = .ok (.putfield 27, 3) := by decide +kernel
theorem d_Te_init_53 : decode b_Te_init 53 = .ok (.aload_n 0, 1) := by decide +kernel
theorem d_Te_init_54 : decode b_Te_init 54 = .ok (.bipush 100, 2) := by decide +kernel
theorem d_Te_init_56 : decode b_Te_init 56 = .ok (.newarray .int, 2) := by decide +kernel
theorem d_Te_init_58 : decode b_Te_init 58 = .ok (.putfield 30, 3) := by decide +kernel
theorem d_Te_init_61 : decode b_Te_init 61 = .ok (.aload_n 0, 1) := by decide +kernel
theorem d_Te_init_62 : decode b_Te_init 62 = .ok (.bipush 100, 2) := by decide +kernel
theorem d_Te_init_64 : decode b_Te_init 64 = .ok (.newarray .boolean, 2) := by decide +kernel
theorem d_Te_init_66 : decode b_Te_init 66 = .ok (.putfield 33, 3) := by decide +kernel
theorem d_Te_init_69 : decode b_Te_init 69 = .ok (.aload_n 0, 1) := by decide +kernel
theorem d_Te_init_70 : decode b_Te_init 70 = .ok (.bipush 100, 2) := by decide +kernel
theorem d_Te_init_72 : decode b_Te_init 72 = .ok (.newarray .boolean, 2) := by decide +kernel
theorem d_Te_init_74 : decode b_Te_init 74 = .ok (.putfield 37, 3) := by decide +kernel
theorem d_Te_init_77 : decode b_Te_init 77 = .ok (.return_, 1) := by decide +kernel
theorem d_Te_isVariable_0 : decode b_Te_isVariable 0 = .ok (.aload_n 0, 1) := by decide +kernel
theorem d_Te_isVariable_1 : decode b_Te_isVariable 1 = .ok (.getfield 9, 3) := by decide +kernel
theorem d_Te_isVariable_4 : decode b_Te_isVariable 4 = .ok (.iload_n 1, 1) := by decide +kernel
theorem d_Te_isVariable_5 : decode b_Te_isVariable 5 = .ok (.iaload, 1) := by decide +kernel
theorem d_Te_isVariable_6 : decode b_Te_isVariable 6 = .ok (.ifCond .ne 7, 3) := by decide +kernel
theorem d_Te_isVariable_9 : decode b_Te_isVariable 9 = .ok (.iconst 1, 1) := by decide +kernel
theorem d_Te_isVariable_10 : decode b_Te_isVariable 10 = .ok (.goto 4, 3) := by decide +kernel
theorem d_Te_isVariable_13 : decode b_Te_isVariable 13 = .ok (.iconst 0, 1) := by decide +kernel
theorem d_Te_isVariable_14 : decode b_Te_isVariable 14 = .ok (.ireturn, 1) := by decide +kernel
theorem d_Te_head_0 : decode b_Te_head 0 = .ok (.aload_n 0, 1) := by decide +kernel
theorem d_Te_head_1 : decode b_Te_head 1 = .ok (.getfield 15, 3) := by decide +kernel
theorem d_Te_head_4 : decode b_Te_head 4 = .ok (.iload_n 1, 1) := by decide +kernel
theorem d_Te_head_5 : decode b_Te_head 5 = .ok (.iaload, 1) := by decide +kernel
theorem d_Te_head_6 : decode b_Te_head 6 = .ok (.ireturn, 1) := by decide +kernel
theorem d_Te_width_0 : decode b_Te_width 0 = .ok (.aload_n 0, 1) := by decide +kernel
theorem d_Te_width_1 : decode b_Te_width 1 = .ok (.getfield 18, 3) := by decide +kernel
theorem d_Te_width_4 : decode b_Te_width 4 = .ok (.iload_n 1, 1) := by decide +kernel
theorem d_Te_width_5 : decode b_Te_width 5 = .ok (.iaload, 1) := by decide +kernel
theorem d_Te_width_6 : decode b_Te_width 6 = .ok (.ireturn, 1) := by decide +kernel
theorem d_Te_part_0 : decode b_Te_part 0 = .ok (.aload_n 0, 1) := by decide +kernel
theorem d_Te_part_1 : decode b_Te_part 1 = .ok (.getfield 21, 3) := by decide +kernel
theorem d_Te_part_4 : decode b_Te_part 4 = .ok (.iload_n 1, 1) := by decide +kernel
theorem d_Te_part_5 : decode b_Te_part 5 = .ok (.iconst 3, 1) := by decide +kernel
theorem d_Te_part_6 : decode b_Te_part 6 = .ok (.imul, 1) := by decide +kernel
theorem d_Te_part_7 : decode b_Te_part 7 = .ok (.iload_n 2, 1) := by decide +kernel
theorem d_Te_part_8 : decode b_Te_part 8 = .ok (.iadd, 1) := by decide +kernel
theorem d_Te_part_9 : decode b_Te_part 9 = .ok (.iaload, 1) := by decide +kernel
theorem d_Te_part_10 : decode b_Te_part 10 = .ok (.ireturn, 1) := by decide +kernel
theorem d_Te_isMade_0 : decode b_Te_isMade 0 = .ok (.aload_n 0, 1) := by decide +kernel
theorem d_Te_isMade_1 : decode b_Te_isMade 1 = .ok (.getfield 9, 3) := by decide +kernel
theorem d_Te_isMade_4 : decode b_Te_isMade 4 = .ok (.iload_n 1, 1) := by decide +kernel
theorem d_Te_isMade_5 : decode b_Te_isMade 5 = .ok (.iaload, 1) := by decide +kernel
theorem d_Te_isMade_6 : decode b_Te_isMade 6 = .ok (.iconst 1, 1) := by decide +kernel
theorem d_Te_isMade_7 : decode b_Te_isMade 7 = .ok (.if_icmp .ne 7, 3) := by decide +kernel
theorem d_Te_isMade_10 : decode b_Te_isMade 10 = .ok (.iconst 1, 1) := by decide +kernel
theorem d_Te_isMade_11 : decode b_Te_isMade 11 = .ok (.goto 4, 3) := by decide +kernel
theorem d_Te_isMade_14 : decode b_Te_isMade 14 = .ok (.iconst 0, 1) := by decide +kernel
theorem d_Te_isMade_15 : decode b_Te_isMade 15 = .ok (.ireturn, 1) := by decide +kernel
theorem d_Te_isCalled_0 : decode b_Te_isCalled 0 = .ok (.aload_n 0, 1) := by decide +kernel
theorem d_Te_isCalled_1 : decode b_Te_isCalled 1 = .ok (.getfield 9, 3) := by decide +kernel
theorem d_Te_isCalled_4 : decode b_Te_isCalled 4 = .ok (.iload_n 1, 1) := by decide +kernel
theorem d_Te_isCalled_5 : decode b_Te_isCalled 5 = .ok (.iaload, 1) := by decide +kernel
theorem d_Te_isCalled_6 : decode b_Te_isCalled 6 = .ok (.iconst 2, 1) := by decide +kernel
theorem d_Te_isCalled_7 : decode b_Te_isCalled 7 = .ok (.if_icmp .ne 7, 3) := by decide +kernel
theorem d_Te_isCalled_10 : decode b_Te_isCalled 10 = .ok (.iconst 1, 1) := by decide +kernel
theorem d_Te_isCalled_11 : decode b_Te_isCalled 11 = .ok (.goto 4, 3) := by decide +kernel
theorem d_Te_isCalled_14 : decode b_Te_isCalled 14 = .ok (.iconst 0, 1) := by decide +kernel
theorem d_Te_isCalled_15 : decode b_Te_isCalled 15 = .ok (.ireturn, 1) := by decide +kernel
theorem d_Te_has_0 : decode b_Te_has 0 = .ok (.iload_n 1, 1) := by decide +kernel
theorem d_Te_has_1 : decode b_Te_has 1 = .ok (.ifCond .lt 15, 3) := by decide +kernel
theorem d_Te_has_4 : decode b_Te_has 4 = .ok (.iload_n 1, 1) := by decide +kernel
theorem d_Te_has_5 : decode b_Te_has 5 = .ok (.aload_n 0, 1) := by decide +kernel
theorem d_Te_has_6 : decode b_Te_has 6 = .ok (.getfield 40, 3) := by decide +kernel
theorem d_Te_has_9 : decode b_Te_has 9 = .ok (.if_icmp .ge 7, 3) := by decide +kernel
theorem d_Te_has_12 : decode b_Te_has 12 = .ok (.iconst 1, 1) := by decide +kernel
theorem d_Te_has_13 : decode b_Te_has 13 = .ok (.goto 4, 3) := by decide +kernel
theorem d_Te_has_16 : decode b_Te_has 16 = .ok (.iconst 0, 1) := by decide +kernel
theorem d_Te_has_17 : decode b_Te_has 17 = .ok (.ireturn, 1) := by decide +kernel
theorem d_Te_isClosed_0 : decode b_Te_isClosed 0 = .ok (.aload_n 0, 1) := by decide +kernel
theorem d_Te_isClosed_1 : decode b_Te_isClosed 1 = .ok (.getfield 33, 3) := by decide +kernel
theorem d_Te_isClosed_4 : decode b_Te_isClosed 4 = .ok (.iload_n 1, 1) := by decide +kernel
theorem d_Te_isClosed_5 : decode b_Te_isClosed 5 = .ok (.baload, 1) := by decide +kernel
theorem d_Te_isClosed_6 : decode b_Te_isClosed 6 = .ok (.ifCond .ne 16, 3) := by decide +kernel
theorem d_Te_isClosed_9 : decode b_Te_isClosed 9 = .ok (.aload_n 0, 1) := by decide +kernel
theorem d_Te_isClosed_10 : decode b_Te_isClosed 10 = .ok (.getfield 30, 3) := by decide +kernel
theorem d_Te_isClosed_13 : decode b_Te_isClosed 13 = .ok (.iload_n 1, 1) := by decide +kernel
theorem d_Te_isClosed_14 : decode b_Te_isClosed 14 = .ok (.iaload, 1) := by decide +kernel
theorem d_Te_isClosed_15 : decode b_Te_isClosed 15 = .ok (.ifCond .ne 7, 3) := by decide +kernel
theorem d_Te_isClosed_18 : decode b_Te_isClosed 18 = .ok (.iconst 1, 1) := by decide +kernel
theorem d_Te_isClosed_19 : decode b_Te_isClosed 19 = .ok (.goto 4, 3) := by decide +kernel
theorem d_Te_isClosed_22 : decode b_Te_isClosed 22 = .ok (.iconst 0, 1) := by decide +kernel
theorem d_Te_isClosed_23 : decode b_Te_isClosed 23 = .ok (.ireturn, 1) := by decide +kernel
theorem d_Te_howMany_0 : decode b_Te_howMany 0 = .ok (.aload_n 0, 1) := by decide +kernel
theorem d_Te_howMany_1 : decode b_Te_howMany 1 = .ok (.getfield 40, 3) := by decide +kernel
theorem d_Te_howMany_4 : decode b_Te_howMany 4 = .ok (.ireturn, 1) := by decide +kernel
theorem d_Te_isFull_0 : decode b_Te_isFull 0 = .ok (.aload_n 0, 1) := by decide +kernel
theorem d_Te_isFull_1 : decode b_Te_isFull 1 = .ok (.getfield 40, 3) := by decide +kernel
theorem d_Te_isFull_4 : decode b_Te_isFull 4 = .ok (.bipush 100, 2) := by decide +kernel
theorem d_Te_isFull_6 : decode b_Te_isFull 6 = .ok (.if_icmp .lt 7, 3) := by decide +kernel
theorem d_Te_isFull_9 : decode b_Te_isFull 9 = .ok (.iconst 1, 1) := by decide +kernel
theorem d_Te_isFull_10 : decode b_Te_isFull 10 = .ok (.goto 4, 3) := by decide +kernel
theorem d_Te_isFull_13 : decode b_Te_isFull 13 = .ok (.iconst 0, 1) := by decide +kernel
theorem d_Te_isFull_14 : decode b_Te_isFull 14 = .ok (.ireturn, 1) := by decide +kernel
theorem d_Te_addVariable_0 : decode b_Te_addVariable 0 = .ok (.aload_n 0, 1) := by decide +kernel
theorem d_Te_addVariable_1 : decode b_Te_addVariable 1 = .ok (.getfield 9, 3) := by decide +kernel
theorem d_Te_addVariable_4 : decode b_Te_addVariable 4 = .ok (.aload_n 0, 1) := by decide +kernel
theorem d_Te_addVariable_5 : decode b_Te_addVariable 5 = .ok (.getfield 40, 3) := by decide +kernel
theorem d_Te_addVariable_8 : decode b_Te_addVariable 8 = .ok (.iconst 0, 1) := by decide +kernel
theorem d_Te_addVariable_9 : decode b_Te_addVariable 9 = .ok (.iastore, 1) := by decide +kernel
theorem d_Te_addVariable_10 : decode b_Te_addVariable 10 = .ok (.aload_n 0, 1) := by decide +kernel
theorem d_Te_addVariable_11 : decode b_Te_addVariable 11 = .ok (.getfield 15, 3) := by decide +kernel
theorem d_Te_addVariable_14 : decode b_Te_addVariable 14 = .ok (.aload_n 0, 1) := by decide +kernel
theorem d_Te_addVariable_15 : decode b_Te_addVariable 15 = .ok (.getfield 40, 3) := by decide +kernel
theorem d_Te_addVariable_18 : decode b_Te_addVariable 18 = .ok (.iload_n 1, 1) := by decide +kernel
theorem d_Te_addVariable_19 : decode b_Te_addVariable 19 = .ok (.iastore, 1) := by decide +kernel
theorem d_Te_addVariable_20 : decode b_Te_addVariable 20 = .ok (.aload_n 0, 1) := by decide +kernel
theorem d_Te_addVariable_21 : decode b_Te_addVariable 21 = .ok (.getfield 27, 3) := by decide +kernel
theorem d_Te_addVariable_24 : decode b_Te_addVariable 24 = .ok (.aload_n 0, 1) := by decide +kernel
theorem d_Te_addVariable_25 : decode b_Te_addVariable 25 = .ok (.getfield 40, 3) := by decide +kernel
theorem d_Te_addVariable_28 : decode b_Te_addVariable 28 = .ok (.iconst 1, 1) := by decide +kernel
theorem d_Te_addVariable_29 : decode b_Te_addVariable 29 = .ok (.iastore, 1) := by decide +kernel
theorem d_Te_addVariable_30 : decode b_Te_addVariable 30 = .ok (.aload_n 0, 1) := by decide +kernel
theorem d_Te_addVariable_31 : decode b_Te_addVariable 31 = .ok (.getfield 30, 3) := by decide +kernel
theorem d_Te_addVariable_34 : decode b_Te_addVariable 34 = .ok (.aload_n 0, 1) := by decide +kernel
theorem d_Te_addVariable_35 : decode b_Te_addVariable 35 = .ok (.getfield 40, 3) := by decide +kernel
theorem d_Te_addVariable_38 : decode b_Te_addVariable 38 = .ok (.iconst 1, 1) := by decide +kernel
theorem d_Te_addVariable_39 : decode b_Te_addVariable 39 = .ok (.iload_n 1, 1) := by decide +kernel
theorem d_Te_addVariable_40 : decode b_Te_addVariable 40 = .ok (.ishl, 1) := by decide +kernel
theorem d_Te_addVariable_41 : decode b_Te_addVariable 41 = .ok (.iastore, 1) := by decide +kernel
theorem d_Te_addVariable_42 : decode b_Te_addVariable 42 = .ok (.aload_n 0, 1) := by decide +kernel
theorem d_Te_addVariable_43 : decode b_Te_addVariable 43 = .ok (.dup, 1) := by decide +kernel
theorem d_Te_addVariable_44 : decode b_Te_addVariable 44 = .ok (.getfield 40, 3) := by decide +kernel
theorem d_Te_addVariable_47 : decode b_Te_addVariable 47 = .ok (.dup_x1, 1) := by decide +kernel
theorem d_Te_addVariable_48 : decode b_Te_addVariable 48 = .ok (.iconst 1, 1) := by decide +kernel
theorem d_Te_addVariable_49 : decode b_Te_addVariable 49 = .ok (.iadd, 1) := by decide +kernel
theorem d_Te_addVariable_50 : decode b_Te_addVariable 50 = .ok (.putfield 40, 3) := by decide +kernel
theorem d_Te_addVariable_53 : decode b_Te_addVariable 53 = .ok (.ireturn, 1) := by decide +kernel
theorem d_Te_canJoin_0 : decode b_Te_canJoin 0 = .ok (.iconst 0, 1) := by decide +kernel
theorem d_Te_canJoin_1 : decode b_Te_canJoin 1 = .ok (.istore 5, 2) := by decide +kernel
theorem d_Te_canJoin_3 : decode b_Te_canJoin 3 = .ok (.iconst 1, 1) := by decide +kernel
theorem d_Te_canJoin_4 : decode b_Te_canJoin 4 = .ok (.istore 6, 2) := by decide +kernel
theorem d_Te_canJoin_6 : decode b_Te_canJoin 6 = .ok (.iconst 0, 1) := by decide +kernel
theorem d_Te_canJoin_7 : decode b_Te_canJoin 7 = .ok (.istore 7, 2) := by decide +kernel
theorem d_Te_canJoin_9 : decode b_Te_canJoin 9 = .ok (.iload 7, 2) := by decide +kernel
theorem d_Te_canJoin_11 : decode b_Te_canJoin 11 = .ok (.iload_n 1, 1) := by decide +kernel
theorem d_Te_canJoin_12 : decode b_Te_canJoin 12 = .ok (.if_icmp .ge 57, 3) := by decide +kernel
theorem d_Te_canJoin_15 : decode b_Te_canJoin 15 = .ok (.iload 7, 2) := by decide +kernel
theorem d_Te_canJoin_17 : decode b_Te_canJoin 17 = .ok (.iload_n 2, 1) := by decide +kernel
theorem d_Te_canJoin_18 : decode b_Te_canJoin 18 = .ok (.iload_n 3, 1) := by decide +kernel
theorem d_Te_canJoin_19 : decode b_Te_canJoin 19 = .ok (.iload 4, 2) := by decide +kernel
theorem d_Te_canJoin_21 : decode b_Te_canJoin 21 = .ok (.invokestatic 44, 3) := by decide +kernel
theorem d_Te_canJoin_24 : decode b_Te_canJoin 24 = .ok (.istore 8, 2) := by decide +kernel
theorem d_Te_canJoin_26 : decode b_Te_canJoin 26 = .ok (.aload_n 0, 1) := by decide +kernel
theorem d_Te_canJoin_27 : decode b_Te_canJoin 27 = .ok (.iload 8, 2) := by decide +kernel
theorem d_Te_canJoin_29 : decode b_Te_canJoin 29 = .ok (.invokevirtual 48, 3) := by decide +kernel
theorem d_Te_canJoin_32 : decode b_Te_canJoin 32 = .ok (.ifCond .ne 5, 3) := by decide +kernel
theorem d_Te_canJoin_35 : decode b_Te_canJoin 35 = .ok (.iconst 0, 1) := by decide +kernel
theorem d_Te_canJoin_36 : decode b_Te_canJoin 36 = .ok (.ireturn, 1) := by decide +kernel
theorem d_Te_canJoin_37 : decode b_Te_canJoin 37 = .ok (.iload 5, 2) := by decide +kernel
theorem d_Te_canJoin_39 : decode b_Te_canJoin 39 = .ok (.aload_n 0, 1) := by decide +kernel
theorem d_Te_canJoin_40 : decode b_Te_canJoin 40 = .ok (.getfield 24, 3) := by decide +kernel
theorem d_Te_canJoin_43 : decode b_Te_canJoin 43 = .ok (.iload 8, 2) := by decide +kernel
theorem d_Te_canJoin_45 : decode b_Te_canJoin 45 = .ok (.iaload, 1) := by decide +kernel
theorem d_Te_canJoin_46 : decode b_Te_canJoin 46 = .ok (.invokestatic 52, 3) := by decide +kernel
theorem d_Te_canJoin_49 : decode b_Te_canJoin 49 = .ok (.istore 5, 2) := by decide +kernel
theorem d_Te_canJoin_51 : decode b_Te_canJoin 51 = .ok (.iload 6, 2) := by decide +kernel
theorem d_Te_canJoin_53 : decode b_Te_canJoin 53 = .ok (.aload_n 0, 1) := by decide +kernel
theorem d_Te_canJoin_54 : decode b_Te_canJoin 54 = .ok (.getfield 27, 3) := by decide +kernel
theorem d_Te_canJoin_57 : decode b_Te_canJoin 57 = .ok (.iload 8, 2) := by decide +kernel
theorem d_Te_canJoin_59 : decode b_Te_canJoin 59 = .ok (.iaload, 1) := by decide +kernel
theorem d_Te_canJoin_60 : decode b_Te_canJoin 60 = .ok (.iadd, 1) := by decide +kernel
theorem d_Te_canJoin_61 : decode b_Te_canJoin 61 = .ok (.istore 6, 2) := by decide +kernel
theorem d_Te_canJoin_63 : decode b_Te_canJoin 63 = .ok (.iinc 7 1, 3) := by decide +kernel
theorem d_Te_canJoin_66 : decode b_Te_canJoin 66 = .ok (.goto (-57), 3) := by decide +kernel
theorem d_Te_canJoin_69 : decode b_Te_canJoin 69 = .ok (.iload 5, 2) := by decide +kernel
theorem d_Te_canJoin_71 : decode b_Te_canJoin 71 = .ok (.bipush 6, 2) := by decide +kernel
theorem d_Te_canJoin_73 : decode b_Te_canJoin 73 = .ok (.if_icmp .ge 14, 3) := by decide +kernel
theorem d_Te_canJoin_76 : decode b_Te_canJoin 76 = .ok (.iload 6, 2) := by decide +kernel
theorem d_Te_canJoin_78 : decode b_Te_canJoin 78 = .ok (.bipush 40, 2) := by decide +kernel
theorem d_Te_canJoin_80 : decode b_Te_canJoin 80 = .ok (.if_icmp .gt 7, 3) := by decide +kernel
theorem d_Te_canJoin_83 : decode b_Te_canJoin 83 = .ok (.iconst 1, 1) := by decide +kernel
theorem d_Te_canJoin_84 : decode b_Te_canJoin 84 = .ok (.goto 4, 3) := by decide +kernel
theorem d_Te_canJoin_87 : decode b_Te_canJoin 87 = .ok (.iconst 0, 1) := by decide +kernel
theorem d_Te_canJoin_88 : decode b_Te_canJoin 88 = .ok (.ireturn, 1) := by decide +kernel
theorem d_Te_addMade_0 : decode b_Te_addMade 0 = .ok (.aload_n 0, 1) := by decide +kernel
theorem d_Te_addMade_1 : decode b_Te_addMade 1 = .ok (.getfield 9, 3) := by decide +kernel
theorem d_Te_addMade_4 : decode b_Te_addMade 4 = .ok (.aload_n 0, 1) := by decide +kernel
theorem d_Te_addMade_5 : decode b_Te_addMade 5 = .ok (.getfield 40, 3) := by decide +kernel
theorem d_Te_addMade_8 : decode b_Te_addMade 8 = .ok (.iconst 1, 1) := by decide +kernel
theorem d_Te_addMade_9 : decode b_Te_addMade 9 = .ok (.iastore, 1) := by decide +kernel
theorem d_Te_addMade_10 : decode b_Te_addMade 10 = .ok (.aload_n 0, 1) := by decide +kernel
theorem d_Te_addMade_11 : decode b_Te_addMade 11 = .ok (.getfield 15, 3) := by decide +kernel
theorem d_Te_addMade_14 : decode b_Te_addMade 14 = .ok (.aload_n 0, 1) := by decide +kernel
theorem d_Te_addMade_15 : decode b_Te_addMade 15 = .ok (.getfield 40, 3) := by decide +kernel
theorem d_Te_addMade_18 : decode b_Te_addMade 18 = .ok (.iload_n 1, 1) := by decide +kernel
theorem d_Te_addMade_19 : decode b_Te_addMade 19 = .ok (.iastore, 1) := by decide +kernel
theorem d_Te_addMade_20 : decode b_Te_addMade 20 = .ok (.aload_n 0, 1) := by decide +kernel
theorem d_Te_addMade_21 : decode b_Te_addMade 21 = .ok (.iload_n 2, 1) := by decide +kernel
theorem d_Te_addMade_22 : decode b_Te_addMade 22 = .ok (.iload_n 3, 1) := by decide +kernel
theorem d_Te_addMade_23 : decode b_Te_addMade 23 = .ok (.iload 4, 2) := by decide +kernel
theorem d_Te_addMade_25 : decode b_Te_addMade 25 = .ok (.iload 5, 2) := by decide +kernel
theorem d_Te_addMade_27 : decode b_Te_addMade 27 = .ok (.invokevirtual 58, 3) := by decide +kernel
theorem d_Te_addMade_30 : decode b_Te_addMade 30 = .ok (.ireturn, 1) := by decide +kernel
theorem d_Te_join_0 : decode b_Te_join 0 = .ok (.aload_n 0, 1) := by decide +kernel
theorem d_Te_join_1 : decode b_Te_join 1 = .ok (.getfield 40, 3) := by decide +kernel
theorem d_Te_join_4 : decode b_Te_join 4 = .ok (.istore 5, 2) := by decide +kernel
theorem d_Te_join_6 : decode b_Te_join 6 = .ok (.iconst 0, 1) := by decide +kernel
theorem d_Te_join_7 : decode b_Te_join 7 = .ok (.istore 6, 2) := by decide +kernel
theorem d_Te_join_9 : decode b_Te_join 9 = .ok (.iconst 1, 1) := by decide +kernel
theorem d_Te_join_10 : decode b_Te_join 10 = .ok (.istore 7, 2) := by decide +kernel
theorem d_Te_join_12 : decode b_Te_join 12 = .ok (.iconst 0, 1) := by decide +kernel
theorem d_Te_join_13 : decode b_Te_join 13 = .ok (.istore 8, 2) := by decide +kernel
theorem d_Te_join_15 : decode b_Te_join 15 = .ok (.iload 8, 2) := by decide +kernel
theorem d_Te_join_17 : decode b_Te_join 17 = .ok (.iload_n 1, 1) := by decide +kernel
theorem d_Te_join_18 : decode b_Te_join 18 = .ok (.if_icmp .ge 137, 3) := by decide +kernel
theorem d_Te_join_21 : decode b_Te_join 21 = .ok (.iload 8, 2) := by decide +kernel
theorem d_Te_join_23 : decode b_Te_join 23 = .ok (.iload_n 2, 1) := by decide +kernel
theorem d_Te_join_24 : decode b_Te_join 24 = .ok (.iload_n 3, 1) := by decide +kernel
theorem d_Te_join_25 : decode b_Te_join 25 = .ok (.iload 4, 2) := by decide +kernel
theorem d_Te_join_27 : decode b_Te_join 27 = .ok (.invokestatic 44, 3) := by decide +kernel
theorem d_Te_join_30 : decode b_Te_join 30 = .ok (.istore 9, 2) := by decide +kernel
theorem d_Te_join_32 : decode b_Te_join 32 = .ok (.aload_n 0, 1) := by decide +kernel
theorem d_Te_join_33 : decode b_Te_join 33 = .ok (.getfield 21, 3) := by decide +kernel
theorem d_Te_join_36 : decode b_Te_join 36 = .ok (.iload 5, 2) := by decide +kernel
theorem d_Te_join_38 : decode b_Te_join 38 = .ok (.iconst 3, 1) := by decide +kernel
theorem d_Te_join_39 : decode b_Te_join 39 = .ok (.imul, 1) := by decide +kernel
theorem d_Te_join_40 : decode b_Te_join 40 = .ok (.iload 8, 2) := by decide +kernel
theorem d_Te_join_42 : decode b_Te_join 42 = .ok (.iadd, 1) := by decide +kernel
theorem d_Te_join_43 : decode b_Te_join 43 = .ok (.iload 9, 2) := by decide +kernel
theorem d_Te_join_45 : decode b_Te_join 45 = .ok (.iastore, 1) := by decide +kernel
theorem d_Te_join_46 : decode b_Te_join 46 = .ok (.iload 6, 2) := by decide +kernel
theorem d_Te_join_48 : decode b_Te_join 48 = .ok (.aload_n 0, 1) := by decide +kernel
theorem d_Te_join_49 : decode b_Te_join 49 = .ok (.getfield 24, 3) := by decide +kernel
theorem d_Te_join_52 : decode b_Te_join 52 = .ok (.iload 9, 2) := by decide +kernel
theorem d_Te_join_54 : decode b_Te_join 54 = .ok (.iaload, 1) := by decide +kernel
theorem d_Te_join_55 : decode b_Te_join 55 = .ok (.invokestatic 52, 3) := by decide +kernel
theorem d_Te_join_58 : decode b_Te_join 58 = .ok (.istore 6, 2) := by decide +kernel
theorem d_Te_join_60 : decode b_Te_join 60 = .ok (.iload 7, 2) := by decide +kernel
theorem d_Te_join_62 : decode b_Te_join 62 = .ok (.aload_n 0, 1) := by decide +kernel
theorem d_Te_join_63 : decode b_Te_join 63 = .ok (.getfield 27, 3) := by decide +kernel
theorem d_Te_join_66 : decode b_Te_join 66 = .ok (.iload 9, 2) := by decide +kernel
theorem d_Te_join_68 : decode b_Te_join 68 = .ok (.iaload, 1) := by decide +kernel
theorem d_Te_join_69 : decode b_Te_join 69 = .ok (.iadd, 1) := by decide +kernel
theorem d_Te_join_70 : decode b_Te_join 70 = .ok (.istore 7, 2) := by decide +kernel
theorem d_Te_join_72 : decode b_Te_join 72 = .ok (.aload_n 0, 1) := by decide +kernel
theorem d_Te_join_73 : decode b_Te_join 73 = .ok (.getfield 33, 3) := by decide +kernel
theorem d_Te_join_76 : decode b_Te_join 76 = .ok (.iload 5, 2) := by decide +kernel
theorem d_Te_join_78 : decode b_Te_join 78 = .ok (.dup2, 1) := by decide +kernel
theorem d_Te_join_79 : decode b_Te_join 79 = .ok (.baload, 1) := by decide +kernel
theorem d_Te_join_80 : decode b_Te_join 80 = .ok (.aload_n 0, 1) := by decide +kernel
theorem d_Te_join_81 : decode b_Te_join 81 = .ok (.getfield 33, 3) := by decide +kernel
theorem d_Te_join_84 : decode b_Te_join 84 = .ok (.iload 9, 2) := by decide +kernel
theorem d_Te_join_86 : decode b_Te_join 86 = .ok (.baload, 1) := by decide +kernel
theorem d_Te_join_87 : decode b_Te_join 87 = .ok (.ior, 1) := by decide +kernel
theorem d_Te_join_88 : decode b_Te_join 88 = .ok (.bastore, 1) := by decide +kernel
theorem d_Te_join_89 : decode b_Te_join 89 = .ok (.aload_n 0, 1) := by decide +kernel
theorem d_Te_join_90 : decode b_Te_join 90 = .ok (.getfield 37, 3) := by decide +kernel
theorem d_Te_join_93 : decode b_Te_join 93 = .ok (.iload 5, 2) := by decide +kernel
theorem d_Te_join_95 : decode b_Te_join 95 = .ok (.dup2, 1) := by decide +kernel
theorem d_Te_join_96 : decode b_Te_join 96 = .ok (.baload, 1) := by decide +kernel
theorem d_Te_join_97 : decode b_Te_join 97 = .ok (.aload_n 0, 1) := by decide +kernel
theorem d_Te_join_98 : decode b_Te_join 98 = .ok (.getfield 37, 3) := by decide +kernel
theorem d_Te_join_101 : decode b_Te_join 101 = .ok (.iload 9, 2) := by decide +kernel
theorem d_Te_join_103 : decode b_Te_join 103 = .ok (.baload, 1) := by decide +kernel
theorem d_Te_join_104 : decode b_Te_join 104 = .ok (.ifCond .ne 21, 3) := by decide +kernel
theorem d_Te_join_107 : decode b_Te_join 107 = .ok (.aload_n 0, 1) := by decide +kernel
theorem d_Te_join_108 : decode b_Te_join 108 = .ok (.getfield 30, 3) := by decide +kernel
theorem d_Te_join_111 : decode b_Te_join 111 = .ok (.iload 5, 2) := by decide +kernel
theorem d_Te_join_113 : decode b_Te_join 113 = .ok (.iaload, 1) := by decide +kernel
theorem d_Te_join_114 : decode b_Te_join 114 = .ok (.aload_n 0, 1) := by decide +kernel
theorem d_Te_join_115 : decode b_Te_join 115 = .ok (.getfield 30, 3) := by decide +kernel
theorem d_Te_join_118 : decode b_Te_join 118 = .ok (.iload 9, 2) := by decide +kernel
theorem d_Te_join_120 : decode b_Te_join 120 = .ok (.iaload, 1) := by decide +kernel
theorem d_Te_join_121 : decode b_Te_join 121 = .ok (.iand, 1) := by decide +kernel
theorem d_Te_join_122 : decode b_Te_join 122 = .ok (.ifCond .eq 7, 3) := by decide +kernel
theorem d_Te_join_125 : decode b_Te_join 125 = .ok (.iconst 1, 1) := by decide +kernel
theorem d_Te_join_126 : decode b_Te_join 126 = .ok (.goto 4, 3) := by decide +kernel
theorem d_Te_join_129 : decode b_Te_join 129 = .ok (.iconst 0, 1) := by decide +kernel
theorem d_Te_join_130 : decode b_Te_join 130 = .ok (.ior, 1) := by decide +kernel
theorem d_Te_join_131 : decode b_Te_join 131 = .ok (.bastore, 1) := by decide +kernel
theorem d_Te_join_132 : decode b_Te_join 132 = .ok (.aload_n 0, 1) := by decide +kernel
theorem d_Te_join_133 : decode b_Te_join 133 = .ok (.getfield 30, 3) := by decide +kernel
theorem d_Te_join_136 : decode b_Te_join 136 = .ok (.iload 5, 2) := by decide +kernel
theorem d_Te_join_138 : decode b_Te_join 138 = .ok (.dup2, 1) := by decide +kernel
theorem d_Te_join_139 : decode b_Te_join 139 = .ok (.iaload, 1) := by decide +kernel
theorem d_Te_join_140 : decode b_Te_join 140 = .ok (.aload_n 0, 1) := by decide +kernel
theorem d_Te_join_141 : decode b_Te_join 141 = .ok (.getfield 30, 3) := by decide +kernel
theorem d_Te_join_144 : decode b_Te_join 144 = .ok (.iload 9, 2) := by decide +kernel
theorem d_Te_join_146 : decode b_Te_join 146 = .ok (.iaload, 1) := by decide +kernel
theorem d_Te_join_147 : decode b_Te_join 147 = .ok (.ior, 1) := by decide +kernel
theorem d_Te_join_148 : decode b_Te_join 148 = .ok (.iastore, 1) := by decide +kernel
theorem d_Te_join_149 : decode b_Te_join 149 = .ok (.iinc 8 1, 3) := by decide +kernel
theorem d_Te_join_152 : decode b_Te_join 152 = .ok (.goto (-137), 3) := by decide +kernel
theorem d_Te_join_155 : decode b_Te_join 155 = .ok (.aload_n 0, 1) := by decide +kernel
theorem d_Te_join_156 : decode b_Te_join 156 = .ok (.getfield 18, 3) := by decide +kernel
theorem d_Te_join_159 : decode b_Te_join 159 = .ok (.iload 5, 2) := by decide +kernel
theorem d_Te_join_161 : decode b_Te_join 161 = .ok (.iload_n 1, 1) := by decide +kernel
theorem d_Te_join_162 : decode b_Te_join 162 = .ok (.iastore, 1) := by decide +kernel
theorem d_Te_join_163 : decode b_Te_join 163 = .ok (.aload_n 0, 1) := by decide +kernel
theorem d_Te_join_164 : decode b_Te_join 164 = .ok (.getfield 24, 3) := by decide +kernel
theorem d_Te_join_167 : decode b_Te_join 167 = .ok (.iload 5, 2) := by decide +kernel
theorem d_Te_join_169 : decode b_Te_join 169 = .ok (.iload 6, 2) := by decide +kernel
theorem d_Te_join_171 : decode b_Te_join 171 = .ok (.iconst 1, 1) := by decide +kernel
theorem d_Te_join_172 : decode b_Te_join 172 = .ok (.iadd, 1) := by decide +kernel
theorem d_Te_join_173 : decode b_Te_join 173 = .ok (.iastore, 1) := by decide +kernel
theorem d_Te_join_174 : decode b_Te_join 174 = .ok (.aload_n 0, 1) := by decide +kernel
theorem d_Te_join_175 : decode b_Te_join 175 = .ok (.getfield 27, 3) := by decide +kernel
theorem d_Te_join_178 : decode b_Te_join 178 = .ok (.iload 5, 2) := by decide +kernel
theorem d_Te_join_180 : decode b_Te_join 180 = .ok (.iload 7, 2) := by decide +kernel
theorem d_Te_join_182 : decode b_Te_join 182 = .ok (.iastore, 1) := by decide +kernel
theorem d_Te_join_183 : decode b_Te_join 183 = .ok (.aload_n 0, 1) := by decide +kernel
theorem d_Te_join_184 : decode b_Te_join 184 = .ok (.dup, 1) := by decide +kernel
theorem d_Te_join_185 : decode b_Te_join 185 = .ok (.getfield 40, 3) := by decide +kernel
theorem d_Te_join_188 : decode b_Te_join 188 = .ok (.iconst 1, 1) := by decide +kernel
theorem d_Te_join_189 : decode b_Te_join 189 = .ok (.iadd, 1) := by decide +kernel
theorem d_Te_join_190 : decode b_Te_join 190 = .ok (.putfield 40, 3) := by decide +kernel
theorem d_Te_join_193 : decode b_Te_join 193 = .ok (.iload 5, 2) := by decide +kernel
theorem d_Te_join_195 : decode b_Te_join 195 = .ok (.ireturn, 1) := by decide +kernel
theorem d_Te_addCalled_0 : decode b_Te_addCalled 0 = .ok (.aload_n 0, 1) := by decide +kernel
theorem d_Te_addCalled_1 : decode b_Te_addCalled 1 = .ok (.getfield 9, 3) := by decide +kernel
theorem d_Te_addCalled_4 : decode b_Te_addCalled 4 = .ok (.aload_n 0, 1) := by decide +kernel
theorem d_Te_addCalled_5 : decode b_Te_addCalled 5 = .ok (.getfield 40, 3) := by decide +kernel
theorem d_Te_addCalled_8 : decode b_Te_addCalled 8 = .ok (.iconst 2, 1) := by decide +kernel
theorem d_Te_addCalled_9 : decode b_Te_addCalled 9 = .ok (.iastore, 1) := by decide +kernel
theorem d_Te_addCalled_10 : decode b_Te_addCalled 10 = .ok (.aload_n 0, 1) := by decide +kernel
theorem d_Te_addCalled_11 : decode b_Te_addCalled 11 = .ok (.getfield 15, 3) := by decide +kernel
theorem d_Te_addCalled_14 : decode b_Te_addCalled 14 = .ok (.aload_n 0, 1) := by decide +kernel
theorem d_Te_addCalled_15 : decode b_Te_addCalled 15 = .ok (.getfield 40, 3) := by decide +kernel
theorem d_Te_addCalled_18 : decode b_Te_addCalled 18 = .ok (.iload_n 1, 1) := by decide +kernel
theorem d_Te_addCalled_19 : decode b_Te_addCalled 19 = .ok (.iastore, 1) := by decide +kernel
theorem d_Te_addCalled_20 : decode b_Te_addCalled 20 = .ok (.aload_n 0, 1) := by decide +kernel
theorem d_Te_addCalled_21 : decode b_Te_addCalled 21 = .ok (.getfield 33, 3) := by decide +kernel
theorem d_Te_addCalled_24 : decode b_Te_addCalled 24 = .ok (.aload_n 0, 1) := by decide +kernel
theorem d_Te_addCalled_25 : decode b_Te_addCalled 25 = .ok (.getfield 40, 3) := by decide +kernel
theorem d_Te_addCalled_28 : decode b_Te_addCalled 28 = .ok (.iconst 1, 1) := by decide +kernel
theorem d_Te_addCalled_29 : decode b_Te_addCalled 29 = .ok (.bastore, 1) := by decide +kernel
theorem d_Te_addCalled_30 : decode b_Te_addCalled 30 = .ok (.aload_n 0, 1) := by decide +kernel
theorem d_Te_addCalled_31 : decode b_Te_addCalled 31 = .ok (.iload_n 2, 1) := by decide +kernel
theorem d_Te_addCalled_32 : decode b_Te_addCalled 32 = .ok (.iload_n 3, 1) := by decide +kernel
theorem d_Te_addCalled_33 : decode b_Te_addCalled 33 = .ok (.iload 4, 2) := by decide +kernel
theorem d_Te_addCalled_35 : decode b_Te_addCalled 35 = .ok (.iload 5, 2) := by decide +kernel
theorem d_Te_addCalled_37 : decode b_Te_addCalled 37 = .ok (.invokevirtual 58, 3) := by decide +kernel
theorem d_Te_addCalled_40 : decode b_Te_addCalled 40 = .ok (.ireturn, 1) := by decide +kernel
theorem d_Te_isPattern_0 : decode b_Te_isPattern 0 = .ok (.aload_n 0, 1) := by decide +kernel
theorem d_Te_isPattern_1 : decode b_Te_isPattern 1 = .ok (.getfield 33, 3) := by decide +kernel
theorem d_Te_isPattern_4 : decode b_Te_isPattern 4 = .ok (.iload_n 1, 1) := by decide +kernel
theorem d_Te_isPattern_5 : decode b_Te_isPattern 5 = .ok (.baload, 1) := by decide +kernel
theorem d_Te_isPattern_6 : decode b_Te_isPattern 6 = .ok (.ifCond .ne 37, 3) := by decide +kernel
theorem d_Te_isPattern_9 : decode b_Te_isPattern 9 = .ok (.aload_n 0, 1) := by decide +kernel
theorem d_Te_isPattern_10 : decode b_Te_isPattern 10 = .ok (.getfield 37, 3) := by decide +kernel
theorem d_Te_isPattern_13 : decode b_Te_isPattern 13 = .ok (.iload_n 1, 1) := by decide +kernel
theorem d_Te_isPattern_14 : decode b_Te_isPattern 14 = .ok (.baload, 1) := by decide +kernel
theorem d_Te_isPattern_15 : decode b_Te_isPattern 15 = .ok (.ifCond .ne 28, 3) := by decide +kernel
theorem d_Te_isPattern_18 : decode b_Te_isPattern 18 = .ok (.aload_n 0, 1) := by decide +kernel
theorem d_Te_isPattern_19 : decode b_Te_isPattern 19 = .ok (.getfield 24, 3) := by decide +kernel
theorem d_Te_isPattern_22 : decode b_Te_isPattern 22 = .ok (.iload_n 1, 1) := by decide +kernel
theorem d_Te_isPattern_23 : decode b_Te_isPattern 23 = .ok (.iaload, 1) := by decide +kernel
theorem d_Te_isPattern_24 : decode b_Te_isPattern 24 = .ok (.iconst 2, 1) := by decide +kernel
theorem d_Te_isPattern_25 : decode b_Te_isPattern 25 = .ok (.if_icmp .gt 18, 3) := by decide +kernel
theorem d_Te_isPattern_28 : decode b_Te_isPattern 28 = .ok (.aload_n 0, 1) := by decide +kernel
theorem d_Te_isPattern_29 : decode b_Te_isPattern 29 = .ok (.getfield 27, 3) := by decide +kernel
theorem d_Te_isPattern_32 : decode b_Te_isPattern 32 = .ok (.iload_n 1, 1) := by decide +kernel
theorem d_Te_isPattern_33 : decode b_Te_isPattern 33 = .ok (.iaload, 1) := by decide +kernel
theorem d_Te_isPattern_34 : decode b_Te_isPattern 34 = .ok (.bipush 8, 2) := by decide +kernel
theorem d_Te_isPattern_36 : decode b_Te_isPattern 36 = .ok (.if_icmp .gt 7, 3) := by decide +kernel
theorem d_Te_isPattern_39 : decode b_Te_isPattern 39 = .ok (.iconst 1, 1) := by decide +kernel
theorem d_Te_isPattern_40 : decode b_Te_isPattern 40 = .ok (.goto 4, 3) := by decide +kernel
theorem d_Te_isPattern_43 : decode b_Te_isPattern 43 = .ok (.iconst 0, 1) := by decide +kernel
theorem d_Te_isPattern_44 : decode b_Te_isPattern 44 = .ok (.ireturn, 1) := by decide +kernel
theorem d_Te_variables_0 : decode b_Te_variables 0 = .ok (.aload_n 0, 1) := by decide +kernel
theorem d_Te_variables_1 : decode b_Te_variables 1 = .ok (.getfield 30, 3) := by decide +kernel
theorem d_Te_variables_4 : decode b_Te_variables 4 = .ok (.iload_n 1, 1) := by decide +kernel
theorem d_Te_variables_5 : decode b_Te_variables 5 = .ok (.iaload, 1) := by decide +kernel
theorem d_Te_variables_6 : decode b_Te_variables 6 = .ok (.ireturn, 1) := by decide +kernel
theorem d_Te_size_0 : decode b_Te_size 0 = .ok (.aload_n 0, 1) := by decide +kernel
theorem d_Te_size_1 : decode b_Te_size 1 = .ok (.getfield 27, 3) := by decide +kernel
theorem d_Te_size_4 : decode b_Te_size 4 = .ok (.iload_n 1, 1) := by decide +kernel
theorem d_Te_size_5 : decode b_Te_size 5 = .ok (.iaload, 1) := by decide +kernel
theorem d_Te_size_6 : decode b_Te_size 6 = .ok (.ireturn, 1) := by decide +kernel
