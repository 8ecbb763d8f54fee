theorem d_Sg_init_0 : decode b_Sg_init 0 = .ok (.aload_n 0, 1) := by decide +kernel
theorem d_Sg_init_1 : decode b_Sg_init 1 = .ok (.invokespecial 3, 3) := by decide +kernel
theorem d_Sg_init_4 : decode b_Sg_init 4 = .ok (.aload_n 0, 1) := by decide +kernel
theorem d_Sg_init_5 : decode b_Sg_init 5 = .ok (.iload_n 1, 1) := by decide +kernel
theorem d_Sg_init_6 : decode b_Sg_init 6 = .ok (.putfield 9, 3) := by decide +kernel
theorem d_Sg_init_9 : decode b_Sg_init 9 = .ok (.aload_n 0, 1) := by decide +kernel
theorem d_Sg_init_10 : decode b_Sg_init 10 = .ok (.iload_n 1, 1) := by decide +kernel
theorem d_Sg_init_11 : decode b_Sg_init 11 = .ok (.newarray .int, 2) := by decide +kernel
theorem d_Sg_init_13 : decode b_Sg_init 13 = .ok (.putfield 15, 3) := by decide +kernel
theorem d_Sg_init_16 : decode b_Sg_init 16 = .ok (.aload_n 0, 1) := by decide +kernel
theorem d_Sg_init_17 : decode b_Sg_init 17 = .ok (.iload_n 1, 1) := by decide +kernel
theorem d_Sg_init_18 : decode b_Sg_init 18 = .ok (.newarray .int, 2) := by decide +kernel
theorem d_Sg_init_20 : decode b_Sg_init 20 = .ok (.putfield 19, 3) := by decide +kernel
theorem d_Sg_init_23 : decode b_Sg_init 23 = .ok (.aload_n 0, 1) := by decide +kernel
theorem d_Sg_init_24 : decode b_Sg_init 24 = .ok (.iload_n 1, 1) := by decide +kernel
theorem d_Sg_init_25 : decode b_Sg_init 25 = .ok (.iconst 3, 1) := by decide +kernel
theorem d_Sg_init_26 : decode b_Sg_init 26 = .ok (.imul, 1) := by decide +kernel
theorem d_Sg_init_27 : decode b_Sg_init 27 = .ok (.newarray .int, 2) := by decide +kernel
theorem d_Sg_init_29 : decode b_Sg_init 29 = .ok (.putfield 22, 3) := by decide +kernel
theorem d_Sg_init_32 : decode b_Sg_init 32 = .ok (.return_, 1) := by decide +kernel
theorem d_Sg_typesUsed_0 : decode b_Sg_typesUsed 0 = .ok (.iconst 0, 1) := by decide +kernel
theorem d_Sg_typesUsed_1 : decode b_Sg_typesUsed 1 = .ok (.istore_n 1, 1) := by decide +kernel
theorem d_Sg_typesUsed_2 : decode b_Sg_typesUsed 2 = .ok (.iconst 0, 1) := by decide +kernel
theorem d_Sg_typesUsed_3 : decode b_Sg_typesUsed 3 = .ok (.istore_n 2, 1) := by decide +kernel
theorem d_Sg_typesUsed_4 : decode b_Sg_typesUsed 4 = .ok (.iload_n 2, 1) := by decide +kernel
theorem d_Sg_typesUsed_5 : decode b_Sg_typesUsed 5 = .ok (.aload_n 0, 1) := by decide +kernel
theorem d_Sg_typesUsed_6 : decode b_Sg_typesUsed 6 = .ok (.getfield 25, 3) := by decide +kernel
theorem d_Sg_typesUsed_9 : decode b_Sg_typesUsed 9 = .ok (.if_icmp .ge 26, 3) := by decide +kernel
theorem d_Sg_typesUsed_12 : decode b_Sg_typesUsed 12 = .ok (.iload_n 1, 1) := by decide +kernel
theorem d_Sg_typesUsed_13 : decode b_Sg_typesUsed 13 = .ok (.iconst 1, 1) := by decide +kernel
theorem d_Sg_typesUsed_14 : decode b_Sg_typesUsed 14 = .ok (.aload_n 0, 1) := by decide +kernel
theorem d_Sg_typesUsed_15 : decode b_Sg_typesUsed 15 = .ok (.getfield 15, 3) := by decide +kernel
theorem d_Sg_typesUsed_18 : decode b_Sg_typesUsed 18 = .ok (.iload_n 2, 1) := by decide +kernel
theorem d_Sg_typesUsed_19 : decode b_Sg_typesUsed 19 = .ok (.iaload, 1) := by decide +kernel
theorem d_Sg_typesUsed_20 : decode b_Sg_typesUsed 20 = .ok (.ishl, 1) := by decide +kernel
theorem d_Sg_typesUsed_21 : decode b_Sg_typesUsed 21 = .ok (.aload_n 0, 1) := by decide +kernel
theorem d_Sg_typesUsed_22 : decode b_Sg_typesUsed 22 = .ok (.iload_n 2, 1) := by decide +kernel
theorem d_Sg_typesUsed_23 : decode b_Sg_typesUsed 23 = .ok (.invokevirtual 36, 3) := by decide +kernel
theorem d_Sg_typesUsed_26 : decode b_Sg_typesUsed 26 = .ok (.ior, 1) := by decide +kernel
theorem d_Sg_typesUsed_27 : decode b_Sg_typesUsed 27 = .ok (.ior, 1) := by decide +kernel
theorem d_Sg_typesUsed_28 : decode b_Sg_typesUsed 28 = .ok (.istore_n 1, 1) := by decide +kernel
theorem d_Sg_typesUsed_29 : decode b_Sg_typesUsed 29 = .ok (.iinc 2 1, 3) := by decide +kernel
theorem d_Sg_typesUsed_32 : decode b_Sg_typesUsed 32 = .ok (.goto (-28), 3) := by decide +kernel
theorem d_Sg_typesUsed_35 : decode b_Sg_typesUsed 35 = .ok (.iload_n 1, 1) := by decide +kernel
theorem d_Sg_typesUsed_36 : decode b_Sg_typesUsed 36 = .ok (.ireturn, 1) := by decide +kernel
theorem d_Sg_typesTaken_0 : decode b_Sg_typesTaken 0 = .ok (.iconst 0, 1) := by decide +kernel
theorem d_Sg_typesTaken_1 : decode b_Sg_typesTaken 1 = .ok (.istore_n 2, 1) := by decide +kernel
theorem d_Sg_typesTaken_2 : decode b_Sg_typesTaken 2 = .ok (.iconst 0, 1) := by decide +kernel
theorem d_Sg_typesTaken_3 : decode b_Sg_typesTaken 3 = .ok (.istore_n 3, 1) := by decide +kernel
theorem d_Sg_typesTaken_4 : decode b_Sg_typesTaken 4 = .ok (.iload_n 3, 1) := by decide +kernel
theorem d_Sg_typesTaken_5 : decode b_Sg_typesTaken 5 = .ok (.aload_n 0, 1) := by decide +kernel
theorem d_Sg_typesTaken_6 : decode b_Sg_typesTaken 6 = .ok (.getfield 19, 3) := by decide +kernel
theorem d_Sg_typesTaken_9 : decode b_Sg_typesTaken 9 = .ok (.iload_n 1, 1) := by decide +kernel
theorem d_Sg_typesTaken_10 : decode b_Sg_typesTaken 10 = .ok (.iaload, 1) := by decide +kernel
theorem d_Sg_typesTaken_11 : decode b_Sg_typesTaken 11 = .ok (.if_icmp .ge 24, 3) := by decide +kernel
theorem d_Sg_typesTaken_14 : decode b_Sg_typesTaken 14 = .ok (.iload_n 2, 1) := by decide +kernel
theorem d_Sg_typesTaken_15 : decode b_Sg_typesTaken 15 = .ok (.iconst 1, 1) := by decide +kernel
theorem d_Sg_typesTaken_16 : decode b_Sg_typesTaken 16 = .ok (.aload_n 0, 1) := by decide +kernel
theorem d_Sg_typesTaken_17 : decode b_Sg_typesTaken 17 = .ok (.getfield 22, 3) := by decide +kernel
theorem d_Sg_typesTaken_20 : decode b_Sg_typesTaken 20 = .ok (.iload_n 1, 1) := by decide +kernel
theorem d_Sg_typesTaken_21 : decode b_Sg_typesTaken 21 = .ok (.iconst 3, 1) := by decide +kernel
theorem d_Sg_typesTaken_22 : decode b_Sg_typesTaken 22 = .ok (.imul, 1) := by decide +kernel
theorem d_Sg_typesTaken_23 : decode b_Sg_typesTaken 23 = .ok (.iload_n 3, 1) := by decide +kernel
theorem d_Sg_typesTaken_24 : decode b_Sg_typesTaken 24 = .ok (.iadd, 1) := by decide +kernel
theorem d_Sg_typesTaken_25 : decode b_Sg_typesTaken 25 = .ok (.iaload, 1) := by decide +kernel
theorem d_Sg_typesTaken_26 : decode b_Sg_typesTaken 26 = .ok (.ishl, 1) := by decide +kernel
theorem d_Sg_typesTaken_27 : decode b_Sg_typesTaken 27 = .ok (.ior, 1) := by decide +kernel
theorem d_Sg_typesTaken_28 : decode b_Sg_typesTaken 28 = .ok (.istore_n 2, 1) := by decide +kernel
theorem d_Sg_typesTaken_29 : decode b_Sg_typesTaken 29 = .ok (.iinc 3 1, 3) := by decide +kernel
theorem d_Sg_typesTaken_32 : decode b_Sg_typesTaken 32 = .ok (.goto (-28), 3) := by decide +kernel
theorem d_Sg_typesTaken_35 : decode b_Sg_typesTaken 35 = .ok (.iload_n 2, 1) := by decide +kernel
theorem d_Sg_typesTaken_36 : decode b_Sg_typesTaken 36 = .ok (.ireturn, 1) := by decide +kernel
theorem d_Sg_howMany_0 : decode b_Sg_howMany 0 = .ok (.aload_n 0, 1) := by decide +kernel
theorem d_Sg_howMany_1 : decode b_Sg_howMany 1 = .ok (.getfield 25, 3) := by decide +kernel
theorem d_Sg_howMany_4 : decode b_Sg_howMany 4 = .ok (.ireturn, 1) := by decide +kernel
theorem d_Sg_type_0 : decode b_Sg_type 0 = .ok (.aload_n 0, 1) := by decide +kernel
theorem d_Sg_type_1 : decode b_Sg_type 1 = .ok (.getfield 15, 3) := by decide +kernel
theorem d_Sg_type_4 : decode b_Sg_type 4 = .ok (.iload_n 1, 1) := by decide +kernel
theorem d_Sg_type_5 : decode b_Sg_type 5 = .ok (.iaload, 1) := by decide +kernel
theorem d_Sg_type_6 : decode b_Sg_type 6 = .ok (.ireturn, 1) := by decide +kernel
theorem d_Sg_width_0 : decode b_Sg_width 0 = .ok (.aload_n 0, 1) := by decide +kernel
theorem d_Sg_width_1 : decode b_Sg_width 1 = .ok (.getfield 19, 3) := by decide +kernel
theorem d_Sg_width_4 : decode b_Sg_width 4 = .ok (.iload_n 1, 1) := by decide +kernel
theorem d_Sg_width_5 : decode b_Sg_width 5 = .ok (.iaload, 1) := by decide +kernel
theorem d_Sg_width_6 : decode b_Sg_width 6 = .ok (.ireturn, 1) := by decide +kernel
theorem d_Sg_placeType_0 : decode b_Sg_placeType 0 = .ok (.aload_n 0, 1) := by decide +kernel
theorem d_Sg_placeType_1 : decode b_Sg_placeType 1 = .ok (.getfield 22, 3) := by decide +kernel
theorem d_Sg_placeType_4 : decode b_Sg_placeType 4 = .ok (.iload_n 1, 1) := by decide +kernel
theorem d_Sg_placeType_5 : decode b_Sg_placeType 5 = .ok (.iconst 3, 1) := by decide +kernel
theorem d_Sg_placeType_6 : decode b_Sg_placeType 6 = .ok (.imul, 1) := by decide +kernel
theorem d_Sg_placeType_7 : decode b_Sg_placeType 7 = .ok (.iload_n 2, 1) := by decide +kernel
theorem d_Sg_placeType_8 : decode b_Sg_placeType 8 = .ok (.iadd, 1) := by decide +kernel
theorem d_Sg_placeType_9 : decode b_Sg_placeType 9 = .ok (.iaload, 1) := by decide +kernel
theorem d_Sg_placeType_10 : decode b_Sg_placeType 10 = .ok (.ireturn, 1) := by decide +kernel
theorem d_Sg_isFull_0 : decode b_Sg_isFull 0 = .ok (.aload_n 0, 1) := by decide +kernel
theorem d_Sg_isFull_1 : decode b_Sg_isFull 1 = .ok (.getfield 25, 3) := by decide +kernel
theorem d_Sg_isFull_4 : decode b_Sg_isFull 4 = .ok (.aload_n 0, 1) := by decide +kernel
theorem d_Sg_isFull_5 : decode b_Sg_isFull 5 = .ok (.getfield 9, 3) := by decide +kernel
theorem d_Sg_isFull_8 : decode b_Sg_isFull 8 = .ok (.if_icmp .lt 7, 3) := by decide +kernel
theorem d_Sg_isFull_11 : decode b_Sg_isFull 11 = .ok (.iconst 1, 1) := by decide +kernel
theorem d_Sg_isFull_12 : decode b_Sg_isFull 12 = .ok (.goto 4, 3) := by decide +kernel
theorem d_Sg_isFull_15 : decode b_Sg_isFull 15 = .ok (.iconst 0, 1) := by decide +kernel
theorem d_Sg_isFull_16 : decode b_Sg_isFull 16 = .ok (.ireturn, 1) := by decide +kernel
theorem d_Sg_declare_0 : decode b_Sg_declare 0 = .ok (.aload_n 0, 1) := by decide +kernel
theorem d_Sg_declare_1 : decode b_Sg_declare 1 = .ok (.getfield 15, 3) := by decide +kernel
theorem d_Sg_declare_4 : decode b_Sg_declare 4 = .ok (.aload_n 0, 1) := by decide +kernel
theorem d_Sg_declare_5 : decode b_Sg_declare 5 = .ok (.getfield 25, 3) := by decide +kernel
theorem d_Sg_declare_8 : decode b_Sg_declare 8 = .ok (.iload_n 1, 1) := by decide +kernel
theorem d_Sg_declare_9 : decode b_Sg_declare 9 = .ok (.iastore, 1) := by decide +kernel
theorem d_Sg_declare_10 : decode b_Sg_declare 10 = .ok (.aload_n 0, 1) := by decide +kernel
theorem d_Sg_declare_11 : decode b_Sg_declare 11 = .ok (.getfield 19, 3) := by decide +kernel
theorem d_Sg_declare_14 : decode b_Sg_declare 14 = .ok (.aload_n 0, 1) := by decide +kernel
theorem d_Sg_declare_15 : decode b_Sg_declare 15 = .ok (.getfield 25, 3) := by decide +kernel
theorem d_Sg_declare_18 : decode b_Sg_declare 18 = .ok (.iload_n 2, 1) := by decide +kernel
theorem d_Sg_declare_19 : decode b_Sg_declare 19 = .ok (.iload_n 3, 1) := by decide +kernel
theorem d_Sg_declare_20 : decode b_Sg_declare 20 = .ok (.iload 4, 2) := by decide +kernel
theorem d_Sg_declare_22 : decode b_Sg_declare 22 = .ok (.invokestatic 28, 3) := by decide +kernel
theorem d_Sg_declare_25 : decode b_Sg_declare 25 = .ok (.iastore, 1) := by decide +kernel
theorem d_Sg_declare_26 : decode b_Sg_declare 26 = .ok (.iconst 0, 1) := by decide +kernel
theorem d_Sg_declare_27 : decode b_Sg_declare 27 = .ok (.istore 5, 2) := by decide +kernel
theorem d_Sg_declare_29 : decode b_Sg_declare 29 = .ok (.iload 5, 2) := by decide +kernel
theorem d_Sg_declare_31 : decode b_Sg_declare 31 = .ok (.aload_n 0, 1) := by decide +kernel
theorem d_Sg_declare_32 : decode b_Sg_declare 32 = .ok (.getfield 19, 3) := by decide +kernel
theorem d_Sg_declare_35 : decode b_Sg_declare 35 = .ok (.aload_n 0, 1) := by decide +kernel
theorem d_Sg_declare_36 : decode b_Sg_declare 36 = .ok (.getfield 25, 3) := by decide +kernel
theorem d_Sg_declare_39 : decode b_Sg_declare 39 = .ok (.iaload, 1) := by decide +kernel
theorem d_Sg_declare_40 : decode b_Sg_declare 40 = .ok (.if_icmp .ge 32, 3) := by decide +kernel
theorem d_Sg_declare_43 : decode b_Sg_declare 43 = .ok (.aload_n 0, 1) := by decide +kernel
theorem d_Sg_declare_44 : decode b_Sg_declare 44 = .ok (.getfield 22, 3) := by decide +kernel
theorem d_Sg_declare_47 : decode b_Sg_declare 47 = .ok (.aload_n 0, 1) := by decide +kernel
theorem d_Sg_declare_48 : decode b_Sg_declare 48 = .ok (.getfield 25, 3) := by decide +kernel
theorem d_Sg_declare_51 : decode b_Sg_declare 51 = .ok (.iconst 3, 1) := by decide +kernel
theorem d_Sg_declare_52 : decode b_Sg_declare 52 = .ok (.imul, 1) := by decide +kernel
theorem d_Sg_declare_53 : decode b_Sg_declare 53 = .ok (.iload 5, 2) := by decide +kernel
theorem d_Sg_declare_55 : decode b_Sg_declare 55 = .ok (.iadd, 1) := by decide +kernel
theorem d_Sg_declare_56 : decode b_Sg_declare 56 = .ok (.iload 5, 2) := by decide +kernel
theorem d_Sg_declare_58 : decode b_Sg_declare 58 = .ok (.iload_n 2, 1) := by decide +kernel
theorem d_Sg_declare_59 : decode b_Sg_declare 59 = .ok (.iload_n 3, 1) := by decide +kernel
theorem d_Sg_declare_60 : decode b_Sg_declare 60 = .ok (.iload 4, 2) := by decide +kernel
theorem d_Sg_declare_62 : decode b_Sg_declare 62 = .ok (.invokestatic 32, 3) := by decide +kernel
theorem d_Sg_declare_65 : decode b_Sg_declare 65 = .ok (.iastore, 1) := by decide +kernel
theorem d_Sg_declare_66 : decode b_Sg_declare 66 = .ok (.iinc 5 1, 3) := by decide +kernel
theorem d_Sg_declare_69 : decode b_Sg_declare 69 = .ok (.goto (-40), 3) := by decide +kernel
theorem d_Sg_declare_72 : decode b_Sg_declare 72 = .ok (.aload_n 0, 1) := by decide +kernel
theorem d_Sg_declare_73 : decode b_Sg_declare 73 = .ok (.dup, 1) := by decide +kernel
theorem d_Sg_declare_74 : decode b_Sg_declare 74 = .ok (.getfield 25, 3) := by decide +kernel
theorem d_Sg_declare_77 : decode b_Sg_declare 77 = .ok (.dup_x1, 1) := by decide +kernel
theorem d_Sg_declare_78 : decode b_Sg_declare 78 = .ok (.iconst 1, 1) := by decide +kernel
theorem d_Sg_declare_79 : decode b_Sg_declare 79 = .ok (.iadd, 1) := by decide +kernel
theorem d_Sg_declare_80 : decode b_Sg_declare 80 = .ok (.putfield 25, 3) := by decide +kernel
theorem d_Sg_declare_83 : decode b_Sg_declare 83 = .ok (.ireturn, 1) := by decide +kernel
theorem d_Sg_has_0 : decode b_Sg_has 0 = .ok (.iload_n 1, 1) := by decide +kernel
theorem d_Sg_has_1 : decode b_Sg_has 1 = .ok (.ifCond .lt 15, 3) := by decide +kernel
theorem d_Sg_has_4 : decode b_Sg_has 4 = .ok (.iload_n 1, 1) := by decide +kernel
theorem d_Sg_has_5 : decode b_Sg_has 5 = .ok (.aload_n 0, 1) := by decide +kernel
theorem d_Sg_has_6 : decode b_Sg_has 6 = .ok (.getfield 25, 3) := by decide +kernel
theorem d_Sg_has_9 : decode b_Sg_has 9 = .ok (.if_icmp .ge 7, 3) := by decide +kernel
theorem d_Sg_has_12 : decode b_Sg_has 12 = .ok (.iconst 1, 1) := by decide +kernel
theorem d_Sg_has_13 : decode b_Sg_has 13 = .ok (.goto 4, 3) := by decide +kernel
theorem d_Sg_has_16 : decode b_Sg_has 16 = .ok (.iconst 0, 1) := by decide +kernel
theorem d_Sg_has_17 : decode b_Sg_has 17 = .ok (.ireturn, 1) := by decide +kernel
