theorem d_La_constructor_0 : decode b_La_constructor 0 = .ok (.aload 5, 2) := by decide +kernel
theorem d_La_constructor_2 : decode b_La_constructor 2 = .ok (.iconst 0, 1) := by decide +kernel
theorem d_La_constructor_3 : decode b_La_constructor 3 = .ok (.aload_n 0, 1) := by decide +kernel
theorem d_La_constructor_4 : decode b_La_constructor 4 = .ok (.iload_n 1, 1) := by decide +kernel
theorem d_La_constructor_5 : decode b_La_constructor 5 = .ok (.iload_n 2, 1) := by decide +kernel
theorem d_La_constructor_6 : decode b_La_constructor 6 = .ok (.iload_n 3, 1) := by decide +kernel
theorem d_La_constructor_7 : decode b_La_constructor 7 = .ok (.iload 4, 2) := by decide +kernel
theorem d_La_constructor_9 : decode b_La_constructor 9 = .ok (.invokevirtual 7, 3) := by decide +kernel
theorem d_La_constructor_12 : decode b_La_constructor 12 = .ok (.i2l, 1) := by decide +kernel
theorem d_La_constructor_13 : decode b_La_constructor 13 = .ok (.lastore, 1) := by decide +kernel
theorem d_La_constructor_14 : decode b_La_constructor 14 = .ok (.goto 11, 3) := by decide +kernel
theorem d_La_constructor_17 : decode b_La_constructor 17 = .ok (.astore 6, 2) := by decide +kernel
theorem d_La_constructor_19 : decode b_La_constructor 19 = .ok (.iconst 1, 1) := by decide +kernel
theorem d_La_constructor_20 : decode b_La_constructor 20 = .ok (.ireturn, 1) := by decide +kernel
theorem d_La_constructor_21 : decode b_La_constructor 21 = .ok (.astore 6, 2) := by decide +kernel
theorem d_La_constructor_23 : decode b_La_constructor 23 = .ok (.iconst 2, 1) := by decide +kernel
theorem d_La_constructor_24 : decode b_La_constructor 24 = .ok (.ireturn, 1) := by decide +kernel
theorem d_La_constructor_25 : decode b_La_constructor 25 = .ok (.iconst 0, 1) := by decide +kernel
theorem d_La_constructor_26 : decode b_La_constructor 26 = .ok (.ireturn, 1) := by decide +kernel
theorem d_La_function_0 : decode b_La_function 0 = .ok (.aload 5, 2) := by decide +kernel
theorem d_La_function_2 : decode b_La_function 2 = .ok (.iconst 0, 1) := by decide +kernel
theorem d_La_function_3 : decode b_La_function 3 = .ok (.aload_n 0, 1) := by decide +kernel
theorem d_La_function_4 : decode b_La_function 4 = .ok (.iload_n 1, 1) := by decide +kernel
theorem d_La_function_5 : decode b_La_function 5 = .ok (.iload_n 2, 1) := by decide +kernel
theorem d_La_function_6 : decode b_La_function 6 = .ok (.iload_n 3, 1) := by decide +kernel
theorem d_La_function_7 : decode b_La_function 7 = .ok (.iload 4, 2) := by decide +kernel
theorem d_La_function_9 : decode b_La_function 9 = .ok (.invokevirtual 17, 3) := by decide +kernel
theorem d_La_function_12 : decode b_La_function 12 = .ok (.i2l, 1) := by decide +kernel
theorem d_La_function_13 : decode b_La_function 13 = .ok (.lastore, 1) := by decide +kernel
theorem d_La_function_14 : decode b_La_function 14 = .ok (.goto 11, 3) := by decide +kernel
theorem d_La_function_17 : decode b_La_function 17 = .ok (.astore 6, 2) := by decide +kernel
theorem d_La_function_19 : decode b_La_function 19 = .ok (.iconst 1, 1) := by decide +kernel
theorem d_La_function_20 : decode b_La_function 20 = .ok (.ireturn, 1) := by decide +kernel
theorem d_La_function_21 : decode b_La_function 21 = .ok (.astore 6, 2) := by decide +kernel
theorem d_La_function_23 : decode b_La_function 23 = .ok (.iconst 2, 1) := by decide +kernel
theorem d_La_function_24 : decode b_La_function 24 = .ok (.ireturn, 1) := by decide +kernel
theorem d_La_function_25 : decode b_La_function 25 = .ok (.iconst 0, 1) := by decide +kernel
theorem d_La_function_26 : decode b_La_function 26 = .ok (.ireturn, 1) := by decide +kernel
theorem d_La_variable_0 : decode b_La_variable 0 = .ok (.aload_n 2, 1) := by decide +kernel
theorem d_La_variable_1 : decode b_La_variable 1 = .ok (.iconst 0, 1) := by decide +kernel
theorem d_La_variable_2 : decode b_La_variable 2 = .ok (.aload_n 0, 1) := by decide +kernel
theorem d_La_variable_3 : decode b_La_variable 3 = .ok (.iload_n 1, 1) := by decide +kernel
theorem d_La_variable_4 : decode b_La_variable 4 = .ok (.invokevirtual 20, 3) := by decide +kernel
theorem d_La_variable_7 : decode b_La_variable 7 = .ok (.i2l, 1) := by decide +kernel
theorem d_La_variable_8 : decode b_La_variable 8 = .ok (.lastore, 1) := by decide +kernel
theorem d_La_variable_9 : decode b_La_variable 9 = .ok (.goto 9, 3) := by decide +kernel
theorem d_La_variable_12 : decode b_La_variable 12 = .ok (.astore_n 3, 1) := by decide +kernel
theorem d_La_variable_13 : decode b_La_variable 13 = .ok (.iconst 1, 1) := by decide +kernel
theorem d_La_variable_14 : decode b_La_variable 14 = .ok (.ireturn, 1) := by decide +kernel
theorem d_La_variable_15 : decode b_La_variable 15 = .ok (.astore_n 3, 1) := by decide +kernel
theorem d_La_variable_16 : decode b_La_variable 16 = .ok (.iconst 2, 1) := by decide +kernel
theorem d_La_variable_17 : decode b_La_variable 17 = .ok (.ireturn, 1) := by decide +kernel
theorem d_La_variable_18 : decode b_La_variable 18 = .ok (.iconst 0, 1) := by decide +kernel
theorem d_La_variable_19 : decode b_La_variable 19 = .ok (.ireturn, 1) := by decide +kernel
theorem d_La_make_0 : decode b_La_make 0 = .ok (.aload 5, 2) := by decide +kernel
theorem d_La_make_2 : decode b_La_make 2 = .ok (.iconst 0, 1) := by decide +kernel
theorem d_La_make_3 : decode b_La_make 3 = .ok (.aload_n 0, 1) := by decide +kernel
theorem d_La_make_4 : decode b_La_make 4 = .ok (.iload_n 1, 1) := by decide +kernel
theorem d_La_make_5 : decode b_La_make 5 = .ok (.iload_n 2, 1) := by decide +kernel
theorem d_La_make_6 : decode b_La_make 6 = .ok (.iload_n 3, 1) := by decide +kernel
theorem d_La_make_7 : decode b_La_make 7 = .ok (.iload 4, 2) := by decide +kernel
theorem d_La_make_9 : decode b_La_make 9 = .ok (.invokevirtual 24, 3) := by decide +kernel
theorem d_La_make_12 : decode b_La_make 12 = .ok (.i2l, 1) := by decide +kernel
theorem d_La_make_13 : decode b_La_make 13 = .ok (.lastore, 1) := by decide +kernel
theorem d_La_make_14 : decode b_La_make 14 = .ok (.goto 11, 3) := by decide +kernel
theorem d_La_make_17 : decode b_La_make 17 = .ok (.astore 6, 2) := by decide +kernel
theorem d_La_make_19 : decode b_La_make 19 = .ok (.iconst 1, 1) := by decide +kernel
theorem d_La_make_20 : decode b_La_make 20 = .ok (.ireturn, 1) := by decide +kernel
theorem d_La_make_21 : decode b_La_make 21 = .ok (.astore 6, 2) := by decide +kernel
theorem d_La_make_23 : decode b_La_make 23 = .ok (.iconst 2, 1) := by decide +kernel
theorem d_La_make_24 : decode b_La_make 24 = .ok (.ireturn, 1) := by decide +kernel
theorem d_La_make_25 : decode b_La_make 25 = .ok (.iconst 0, 1) := by decide +kernel
theorem d_La_make_26 : decode b_La_make 26 = .ok (.ireturn, 1) := by decide +kernel
theorem d_La_call_0 : decode b_La_call 0 = .ok (.aload 5, 2) := by decide +kernel
theorem d_La_call_2 : decode b_La_call 2 = .ok (.iconst 0, 1) := by decide +kernel
theorem d_La_call_3 : decode b_La_call 3 = .ok (.aload_n 0, 1) := by decide +kernel
theorem d_La_call_4 : decode b_La_call 4 = .ok (.iload_n 1, 1) := by decide +kernel
theorem d_La_call_5 : decode b_La_call 5 = .ok (.iload_n 2, 1) := by decide +kernel
theorem d_La_call_6 : decode b_La_call 6 = .ok (.iload_n 3, 1) := by decide +kernel
theorem d_La_call_7 : decode b_La_call 7 = .ok (.iload 4, 2) := by decide +kernel
theorem d_La_call_9 : decode b_La_call 9 = .ok (.invokevirtual 27, 3) := by decide +kernel
theorem d_La_call_12 : decode b_La_call 12 = .ok (.i2l, 1) := by decide +kernel
theorem d_La_call_13 : decode b_La_call 13 = .ok (.lastore, 1) := by decide +kernel
theorem d_La_call_14 : decode b_La_call 14 = .ok (.goto 11, 3) := by decide +kernel
theorem d_La_call_17 : decode b_La_call 17 = .ok (.astore 6, 2) := by decide +kernel
theorem d_La_call_19 : decode b_La_call 19 = .ok (.iconst 1, 1) := by decide +kernel
theorem d_La_call_20 : decode b_La_call 20 = .ok (.ireturn, 1) := by decide +kernel
theorem d_La_call_21 : decode b_La_call 21 = .ok (.astore 6, 2) := by decide +kernel
theorem d_La_call_23 : decode b_La_call 23 = .ok (.iconst 2, 1) := by decide +kernel
theorem d_La_call_24 : decode b_La_call 24 = .ok (.ireturn, 1) := by decide +kernel
theorem d_La_call_25 : decode b_La_call 25 = .ok (.iconst 0, 1) := by decide +kernel
theorem d_La_call_26 : decode b_La_call 26 = .ok (.ireturn, 1) := by decide +kernel
theorem d_La_clause_0 : decode b_La_clause 0 = .ok (.aload 6, 2) := by decide +kernel
theorem d_La_clause_2 : decode b_La_clause 2 = .ok (.iconst 0, 1) := by decide +kernel
theorem d_La_clause_3 : decode b_La_clause 3 = .ok (.aload_n 0, 1) := by decide +kernel
theorem d_La_clause_4 : decode b_La_clause 4 = .ok (.iload_n 1, 1) := by decide +kernel
theorem d_La_clause_5 : decode b_La_clause 5 = .ok (.iload_n 2, 1) := by decide +kernel
theorem d_La_clause_6 : decode b_La_clause 6 = .ok (.iload_n 3, 1) := by decide +kernel
theorem d_La_clause_7 : decode b_La_clause 7 = .ok (.iload 4, 2) := by decide +kernel
theorem d_La_clause_9 : decode b_La_clause 9 = .ok (.iload 5, 2) := by decide +kernel
theorem d_La_clause_11 : decode b_La_clause 11 = .ok (.invokevirtual 30, 3) := by decide +kernel
theorem d_La_clause_14 : decode b_La_clause 14 = .ok (.i2l, 1) := by decide +kernel
theorem d_La_clause_15 : decode b_La_clause 15 = .ok (.lastore, 1) := by decide +kernel
theorem d_La_clause_16 : decode b_La_clause 16 = .ok (.goto 11, 3) := by decide +kernel
theorem d_La_clause_19 : decode b_La_clause 19 = .ok (.astore 7, 2) := by decide +kernel
theorem d_La_clause_21 : decode b_La_clause 21 = .ok (.iconst 1, 1) := by decide +kernel
theorem d_La_clause_22 : decode b_La_clause 22 = .ok (.ireturn, 1) := by decide +kernel
theorem d_La_clause_23 : decode b_La_clause 23 = .ok (.astore 7, 2) := by decide +kernel
theorem d_La_clause_25 : decode b_La_clause 25 = .ok (.iconst 2, 1) := by decide +kernel
theorem d_La_clause_26 : decode b_La_clause 26 = .ok (.ireturn, 1) := by decide +kernel
theorem d_La_clause_27 : decode b_La_clause 27 = .ok (.iconst 0, 1) := by decide +kernel
theorem d_La_clause_28 : decode b_La_clause 28 = .ok (.ireturn, 1) := by decide +kernel
theorem d_La_arc_0 : decode b_La_arc 0 = .ok (.aload 5, 2) := by decide +kernel
theorem d_La_arc_2 : decode b_La_arc 2 = .ok (.iconst 0, 1) := by decide +kernel
theorem d_La_arc_3 : decode b_La_arc 3 = .ok (.aload_n 0, 1) := by decide +kernel
theorem d_La_arc_4 : decode b_La_arc 4 = .ok (.iload_n 1, 1) := by decide +kernel
theorem d_La_arc_5 : decode b_La_arc 5 = .ok (.iload_n 2, 1) := by decide +kernel
theorem d_La_arc_6 : decode b_La_arc 6 = .ok (.iload_n 3, 1) := by decide +kernel
theorem d_La_arc_7 : decode b_La_arc 7 = .ok (.iload 4, 2) := by decide +kernel
theorem d_La_arc_9 : decode b_La_arc 9 = .ok (.invokevirtual 34, 3) := by decide +kernel
theorem d_La_arc_12 : decode b_La_arc 12 = .ok (.i2l, 1) := by decide +kernel
theorem d_La_arc_13 : decode b_La_arc 13 = .ok (.lastore, 1) := by decide +kernel
theorem d_La_arc_14 : decode b_La_arc 14 = .ok (.goto 7, 3) := by decide +kernel
theorem d_La_arc_17 : decode b_La_arc 17 = .ok (.astore 6, 2) := by decide +kernel
theorem d_La_arc_19 : decode b_La_arc 19 = .ok (.iconst 1, 1) := by decide +kernel
theorem d_La_arc_20 : decode b_La_arc 20 = .ok (.ireturn, 1) := by decide +kernel
theorem d_La_arc_21 : decode b_La_arc 21 = .ok (.iconst 0, 1) := by decide +kernel
theorem d_La_arc_22 : decode b_La_arc 22 = .ok (.ireturn, 1) := by decide +kernel
theorem d_La_run_0 : decode b_La_run 0 = .ok (.aload 5, 2) := by decide +kernel
theorem d_La_run_2 : decode b_La_run 2 = .ok (.iconst 0, 1) := by decide +kernel
theorem d_La_run_3 : decode b_La_run 3 = .ok (.aload_n 0, 1) := by decide +kernel
theorem d_La_run_4 : decode b_La_run 4 = .ok (.iload_n 1, 1) := by decide +kernel
theorem d_La_run_5 : decode b_La_run 5 = .ok (.iload_n 2, 1) := by decide +kernel
theorem d_La_run_6 : decode b_La_run 6 = .ok (.iload_n 3, 1) := by decide +kernel
theorem d_La_run_7 : decode b_La_run 7 = .ok (.iload 4, 2) := by decide +kernel
theorem d_La_run_9 : decode b_La_run 9 = .ok (.invokevirtual 37, 3) := by decide +kernel
theorem d_La_run_12 : decode b_La_run 12 = .ok (.i2l, 1) := by decide +kernel
theorem d_La_run_13 : decode b_La_run 13 = .ok (.lastore, 1) := by decide +kernel
theorem d_La_run_14 : decode b_La_run 14 = .ok (.goto 11, 3) := by decide +kernel
theorem d_La_run_17 : decode b_La_run 17 = .ok (.astore 6, 2) := by decide +kernel
theorem d_La_run_19 : decode b_La_run 19 = .ok (.iconst 1, 1) := by decide +kernel
theorem d_La_run_20 : decode b_La_run 20 = .ok (.ireturn, 1) := by decide +kernel
theorem d_La_run_21 : decode b_La_run 21 = .ok (.astore 6, 2) := by decide +kernel
theorem d_La_run_23 : decode b_La_run 23 = .ok (.iconst 2, 1) := by decide +kernel
theorem d_La_run_24 : decode b_La_run 24 = .ok (.ireturn, 1) := by decide +kernel
theorem d_La_run_25 : decode b_La_run 25 = .ok (.iconst 0, 1) := by decide +kernel
theorem d_La_run_26 : decode b_La_run 26 = .ok (.ireturn, 1) := by decide +kernel
theorem d_La_answer_0 : decode b_La_answer 0 = .ok (.aload_n 2, 1) := by decide +kernel
theorem d_La_answer_1 : decode b_La_answer 1 = .ok (.iconst 0, 1) := by decide +kernel
theorem d_La_answer_2 : decode b_La_answer 2 = .ok (.aload_n 0, 1) := by decide +kernel
theorem d_La_answer_3 : decode b_La_answer 3 = .ok (.iload_n 1, 1) := by decide +kernel
theorem d_La_answer_4 : decode b_La_answer 4 = .ok (.invokevirtual 40, 3) := by decide +kernel
theorem d_La_answer_7 : decode b_La_answer 7 = .ok (.i2l, 1) := by decide +kernel
theorem d_La_answer_8 : decode b_La_answer 8 = .ok (.lastore, 1) := by decide +kernel
theorem d_La_answer_9 : decode b_La_answer 9 = .ok (.goto 6, 3) := by decide +kernel
theorem d_La_answer_12 : decode b_La_answer 12 = .ok (.astore_n 3, 1) := by decide +kernel
theorem d_La_answer_13 : decode b_La_answer 13 = .ok (.iconst 1, 1) := by decide +kernel
theorem d_La_answer_14 : decode b_La_answer 14 = .ok (.ireturn, 1) := by decide +kernel
theorem d_La_answer_15 : decode b_La_answer 15 = .ok (.iconst 0, 1) := by decide +kernel
theorem d_La_answer_16 : decode b_La_answer 16 = .ok (.ireturn, 1) := by decide +kernel
