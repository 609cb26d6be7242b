theorem kclL_8 : Cond.classLink RL 8 "NineValues" ∈ nzG := nz_at 13 (by decide +kernel) rfl
theorem kclL_13 : Cond.classLink RL 13 "java/lang/IndexOutOfBoundsException" ∈ nzG := nz_at 48 (by decide +kernel) rfl
theorem kclL_15 : Cond.classLink RL 15 "java/lang/IllegalArgumentException" ∈ nzG := nz_at 49 (by decide +kernel) rfl
theorem kclL_36 : Cond.classLink RL 36 "java/lang/IllegalStateException" ∈ nzG := nz_at 193 (by decide +kernel) rfl
theorem kclL_42 : Cond.classLink RL 42 "java/lang/ArithmeticException" ∈ nzG := nz_at 239 (by decide +kernel) rfl
theorem kclL_74 : Cond.classLink RL 74 "NineValuesModel" ∈ nzG := nz_at 434 (by decide +kernel) rfl
theorem dL_fill_0 : decode bL_fill 0 = .ok (.aload_n 0, 1) := by decide +kernel
theorem dL_fill_1 : decode bL_fill 1 = .ok (.iload_n 1, 1) := by decide +kernel
theorem dL_fill_2 : decode bL_fill 2 = .ok (.iload_n 2, 1) := by decide +kernel
theorem dL_fill_3 : decode bL_fill 3 = .ok (.iload_n 3, 1) := by decide +kernel
theorem dL_fill_4 : decode bL_fill 4 = .ok (.invokevirtual 7, 3) := by decide +kernel
theorem dL_fill_7 : decode bL_fill 7 = .ok (.goto 11, 3) := by decide +kernel
theorem dL_fill_10 : decode bL_fill 10 = .ok (.astore 4, 2) := by decide +kernel
theorem dL_fill_12 : decode bL_fill 12 = .ok (.iconst 1, 1) := by decide +kernel
theorem dL_fill_13 : decode bL_fill 13 = .ok (.ireturn, 1) := by decide +kernel
theorem dL_fill_14 : decode bL_fill 14 = .ok (.astore 4, 2) := by decide +kernel
theorem dL_fill_16 : decode bL_fill 16 = .ok (.iconst 2, 1) := by decide +kernel
theorem dL_fill_17 : decode bL_fill 17 = .ok (.ireturn, 1) := by decide +kernel
theorem dL_fill_18 : decode bL_fill 18 = .ok (.iconst 0, 1) := by decide +kernel
theorem dL_fill_19 : decode bL_fill 19 = .ok (.ireturn, 1) := by decide +kernel
theorem dL_put_0 : decode bL_put 0 = .ok (.aload_n 0, 1) := by decide +kernel
theorem dL_put_1 : decode bL_put 1 = .ok (.iload_n 1, 1) := by decide +kernel
theorem dL_put_2 : decode bL_put 2 = .ok (.iload_n 2, 1) := by decide +kernel
theorem dL_put_3 : decode bL_put 3 = .ok (.iload_n 3, 1) := by decide +kernel
theorem dL_put_4 : decode bL_put 4 = .ok (.invokevirtual 17, 3) := by decide +kernel
theorem dL_put_7 : decode bL_put 7 = .ok (.goto 11, 3) := by decide +kernel
theorem dL_put_10 : decode bL_put 10 = .ok (.astore 4, 2) := by decide +kernel
theorem dL_put_12 : decode bL_put 12 = .ok (.iconst 1, 1) := by decide +kernel
theorem dL_put_13 : decode bL_put 13 = .ok (.ireturn, 1) := by decide +kernel
theorem dL_put_14 : decode bL_put 14 = .ok (.astore 4, 2) := by decide +kernel
theorem dL_put_16 : decode bL_put 16 = .ok (.iconst 2, 1) := by decide +kernel
theorem dL_put_17 : decode bL_put 17 = .ok (.ireturn, 1) := by decide +kernel
theorem dL_put_18 : decode bL_put 18 = .ok (.iconst 0, 1) := by decide +kernel
theorem dL_put_19 : decode bL_put 19 = .ok (.ireturn, 1) := by decide +kernel
theorem dL_get_0 : decode bL_get 0 = .ok (.aload_n 3, 1) := by decide +kernel
theorem dL_get_1 : decode bL_get 1 = .ok (.iconst 0, 1) := by decide +kernel
theorem dL_get_2 : decode bL_get 2 = .ok (.aload_n 0, 1) := by decide +kernel
theorem dL_get_3 : decode bL_get 3 = .ok (.iload_n 1, 1) := by decide +kernel
theorem dL_get_4 : decode bL_get 4 = .ok (.iload_n 2, 1) := by decide +kernel
theorem dL_get_5 : decode bL_get 5 = .ok (.invokevirtual 20, 3) := by decide +kernel
theorem dL_get_8 : decode bL_get 8 = .ok (.i2l, 1) := by decide +kernel
theorem dL_get_9 : decode bL_get 9 = .ok (.lastore, 1) := by decide +kernel
theorem dL_get_10 : decode bL_get 10 = .ok (.goto 7, 3) := by decide +kernel
theorem dL_get_13 : decode bL_get 13 = .ok (.astore 4, 2) := by decide +kernel
theorem dL_get_15 : decode bL_get 15 = .ok (.iconst 1, 1) := by decide +kernel
theorem dL_get_16 : decode bL_get 16 = .ok (.ireturn, 1) := by decide +kernel
theorem dL_get_17 : decode bL_get 17 = .ok (.iconst 0, 1) := by decide +kernel
theorem dL_get_18 : decode bL_get 18 = .ok (.ireturn, 1) := by decide +kernel
theorem dL_length_0 : decode bL_length 0 = .ok (.aload_n 2, 1) := by decide +kernel
theorem dL_length_1 : decode bL_length 1 = .ok (.iconst 0, 1) := by decide +kernel
theorem dL_length_2 : decode bL_length 2 = .ok (.aload_n 0, 1) := by decide +kernel
theorem dL_length_3 : decode bL_length 3 = .ok (.iload_n 1, 1) := by decide +kernel
theorem dL_length_4 : decode bL_length 4 = .ok (.invokevirtual 24, 3) := by decide +kernel
theorem dL_length_7 : decode bL_length 7 = .ok (.i2l, 1) := by decide +kernel
theorem dL_length_8 : decode bL_length 8 = .ok (.lastore, 1) := by decide +kernel
theorem dL_length_9 : decode bL_length 9 = .ok (.goto 6, 3) := by decide +kernel
theorem dL_length_12 : decode bL_length 12 = .ok (.astore_n 3, 1) := by decide +kernel
theorem dL_length_13 : decode bL_length 13 = .ok (.iconst 1, 1) := by decide +kernel
theorem dL_length_14 : decode bL_length 14 = .ok (.ireturn, 1) := by decide +kernel
theorem dL_length_15 : decode bL_length 15 = .ok (.iconst 0, 1) := by decide +kernel
theorem dL_length_16 : decode bL_length 16 = .ok (.ireturn, 1) := by decide +kernel
theorem dL_number_0 : decode bL_number 0 = .ok (.aload_n 0, 1) := by decide +kernel
theorem dL_number_1 : decode bL_number 1 = .ok (.iload_n 1, 1) := by decide +kernel
theorem dL_number_2 : decode bL_number 2 = .ok (.iload_n 2, 1) := by decide +kernel
theorem dL_number_3 : decode bL_number 3 = .ok (.lload_n 3, 1) := by decide +kernel
theorem dL_number_4 : decode bL_number 4 = .ok (.invokevirtual 28, 3) := by decide +kernel
theorem dL_number_7 : decode bL_number 7 = .ok (.goto 11, 3) := by decide +kernel
theorem dL_number_10 : decode bL_number 10 = .ok (.astore 5, 2) := by decide +kernel
theorem dL_number_12 : decode bL_number 12 = .ok (.iconst 1, 1) := by decide +kernel
theorem dL_number_13 : decode bL_number 13 = .ok (.ireturn, 1) := by decide +kernel
theorem dL_number_14 : decode bL_number 14 = .ok (.astore 5, 2) := by decide +kernel
theorem dL_number_16 : decode bL_number 16 = .ok (.iconst 2, 1) := by decide +kernel
theorem dL_number_17 : decode bL_number 17 = .ok (.ireturn, 1) := by decide +kernel
theorem dL_number_18 : decode bL_number 18 = .ok (.iconst 0, 1) := by decide +kernel
theorem dL_number_19 : decode bL_number 19 = .ok (.ireturn, 1) := by decide +kernel
theorem dL_numberOf_0 : decode bL_numberOf 0 = .ok (.aload_n 3, 1) := by decide +kernel
theorem dL_numberOf_1 : decode bL_numberOf 1 = .ok (.iconst 0, 1) := by decide +kernel
theorem dL_numberOf_2 : decode bL_numberOf 2 = .ok (.aload_n 0, 1) := by decide +kernel
theorem dL_numberOf_3 : decode bL_numberOf 3 = .ok (.iload_n 1, 1) := by decide +kernel
theorem dL_numberOf_4 : decode bL_numberOf 4 = .ok (.iload_n 2, 1) := by decide +kernel
theorem dL_numberOf_5 : decode bL_numberOf 5 = .ok (.invokevirtual 32, 3) := by decide +kernel
theorem dL_numberOf_8 : decode bL_numberOf 8 = .ok (.lastore, 1) := by decide +kernel
theorem dL_numberOf_9 : decode bL_numberOf 9 = .ok (.goto 11, 3) := by decide +kernel
theorem dL_numberOf_12 : decode bL_numberOf 12 = .ok (.astore 4, 2) := by decide +kernel
theorem dL_numberOf_14 : decode bL_numberOf 14 = .ok (.iconst 1, 1) := by decide +kernel
theorem dL_numberOf_15 : decode bL_numberOf 15 = .ok (.ireturn, 1) := by decide +kernel
theorem dL_numberOf_16 : decode bL_numberOf 16 = .ok (.astore 4, 2) := by decide +kernel
theorem dL_numberOf_18 : decode bL_numberOf 18 = .ok (.iconst 2, 1) := by decide +kernel
theorem dL_numberOf_19 : decode bL_numberOf 19 = .ok (.ireturn, 1) := by decide +kernel
theorem dL_numberOf_20 : decode bL_numberOf 20 = .ok (.iconst 0, 1) := by decide +kernel
theorem dL_numberOf_21 : decode bL_numberOf 21 = .ok (.ireturn, 1) := by decide +kernel
theorem dL_operate_0 : decode bL_operate 0 = .ok (.aload_n 0, 1) := by decide +kernel
theorem dL_operate_1 : decode bL_operate 1 = .ok (.iload_n 1, 1) := by decide +kernel
theorem dL_operate_2 : decode bL_operate 2 = .ok (.iload_n 2, 1) := by decide +kernel
theorem dL_operate_3 : decode bL_operate 3 = .ok (.iload_n 3, 1) := by decide +kernel
theorem dL_operate_4 : decode bL_operate 4 = .ok (.iload 4, 2) := by decide +kernel
theorem dL_operate_6 : decode bL_operate 6 = .ok (.iload 5, 2) := by decide +kernel
theorem dL_operate_8 : decode bL_operate 8 = .ok (.invokevirtual 38, 3) := by decide +kernel
theorem dL_operate_11 : decode bL_operate 11 = .ok (.goto 15, 3) := by decide +kernel
theorem dL_operate_14 : decode bL_operate 14 = .ok (.astore 6, 2) := by decide +kernel
theorem dL_operate_16 : decode bL_operate 16 = .ok (.iconst 1, 1) := by decide +kernel
theorem dL_operate_17 : decode bL_operate 17 = .ok (.ireturn, 1) := by decide +kernel
theorem dL_operate_18 : decode bL_operate 18 = .ok (.astore 6, 2) := by decide +kernel
theorem dL_operate_20 : decode bL_operate 20 = .ok (.iconst 2, 1) := by decide +kernel
theorem dL_operate_21 : decode bL_operate 21 = .ok (.ireturn, 1) := by decide +kernel
theorem dL_operate_22 : decode bL_operate 22 = .ok (.astore 6, 2) := by decide +kernel
theorem dL_operate_24 : decode bL_operate 24 = .ok (.iconst 3, 1) := by decide +kernel
theorem dL_operate_25 : decode bL_operate 25 = .ok (.ireturn, 1) := by decide +kernel
theorem dL_operate_26 : decode bL_operate 26 = .ok (.iconst 0, 1) := by decide +kernel
theorem dL_operate_27 : decode bL_operate 27 = .ok (.ireturn, 1) := by decide +kernel
theorem dL_change_0 : decode bL_change 0 = .ok (.aload_n 0, 1) := by decide +kernel
theorem dL_change_1 : decode bL_change 1 = .ok (.iload_n 1, 1) := by decide +kernel
theorem dL_change_2 : decode bL_change 2 = .ok (.iload_n 2, 1) := by decide +kernel
theorem dL_change_3 : decode bL_change 3 = .ok (.iload_n 3, 1) := by decide +kernel
theorem dL_change_4 : decode bL_change 4 = .ok (.invokevirtual 44, 3) := by decide +kernel
theorem dL_change_7 : decode bL_change 7 = .ok (.goto 11, 3) := by decide +kernel
theorem dL_change_10 : decode bL_change 10 = .ok (.astore 4, 2) := by decide +kernel
theorem dL_change_12 : decode bL_change 12 = .ok (.iconst 1, 1) := by decide +kernel
theorem dL_change_13 : decode bL_change 13 = .ok (.ireturn, 1) := by decide +kernel
theorem dL_change_14 : decode bL_change 14 = .ok (.astore 4, 2) := by decide +kernel
theorem dL_change_16 : decode bL_change 16 = .ok (.iconst 2, 1) := by decide +kernel
theorem dL_change_17 : decode bL_change 17 = .ok (.ireturn, 1) := by decide +kernel
theorem dL_change_18 : decode bL_change 18 = .ok (.iconst 0, 1) := by decide +kernel
theorem dL_change_19 : decode bL_change 19 = .ok (.ireturn, 1) := by decide +kernel
theorem dL_shift_0 : decode bL_shift 0 = .ok (.aload_n 0, 1) := by decide +kernel
theorem dL_shift_1 : decode bL_shift 1 = .ok (.iload_n 1, 1) := by decide +kernel
theorem dL_shift_2 : decode bL_shift 2 = .ok (.iload_n 2, 1) := by decide +kernel
theorem dL_shift_3 : decode bL_shift 3 = .ok (.iload_n 3, 1) := by decide +kernel
theorem dL_shift_4 : decode bL_shift 4 = .ok (.iload 4, 2) := by decide +kernel
theorem dL_shift_6 : decode bL_shift 6 = .ok (.iload 5, 2) := by decide +kernel
theorem dL_shift_8 : decode bL_shift 8 = .ok (.invokevirtual 47, 3) := by decide +kernel
theorem dL_shift_11 : decode bL_shift 11 = .ok (.goto 11, 3) := by decide +kernel
theorem dL_shift_14 : decode bL_shift 14 = .ok (.astore 6, 2) := by decide +kernel
theorem dL_shift_16 : decode bL_shift 16 = .ok (.iconst 1, 1) := by decide +kernel
theorem dL_shift_17 : decode bL_shift 17 = .ok (.ireturn, 1) := by decide +kernel
theorem dL_shift_18 : decode bL_shift 18 = .ok (.astore 6, 2) := by decide +kernel
theorem dL_shift_20 : decode bL_shift 20 = .ok (.iconst 2, 1) := by decide +kernel
theorem dL_shift_21 : decode bL_shift 21 = .ok (.ireturn, 1) := by decide +kernel
theorem dL_shift_22 : decode bL_shift 22 = .ok (.iconst 0, 1) := by decide +kernel
theorem dL_shift_23 : decode bL_shift 23 = .ok (.ireturn, 1) := by decide +kernel
theorem dL_bring_0 : decode bL_bring 0 = .ok (.aload_n 0, 1) := by decide +kernel
theorem dL_bring_1 : decode bL_bring 1 = .ok (.iload_n 1, 1) := by decide +kernel
theorem dL_bring_2 : decode bL_bring 2 = .ok (.iload_n 2, 1) := by decide +kernel
theorem dL_bring_3 : decode bL_bring 3 = .ok (.iload_n 3, 1) := by decide +kernel
theorem dL_bring_4 : decode bL_bring 4 = .ok (.iload 4, 2) := by decide +kernel
theorem dL_bring_6 : decode bL_bring 6 = .ok (.invokevirtual 51, 3) := by decide +kernel
theorem dL_bring_9 : decode bL_bring 9 = .ok (.goto 11, 3) := by decide +kernel
theorem dL_bring_12 : decode bL_bring 12 = .ok (.astore 5, 2) := by decide +kernel
theorem dL_bring_14 : decode bL_bring 14 = .ok (.iconst 1, 1) := by decide +kernel
theorem dL_bring_15 : decode bL_bring 15 = .ok (.ireturn, 1) := by decide +kernel
theorem dL_bring_16 : decode bL_bring 16 = .ok (.astore 5, 2) := by decide +kernel
theorem dL_bring_18 : decode bL_bring 18 = .ok (.iconst 2, 1) := by decide +kernel
theorem dL_bring_19 : decode bL_bring 19 = .ok (.ireturn, 1) := by decide +kernel
theorem dL_bring_20 : decode bL_bring 20 = .ok (.iconst 0, 1) := by decide +kernel
theorem dL_bring_21 : decode bL_bring 21 = .ok (.ireturn, 1) := by decide +kernel
theorem dL_cut_0 : decode bL_cut 0 = .ok (.aload_n 0, 1) := by decide +kernel
theorem dL_cut_1 : decode bL_cut 1 = .ok (.iload_n 1, 1) := by decide +kernel
theorem dL_cut_2 : decode bL_cut 2 = .ok (.iload_n 2, 1) := by decide +kernel
theorem dL_cut_3 : decode bL_cut 3 = .ok (.iload_n 3, 1) := by decide +kernel
theorem dL_cut_4 : decode bL_cut 4 = .ok (.iload 4, 2) := by decide +kernel
theorem dL_cut_6 : decode bL_cut 6 = .ok (.invokevirtual 55, 3) := by decide +kernel
theorem dL_cut_9 : decode bL_cut 9 = .ok (.goto 7, 3) := by decide +kernel
theorem dL_cut_12 : decode bL_cut 12 = .ok (.astore 5, 2) := by decide +kernel
theorem dL_cut_14 : decode bL_cut 14 = .ok (.iconst 1, 1) := by decide +kernel
theorem dL_cut_15 : decode bL_cut 15 = .ok (.ireturn, 1) := by decide +kernel
theorem dL_cut_16 : decode bL_cut 16 = .ok (.iconst 0, 1) := by decide +kernel
theorem dL_cut_17 : decode bL_cut 17 = .ok (.ireturn, 1) := by decide +kernel
theorem dL_compare_0 : decode bL_compare 0 = .ok (.aload 4, 2) := by decide +kernel
theorem dL_compare_2 : decode bL_compare 2 = .ok (.iconst 0, 1) := by decide +kernel
theorem dL_compare_3 : decode bL_compare 3 = .ok (.aload_n 0, 1) := by decide +kernel
theorem dL_compare_4 : decode bL_compare 4 = .ok (.iload_n 1, 1) := by decide +kernel
theorem dL_compare_5 : decode bL_compare 5 = .ok (.iload_n 2, 1) := by decide +kernel
theorem dL_compare_6 : decode bL_compare 6 = .ok (.iload_n 3, 1) := by decide +kernel
theorem dL_compare_7 : decode bL_compare 7 = .ok (.invokevirtual 59, 3) := by decide +kernel
theorem dL_compare_10 : decode bL_compare 10 = .ok (.i2l, 1) := by decide +kernel
theorem dL_compare_11 : decode bL_compare 11 = .ok (.lastore, 1) := by decide +kernel
theorem dL_compare_12 : decode bL_compare 12 = .ok (.goto 7, 3) := by decide +kernel
theorem dL_compare_15 : decode bL_compare 15 = .ok (.astore 5, 2) := by decide +kernel
theorem dL_compare_17 : decode bL_compare 17 = .ok (.iconst 1, 1) := by decide +kernel
theorem dL_compare_18 : decode bL_compare 18 = .ok (.ireturn, 1) := by decide +kernel
theorem dL_compare_19 : decode bL_compare 19 = .ok (.iconst 0, 1) := by decide +kernel
theorem dL_compare_20 : decode bL_compare 20 = .ok (.ireturn, 1) := by decide +kernel
theorem dL_same_0 : decode bL_same 0 = .ok (.aload 4, 2) := by decide +kernel
theorem dL_same_2 : decode bL_same 2 = .ok (.iconst 0, 1) := by decide +kernel
theorem dL_same_3 : decode bL_same 3 = .ok (.aload_n 0, 1) := by decide +kernel
theorem dL_same_4 : decode bL_same 4 = .ok (.iload_n 1, 1) := by decide +kernel
theorem dL_same_5 : decode bL_same 5 = .ok (.iload_n 2, 1) := by decide +kernel
theorem dL_same_6 : decode bL_same 6 = .ok (.iload_n 3, 1) := by decide +kernel
theorem dL_same_7 : decode bL_same 7 = .ok (.invokevirtual 63, 3) := by decide +kernel
theorem dL_same_10 : decode bL_same 10 = .ok (.ifCond .eq 7, 3) := by decide +kernel
theorem dL_same_13 : decode bL_same 13 = .ok (.lconst 1, 1) := by decide +kernel
theorem dL_same_14 : decode bL_same 14 = .ok (.goto 4, 3) := by decide +kernel
theorem dL_same_17 : decode bL_same 17 = .ok (.lconst 0, 1) := by decide +kernel
theorem dL_same_18 : decode bL_same 18 = .ok (.lastore, 1) := by decide +kernel
theorem dL_same_19 : decode bL_same 19 = .ok (.goto 7, 3) := by decide +kernel
theorem dL_same_22 : decode bL_same 22 = .ok (.astore 5, 2) := by decide +kernel
theorem dL_same_24 : decode bL_same 24 = .ok (.iconst 1, 1) := by decide +kernel
theorem dL_same_25 : decode bL_same 25 = .ok (.ireturn, 1) := by decide +kernel
theorem dL_same_26 : decode bL_same 26 = .ok (.iconst 0, 1) := by decide +kernel
theorem dL_same_27 : decode bL_same 27 = .ok (.ireturn, 1) := by decide +kernel
theorem dL_all_0 : decode bL_all 0 = .ok (.aload_n 3, 1) := by decide +kernel
theorem dL_all_1 : decode bL_all 1 = .ok (.iconst 0, 1) := by decide +kernel
theorem dL_all_2 : decode bL_all 2 = .ok (.aload_n 0, 1) := by decide +kernel
theorem dL_all_3 : decode bL_all 3 = .ok (.iload_n 1, 1) := by decide +kernel
theorem dL_all_4 : decode bL_all 4 = .ok (.iload_n 2, 1) := by decide +kernel
theorem dL_all_5 : decode bL_all 5 = .ok (.invokevirtual 67, 3) := by decide +kernel
theorem dL_all_8 : decode bL_all 8 = .ok (.i2l, 1) := by decide +kernel
theorem dL_all_9 : decode bL_all 9 = .ok (.lastore, 1) := by decide +kernel
theorem dL_all_10 : decode bL_all 10 = .ok (.goto 11, 3) := by decide +kernel
theorem dL_all_13 : decode bL_all 13 = .ok (.astore 4, 2) := by decide +kernel
theorem dL_all_15 : decode bL_all 15 = .ok (.iconst 1, 1) := by decide +kernel
theorem dL_all_16 : decode bL_all 16 = .ok (.ireturn, 1) := by decide +kernel
theorem dL_all_17 : decode bL_all 17 = .ok (.astore 4, 2) := by decide +kernel
theorem dL_all_19 : decode bL_all 19 = .ok (.iconst 2, 1) := by decide +kernel
theorem dL_all_20 : decode bL_all 20 = .ok (.ireturn, 1) := by decide +kernel
theorem dL_all_21 : decode bL_all 21 = .ok (.iconst 0, 1) := by decide +kernel
theorem dL_all_22 : decode bL_all 22 = .ok (.ireturn, 1) := by decide +kernel
theorem dL_edge_0 : decode bL_edge 0 = .ok (.aload_n 3, 1) := by decide +kernel
theorem dL_edge_1 : decode bL_edge 1 = .ok (.iconst 0, 1) := by decide +kernel
theorem dL_edge_2 : decode bL_edge 2 = .ok (.aload_n 0, 1) := by decide +kernel
theorem dL_edge_3 : decode bL_edge 3 = .ok (.iload_n 1, 1) := by decide +kernel
theorem dL_edge_4 : decode bL_edge 4 = .ok (.iload_n 2, 1) := by decide +kernel
theorem dL_edge_5 : decode bL_edge 5 = .ok (.invokevirtual 70, 3) := by decide +kernel
theorem dL_edge_8 : decode bL_edge 8 = .ok (.i2l, 1) := by decide +kernel
theorem dL_edge_9 : decode bL_edge 9 = .ok (.lastore, 1) := by decide +kernel
theorem dL_edge_10 : decode bL_edge 10 = .ok (.goto 7, 3) := by decide +kernel
theorem dL_edge_13 : decode bL_edge 13 = .ok (.astore 4, 2) := by decide +kernel
theorem dL_edge_15 : decode bL_edge 15 = .ok (.iconst 1, 1) := by decide +kernel
theorem dL_edge_16 : decode bL_edge 16 = .ok (.ireturn, 1) := by decide +kernel
theorem dL_edge_17 : decode bL_edge 17 = .ok (.iconst 0, 1) := by decide +kernel
theorem dL_edge_18 : decode bL_edge 18 = .ok (.ireturn, 1) := by decide +kernel
