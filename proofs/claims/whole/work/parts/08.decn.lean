theorem dN_init_0 : decode bN_init 0 = .ok (.aload_n 0, 1) := by decide +kernel
theorem dN_init_1 : decode bN_init 1 = .ok (.invokespecial 1, 3) := by decide +kernel
theorem dN_init_4 : decode bN_init 4 = .ok (.aload_n 0, 1) := by decide +kernel
theorem dN_init_5 : decode bN_init 5 = .ok (.bipush 16, 2) := by decide +kernel
theorem dN_init_7 : decode bN_init 7 = .ok (.anewarray 9, 3) := by decide +kernel
theorem dN_init_10 : decode bN_init 10 = .ok (.putfield 11, 3) := by decide +kernel
theorem dN_init_13 : decode bN_init 13 = .ok (.aload_n 0, 1) := by decide +kernel
theorem dN_init_14 : decode bN_init 14 = .ok (.new 9, 3) := by decide +kernel
theorem dN_init_17 : decode bN_init 17 = .ok (.dup, 1) := by decide +kernel
theorem dN_init_18 : decode bN_init 18 = .ok (.invokespecial 15, 3) := by decide +kernel
theorem dN_init_21 : decode bN_init 21 = .ok (.putfield 16, 3) := by decide +kernel
theorem dN_init_24 : decode bN_init 24 = .ok (.iconst 0, 1) := by decide +kernel
theorem dN_init_25 : decode bN_init 25 = .ok (.istore_n 1, 1) := by decide +kernel
theorem dN_init_26 : decode bN_init 26 = .ok (.iload_n 1, 1) := by decide +kernel
theorem dN_init_27 : decode bN_init 27 = .ok (.bipush 16, 2) := by decide +kernel
theorem dN_init_29 : decode bN_init 29 = .ok (.if_icmp .ge 22, 3) := by decide +kernel
theorem dN_init_32 : decode bN_init 32 = .ok (.aload_n 0, 1) := by decide +kernel
theorem dN_init_33 : decode bN_init 33 = .ok (.getfield 11, 3) := by decide +kernel
theorem dN_init_36 : decode bN_init 36 = .ok (.iload_n 1, 1) := by decide +kernel
theorem dN_init_37 : decode bN_init 37 = .ok (.new 9, 3) := by decide +kernel
theorem dN_init_40 : decode bN_init 40 = .ok (.dup, 1) := by decide +kernel
theorem dN_init_41 : decode bN_init 41 = .ok (.invokespecial 15, 3) := by decide +kernel
theorem dN_init_44 : decode bN_init 44 = .ok (.aastore, 1) := by decide +kernel
theorem dN_init_45 : decode bN_init 45 = .ok (.iinc 1 1, 3) := by decide +kernel
theorem dN_init_48 : decode bN_init 48 = .ok (.goto (-22), 3) := by decide +kernel
theorem dN_init_51 : decode bN_init 51 = .ok (.return_, 1) := by decide +kernel
theorem dN_fill_0 : decode bN_fill 0 = .ok (.iload_n 1, 1) := by decide +kernel
theorem dN_fill_1 : decode bN_fill 1 = .ok (.invokestatic 20, 3) := by decide +kernel
theorem dN_fill_4 : decode bN_fill 4 = .ok (.iload_n 2, 1) := by decide +kernel
theorem dN_fill_5 : decode bN_fill 5 = .ok (.invokestatic 24, 3) := by decide +kernel
theorem dN_fill_8 : decode bN_fill 8 = .ok (.iload_n 3, 1) := by decide +kernel
theorem dN_fill_9 : decode bN_fill 9 = .ok (.invokestatic 27, 3) := by decide +kernel
theorem dN_fill_12 : decode bN_fill 12 = .ok (.aload_n 0, 1) := by decide +kernel
theorem dN_fill_13 : decode bN_fill 13 = .ok (.getfield 11, 3) := by decide +kernel
theorem dN_fill_16 : decode bN_fill 16 = .ok (.iload_n 1, 1) := by decide +kernel
theorem dN_fill_17 : decode bN_fill 17 = .ok (.aaload, 1) := by decide +kernel
theorem dN_fill_18 : decode bN_fill 18 = .ok (.iload_n 2, 1) := by decide +kernel
theorem dN_fill_19 : decode bN_fill 19 = .ok (.iload_n 3, 1) := by decide +kernel
theorem dN_fill_20 : decode bN_fill 20 = .ok (.invokevirtual 30, 3) := by decide +kernel
theorem dN_fill_23 : decode bN_fill 23 = .ok (.return_, 1) := by decide +kernel
theorem dN_put_0 : decode bN_put 0 = .ok (.aload_n 0, 1) := by decide +kernel
theorem dN_put_1 : decode bN_put 1 = .ok (.iload_n 1, 1) := by decide +kernel
theorem dN_put_2 : decode bN_put 2 = .ok (.iload_n 2, 1) := by decide +kernel
theorem dN_put_3 : decode bN_put 3 = .ok (.invokevirtual 34, 3) := by decide +kernel
theorem dN_put_6 : decode bN_put 6 = .ok (.iload_n 3, 1) := by decide +kernel
theorem dN_put_7 : decode bN_put 7 = .ok (.invokestatic 27, 3) := by decide +kernel
theorem dN_put_10 : decode bN_put 10 = .ok (.aload_n 0, 1) := by decide +kernel
theorem dN_put_11 : decode bN_put 11 = .ok (.getfield 11, 3) := by decide +kernel
theorem dN_put_14 : decode bN_put 14 = .ok (.iload_n 1, 1) := by decide +kernel
theorem dN_put_15 : decode bN_put 15 = .ok (.aaload, 1) := by decide +kernel
theorem dN_put_16 : decode bN_put 16 = .ok (.getfield 37, 3) := by decide +kernel
theorem dN_put_19 : decode bN_put 19 = .ok (.iload_n 2, 1) := by decide +kernel
theorem dN_put_20 : decode bN_put 20 = .ok (.iload_n 3, 1) := by decide +kernel
theorem dN_put_21 : decode bN_put 21 = .ok (.iastore, 1) := by decide +kernel
theorem dN_put_22 : decode bN_put 22 = .ok (.return_, 1) := by decide +kernel
theorem dN_get_0 : decode bN_get 0 = .ok (.aload_n 0, 1) := by decide +kernel
theorem dN_get_1 : decode bN_get 1 = .ok (.iload_n 1, 1) := by decide +kernel
theorem dN_get_2 : decode bN_get 2 = .ok (.iload_n 2, 1) := by decide +kernel
theorem dN_get_3 : decode bN_get 3 = .ok (.invokevirtual 34, 3) := by decide +kernel
theorem dN_get_6 : decode bN_get 6 = .ok (.aload_n 0, 1) := by decide +kernel
theorem dN_get_7 : decode bN_get 7 = .ok (.getfield 11, 3) := by decide +kernel
theorem dN_get_10 : decode bN_get 10 = .ok (.iload_n 1, 1) := by decide +kernel
theorem dN_get_11 : decode bN_get 11 = .ok (.aaload, 1) := by decide +kernel
theorem dN_get_12 : decode bN_get 12 = .ok (.getfield 37, 3) := by decide +kernel
theorem dN_get_15 : decode bN_get 15 = .ok (.iload_n 2, 1) := by decide +kernel
theorem dN_get_16 : decode bN_get 16 = .ok (.iaload, 1) := by decide +kernel
theorem dN_get_17 : decode bN_get 17 = .ok (.ireturn, 1) := by decide +kernel
theorem dN_length_0 : decode bN_length 0 = .ok (.iload_n 1, 1) := by decide +kernel
theorem dN_length_1 : decode bN_length 1 = .ok (.invokestatic 20, 3) := by decide +kernel
theorem dN_length_4 : decode bN_length 4 = .ok (.aload_n 0, 1) := by decide +kernel
theorem dN_length_5 : decode bN_length 5 = .ok (.getfield 11, 3) := by decide +kernel
theorem dN_length_8 : decode bN_length 8 = .ok (.iload_n 1, 1) := by decide +kernel
theorem dN_length_9 : decode bN_length 9 = .ok (.aaload, 1) := by decide +kernel
theorem dN_length_10 : decode bN_length 10 = .ok (.getfield 41, 3) := by decide +kernel
theorem dN_length_13 : decode bN_length 13 = .ok (.ireturn, 1) := by decide +kernel
theorem dN_number_0 : decode bN_number 0 = .ok (.iload_n 1, 1) := by decide +kernel
theorem dN_number_1 : decode bN_number 1 = .ok (.invokestatic 20, 3) := by decide +kernel
theorem dN_number_4 : decode bN_number 4 = .ok (.iload_n 2, 1) := by decide +kernel
theorem dN_number_5 : decode bN_number 5 = .ok (.invokestatic 24, 3) := by decide +kernel
theorem dN_number_8 : decode bN_number 8 = .ok (.aload_n 0, 1) := by decide +kernel
theorem dN_number_9 : decode bN_number 9 = .ok (.getfield 11, 3) := by decide +kernel
theorem dN_number_12 : decode bN_number 12 = .ok (.iload_n 1, 1) := by decide +kernel
theorem dN_number_13 : decode bN_number 13 = .ok (.aaload, 1) := by decide +kernel
theorem dN_number_14 : decode bN_number 14 = .ok (.iload_n 2, 1) := by decide +kernel
theorem dN_number_15 : decode bN_number 15 = .ok (.lload_n 3, 1) := by decide +kernel
theorem dN_number_16 : decode bN_number 16 = .ok (.invokevirtual 45, 3) := by decide +kernel
theorem dN_number_19 : decode bN_number 19 = .ok (.return_, 1) := by decide +kernel
theorem dN_numberOf_0 : decode bN_numberOf 0 = .ok (.iload_n 1, 1) := by decide +kernel
theorem dN_numberOf_1 : decode bN_numberOf 1 = .ok (.invokestatic 20, 3) := by decide +kernel
theorem dN_numberOf_4 : decode bN_numberOf 4 = .ok (.aload_n 0, 1) := by decide +kernel
theorem dN_numberOf_5 : decode bN_numberOf 5 = .ok (.getfield 11, 3) := by decide +kernel
theorem dN_numberOf_8 : decode bN_numberOf 8 = .ok (.iload_n 1, 1) := by decide +kernel
theorem dN_numberOf_9 : decode bN_numberOf 9 = .ok (.aaload, 1) := by decide +kernel
theorem dN_numberOf_10 : decode bN_numberOf 10 = .ok (.invokevirtual 49, 3) := by decide +kernel
theorem dN_numberOf_13 : decode bN_numberOf 13 = .ok (.ifCond .ne 13, 3) := by decide +kernel
theorem dN_numberOf_16 : decode bN_numberOf 16 = .ok (.new 53, 3) := by decide +kernel
theorem dN_numberOf_19 : decode bN_numberOf 19 = .ok (.dup, 1) := by decide +kernel
theorem dN_numberOf_20 : decode bN_numberOf 20 = .ok (.ldc 55, 2) := by decide +kernel
theorem dN_numberOf_22 : decode bN_numberOf 22 = .ok (.invokespecial 57, 3) := by decide +kernel
theorem dN_numberOf_25 : decode bN_numberOf 25 = .ok (.athrow, 1) := by decide +kernel
theorem dN_numberOf_26 : decode bN_numberOf 26 = .ok (.aload_n 0, 1) := by decide +kernel
theorem dN_numberOf_27 : decode bN_numberOf 27 = .ok (.getfield 11, 3) := by decide +kernel
theorem dN_numberOf_30 : decode bN_numberOf 30 = .ok (.iload_n 1, 1) := by decide +kernel
theorem dN_numberOf_31 : decode bN_numberOf 31 = .ok (.aaload, 1) := by decide +kernel
theorem dN_numberOf_32 : decode bN_numberOf 32 = .ok (.iload_n 2, 1) := by decide +kernel
theorem dN_numberOf_33 : decode bN_numberOf 33 = .ok (.invokevirtual 60, 3) := by decide +kernel
theorem dN_numberOf_36 : decode bN_numberOf 36 = .ok (.lreturn, 1) := by decide +kernel
theorem dN_operate_0 : decode bN_operate 0 = .ok (.iload_n 3, 1) := by decide +kernel
theorem dN_operate_1 : decode bN_operate 1 = .ok (.invokestatic 20, 3) := by decide +kernel
theorem dN_operate_4 : decode bN_operate 4 = .ok (.iload 4, 2) := by decide +kernel
theorem dN_operate_6 : decode bN_operate 6 = .ok (.invokestatic 20, 3) := by decide +kernel
theorem dN_operate_9 : decode bN_operate 9 = .ok (.iload 5, 2) := by decide +kernel
theorem dN_operate_11 : decode bN_operate 11 = .ok (.invokestatic 20, 3) := by decide +kernel
theorem dN_operate_14 : decode bN_operate 14 = .ok (.iload_n 1, 1) := by decide +kernel
theorem dN_operate_15 : decode bN_operate 15 = .ok (.ifCond .lt 9, 3) := by decide +kernel
theorem dN_operate_18 : decode bN_operate 18 = .ok (.iload_n 1, 1) := by decide +kernel
theorem dN_operate_19 : decode bN_operate 19 = .ok (.bipush 13, 2) := by decide +kernel
theorem dN_operate_21 : decode bN_operate 21 = .ok (.if_icmp .le 13, 3) := by decide +kernel
theorem dN_operate_24 : decode bN_operate 24 = .ok (.new 64, 3) := by decide +kernel
theorem dN_operate_27 : decode bN_operate 27 = .ok (.dup, 1) := by decide +kernel
theorem dN_operate_28 : decode bN_operate 28 = .ok (.ldc 66, 2) := by decide +kernel
theorem dN_operate_30 : decode bN_operate 30 = .ok (.invokespecial 68, 3) := by decide +kernel
theorem dN_operate_33 : decode bN_operate 33 = .ok (.athrow, 1) := by decide +kernel
theorem dN_operate_34 : decode bN_operate 34 = .ok (.iload_n 1, 1) := by decide +kernel
theorem dN_operate_35 : decode bN_operate 35 = .ok (.bipush 6, 2) := by decide +kernel
theorem dN_operate_37 : decode bN_operate 37 = .ok (.if_icmp .gt 24, 3) := by decide +kernel
theorem dN_operate_40 : decode bN_operate 40 = .ok (.aload_n 0, 1) := by decide +kernel
theorem dN_operate_41 : decode bN_operate 41 = .ok (.iload_n 1, 1) := by decide +kernel
theorem dN_operate_42 : decode bN_operate 42 = .ok (.aload_n 0, 1) := by decide +kernel
theorem dN_operate_43 : decode bN_operate 43 = .ok (.getfield 11, 3) := by decide +kernel
theorem dN_operate_46 : decode bN_operate 46 = .ok (.iload_n 3, 1) := by decide +kernel
theorem dN_operate_47 : decode bN_operate 47 = .ok (.aaload, 1) := by decide +kernel
theorem dN_operate_48 : decode bN_operate 48 = .ok (.aload_n 0, 1) := by decide +kernel
theorem dN_operate_49 : decode bN_operate 49 = .ok (.getfield 11, 3) := by decide +kernel
theorem dN_operate_52 : decode bN_operate 52 = .ok (.iload 4, 2) := by decide +kernel
theorem dN_operate_54 : decode bN_operate 54 = .ok (.aaload, 1) := by decide +kernel
theorem dN_operate_55 : decode bN_operate 55 = .ok (.invokevirtual 69, 3) := by decide +kernel
theorem dN_operate_58 : decode bN_operate 58 = .ok (.goto 48, 3) := by decide +kernel
theorem dN_operate_61 : decode bN_operate 61 = .ok (.iload_n 1, 1) := by decide +kernel
theorem dN_operate_62 : decode bN_operate 62 = .ok (.bipush 13, 2) := by decide +kernel
theorem dN_operate_64 : decode bN_operate 64 = .ok (.if_icmp .ne 23, 3) := by decide +kernel
theorem dN_operate_67 : decode bN_operate 67 = .ok (.aload_n 0, 1) := by decide +kernel
theorem dN_operate_68 : decode bN_operate 68 = .ok (.aload_n 0, 1) := by decide +kernel
theorem dN_operate_69 : decode bN_operate 69 = .ok (.getfield 11, 3) := by decide +kernel
theorem dN_operate_72 : decode bN_operate 72 = .ok (.iload_n 3, 1) := by decide +kernel
theorem dN_operate_73 : decode bN_operate 73 = .ok (.aaload, 1) := by decide +kernel
theorem dN_operate_74 : decode bN_operate 74 = .ok (.aload_n 0, 1) := by decide +kernel
theorem dN_operate_75 : decode bN_operate 75 = .ok (.getfield 11, 3) := by decide +kernel
theorem dN_operate_78 : decode bN_operate 78 = .ok (.iload 4, 2) := by decide +kernel
theorem dN_operate_80 : decode bN_operate 80 = .ok (.aaload, 1) := by decide +kernel
theorem dN_operate_81 : decode bN_operate 81 = .ok (.invokevirtual 73, 3) := by decide +kernel
theorem dN_operate_84 : decode bN_operate 84 = .ok (.goto 22, 3) := by decide +kernel
theorem dN_operate_87 : decode bN_operate 87 = .ok (.aload_n 0, 1) := by decide +kernel
theorem dN_operate_88 : decode bN_operate 88 = .ok (.iload_n 1, 1) := by decide +kernel
theorem dN_operate_89 : decode bN_operate 89 = .ok (.iload_n 2, 1) := by decide +kernel
theorem dN_operate_90 : decode bN_operate 90 = .ok (.aload_n 0, 1) := by decide +kernel
theorem dN_operate_91 : decode bN_operate 91 = .ok (.getfield 11, 3) := by decide +kernel
theorem dN_operate_94 : decode bN_operate 94 = .ok (.iload_n 3, 1) := by decide +kernel
theorem dN_operate_95 : decode bN_operate 95 = .ok (.aaload, 1) := by decide +kernel
theorem dN_operate_96 : decode bN_operate 96 = .ok (.aload_n 0, 1) := by decide +kernel
theorem dN_operate_97 : decode bN_operate 97 = .ok (.getfield 11, 3) := by decide +kernel
theorem dN_operate_100 : decode bN_operate 100 = .ok (.iload 4, 2) := by decide +kernel
theorem dN_operate_102 : decode bN_operate 102 = .ok (.aaload, 1) := by decide +kernel
theorem dN_operate_103 : decode bN_operate 103 = .ok (.invokevirtual 77, 3) := by decide +kernel
theorem dN_operate_106 : decode bN_operate 106 = .ok (.aload_n 0, 1) := by decide +kernel
theorem dN_operate_107 : decode bN_operate 107 = .ok (.getfield 11, 3) := by decide +kernel
theorem dN_operate_110 : decode bN_operate 110 = .ok (.iload 5, 2) := by decide +kernel
theorem dN_operate_112 : decode bN_operate 112 = .ok (.aaload, 1) := by decide +kernel
theorem dN_operate_113 : decode bN_operate 113 = .ok (.aload_n 0, 1) := by decide +kernel
theorem dN_operate_114 : decode bN_operate 114 = .ok (.getfield 16, 3) := by decide +kernel
theorem dN_operate_117 : decode bN_operate 117 = .ok (.invokevirtual 81, 3) := by decide +kernel
theorem dN_operate_120 : decode bN_operate 120 = .ok (.return_, 1) := by decide +kernel
theorem dN_change_0 : decode bN_change 0 = .ok (.iload_n 2, 1) := by decide +kernel
theorem dN_change_1 : decode bN_change 1 = .ok (.invokestatic 20, 3) := by decide +kernel
theorem dN_change_4 : decode bN_change 4 = .ok (.iload_n 3, 1) := by decide +kernel
theorem dN_change_5 : decode bN_change 5 = .ok (.invokestatic 20, 3) := by decide +kernel
theorem dN_change_8 : decode bN_change 8 = .ok (.iload_n 1, 1) := by decide +kernel
theorem dN_change_9 : decode bN_change 9 = .ok (.ifCond .lt 9, 3) := by decide +kernel
theorem dN_change_12 : decode bN_change 12 = .ok (.iload_n 1, 1) := by decide +kernel
theorem dN_change_13 : decode bN_change 13 = .ok (.bipush 6, 2) := by decide +kernel
theorem dN_change_15 : decode bN_change 15 = .ok (.if_icmp .le 13, 3) := by decide +kernel
theorem dN_change_18 : decode bN_change 18 = .ok (.new 64, 3) := by decide +kernel
theorem dN_change_21 : decode bN_change 21 = .ok (.dup, 1) := by decide +kernel
theorem dN_change_22 : decode bN_change 22 = .ok (.ldc 85, 2) := by decide +kernel
theorem dN_change_24 : decode bN_change 24 = .ok (.invokespecial 68, 3) := by decide +kernel
theorem dN_change_27 : decode bN_change 27 = .ok (.athrow, 1) := by decide +kernel
theorem dN_change_28 : decode bN_change 28 = .ok (.iload_n 1, 1) := by decide +kernel
theorem dN_change_29 : decode bN_change 29 = .ok (.iconst 4, 1) := by decide +kernel
theorem dN_change_30 : decode bN_change 30 = .ok (.if_icmp .gt 17, 3) := by decide +kernel
theorem dN_change_33 : decode bN_change 33 = .ok (.aload_n 0, 1) := by decide +kernel
theorem dN_change_34 : decode bN_change 34 = .ok (.iload_n 1, 1) := by decide +kernel
theorem dN_change_35 : decode bN_change 35 = .ok (.aload_n 0, 1) := by decide +kernel
theorem dN_change_36 : decode bN_change 36 = .ok (.getfield 11, 3) := by decide +kernel
theorem dN_change_39 : decode bN_change 39 = .ok (.iload_n 2, 1) := by decide +kernel
theorem dN_change_40 : decode bN_change 40 = .ok (.aaload, 1) := by decide +kernel
theorem dN_change_41 : decode bN_change 41 = .ok (.invokevirtual 87, 3) := by decide +kernel
theorem dN_change_44 : decode bN_change 44 = .ok (.goto 14, 3) := by decide +kernel
theorem dN_change_47 : decode bN_change 47 = .ok (.aload_n 0, 1) := by decide +kernel
theorem dN_change_48 : decode bN_change 48 = .ok (.iload_n 1, 1) := by decide +kernel
theorem dN_change_49 : decode bN_change 49 = .ok (.aload_n 0, 1) := by decide +kernel
theorem dN_change_50 : decode bN_change 50 = .ok (.getfield 11, 3) := by decide +kernel
theorem dN_change_53 : decode bN_change 53 = .ok (.iload_n 2, 1) := by decide +kernel
theorem dN_change_54 : decode bN_change 54 = .ok (.aaload, 1) := by decide +kernel
theorem dN_change_55 : decode bN_change 55 = .ok (.invokevirtual 91, 3) := by decide +kernel
theorem dN_change_58 : decode bN_change 58 = .ok (.aload_n 0, 1) := by decide +kernel
theorem dN_change_59 : decode bN_change 59 = .ok (.getfield 11, 3) := by decide +kernel
theorem dN_change_62 : decode bN_change 62 = .ok (.iload_n 3, 1) := by decide +kernel
theorem dN_change_63 : decode bN_change 63 = .ok (.aaload, 1) := by decide +kernel
theorem dN_change_64 : decode bN_change 64 = .ok (.aload_n 0, 1) := by decide +kernel
theorem dN_change_65 : decode bN_change 65 = .ok (.getfield 16, 3) := by decide +kernel
theorem dN_change_68 : decode bN_change 68 = .ok (.invokevirtual 81, 3) := by decide +kernel
theorem dN_change_71 : decode bN_change 71 = .ok (.return_, 1) := by decide +kernel
theorem dN_shift_0 : decode bN_shift 0 = .ok (.iload 4, 2) := by decide +kernel
theorem dN_shift_2 : decode bN_shift 2 = .ok (.invokestatic 20, 3) := by decide +kernel
theorem dN_shift_5 : decode bN_shift 5 = .ok (.iload 5, 2) := by decide +kernel
theorem dN_shift_7 : decode bN_shift 7 = .ok (.invokestatic 20, 3) := by decide +kernel
theorem dN_shift_10 : decode bN_shift 10 = .ok (.iload_n 3, 1) := by decide +kernel
theorem dN_shift_11 : decode bN_shift 11 = .ok (.invokestatic 27, 3) := by decide +kernel
theorem dN_shift_14 : decode bN_shift 14 = .ok (.iload_n 1, 1) := by decide +kernel
theorem dN_shift_15 : decode bN_shift 15 = .ok (.ifCond .lt 8, 3) := by decide +kernel
theorem dN_shift_18 : decode bN_shift 18 = .ok (.iload_n 1, 1) := by decide +kernel
theorem dN_shift_19 : decode bN_shift 19 = .ok (.iconst 4, 1) := by decide +kernel
theorem dN_shift_20 : decode bN_shift 20 = .ok (.if_icmp .le 13, 3) := by decide +kernel
theorem dN_shift_23 : decode bN_shift 23 = .ok (.new 64, 3) := by decide +kernel
theorem dN_shift_26 : decode bN_shift 26 = .ok (.dup, 1) := by decide +kernel
theorem dN_shift_27 : decode bN_shift 27 = .ok (.ldc 94, 2) := by decide +kernel
theorem dN_shift_29 : decode bN_shift 29 = .ok (.invokespecial 68, 3) := by decide +kernel
theorem dN_shift_32 : decode bN_shift 32 = .ok (.athrow, 1) := by decide +kernel
theorem dN_shift_33 : decode bN_shift 33 = .ok (.iload_n 2, 1) := by decide +kernel
theorem dN_shift_34 : decode bN_shift 34 = .ok (.sipush (-1000), 3) := by decide +kernel
theorem dN_shift_37 : decode bN_shift 37 = .ok (.if_icmp .lt 10, 3) := by decide +kernel
theorem dN_shift_40 : decode bN_shift 40 = .ok (.iload_n 2, 1) := by decide +kernel
theorem dN_shift_41 : decode bN_shift 41 = .ok (.sipush 1000, 3) := by decide +kernel
theorem dN_shift_44 : decode bN_shift 44 = .ok (.if_icmp .le 13, 3) := by decide +kernel
theorem dN_shift_47 : decode bN_shift 47 = .ok (.new 64, 3) := by decide +kernel
theorem dN_shift_50 : decode bN_shift 50 = .ok (.dup, 1) := by decide +kernel
theorem dN_shift_51 : decode bN_shift 51 = .ok (.ldc 96, 2) := by decide +kernel
theorem dN_shift_53 : decode bN_shift 53 = .ok (.invokespecial 68, 3) := by decide +kernel
theorem dN_shift_56 : decode bN_shift 56 = .ok (.athrow, 1) := by decide +kernel
theorem dN_shift_57 : decode bN_shift 57 = .ok (.aload_n 0, 1) := by decide +kernel
theorem dN_shift_58 : decode bN_shift 58 = .ok (.iload_n 1, 1) := by decide +kernel
theorem dN_shift_59 : decode bN_shift 59 = .ok (.iload_n 2, 1) := by decide +kernel
theorem dN_shift_60 : decode bN_shift 60 = .ok (.iload_n 3, 1) := by decide +kernel
theorem dN_shift_61 : decode bN_shift 61 = .ok (.aload_n 0, 1) := by decide +kernel
theorem dN_shift_62 : decode bN_shift 62 = .ok (.getfield 11, 3) := by decide +kernel
theorem dN_shift_65 : decode bN_shift 65 = .ok (.iload 4, 2) := by decide +kernel
theorem dN_shift_67 : decode bN_shift 67 = .ok (.aaload, 1) := by decide +kernel
theorem dN_shift_68 : decode bN_shift 68 = .ok (.invokevirtual 98, 3) := by decide +kernel
theorem dN_shift_71 : decode bN_shift 71 = .ok (.aload_n 0, 1) := by decide +kernel
theorem dN_shift_72 : decode bN_shift 72 = .ok (.getfield 11, 3) := by decide +kernel
theorem dN_shift_75 : decode bN_shift 75 = .ok (.iload 5, 2) := by decide +kernel
theorem dN_shift_77 : decode bN_shift 77 = .ok (.aaload, 1) := by decide +kernel
theorem dN_shift_78 : decode bN_shift 78 = .ok (.aload_n 0, 1) := by decide +kernel
theorem dN_shift_79 : decode bN_shift 79 = .ok (.getfield 16, 3) := by decide +kernel
theorem dN_shift_82 : decode bN_shift 82 = .ok (.invokevirtual 81, 3) := by decide +kernel
theorem dN_shift_85 : decode bN_shift 85 = .ok (.return_, 1) := by decide +kernel
theorem dN_bring_0 : decode bN_bring 0 = .ok (.iload_n 3, 1) := by decide +kernel
theorem dN_bring_1 : decode bN_bring 1 = .ok (.invokestatic 20, 3) := by decide +kernel
theorem dN_bring_4 : decode bN_bring 4 = .ok (.iload 4, 2) := by decide +kernel
theorem dN_bring_6 : decode bN_bring 6 = .ok (.invokestatic 20, 3) := by decide +kernel
theorem dN_bring_9 : decode bN_bring 9 = .ok (.iload_n 2, 1) := by decide +kernel
theorem dN_bring_10 : decode bN_bring 10 = .ok (.invokestatic 24, 3) := by decide +kernel
theorem dN_bring_13 : decode bN_bring 13 = .ok (.aload_n 0, 1) := by decide +kernel
theorem dN_bring_14 : decode bN_bring 14 = .ok (.getfield 11, 3) := by decide +kernel
theorem dN_bring_17 : decode bN_bring 17 = .ok (.iload_n 3, 1) := by decide +kernel
theorem dN_bring_18 : decode bN_bring 18 = .ok (.aaload, 1) := by decide +kernel
theorem dN_bring_19 : decode bN_bring 19 = .ok (.astore 5, 2) := by decide +kernel
theorem dN_bring_21 : decode bN_bring 21 = .ok (.aload_n 0, 1) := by decide +kernel
theorem dN_bring_22 : decode bN_bring 22 = .ok (.getfield 16, 3) := by decide +kernel
theorem dN_bring_25 : decode bN_bring 25 = .ok (.iload_n 2, 1) := by decide +kernel
theorem dN_bring_26 : decode bN_bring 26 = .ok (.iload_n 1, 1) := by decide +kernel
theorem dN_bring_27 : decode bN_bring 27 = .ok (.ifCond .eq 11, 3) := by decide +kernel
theorem dN_bring_30 : decode bN_bring 30 = .ok (.aload 5, 2) := by decide +kernel
theorem dN_bring_32 : decode bN_bring 32 = .ok (.invokevirtual 102, 3) := by decide +kernel
theorem dN_bring_35 : decode bN_bring 35 = .ok (.goto 4, 3) := by decide +kernel
theorem dN_bring_38 : decode bN_bring 38 = .ok (.iconst 2, 1) := by decide +kernel
theorem dN_bring_39 : decode bN_bring 39 = .ok (.invokevirtual 30, 3) := by decide +kernel
theorem dN_bring_42 : decode bN_bring 42 = .ok (.aload_n 0, 1) := by decide +kernel
theorem dN_bring_43 : decode bN_bring 43 = .ok (.getfield 16, 3) := by decide +kernel
theorem dN_bring_46 : decode bN_bring 46 = .ok (.aload 5, 2) := by decide +kernel
theorem dN_bring_48 : decode bN_bring 48 = .ok (.iconst 0, 1) := by decide +kernel
theorem dN_bring_49 : decode bN_bring 49 = .ok (.iload_n 2, 1) := by decide +kernel
theorem dN_bring_50 : decode bN_bring 50 = .ok (.aload 5, 2) := by decide +kernel
theorem dN_bring_52 : decode bN_bring 52 = .ok (.getfield 41, 3) := by decide +kernel
theorem dN_bring_55 : decode bN_bring 55 = .ok (.invokestatic 106, 3) := by decide +kernel
theorem dN_bring_58 : decode bN_bring 58 = .ok (.iconst 0, 1) := by decide +kernel
theorem dN_bring_59 : decode bN_bring 59 = .ok (.invokevirtual 112, 3) := by decide +kernel
theorem dN_bring_62 : decode bN_bring 62 = .ok (.aload_n 0, 1) := by decide +kernel
theorem dN_bring_63 : decode bN_bring 63 = .ok (.getfield 11, 3) := by decide +kernel
theorem dN_bring_66 : decode bN_bring 66 = .ok (.iload 4, 2) := by decide +kernel
theorem dN_bring_68 : decode bN_bring 68 = .ok (.aaload, 1) := by decide +kernel
theorem dN_bring_69 : decode bN_bring 69 = .ok (.aload_n 0, 1) := by decide +kernel
theorem dN_bring_70 : decode bN_bring 70 = .ok (.getfield 16, 3) := by decide +kernel
theorem dN_bring_73 : decode bN_bring 73 = .ok (.invokevirtual 81, 3) := by decide +kernel
theorem dN_bring_76 : decode bN_bring 76 = .ok (.return_, 1) := by decide +kernel
theorem dN_cut_0 : decode bN_cut 0 = .ok (.iload_n 3, 1) := by decide +kernel
theorem dN_cut_1 : decode bN_cut 1 = .ok (.invokestatic 20, 3) := by decide +kernel
theorem dN_cut_4 : decode bN_cut 4 = .ok (.iload 4, 2) := by decide +kernel
theorem dN_cut_6 : decode bN_cut 6 = .ok (.invokestatic 20, 3) := by decide +kernel
theorem dN_cut_9 : decode bN_cut 9 = .ok (.aload_n 0, 1) := by decide +kernel
theorem dN_cut_10 : decode bN_cut 10 = .ok (.getfield 11, 3) := by decide +kernel
theorem dN_cut_13 : decode bN_cut 13 = .ok (.iload_n 3, 1) := by decide +kernel
theorem dN_cut_14 : decode bN_cut 14 = .ok (.aaload, 1) := by decide +kernel
theorem dN_cut_15 : decode bN_cut 15 = .ok (.astore 5, 2) := by decide +kernel
theorem dN_cut_17 : decode bN_cut 17 = .ok (.iload_n 1, 1) := by decide +kernel
theorem dN_cut_18 : decode bN_cut 18 = .ok (.ifCond .lt 27, 3) := by decide +kernel
theorem dN_cut_21 : decode bN_cut 21 = .ok (.iload_n 1, 1) := by decide +kernel
theorem dN_cut_22 : decode bN_cut 22 = .ok (.aload 5, 2) := by decide +kernel
theorem dN_cut_24 : decode bN_cut 24 = .ok (.getfield 41, 3) := by decide +kernel
theorem dN_cut_27 : decode bN_cut 27 = .ok (.if_icmp .gt 18, 3) := by decide +kernel
theorem dN_cut_30 : decode bN_cut 30 = .ok (.iload_n 2, 1) := by decide +kernel
theorem dN_cut_31 : decode bN_cut 31 = .ok (.ifCond .lt 14, 3) := by decide +kernel
theorem dN_cut_34 : decode bN_cut 34 = .ok (.iload_n 2, 1) := by decide +kernel
theorem dN_cut_35 : decode bN_cut 35 = .ok (.aload 5, 2) := by decide +kernel
theorem dN_cut_37 : decode bN_cut 37 = .ok (.getfield 41, 3) := by decide +kernel
theorem dN_cut_40 : decode bN_cut 40 = .ok (.iload_n 1, 1) := by decide +kernel
theorem dN_cut_41 : decode bN_cut 41 = .ok (.isub, 1) := by decide +kernel
theorem dN_cut_42 : decode bN_cut 42 = .ok (.if_icmp .le 13, 3) := by decide +kernel
theorem dN_cut_45 : decode bN_cut 45 = .ok (.new 116, 3) := by decide +kernel
theorem dN_cut_48 : decode bN_cut 48 = .ok (.dup, 1) := by decide +kernel
theorem dN_cut_49 : decode bN_cut 49 = .ok (.ldc 118, 2) := by decide +kernel
theorem dN_cut_51 : decode bN_cut 51 = .ok (.invokespecial 120, 3) := by decide +kernel
theorem dN_cut_54 : decode bN_cut 54 = .ok (.athrow, 1) := by decide +kernel
theorem dN_cut_55 : decode bN_cut 55 = .ok (.aload_n 0, 1) := by decide +kernel
theorem dN_cut_56 : decode bN_cut 56 = .ok (.getfield 16, 3) := by decide +kernel
theorem dN_cut_59 : decode bN_cut 59 = .ok (.iload_n 2, 1) := by decide +kernel
theorem dN_cut_60 : decode bN_cut 60 = .ok (.putfield 41, 3) := by decide +kernel
theorem dN_cut_63 : decode bN_cut 63 = .ok (.aload_n 0, 1) := by decide +kernel
theorem dN_cut_64 : decode bN_cut 64 = .ok (.getfield 16, 3) := by decide +kernel
theorem dN_cut_67 : decode bN_cut 67 = .ok (.aload 5, 2) := by decide +kernel
theorem dN_cut_69 : decode bN_cut 69 = .ok (.iload_n 1, 1) := by decide +kernel
theorem dN_cut_70 : decode bN_cut 70 = .ok (.iload_n 2, 1) := by decide +kernel
theorem dN_cut_71 : decode bN_cut 71 = .ok (.iconst 0, 1) := by decide +kernel
theorem dN_cut_72 : decode bN_cut 72 = .ok (.invokevirtual 112, 3) := by decide +kernel
theorem dN_cut_75 : decode bN_cut 75 = .ok (.aload_n 0, 1) := by decide +kernel
theorem dN_cut_76 : decode bN_cut 76 = .ok (.getfield 11, 3) := by decide +kernel
theorem dN_cut_79 : decode bN_cut 79 = .ok (.iload 4, 2) := by decide +kernel
theorem dN_cut_81 : decode bN_cut 81 = .ok (.aaload, 1) := by decide +kernel
theorem dN_cut_82 : decode bN_cut 82 = .ok (.aload_n 0, 1) := by decide +kernel
theorem dN_cut_83 : decode bN_cut 83 = .ok (.getfield 16, 3) := by decide +kernel
theorem dN_cut_86 : decode bN_cut 86 = .ok (.invokevirtual 81, 3) := by decide +kernel
theorem dN_cut_89 : decode bN_cut 89 = .ok (.return_, 1) := by decide +kernel
theorem dN_compare_0 : decode bN_compare 0 = .ok (.iload_n 2, 1) := by decide +kernel
theorem dN_compare_1 : decode bN_compare 1 = .ok (.invokestatic 20, 3) := by decide +kernel
theorem dN_compare_4 : decode bN_compare 4 = .ok (.iload_n 3, 1) := by decide +kernel
theorem dN_compare_5 : decode bN_compare 5 = .ok (.invokestatic 20, 3) := by decide +kernel
theorem dN_compare_8 : decode bN_compare 8 = .ok (.aload_n 0, 1) := by decide +kernel
theorem dN_compare_9 : decode bN_compare 9 = .ok (.getfield 11, 3) := by decide +kernel
theorem dN_compare_12 : decode bN_compare 12 = .ok (.iload_n 2, 1) := by decide +kernel
theorem dN_compare_13 : decode bN_compare 13 = .ok (.aaload, 1) := by decide +kernel
theorem dN_compare_14 : decode bN_compare 14 = .ok (.invokevirtual 121, 3) := by decide +kernel
theorem dN_compare_17 : decode bN_compare 17 = .ok (.ifCond .eq 15, 3) := by decide +kernel
theorem dN_compare_20 : decode bN_compare 20 = .ok (.aload_n 0, 1) := by decide +kernel
theorem dN_compare_21 : decode bN_compare 21 = .ok (.getfield 11, 3) := by decide +kernel
theorem dN_compare_24 : decode bN_compare 24 = .ok (.iload_n 3, 1) := by decide +kernel
theorem dN_compare_25 : decode bN_compare 25 = .ok (.aaload, 1) := by decide +kernel
theorem dN_compare_26 : decode bN_compare 26 = .ok (.invokevirtual 121, 3) := by decide +kernel
theorem dN_compare_29 : decode bN_compare 29 = .ok (.ifCond .ne 5, 3) := by decide +kernel
theorem dN_compare_32 : decode bN_compare 32 = .ok (.iconst 2, 1) := by decide +kernel
theorem dN_compare_33 : decode bN_compare 33 = .ok (.ireturn, 1) := by decide +kernel
theorem dN_compare_34 : decode bN_compare 34 = .ok (.aload_n 0, 1) := by decide +kernel
theorem dN_compare_35 : decode bN_compare 35 = .ok (.getfield 11, 3) := by decide +kernel
theorem dN_compare_38 : decode bN_compare 38 = .ok (.iload_n 2, 1) := by decide +kernel
theorem dN_compare_39 : decode bN_compare 39 = .ok (.aaload, 1) := by decide +kernel
theorem dN_compare_40 : decode bN_compare 40 = .ok (.iload_n 1, 1) := by decide +kernel
theorem dN_compare_41 : decode bN_compare 41 = .ok (.invokevirtual 60, 3) := by decide +kernel
theorem dN_compare_44 : decode bN_compare 44 = .ok (.lstore 4, 2) := by decide +kernel
theorem dN_compare_46 : decode bN_compare 46 = .ok (.aload_n 0, 1) := by decide +kernel
theorem dN_compare_47 : decode bN_compare 47 = .ok (.getfield 11, 3) := by decide +kernel
theorem dN_compare_50 : decode bN_compare 50 = .ok (.iload_n 3, 1) := by decide +kernel
theorem dN_compare_51 : decode bN_compare 51 = .ok (.aaload, 1) := by decide +kernel
theorem dN_compare_52 : decode bN_compare 52 = .ok (.iload_n 1, 1) := by decide +kernel
theorem dN_compare_53 : decode bN_compare 53 = .ok (.invokevirtual 60, 3) := by decide +kernel
theorem dN_compare_56 : decode bN_compare 56 = .ok (.lstore 6, 2) := by decide +kernel
theorem dN_compare_58 : decode bN_compare 58 = .ok (.lload 4, 2) := by decide +kernel
theorem dN_compare_60 : decode bN_compare 60 = .ok (.lload 6, 2) := by decide +kernel
theorem dN_compare_62 : decode bN_compare 62 = .ok (.lcmp, 1) := by decide +kernel
theorem dN_compare_63 : decode bN_compare 63 = .ok (.ifCond .ne 5, 3) := by decide +kernel
theorem dN_compare_66 : decode bN_compare 66 = .ok (.iconst 0, 1) := by decide +kernel
theorem dN_compare_67 : decode bN_compare 67 = .ok (.ireturn, 1) := by decide +kernel
theorem dN_compare_68 : decode bN_compare 68 = .ok (.iload_n 1, 1) := by decide +kernel
theorem dN_compare_69 : decode bN_compare 69 = .ok (.ifCond .eq 14, 3) := by decide +kernel
theorem dN_compare_72 : decode bN_compare 72 = .ok (.lload 4, 2) := by decide +kernel
theorem dN_compare_74 : decode bN_compare 74 = .ok (.lload 6, 2) := by decide +kernel
theorem dN_compare_76 : decode bN_compare 76 = .ok (.lcmp, 1) := by decide +kernel
theorem dN_compare_77 : decode bN_compare 77 = .ok (.ifCond .ge 20, 3) := by decide +kernel
theorem dN_compare_80 : decode bN_compare 80 = .ok (.goto 13, 3) := by decide +kernel
theorem dN_compare_83 : decode bN_compare 83 = .ok (.lload 4, 2) := by decide +kernel
theorem dN_compare_85 : decode bN_compare 85 = .ok (.lload 6, 2) := by decide +kernel
theorem dN_compare_87 : decode bN_compare 87 = .ok (.invokestatic 124, 3) := by decide +kernel
theorem dN_compare_90 : decode bN_compare 90 = .ok (.ifCond .eq 7, 3) := by decide +kernel
theorem dN_compare_93 : decode bN_compare 93 = .ok (.iconst (-1), 1) := by decide +kernel
theorem dN_compare_94 : decode bN_compare 94 = .ok (.goto 4, 3) := by decide +kernel
theorem dN_compare_97 : decode bN_compare 97 = .ok (.iconst 1, 1) := by decide +kernel
theorem dN_compare_98 : decode bN_compare 98 = .ok (.ireturn, 1) := by decide +kernel
theorem dN_same_0 : decode bN_same 0 = .ok (.iload_n 2, 1) := by decide +kernel
theorem dN_same_1 : decode bN_same 1 = .ok (.invokestatic 20, 3) := by decide +kernel
theorem dN_same_4 : decode bN_same 4 = .ok (.iload_n 3, 1) := by decide +kernel
theorem dN_same_5 : decode bN_same 5 = .ok (.invokestatic 20, 3) := by decide +kernel
theorem dN_same_8 : decode bN_same 8 = .ok (.aload_n 0, 1) := by decide +kernel
theorem dN_same_9 : decode bN_same 9 = .ok (.getfield 11, 3) := by decide +kernel
theorem dN_same_12 : decode bN_same 12 = .ok (.iload_n 2, 1) := by decide +kernel
theorem dN_same_13 : decode bN_same 13 = .ok (.aaload, 1) := by decide +kernel
theorem dN_same_14 : decode bN_same 14 = .ok (.astore 4, 2) := by decide +kernel
theorem dN_same_16 : decode bN_same 16 = .ok (.aload_n 0, 1) := by decide +kernel
theorem dN_same_17 : decode bN_same 17 = .ok (.getfield 11, 3) := by decide +kernel
theorem dN_same_20 : decode bN_same 20 = .ok (.iload_n 3, 1) := by decide +kernel
theorem dN_same_21 : decode bN_same 21 = .ok (.aaload, 1) := by decide +kernel
theorem dN_same_22 : decode bN_same 22 = .ok (.astore 5, 2) := by decide +kernel
theorem dN_same_24 : decode bN_same 24 = .ok (.aload 4, 2) := by decide +kernel
theorem dN_same_26 : decode bN_same 26 = .ok (.getfield 41, 3) := by decide +kernel
theorem dN_same_29 : decode bN_same 29 = .ok (.aload 5, 2) := by decide +kernel
theorem dN_same_31 : decode bN_same 31 = .ok (.getfield 41, 3) := by decide +kernel
theorem dN_same_34 : decode bN_same 34 = .ok (.if_icmp .eq 5, 3) := by decide +kernel
theorem dN_same_37 : decode bN_same 37 = .ok (.iconst 0, 1) := by decide +kernel
theorem dN_same_38 : decode bN_same 38 = .ok (.ireturn, 1) := by decide +kernel
theorem dN_same_39 : decode bN_same 39 = .ok (.iconst 0, 1) := by decide +kernel
theorem dN_same_40 : decode bN_same 40 = .ok (.istore 6, 2) := by decide +kernel
theorem dN_same_42 : decode bN_same 42 = .ok (.iload 6, 2) := by decide +kernel
theorem dN_same_44 : decode bN_same 44 = .ok (.aload 4, 2) := by decide +kernel
theorem dN_same_46 : decode bN_same 46 = .ok (.getfield 41, 3) := by decide +kernel
theorem dN_same_49 : decode bN_same 49 = .ok (.if_icmp .ge 55, 3) := by decide +kernel
theorem dN_same_52 : decode bN_same 52 = .ok (.aload 4, 2) := by decide +kernel
theorem dN_same_54 : decode bN_same 54 = .ok (.getfield 37, 3) := by decide +kernel
theorem dN_same_57 : decode bN_same 57 = .ok (.iload 6, 2) := by decide +kernel
theorem dN_same_59 : decode bN_same 59 = .ok (.iaload, 1) := by decide +kernel
theorem dN_same_60 : decode bN_same 60 = .ok (.istore 7, 2) := by decide +kernel
theorem dN_same_62 : decode bN_same 62 = .ok (.aload 5, 2) := by decide +kernel
theorem dN_same_64 : decode bN_same 64 = .ok (.getfield 37, 3) := by decide +kernel
theorem dN_same_67 : decode bN_same 67 = .ok (.iload 6, 2) := by decide +kernel
theorem dN_same_69 : decode bN_same 69 = .ok (.iaload, 1) := by decide +kernel
theorem dN_same_70 : decode bN_same 70 = .ok (.istore 8, 2) := by decide +kernel
theorem dN_same_72 : decode bN_same 72 = .ok (.iload_n 1, 1) := by decide +kernel
theorem dN_same_73 : decode bN_same 73 = .ok (.ifCond .eq 16, 3) := by decide +kernel
theorem dN_same_76 : decode bN_same 76 = .ok (.iload 7, 2) := by decide +kernel
theorem dN_same_78 : decode bN_same 78 = .ok (.iload 8, 2) := by decide +kernel
theorem dN_same_80 : decode bN_same 80 = .ok (.invokestatic 128, 3) := by decide +kernel
theorem dN_same_83 : decode bN_same 83 = .ok (.ifCond .ne 15, 3) := by decide +kernel
theorem dN_same_86 : decode bN_same 86 = .ok (.goto 10, 3) := by decide +kernel
theorem dN_same_89 : decode bN_same 89 = .ok (.iload 7, 2) := by decide +kernel
theorem dN_same_91 : decode bN_same 91 = .ok (.iload 8, 2) := by decide +kernel
theorem dN_same_93 : decode bN_same 93 = .ok (.if_icmp .eq 5, 3) := by decide +kernel
theorem dN_same_96 : decode bN_same 96 = .ok (.iconst 0, 1) := by decide +kernel
theorem dN_same_97 : decode bN_same 97 = .ok (.ireturn, 1) := by decide +kernel
theorem dN_same_98 : decode bN_same 98 = .ok (.iinc 6 1, 3) := by decide +kernel
theorem dN_same_101 : decode bN_same 101 = .ok (.goto (-59), 3) := by decide +kernel
theorem dN_same_104 : decode bN_same 104 = .ok (.iconst 1, 1) := by decide +kernel
theorem dN_same_105 : decode bN_same 105 = .ok (.ireturn, 1) := by decide +kernel
theorem dN_all_0 : decode bN_all 0 = .ok (.iload_n 2, 1) := by decide +kernel
theorem dN_all_1 : decode bN_all 1 = .ok (.invokestatic 20, 3) := by decide +kernel
theorem dN_all_4 : decode bN_all 4 = .ok (.iload_n 1, 1) := by decide +kernel
theorem dN_all_5 : decode bN_all 5 = .ok (.tableswitch 79 0 3 #[31, 43, 55, 67], 31) := by decide +kernel
theorem dN_all_36 : decode bN_all 36 = .ok (.aload_n 0, 1) := by decide +kernel
theorem dN_all_37 : decode bN_all 37 = .ok (.getfield 11, 3) := by decide +kernel
theorem dN_all_40 : decode bN_all 40 = .ok (.iload_n 2, 1) := by decide +kernel
theorem dN_all_41 : decode bN_all 41 = .ok (.aaload, 1) := by decide +kernel
theorem dN_all_42 : decode bN_all 42 = .ok (.iconst 1, 1) := by decide +kernel
theorem dN_all_43 : decode bN_all 43 = .ok (.iconst 3, 1) := by decide +kernel
theorem dN_all_44 : decode bN_all 44 = .ok (.invokevirtual 134, 3) := by decide +kernel
theorem dN_all_47 : decode bN_all 47 = .ok (.ireturn, 1) := by decide +kernel
theorem dN_all_48 : decode bN_all 48 = .ok (.aload_n 0, 1) := by decide +kernel
theorem dN_all_49 : decode bN_all 49 = .ok (.getfield 11, 3) := by decide +kernel
theorem dN_all_52 : decode bN_all 52 = .ok (.iload_n 2, 1) := by decide +kernel
theorem dN_all_53 : decode bN_all 53 = .ok (.aaload, 1) := by decide +kernel
theorem dN_all_54 : decode bN_all 54 = .ok (.iconst 2, 1) := by decide +kernel
theorem dN_all_55 : decode bN_all 55 = .ok (.iconst 2, 1) := by decide +kernel
theorem dN_all_56 : decode bN_all 56 = .ok (.invokevirtual 134, 3) := by decide +kernel
theorem dN_all_59 : decode bN_all 59 = .ok (.ireturn, 1) := by decide +kernel
theorem dN_all_60 : decode bN_all 60 = .ok (.aload_n 0, 1) := by decide +kernel
theorem dN_all_61 : decode bN_all 61 = .ok (.getfield 11, 3) := by decide +kernel
theorem dN_all_64 : decode bN_all 64 = .ok (.iload_n 2, 1) := by decide +kernel
theorem dN_all_65 : decode bN_all 65 = .ok (.aaload, 1) := by decide +kernel
theorem dN_all_66 : decode bN_all 66 = .ok (.iconst 3, 1) := by decide +kernel
theorem dN_all_67 : decode bN_all 67 = .ok (.iconst 2, 1) := by decide +kernel
theorem dN_all_68 : decode bN_all 68 = .ok (.invokevirtual 134, 3) := by decide +kernel
theorem dN_all_71 : decode bN_all 71 = .ok (.ireturn, 1) := by decide +kernel
theorem dN_all_72 : decode bN_all 72 = .ok (.aload_n 0, 1) := by decide +kernel
theorem dN_all_73 : decode bN_all 73 = .ok (.getfield 11, 3) := by decide +kernel
theorem dN_all_76 : decode bN_all 76 = .ok (.iload_n 2, 1) := by decide +kernel
theorem dN_all_77 : decode bN_all 77 = .ok (.aaload, 1) := by decide +kernel
theorem dN_all_78 : decode bN_all 78 = .ok (.iconst 0, 1) := by decide +kernel
theorem dN_all_79 : decode bN_all 79 = .ok (.iconst 4, 1) := by decide +kernel
theorem dN_all_80 : decode bN_all 80 = .ok (.invokevirtual 134, 3) := by decide +kernel
theorem dN_all_83 : decode bN_all 83 = .ok (.ireturn, 1) := by decide +kernel
theorem dN_all_84 : decode bN_all 84 = .ok (.new 64, 3) := by decide +kernel
theorem dN_all_87 : decode bN_all 87 = .ok (.dup, 1) := by decide +kernel
theorem dN_all_88 : decode bN_all 88 = .ok (.ldc 137, 2) := by decide +kernel
theorem dN_all_90 : decode bN_all 90 = .ok (.invokespecial 68, 3) := by decide +kernel
theorem dN_all_93 : decode bN_all 93 = .ok (.athrow, 1) := by decide +kernel
theorem dN_edge_0 : decode bN_edge 0 = .ok (.iload_n 1, 1) := by decide +kernel
theorem dN_edge_1 : decode bN_edge 1 = .ok (.invokestatic 27, 3) := by decide +kernel
theorem dN_edge_4 : decode bN_edge 4 = .ok (.iload_n 2, 1) := by decide +kernel
theorem dN_edge_5 : decode bN_edge 5 = .ok (.invokestatic 27, 3) := by decide +kernel
theorem dN_edge_8 : decode bN_edge 8 = .ok (.iload_n 1, 1) := by decide +kernel
theorem dN_edge_9 : decode bN_edge 9 = .ok (.invokestatic 139, 3) := by decide +kernel
theorem dN_edge_12 : decode bN_edge 12 = .ok (.ifCond .eq 12, 3) := by decide +kernel
theorem dN_edge_15 : decode bN_edge 15 = .ok (.iload_n 2, 1) := by decide +kernel
theorem dN_edge_16 : decode bN_edge 16 = .ok (.invokestatic 143, 3) := by decide +kernel
theorem dN_edge_19 : decode bN_edge 19 = .ok (.ifCond .eq 5, 3) := by decide +kernel
theorem dN_edge_22 : decode bN_edge 22 = .ok (.iconst 1, 1) := by decide +kernel
theorem dN_edge_23 : decode bN_edge 23 = .ok (.ireturn, 1) := by decide +kernel
theorem dN_edge_24 : decode bN_edge 24 = .ok (.iload_n 1, 1) := by decide +kernel
theorem dN_edge_25 : decode bN_edge 25 = .ok (.invokestatic 143, 3) := by decide +kernel
theorem dN_edge_28 : decode bN_edge 28 = .ok (.ifCond .eq 14, 3) := by decide +kernel
theorem dN_edge_31 : decode bN_edge 31 = .ok (.iload_n 2, 1) := by decide +kernel
theorem dN_edge_32 : decode bN_edge 32 = .ok (.invokestatic 139, 3) := by decide +kernel
theorem dN_edge_35 : decode bN_edge 35 = .ok (.ifCond .eq 7, 3) := by decide +kernel
theorem dN_edge_38 : decode bN_edge 38 = .ok (.iconst (-1), 1) := by decide +kernel
theorem dN_edge_39 : decode bN_edge 39 = .ok (.goto 4, 3) := by decide +kernel
theorem dN_edge_42 : decode bN_edge 42 = .ok (.iconst 0, 1) := by decide +kernel
theorem dN_edge_43 : decode bN_edge 43 = .ok (.ireturn, 1) := by decide +kernel
theorem dN_requirePlace_0 : decode bN_requirePlace 0 = .ok (.iload_n 0, 1) := by decide +kernel
theorem dN_requirePlace_1 : decode bN_requirePlace 1 = .ok (.ifCond .lt 9, 3) := by decide +kernel
theorem dN_requirePlace_4 : decode bN_requirePlace 4 = .ok (.iload_n 0, 1) := by decide +kernel
theorem dN_requirePlace_5 : decode bN_requirePlace 5 = .ok (.bipush 16, 2) := by decide +kernel
theorem dN_requirePlace_7 : decode bN_requirePlace 7 = .ok (.if_icmp .lt 13, 3) := by decide +kernel
theorem dN_requirePlace_10 : decode bN_requirePlace 10 = .ok (.new 116, 3) := by decide +kernel
theorem dN_requirePlace_13 : decode bN_requirePlace 13 = .ok (.dup, 1) := by decide +kernel
theorem dN_requirePlace_14 : decode bN_requirePlace 14 = .ok (.ldc 146, 2) := by decide +kernel
theorem dN_requirePlace_16 : decode bN_requirePlace 16 = .ok (.invokespecial 120, 3) := by decide +kernel
theorem dN_requirePlace_19 : decode bN_requirePlace 19 = .ok (.athrow, 1) := by decide +kernel
theorem dN_requirePlace_20 : decode bN_requirePlace 20 = .ok (.return_, 1) := by decide +kernel
theorem dN_requireElement_0 : decode bN_requireElement 0 = .ok (.iload_n 1, 1) := by decide +kernel
theorem dN_requireElement_1 : decode bN_requireElement 1 = .ok (.invokestatic 20, 3) := by decide +kernel
theorem dN_requireElement_4 : decode bN_requireElement 4 = .ok (.iload_n 2, 1) := by decide +kernel
theorem dN_requireElement_5 : decode bN_requireElement 5 = .ok (.ifCond .lt 16, 3) := by decide +kernel
theorem dN_requireElement_8 : decode bN_requireElement 8 = .ok (.iload_n 2, 1) := by decide +kernel
theorem dN_requireElement_9 : decode bN_requireElement 9 = .ok (.aload_n 0, 1) := by decide +kernel
theorem dN_requireElement_10 : decode bN_requireElement 10 = .ok (.getfield 11, 3) := by decide +kernel
theorem dN_requireElement_13 : decode bN_requireElement 13 = .ok (.iload_n 1, 1) := by decide +kernel
theorem dN_requireElement_14 : decode bN_requireElement 14 = .ok (.aaload, 1) := by decide +kernel
theorem dN_requireElement_15 : decode bN_requireElement 15 = .ok (.getfield 41, 3) := by decide +kernel
theorem dN_requireElement_18 : decode bN_requireElement 18 = .ok (.if_icmp .lt 13, 3) := by decide +kernel
theorem dN_requireElement_21 : decode bN_requireElement 21 = .ok (.new 116, 3) := by decide +kernel
theorem dN_requireElement_24 : decode bN_requireElement 24 = .ok (.dup, 1) := by decide +kernel
theorem dN_requireElement_25 : decode bN_requireElement 25 = .ok (.ldc 148, 2) := by decide +kernel
theorem dN_requireElement_27 : decode bN_requireElement 27 = .ok (.invokespecial 120, 3) := by decide +kernel
theorem dN_requireElement_30 : decode bN_requireElement 30 = .ok (.athrow, 1) := by decide +kernel
theorem dN_requireElement_31 : decode bN_requireElement 31 = .ok (.return_, 1) := by decide +kernel
theorem dN_requireLength_0 : decode bN_requireLength 0 = .ok (.iload_n 0, 1) := by decide +kernel
theorem dN_requireLength_1 : decode bN_requireLength 1 = .ok (.ifCond .lt 9, 3) := by decide +kernel
theorem dN_requireLength_4 : decode bN_requireLength 4 = .ok (.iload_n 0, 1) := by decide +kernel
theorem dN_requireLength_5 : decode bN_requireLength 5 = .ok (.bipush 64, 2) := by decide +kernel
theorem dN_requireLength_7 : decode bN_requireLength 7 = .ok (.if_icmp .le 13, 3) := by decide +kernel
theorem dN_requireLength_10 : decode bN_requireLength 10 = .ok (.new 64, 3) := by decide +kernel
theorem dN_requireLength_13 : decode bN_requireLength 13 = .ok (.dup, 1) := by decide +kernel
theorem dN_requireLength_14 : decode bN_requireLength 14 = .ok (.ldc 150, 2) := by decide +kernel
theorem dN_requireLength_16 : decode bN_requireLength 16 = .ok (.invokespecial 68, 3) := by decide +kernel
theorem dN_requireLength_19 : decode bN_requireLength 19 = .ok (.athrow, 1) := by decide +kernel
theorem dN_requireLength_20 : decode bN_requireLength 20 = .ok (.return_, 1) := by decide +kernel
theorem dN_requireValue_0 : decode bN_requireValue 0 = .ok (.iload_n 0, 1) := by decide +kernel
theorem dN_requireValue_1 : decode bN_requireValue 1 = .ok (.ifCond .lt 9, 3) := by decide +kernel
theorem dN_requireValue_4 : decode bN_requireValue 4 = .ok (.iload_n 0, 1) := by decide +kernel
theorem dN_requireValue_5 : decode bN_requireValue 5 = .ok (.bipush 8, 2) := by decide +kernel
theorem dN_requireValue_7 : decode bN_requireValue 7 = .ok (.if_icmp .le 13, 3) := by decide +kernel
theorem dN_requireValue_10 : decode bN_requireValue 10 = .ok (.new 64, 3) := by decide +kernel
theorem dN_requireValue_13 : decode bN_requireValue 13 = .ok (.dup, 1) := by decide +kernel
theorem dN_requireValue_14 : decode bN_requireValue 14 = .ok (.ldc 152, 2) := by decide +kernel
theorem dN_requireValue_16 : decode bN_requireValue 16 = .ok (.invokespecial 68, 3) := by decide +kernel
theorem dN_requireValue_19 : decode bN_requireValue 19 = .ok (.athrow, 1) := by decide +kernel
theorem dN_requireValue_20 : decode bN_requireValue 20 = .ok (.return_, 1) := by decide +kernel
theorem dN_joinElements_0 : decode bN_joinElements 0 = .ok (.aload_n 2, 1) := by decide +kernel
theorem dN_joinElements_1 : decode bN_joinElements 1 = .ok (.getfield 41, 3) := by decide +kernel
theorem dN_joinElements_4 : decode bN_joinElements 4 = .ok (.aload_n 3, 1) := by decide +kernel
theorem dN_joinElements_5 : decode bN_joinElements 5 = .ok (.getfield 41, 3) := by decide +kernel
theorem dN_joinElements_8 : decode bN_joinElements 8 = .ok (.if_icmp .eq 13, 3) := by decide +kernel
theorem dN_joinElements_11 : decode bN_joinElements 11 = .ok (.new 64, 3) := by decide +kernel
theorem dN_joinElements_14 : decode bN_joinElements 14 = .ok (.dup, 1) := by decide +kernel
theorem dN_joinElements_15 : decode bN_joinElements 15 = .ok (.ldc 154, 2) := by decide +kernel
theorem dN_joinElements_17 : decode bN_joinElements 17 = .ok (.invokespecial 68, 3) := by decide +kernel
theorem dN_joinElements_20 : decode bN_joinElements 20 = .ok (.athrow, 1) := by decide +kernel
theorem dN_joinElements_21 : decode bN_joinElements 21 = .ok (.aload_n 0, 1) := by decide +kernel
theorem dN_joinElements_22 : decode bN_joinElements 22 = .ok (.getfield 16, 3) := by decide +kernel
theorem dN_joinElements_25 : decode bN_joinElements 25 = .ok (.aload_n 2, 1) := by decide +kernel
theorem dN_joinElements_26 : decode bN_joinElements 26 = .ok (.getfield 41, 3) := by decide +kernel
theorem dN_joinElements_29 : decode bN_joinElements 29 = .ok (.putfield 41, 3) := by decide +kernel
theorem dN_joinElements_32 : decode bN_joinElements 32 = .ok (.iconst 0, 1) := by decide +kernel
theorem dN_joinElements_33 : decode bN_joinElements 33 = .ok (.istore 4, 2) := by decide +kernel
theorem dN_joinElements_35 : decode bN_joinElements 35 = .ok (.iload 4, 2) := by decide +kernel
theorem dN_joinElements_37 : decode bN_joinElements 37 = .ok (.aload_n 2, 1) := by decide +kernel
theorem dN_joinElements_38 : decode bN_joinElements 38 = .ok (.getfield 41, 3) := by decide +kernel
theorem dN_joinElements_41 : decode bN_joinElements 41 = .ok (.if_icmp .ge 37, 3) := by decide +kernel
theorem dN_joinElements_44 : decode bN_joinElements 44 = .ok (.aload_n 0, 1) := by decide +kernel
theorem dN_joinElements_45 : decode bN_joinElements 45 = .ok (.getfield 16, 3) := by decide +kernel
theorem dN_joinElements_48 : decode bN_joinElements 48 = .ok (.getfield 37, 3) := by decide +kernel
theorem dN_joinElements_51 : decode bN_joinElements 51 = .ok (.iload 4, 2) := by decide +kernel
theorem dN_joinElements_53 : decode bN_joinElements 53 = .ok (.iload_n 1, 1) := by decide +kernel
theorem dN_joinElements_54 : decode bN_joinElements 54 = .ok (.aload_n 2, 1) := by decide +kernel
theorem dN_joinElements_55 : decode bN_joinElements 55 = .ok (.getfield 37, 3) := by decide +kernel
theorem dN_joinElements_58 : decode bN_joinElements 58 = .ok (.iload 4, 2) := by decide +kernel
theorem dN_joinElements_60 : decode bN_joinElements 60 = .ok (.iaload, 1) := by decide +kernel
theorem dN_joinElements_61 : decode bN_joinElements 61 = .ok (.aload_n 3, 1) := by decide +kernel
theorem dN_joinElements_62 : decode bN_joinElements 62 = .ok (.getfield 37, 3) := by decide +kernel
theorem dN_joinElements_65 : decode bN_joinElements 65 = .ok (.iload 4, 2) := by decide +kernel
theorem dN_joinElements_67 : decode bN_joinElements 67 = .ok (.iaload, 1) := by decide +kernel
theorem dN_joinElements_68 : decode bN_joinElements 68 = .ok (.invokestatic 156, 3) := by decide +kernel
theorem dN_joinElements_71 : decode bN_joinElements 71 = .ok (.iastore, 1) := by decide +kernel
theorem dN_joinElements_72 : decode bN_joinElements 72 = .ok (.iinc 4 1, 3) := by decide +kernel
theorem dN_joinElements_75 : decode bN_joinElements 75 = .ok (.goto (-40), 3) := by decide +kernel
theorem dN_joinElements_78 : decode bN_joinElements 78 = .ok (.return_, 1) := by decide +kernel
theorem dN_setBehind_0 : decode bN_setBehind 0 = .ok (.aload_n 1, 1) := by decide +kernel
theorem dN_setBehind_1 : decode bN_setBehind 1 = .ok (.getfield 41, 3) := by decide +kernel
theorem dN_setBehind_4 : decode bN_setBehind 4 = .ok (.aload_n 2, 1) := by decide +kernel
theorem dN_setBehind_5 : decode bN_setBehind 5 = .ok (.getfield 41, 3) := by decide +kernel
theorem dN_setBehind_8 : decode bN_setBehind 8 = .ok (.iadd, 1) := by decide +kernel
theorem dN_setBehind_9 : decode bN_setBehind 9 = .ok (.invokestatic 24, 3) := by decide +kernel
theorem dN_setBehind_12 : decode bN_setBehind 12 = .ok (.aload_n 0, 1) := by decide +kernel
theorem dN_setBehind_13 : decode bN_setBehind 13 = .ok (.getfield 16, 3) := by decide +kernel
theorem dN_setBehind_16 : decode bN_setBehind 16 = .ok (.aload_n 1, 1) := by decide +kernel
theorem dN_setBehind_17 : decode bN_setBehind 17 = .ok (.getfield 41, 3) := by decide +kernel
theorem dN_setBehind_20 : decode bN_setBehind 20 = .ok (.aload_n 2, 1) := by decide +kernel
theorem dN_setBehind_21 : decode bN_setBehind 21 = .ok (.getfield 41, 3) := by decide +kernel
theorem dN_setBehind_24 : decode bN_setBehind 24 = .ok (.iadd, 1) := by decide +kernel
theorem dN_setBehind_25 : decode bN_setBehind 25 = .ok (.putfield 41, 3) := by decide +kernel
theorem dN_setBehind_28 : decode bN_setBehind 28 = .ok (.aload_n 0, 1) := by decide +kernel
theorem dN_setBehind_29 : decode bN_setBehind 29 = .ok (.getfield 16, 3) := by decide +kernel
theorem dN_setBehind_32 : decode bN_setBehind 32 = .ok (.aload_n 2, 1) := by decide +kernel
theorem dN_setBehind_33 : decode bN_setBehind 33 = .ok (.iconst 0, 1) := by decide +kernel
theorem dN_setBehind_34 : decode bN_setBehind 34 = .ok (.aload_n 2, 1) := by decide +kernel
theorem dN_setBehind_35 : decode bN_setBehind 35 = .ok (.getfield 41, 3) := by decide +kernel
theorem dN_setBehind_38 : decode bN_setBehind 38 = .ok (.iconst 0, 1) := by decide +kernel
theorem dN_setBehind_39 : decode bN_setBehind 39 = .ok (.invokevirtual 112, 3) := by decide +kernel
theorem dN_setBehind_42 : decode bN_setBehind 42 = .ok (.aload_n 0, 1) := by decide +kernel
theorem dN_setBehind_43 : decode bN_setBehind 43 = .ok (.getfield 16, 3) := by decide +kernel
theorem dN_setBehind_46 : decode bN_setBehind 46 = .ok (.aload_n 1, 1) := by decide +kernel
theorem dN_setBehind_47 : decode bN_setBehind 47 = .ok (.iconst 0, 1) := by decide +kernel
theorem dN_setBehind_48 : decode bN_setBehind 48 = .ok (.aload_n 1, 1) := by decide +kernel
theorem dN_setBehind_49 : decode bN_setBehind 49 = .ok (.getfield 41, 3) := by decide +kernel
theorem dN_setBehind_52 : decode bN_setBehind 52 = .ok (.aload_n 2, 1) := by decide +kernel
theorem dN_setBehind_53 : decode bN_setBehind 53 = .ok (.getfield 41, 3) := by decide +kernel
theorem dN_setBehind_56 : decode bN_setBehind 56 = .ok (.invokevirtual 112, 3) := by decide +kernel
theorem dN_setBehind_59 : decode bN_setBehind 59 = .ok (.return_, 1) := by decide +kernel
theorem dN_calculate_0 : decode bN_calculate 0 = .ok (.iload_n 1, 1) := by decide +kernel
theorem dN_calculate_1 : decode bN_calculate 1 = .ok (.aload_n 3, 1) := by decide +kernel
theorem dN_calculate_2 : decode bN_calculate 2 = .ok (.getfield 41, 3) := by decide +kernel
theorem dN_calculate_5 : decode bN_calculate 5 = .ok (.aload 4, 2) := by decide +kernel
theorem dN_calculate_7 : decode bN_calculate 7 = .ok (.getfield 41, 3) := by decide +kernel
theorem dN_calculate_10 : decode bN_calculate 10 = .ok (.invokestatic 160, 3) := by decide +kernel
theorem dN_calculate_13 : decode bN_calculate 13 = .ok (.istore 5, 2) := by decide +kernel
theorem dN_calculate_15 : decode bN_calculate 15 = .ok (.iload 5, 2) := by decide +kernel
theorem dN_calculate_17 : decode bN_calculate 17 = .ok (.invokestatic 24, 3) := by decide +kernel
theorem dN_calculate_20 : decode bN_calculate 20 = .ok (.aload_n 3, 1) := by decide +kernel
theorem dN_calculate_21 : decode bN_calculate 21 = .ok (.invokevirtual 121, 3) := by decide +kernel
theorem dN_calculate_24 : decode bN_calculate 24 = .ok (.ifCond .eq 11, 3) := by decide +kernel
theorem dN_calculate_27 : decode bN_calculate 27 = .ok (.aload 4, 2) := by decide +kernel
theorem dN_calculate_29 : decode bN_calculate 29 = .ok (.invokevirtual 121, 3) := by decide +kernel
theorem dN_calculate_32 : decode bN_calculate 32 = .ok (.ifCond .ne 33, 3) := by decide +kernel
theorem dN_calculate_35 : decode bN_calculate 35 = .ok (.aload_n 0, 1) := by decide +kernel
theorem dN_calculate_36 : decode bN_calculate 36 = .ok (.getfield 16, 3) := by decide +kernel
theorem dN_calculate_39 : decode bN_calculate 39 = .ok (.aload_n 3, 1) := by decide +kernel
theorem dN_calculate_40 : decode bN_calculate 40 = .ok (.getfield 41, 3) := by decide +kernel
theorem dN_calculate_43 : decode bN_calculate 43 = .ok (.ifCond .eq 11, 3) := by decide +kernel
theorem dN_calculate_46 : decode bN_calculate 46 = .ok (.aload 4, 2) := by decide +kernel
theorem dN_calculate_48 : decode bN_calculate 48 = .ok (.getfield 41, 3) := by decide +kernel
theorem dN_calculate_51 : decode bN_calculate 51 = .ok (.ifCond .ne 7, 3) := by decide +kernel
theorem dN_calculate_54 : decode bN_calculate 54 = .ok (.iconst 0, 1) := by decide +kernel
theorem dN_calculate_55 : decode bN_calculate 55 = .ok (.goto 5, 3) := by decide +kernel
theorem dN_calculate_58 : decode bN_calculate 58 = .ok (.iload 5, 2) := by decide +kernel
theorem dN_calculate_60 : decode bN_calculate 60 = .ok (.iconst 1, 1) := by decide +kernel
theorem dN_calculate_61 : decode bN_calculate 61 = .ok (.invokevirtual 30, 3) := by decide +kernel
theorem dN_calculate_64 : decode bN_calculate 64 = .ok (.return_, 1) := by decide +kernel
theorem dN_calculate_65 : decode bN_calculate 65 = .ok (.aload_n 3, 1) := by decide +kernel
theorem dN_calculate_66 : decode bN_calculate 66 = .ok (.iload_n 2, 1) := by decide +kernel
theorem dN_calculate_67 : decode bN_calculate 67 = .ok (.invokevirtual 60, 3) := by decide +kernel
theorem dN_calculate_70 : decode bN_calculate 70 = .ok (.lstore 6, 2) := by decide +kernel
theorem dN_calculate_72 : decode bN_calculate 72 = .ok (.aload 4, 2) := by decide +kernel
theorem dN_calculate_74 : decode bN_calculate 74 = .ok (.iload_n 2, 1) := by decide +kernel
theorem dN_calculate_75 : decode bN_calculate 75 = .ok (.invokevirtual 60, 3) := by decide +kernel
theorem dN_calculate_78 : decode bN_calculate 78 = .ok (.lstore 8, 2) := by decide +kernel
theorem dN_calculate_80 : decode bN_calculate 80 = .ok (.iload_n 1, 1) := by decide +kernel
theorem dN_calculate_81 : decode bN_calculate 81 = .ok (.bipush 10, 2) := by decide +kernel
theorem dN_calculate_83 : decode bN_calculate 83 = .ok (.if_icmp .ge 21, 3) := by decide +kernel
theorem dN_calculate_86 : decode bN_calculate 86 = .ok (.aload_n 0, 1) := by decide +kernel
theorem dN_calculate_87 : decode bN_calculate 87 = .ok (.getfield 16, 3) := by decide +kernel
theorem dN_calculate_90 : decode bN_calculate 90 = .ok (.iload 5, 2) := by decide +kernel
theorem dN_calculate_92 : decode bN_calculate 92 = .ok (.iload_n 1, 1) := by decide +kernel
theorem dN_calculate_93 : decode bN_calculate 93 = .ok (.lload 6, 2) := by decide +kernel
theorem dN_calculate_95 : decode bN_calculate 95 = .ok (.lload 8, 2) := by decide +kernel
theorem dN_calculate_97 : decode bN_calculate 97 = .ok (.invokestatic 163, 3) := by decide +kernel
theorem dN_calculate_100 : decode bN_calculate 100 = .ok (.invokevirtual 45, 3) := by decide +kernel
theorem dN_calculate_103 : decode bN_calculate 103 = .ok (.return_, 1) := by decide +kernel
theorem dN_calculate_104 : decode bN_calculate 104 = .ok (.lload 8, 2) := by decide +kernel
theorem dN_calculate_106 : decode bN_calculate 106 = .ok (.lconst 0, 1) := by decide +kernel
theorem dN_calculate_107 : decode bN_calculate 107 = .ok (.lcmp, 1) := by decide +kernel
theorem dN_calculate_108 : decode bN_calculate 108 = .ok (.ifCond .ne 13, 3) := by decide +kernel
theorem dN_calculate_111 : decode bN_calculate 111 = .ok (.new 167, 3) := by decide +kernel
theorem dN_calculate_114 : decode bN_calculate 114 = .ok (.dup, 1) := by decide +kernel
theorem dN_calculate_115 : decode bN_calculate 115 = .ok (.ldc 169, 2) := by decide +kernel
theorem dN_calculate_117 : decode bN_calculate 117 = .ok (.invokespecial 171, 3) := by decide +kernel
theorem dN_calculate_120 : decode bN_calculate 120 = .ok (.athrow, 1) := by decide +kernel
theorem dN_calculate_121 : decode bN_calculate 121 = .ok (.aload_n 0, 1) := by decide +kernel
theorem dN_calculate_122 : decode bN_calculate 122 = .ok (.getfield 16, 3) := by decide +kernel
theorem dN_calculate_125 : decode bN_calculate 125 = .ok (.iload 5, 2) := by decide +kernel
theorem dN_calculate_127 : decode bN_calculate 127 = .ok (.iload_n 2, 1) := by decide +kernel
theorem dN_calculate_128 : decode bN_calculate 128 = .ok (.ifCond .eq 14, 3) := by decide +kernel
theorem dN_calculate_131 : decode bN_calculate 131 = .ok (.iload_n 1, 1) := by decide +kernel
theorem dN_calculate_132 : decode bN_calculate 132 = .ok (.lload 6, 2) := by decide +kernel
theorem dN_calculate_134 : decode bN_calculate 134 = .ok (.lload 8, 2) := by decide +kernel
theorem dN_calculate_136 : decode bN_calculate 136 = .ok (.invokestatic 172, 3) := by decide +kernel
theorem dN_calculate_139 : decode bN_calculate 139 = .ok (.goto 11, 3) := by decide +kernel
theorem dN_calculate_142 : decode bN_calculate 142 = .ok (.iload_n 1, 1) := by decide +kernel
theorem dN_calculate_143 : decode bN_calculate 143 = .ok (.lload 6, 2) := by decide +kernel
theorem dN_calculate_145 : decode bN_calculate 145 = .ok (.lload 8, 2) := by decide +kernel
theorem dN_calculate_147 : decode bN_calculate 147 = .ok (.invokestatic 175, 3) := by decide +kernel
theorem dN_calculate_150 : decode bN_calculate 150 = .ok (.invokevirtual 45, 3) := by decide +kernel
theorem dN_calculate_153 : decode bN_calculate 153 = .ok (.return_, 1) := by decide +kernel
theorem dN_lengthOfResult_0 : decode bN_lengthOfResult 0 = .ok (.iload_n 0, 1) := by decide +kernel
theorem dN_lengthOfResult_1 : decode bN_lengthOfResult 1 = .ok (.tableswitch 43 7 10 #[31, 31, 37, 41], 31) := by decide +kernel
theorem dN_lengthOfResult_32 : decode bN_lengthOfResult 32 = .ok (.iload_n 1, 1) := by decide +kernel
theorem dN_lengthOfResult_33 : decode bN_lengthOfResult 33 = .ok (.iload_n 2, 1) := by decide +kernel
theorem dN_lengthOfResult_34 : decode bN_lengthOfResult 34 = .ok (.invokestatic 178, 3) := by decide +kernel
theorem dN_lengthOfResult_37 : decode bN_lengthOfResult 37 = .ok (.ireturn, 1) := by decide +kernel
theorem dN_lengthOfResult_38 : decode bN_lengthOfResult 38 = .ok (.iload_n 1, 1) := by decide +kernel
theorem dN_lengthOfResult_39 : decode bN_lengthOfResult 39 = .ok (.iload_n 2, 1) := by decide +kernel
theorem dN_lengthOfResult_40 : decode bN_lengthOfResult 40 = .ok (.iadd, 1) := by decide +kernel
theorem dN_lengthOfResult_41 : decode bN_lengthOfResult 41 = .ok (.ireturn, 1) := by decide +kernel
theorem dN_lengthOfResult_42 : decode bN_lengthOfResult 42 = .ok (.iload_n 1, 1) := by decide +kernel
theorem dN_lengthOfResult_43 : decode bN_lengthOfResult 43 = .ok (.ireturn, 1) := by decide +kernel
theorem dN_lengthOfResult_44 : decode bN_lengthOfResult 44 = .ok (.iload_n 2, 1) := by decide +kernel
theorem dN_lengthOfResult_45 : decode bN_lengthOfResult 45 = .ok (.ireturn, 1) := by decide +kernel
theorem dN_sumOrProduct_0 : decode bN_sumOrProduct 0 = .ok (.iload_n 0, 1) := by decide +kernel
theorem dN_sumOrProduct_1 : decode bN_sumOrProduct 1 = .ok (.lookupswitch 35 #[(7, 27), (8, 31)], 27) := by decide +kernel
theorem dN_sumOrProduct_28 : decode bN_sumOrProduct 28 = .ok (.lload_n 1, 1) := by decide +kernel
theorem dN_sumOrProduct_29 : decode bN_sumOrProduct 29 = .ok (.lload_n 3, 1) := by decide +kernel
theorem dN_sumOrProduct_30 : decode bN_sumOrProduct 30 = .ok (.ladd, 1) := by decide +kernel
theorem dN_sumOrProduct_31 : decode bN_sumOrProduct 31 = .ok (.lreturn, 1) := by decide +kernel
theorem dN_sumOrProduct_32 : decode bN_sumOrProduct 32 = .ok (.lload_n 1, 1) := by decide +kernel
theorem dN_sumOrProduct_33 : decode bN_sumOrProduct 33 = .ok (.lload_n 3, 1) := by decide +kernel
theorem dN_sumOrProduct_34 : decode bN_sumOrProduct 34 = .ok (.lsub, 1) := by decide +kernel
theorem dN_sumOrProduct_35 : decode bN_sumOrProduct 35 = .ok (.lreturn, 1) := by decide +kernel
theorem dN_sumOrProduct_36 : decode bN_sumOrProduct 36 = .ok (.lload_n 1, 1) := by decide +kernel
theorem dN_sumOrProduct_37 : decode bN_sumOrProduct 37 = .ok (.lload_n 3, 1) := by decide +kernel
theorem dN_sumOrProduct_38 : decode bN_sumOrProduct 38 = .ok (.lmul, 1) := by decide +kernel
theorem dN_sumOrProduct_39 : decode bN_sumOrProduct 39 = .ok (.lreturn, 1) := by decide +kernel
theorem dN_divideSigned_0 : decode bN_divideSigned 0 = .ok (.iload_n 0, 1) := by decide +kernel
theorem dN_divideSigned_1 : decode bN_divideSigned 1 = .ok (.lookupswitch 35 #[(10, 27), (11, 31)], 27) := by decide +kernel
theorem dN_divideSigned_28 : decode bN_divideSigned 28 = .ok (.lload_n 1, 1) := by decide +kernel
theorem dN_divideSigned_29 : decode bN_divideSigned 29 = .ok (.lload_n 3, 1) := by decide +kernel
theorem dN_divideSigned_30 : decode bN_divideSigned 30 = .ok (.ldiv, 1) := by decide +kernel
theorem dN_divideSigned_31 : decode bN_divideSigned 31 = .ok (.lreturn, 1) := by decide +kernel
theorem dN_divideSigned_32 : decode bN_divideSigned 32 = .ok (.lload_n 1, 1) := by decide +kernel
theorem dN_divideSigned_33 : decode bN_divideSigned 33 = .ok (.lload_n 3, 1) := by decide +kernel
theorem dN_divideSigned_34 : decode bN_divideSigned 34 = .ok (.lrem, 1) := by decide +kernel
theorem dN_divideSigned_35 : decode bN_divideSigned 35 = .ok (.lreturn, 1) := by decide +kernel
theorem dN_divideSigned_36 : decode bN_divideSigned 36 = .ok (.lload_n 1, 1) := by decide +kernel
theorem dN_divideSigned_37 : decode bN_divideSigned 37 = .ok (.lload_n 3, 1) := by decide +kernel
theorem dN_divideSigned_38 : decode bN_divideSigned 38 = .ok (.invokestatic 181, 3) := by decide +kernel
theorem dN_divideSigned_41 : decode bN_divideSigned 41 = .ok (.lreturn, 1) := by decide +kernel
theorem dN_divideUnsigned_0 : decode bN_divideUnsigned 0 = .ok (.lload_n 1, 1) := by decide +kernel
theorem dN_divideUnsigned_1 : decode bN_divideUnsigned 1 = .ok (.lload_n 3, 1) := by decide +kernel
theorem dN_divideUnsigned_2 : decode bN_divideUnsigned 2 = .ok (.invokestatic 185, 3) := by decide +kernel
theorem dN_divideUnsigned_5 : decode bN_divideUnsigned 5 = .ok (.lstore 5, 2) := by decide +kernel
theorem dN_divideUnsigned_7 : decode bN_divideUnsigned 7 = .ok (.iload_n 0, 1) := by decide +kernel
theorem dN_divideUnsigned_8 : decode bN_divideUnsigned 8 = .ok (.bipush 10, 2) := by decide +kernel
theorem dN_divideUnsigned_10 : decode bN_divideUnsigned 10 = .ok (.if_icmp .ne 8, 3) := by decide +kernel
theorem dN_divideUnsigned_13 : decode bN_divideUnsigned 13 = .ok (.lload 5, 2) := by decide +kernel
theorem dN_divideUnsigned_15 : decode bN_divideUnsigned 15 = .ok (.goto 9, 3) := by decide +kernel
theorem dN_divideUnsigned_18 : decode bN_divideUnsigned 18 = .ok (.lload_n 1, 1) := by decide +kernel
theorem dN_divideUnsigned_19 : decode bN_divideUnsigned 19 = .ok (.lload 5, 2) := by decide +kernel
theorem dN_divideUnsigned_21 : decode bN_divideUnsigned 21 = .ok (.lload_n 3, 1) := by decide +kernel
theorem dN_divideUnsigned_22 : decode bN_divideUnsigned 22 = .ok (.lmul, 1) := by decide +kernel
theorem dN_divideUnsigned_23 : decode bN_divideUnsigned 23 = .ok (.lsub, 1) := by decide +kernel
theorem dN_divideUnsigned_24 : decode bN_divideUnsigned 24 = .ok (.lreturn, 1) := by decide +kernel
theorem dN_quotientUnsigned_0 : decode bN_quotientUnsigned 0 = .ok (.lload_n 2, 1) := by decide +kernel
theorem dN_quotientUnsigned_1 : decode bN_quotientUnsigned 1 = .ok (.lconst 0, 1) := by decide +kernel
theorem dN_quotientUnsigned_2 : decode bN_quotientUnsigned 2 = .ok (.lcmp, 1) := by decide +kernel
theorem dN_quotientUnsigned_3 : decode bN_quotientUnsigned 3 = .ok (.ifCond .gt 17, 3) := by decide +kernel
theorem dN_quotientUnsigned_6 : decode bN_quotientUnsigned 6 = .ok (.lload_n 0, 1) := by decide +kernel
theorem dN_quotientUnsigned_7 : decode bN_quotientUnsigned 7 = .ok (.lload_n 2, 1) := by decide +kernel
theorem dN_quotientUnsigned_8 : decode bN_quotientUnsigned 8 = .ok (.invokestatic 124, 3) := by decide +kernel
theorem dN_quotientUnsigned_11 : decode bN_quotientUnsigned 11 = .ok (.ifCond .eq 7, 3) := by decide +kernel
theorem dN_quotientUnsigned_14 : decode bN_quotientUnsigned 14 = .ok (.lconst 0, 1) := by decide +kernel
theorem dN_quotientUnsigned_15 : decode bN_quotientUnsigned 15 = .ok (.goto 4, 3) := by decide +kernel
theorem dN_quotientUnsigned_18 : decode bN_quotientUnsigned 18 = .ok (.lconst 1, 1) := by decide +kernel
theorem dN_quotientUnsigned_19 : decode bN_quotientUnsigned 19 = .ok (.lreturn, 1) := by decide +kernel
theorem dN_quotientUnsigned_20 : decode bN_quotientUnsigned 20 = .ok (.lload_n 0, 1) := by decide +kernel
theorem dN_quotientUnsigned_21 : decode bN_quotientUnsigned 21 = .ok (.iconst 1, 1) := by decide +kernel
theorem dN_quotientUnsigned_22 : decode bN_quotientUnsigned 22 = .ok (.lushr, 1) := by decide +kernel
theorem dN_quotientUnsigned_23 : decode bN_quotientUnsigned 23 = .ok (.lload_n 2, 1) := by decide +kernel
theorem dN_quotientUnsigned_24 : decode bN_quotientUnsigned 24 = .ok (.ldiv, 1) := by decide +kernel
theorem dN_quotientUnsigned_25 : decode bN_quotientUnsigned 25 = .ok (.iconst 1, 1) := by decide +kernel
theorem dN_quotientUnsigned_26 : decode bN_quotientUnsigned 26 = .ok (.lshl, 1) := by decide +kernel
theorem dN_quotientUnsigned_27 : decode bN_quotientUnsigned 27 = .ok (.lstore 4, 2) := by decide +kernel
theorem dN_quotientUnsigned_29 : decode bN_quotientUnsigned 29 = .ok (.lload_n 0, 1) := by decide +kernel
theorem dN_quotientUnsigned_30 : decode bN_quotientUnsigned 30 = .ok (.lload 4, 2) := by decide +kernel
theorem dN_quotientUnsigned_32 : decode bN_quotientUnsigned 32 = .ok (.lload_n 2, 1) := by decide +kernel
theorem dN_quotientUnsigned_33 : decode bN_quotientUnsigned 33 = .ok (.lmul, 1) := by decide +kernel
theorem dN_quotientUnsigned_34 : decode bN_quotientUnsigned 34 = .ok (.lsub, 1) := by decide +kernel
theorem dN_quotientUnsigned_35 : decode bN_quotientUnsigned 35 = .ok (.lload_n 2, 1) := by decide +kernel
theorem dN_quotientUnsigned_36 : decode bN_quotientUnsigned 36 = .ok (.invokestatic 124, 3) := by decide +kernel
theorem dN_quotientUnsigned_39 : decode bN_quotientUnsigned 39 = .ok (.ifCond .eq 8, 3) := by decide +kernel
theorem dN_quotientUnsigned_42 : decode bN_quotientUnsigned 42 = .ok (.lload 4, 2) := by decide +kernel
theorem dN_quotientUnsigned_44 : decode bN_quotientUnsigned 44 = .ok (.goto 7, 3) := by decide +kernel
theorem dN_quotientUnsigned_47 : decode bN_quotientUnsigned 47 = .ok (.lload 4, 2) := by decide +kernel
theorem dN_quotientUnsigned_49 : decode bN_quotientUnsigned 49 = .ok (.lconst 1, 1) := by decide +kernel
theorem dN_quotientUnsigned_50 : decode bN_quotientUnsigned 50 = .ok (.ladd, 1) := by decide +kernel
theorem dN_quotientUnsigned_51 : decode bN_quotientUnsigned 51 = .ok (.lreturn, 1) := by decide +kernel
theorem dN_isBelowUnsigned_0 : decode bN_isBelowUnsigned 0 = .ok (.lload_n 0, 1) := by decide +kernel
theorem dN_isBelowUnsigned_1 : decode bN_isBelowUnsigned 1 = .ok (.ldc2_w 188, 3) := by decide +kernel
theorem dN_isBelowUnsigned_4 : decode bN_isBelowUnsigned 4 = .ok (.lxor, 1) := by decide +kernel
theorem dN_isBelowUnsigned_5 : decode bN_isBelowUnsigned 5 = .ok (.lload_n 2, 1) := by decide +kernel
theorem dN_isBelowUnsigned_6 : decode bN_isBelowUnsigned 6 = .ok (.ldc2_w 188, 3) := by decide +kernel
theorem dN_isBelowUnsigned_9 : decode bN_isBelowUnsigned 9 = .ok (.lxor, 1) := by decide +kernel
theorem dN_isBelowUnsigned_10 : decode bN_isBelowUnsigned 10 = .ok (.lcmp, 1) := by decide +kernel
theorem dN_isBelowUnsigned_11 : decode bN_isBelowUnsigned 11 = .ok (.ifCond .ge 7, 3) := by decide +kernel
theorem dN_isBelowUnsigned_14 : decode bN_isBelowUnsigned 14 = .ok (.iconst 1, 1) := by decide +kernel
theorem dN_isBelowUnsigned_15 : decode bN_isBelowUnsigned 15 = .ok (.goto 4, 3) := by decide +kernel
theorem dN_isBelowUnsigned_18 : decode bN_isBelowUnsigned 18 = .ok (.iconst 0, 1) := by decide +kernel
theorem dN_isBelowUnsigned_19 : decode bN_isBelowUnsigned 19 = .ok (.ireturn, 1) := by decide +kernel
theorem dN_changeElements_0 : decode bN_changeElements 0 = .ok (.aload_n 0, 1) := by decide +kernel
theorem dN_changeElements_1 : decode bN_changeElements 1 = .ok (.getfield 16, 3) := by decide +kernel
theorem dN_changeElements_4 : decode bN_changeElements 4 = .ok (.aload_n 2, 1) := by decide +kernel
theorem dN_changeElements_5 : decode bN_changeElements 5 = .ok (.getfield 41, 3) := by decide +kernel
theorem dN_changeElements_8 : decode bN_changeElements 8 = .ok (.putfield 41, 3) := by decide +kernel
theorem dN_changeElements_11 : decode bN_changeElements 11 = .ok (.iconst 0, 1) := by decide +kernel
theorem dN_changeElements_12 : decode bN_changeElements 12 = .ok (.istore_n 3, 1) := by decide +kernel
theorem dN_changeElements_13 : decode bN_changeElements 13 = .ok (.iload_n 3, 1) := by decide +kernel
theorem dN_changeElements_14 : decode bN_changeElements 14 = .ok (.aload_n 2, 1) := by decide +kernel
theorem dN_changeElements_15 : decode bN_changeElements 15 = .ok (.getfield 41, 3) := by decide +kernel
theorem dN_changeElements_18 : decode bN_changeElements 18 = .ok (.if_icmp .ge 45, 3) := by decide +kernel
theorem dN_changeElements_21 : decode bN_changeElements 21 = .ok (.aload_n 2, 1) := by decide +kernel
theorem dN_changeElements_22 : decode bN_changeElements 22 = .ok (.getfield 37, 3) := by decide +kernel
theorem dN_changeElements_25 : decode bN_changeElements 25 = .ok (.iload_n 3, 1) := by decide +kernel
theorem dN_changeElements_26 : decode bN_changeElements 26 = .ok (.iaload, 1) := by decide +kernel
theorem dN_changeElements_27 : decode bN_changeElements 27 = .ok (.istore 4, 2) := by decide +kernel
theorem dN_changeElements_29 : decode bN_changeElements 29 = .ok (.aload_n 0, 1) := by decide +kernel
theorem dN_changeElements_30 : decode bN_changeElements 30 = .ok (.getfield 16, 3) := by decide +kernel
theorem dN_changeElements_33 : decode bN_changeElements 33 = .ok (.getfield 37, 3) := by decide +kernel
theorem dN_changeElements_36 : decode bN_changeElements 36 = .ok (.iload_n 3, 1) := by decide +kernel
theorem dN_changeElements_37 : decode bN_changeElements 37 = .ok (.iload_n 1, 1) := by decide +kernel
theorem dN_changeElements_38 : decode bN_changeElements 38 = .ok (.iconst 4, 1) := by decide +kernel
theorem dN_changeElements_39 : decode bN_changeElements 39 = .ok (.if_icmp .ne 11, 3) := by decide +kernel
theorem dN_changeElements_42 : decode bN_changeElements 42 = .ok (.iload 4, 2) := by decide +kernel
theorem dN_changeElements_44 : decode bN_changeElements 44 = .ok (.invokestatic 190, 3) := by decide +kernel
theorem dN_changeElements_47 : decode bN_changeElements 47 = .ok (.goto 9, 3) := by decide +kernel
theorem dN_changeElements_50 : decode bN_changeElements 50 = .ok (.iload_n 1, 1) := by decide +kernel
theorem dN_changeElements_51 : decode bN_changeElements 51 = .ok (.iload 4, 2) := by decide +kernel
theorem dN_changeElements_53 : decode bN_changeElements 53 = .ok (.invokestatic 194, 3) := by decide +kernel
theorem dN_changeElements_56 : decode bN_changeElements 56 = .ok (.iastore, 1) := by decide +kernel
theorem dN_changeElements_57 : decode bN_changeElements 57 = .ok (.iinc 3 1, 3) := by decide +kernel
theorem dN_changeElements_60 : decode bN_changeElements 60 = .ok (.goto (-47), 3) := by decide +kernel
theorem dN_changeElements_63 : decode bN_changeElements 63 = .ok (.return_, 1) := by decide +kernel
theorem dN_changeNumber_0 : decode bN_changeNumber 0 = .ok (.aload_n 2, 1) := by decide +kernel
theorem dN_changeNumber_1 : decode bN_changeNumber 1 = .ok (.invokevirtual 49, 3) := by decide +kernel
theorem dN_changeNumber_4 : decode bN_changeNumber 4 = .ok (.ifCond .ne 16, 3) := by decide +kernel
theorem dN_changeNumber_7 : decode bN_changeNumber 7 = .ok (.aload_n 0, 1) := by decide +kernel
theorem dN_changeNumber_8 : decode bN_changeNumber 8 = .ok (.getfield 16, 3) := by decide +kernel
theorem dN_changeNumber_11 : decode bN_changeNumber 11 = .ok (.aload_n 2, 1) := by decide +kernel
theorem dN_changeNumber_12 : decode bN_changeNumber 12 = .ok (.getfield 41, 3) := by decide +kernel
theorem dN_changeNumber_15 : decode bN_changeNumber 15 = .ok (.iconst 1, 1) := by decide +kernel
theorem dN_changeNumber_16 : decode bN_changeNumber 16 = .ok (.invokevirtual 30, 3) := by decide +kernel
theorem dN_changeNumber_19 : decode bN_changeNumber 19 = .ok (.return_, 1) := by decide +kernel
theorem dN_changeNumber_20 : decode bN_changeNumber 20 = .ok (.aload_n 2, 1) := by decide +kernel
theorem dN_changeNumber_21 : decode bN_changeNumber 21 = .ok (.iconst 1, 1) := by decide +kernel
theorem dN_changeNumber_22 : decode bN_changeNumber 22 = .ok (.invokevirtual 60, 3) := by decide +kernel
theorem dN_changeNumber_25 : decode bN_changeNumber 25 = .ok (.lstore_n 3, 1) := by decide +kernel
theorem dN_changeNumber_26 : decode bN_changeNumber 26 = .ok (.aload_n 0, 1) := by decide +kernel
theorem dN_changeNumber_27 : decode bN_changeNumber 27 = .ok (.getfield 16, 3) := by decide +kernel
theorem dN_changeNumber_30 : decode bN_changeNumber 30 = .ok (.aload_n 2, 1) := by decide +kernel
theorem dN_changeNumber_31 : decode bN_changeNumber 31 = .ok (.getfield 41, 3) := by decide +kernel
theorem dN_changeNumber_34 : decode bN_changeNumber 34 = .ok (.iload_n 1, 1) := by decide +kernel
theorem dN_changeNumber_35 : decode bN_changeNumber 35 = .ok (.iconst 5, 1) := by decide +kernel
theorem dN_changeNumber_36 : decode bN_changeNumber 36 = .ok (.if_icmp .eq 9, 3) := by decide +kernel
theorem dN_changeNumber_39 : decode bN_changeNumber 39 = .ok (.lload_n 3, 1) := by decide +kernel
theorem dN_changeNumber_40 : decode bN_changeNumber 40 = .ok (.lconst 0, 1) := by decide +kernel
theorem dN_changeNumber_41 : decode bN_changeNumber 41 = .ok (.lcmp, 1) := by decide +kernel
theorem dN_changeNumber_42 : decode bN_changeNumber 42 = .ok (.ifCond .ge 8, 3) := by decide +kernel
theorem dN_changeNumber_45 : decode bN_changeNumber 45 = .ok (.lload_n 3, 1) := by decide +kernel
theorem dN_changeNumber_46 : decode bN_changeNumber 46 = .ok (.lneg, 1) := by decide +kernel
theorem dN_changeNumber_47 : decode bN_changeNumber 47 = .ok (.goto 4, 3) := by decide +kernel
theorem dN_changeNumber_50 : decode bN_changeNumber 50 = .ok (.lload_n 3, 1) := by decide +kernel
theorem dN_changeNumber_51 : decode bN_changeNumber 51 = .ok (.invokevirtual 45, 3) := by decide +kernel
theorem dN_changeNumber_54 : decode bN_changeNumber 54 = .ok (.return_, 1) := by decide +kernel
theorem dN_moveBy_0 : decode bN_moveBy 0 = .ok (.iload_n 1, 1) := by decide +kernel
theorem dN_moveBy_1 : decode bN_moveBy 1 = .ok (.tableswitch 88 0 3 #[31, 42, 54, 78], 31) := by decide +kernel
theorem dN_moveBy_32 : decode bN_moveBy 32 = .ok (.aload_n 0, 1) := by decide +kernel
theorem dN_moveBy_33 : decode bN_moveBy 33 = .ok (.iload_n 2, 1) := by decide +kernel
theorem dN_moveBy_34 : decode bN_moveBy 34 = .ok (.iload_n 3, 1) := by decide +kernel
theorem dN_moveBy_35 : decode bN_moveBy 35 = .ok (.aload 4, 2) := by decide +kernel
theorem dN_moveBy_37 : decode bN_moveBy 37 = .ok (.invokevirtual 197, 3) := by decide +kernel
theorem dN_moveBy_40 : decode bN_moveBy 40 = .ok (.goto 57, 3) := by decide +kernel
theorem dN_moveBy_43 : decode bN_moveBy 43 = .ok (.aload_n 0, 1) := by decide +kernel
theorem dN_moveBy_44 : decode bN_moveBy 44 = .ok (.iload_n 2, 1) := by decide +kernel
theorem dN_moveBy_45 : decode bN_moveBy 45 = .ok (.ineg, 1) := by decide +kernel
theorem dN_moveBy_46 : decode bN_moveBy 46 = .ok (.iload_n 3, 1) := by decide +kernel
theorem dN_moveBy_47 : decode bN_moveBy 47 = .ok (.aload 4, 2) := by decide +kernel
theorem dN_moveBy_49 : decode bN_moveBy 49 = .ok (.invokevirtual 197, 3) := by decide +kernel
theorem dN_moveBy_52 : decode bN_moveBy 52 = .ok (.goto 45, 3) := by decide +kernel
theorem dN_moveBy_55 : decode bN_moveBy 55 = .ok (.aload_n 0, 1) := by decide +kernel
theorem dN_moveBy_56 : decode bN_moveBy 56 = .ok (.iload_n 2, 1) := by decide +kernel
theorem dN_moveBy_57 : decode bN_moveBy 57 = .ok (.ineg, 1) := by decide +kernel
theorem dN_moveBy_58 : decode bN_moveBy 58 = .ok (.iload_n 2, 1) := by decide +kernel
theorem dN_moveBy_59 : decode bN_moveBy 59 = .ok (.ifCond .ge 7, 3) := by decide +kernel
theorem dN_moveBy_62 : decode bN_moveBy 62 = .ok (.iconst 2, 1) := by decide +kernel
theorem dN_moveBy_63 : decode bN_moveBy 63 = .ok (.goto 8, 3) := by decide +kernel
theorem dN_moveBy_66 : decode bN_moveBy 66 = .ok (.aload 4, 2) := by decide +kernel
theorem dN_moveBy_68 : decode bN_moveBy 68 = .ok (.invokevirtual 102, 3) := by decide +kernel
theorem dN_moveBy_71 : decode bN_moveBy 71 = .ok (.aload 4, 2) := by decide +kernel
theorem dN_moveBy_73 : decode bN_moveBy 73 = .ok (.invokevirtual 197, 3) := by decide +kernel
theorem dN_moveBy_76 : decode bN_moveBy 76 = .ok (.goto 21, 3) := by decide +kernel
theorem dN_moveBy_79 : decode bN_moveBy 79 = .ok (.aload_n 0, 1) := by decide +kernel
theorem dN_moveBy_80 : decode bN_moveBy 80 = .ok (.iload_n 2, 1) := by decide +kernel
theorem dN_moveBy_81 : decode bN_moveBy 81 = .ok (.aload 4, 2) := by decide +kernel
theorem dN_moveBy_83 : decode bN_moveBy 83 = .ok (.invokevirtual 201, 3) := by decide +kernel
theorem dN_moveBy_86 : decode bN_moveBy 86 = .ok (.goto 11, 3) := by decide +kernel
theorem dN_moveBy_89 : decode bN_moveBy 89 = .ok (.aload_n 0, 1) := by decide +kernel
theorem dN_moveBy_90 : decode bN_moveBy 90 = .ok (.iload_n 2, 1) := by decide +kernel
theorem dN_moveBy_91 : decode bN_moveBy 91 = .ok (.ineg, 1) := by decide +kernel
theorem dN_moveBy_92 : decode bN_moveBy 92 = .ok (.aload 4, 2) := by decide +kernel
theorem dN_moveBy_94 : decode bN_moveBy 94 = .ok (.invokevirtual 201, 3) := by decide +kernel
theorem dN_moveBy_97 : decode bN_moveBy 97 = .ok (.return_, 1) := by decide +kernel
theorem dN_move_0 : decode bN_move 0 = .ok (.aload_n 0, 1) := by decide +kernel
theorem dN_move_1 : decode bN_move 1 = .ok (.getfield 16, 3) := by decide +kernel
theorem dN_move_4 : decode bN_move 4 = .ok (.aload_n 3, 1) := by decide +kernel
theorem dN_move_5 : decode bN_move 5 = .ok (.getfield 41, 3) := by decide +kernel
theorem dN_move_8 : decode bN_move 8 = .ok (.iload_n 2, 1) := by decide +kernel
theorem dN_move_9 : decode bN_move 9 = .ok (.invokevirtual 30, 3) := by decide +kernel
theorem dN_move_12 : decode bN_move 12 = .ok (.iconst 0, 1) := by decide +kernel
theorem dN_move_13 : decode bN_move 13 = .ok (.istore 4, 2) := by decide +kernel
theorem dN_move_15 : decode bN_move 15 = .ok (.iload 4, 2) := by decide +kernel
theorem dN_move_17 : decode bN_move 17 = .ok (.aload_n 3, 1) := by decide +kernel
theorem dN_move_18 : decode bN_move 18 = .ok (.getfield 41, 3) := by decide +kernel
theorem dN_move_21 : decode bN_move 21 = .ok (.if_icmp .ge 46, 3) := by decide +kernel
theorem dN_move_24 : decode bN_move 24 = .ok (.iload 4, 2) := by decide +kernel
theorem dN_move_26 : decode bN_move 26 = .ok (.iload_n 1, 1) := by decide +kernel
theorem dN_move_27 : decode bN_move 27 = .ok (.isub, 1) := by decide +kernel
theorem dN_move_28 : decode bN_move 28 = .ok (.istore 5, 2) := by decide +kernel
theorem dN_move_30 : decode bN_move 30 = .ok (.iload 5, 2) := by decide +kernel
theorem dN_move_32 : decode bN_move 32 = .ok (.ifCond .lt 29, 3) := by decide +kernel
theorem dN_move_35 : decode bN_move 35 = .ok (.iload 5, 2) := by decide +kernel
theorem dN_move_37 : decode bN_move 37 = .ok (.aload_n 3, 1) := by decide +kernel
theorem dN_move_38 : decode bN_move 38 = .ok (.getfield 41, 3) := by decide +kernel
theorem dN_move_41 : decode bN_move 41 = .ok (.if_icmp .ge 20, 3) := by decide +kernel
theorem dN_move_44 : decode bN_move 44 = .ok (.aload_n 0, 1) := by decide +kernel
theorem dN_move_45 : decode bN_move 45 = .ok (.getfield 16, 3) := by decide +kernel
theorem dN_move_48 : decode bN_move 48 = .ok (.getfield 37, 3) := by decide +kernel
theorem dN_move_51 : decode bN_move 51 = .ok (.iload 4, 2) := by decide +kernel
theorem dN_move_53 : decode bN_move 53 = .ok (.aload_n 3, 1) := by decide +kernel
theorem dN_move_54 : decode bN_move 54 = .ok (.getfield 37, 3) := by decide +kernel
theorem dN_move_57 : decode bN_move 57 = .ok (.iload 5, 2) := by decide +kernel
theorem dN_move_59 : decode bN_move 59 = .ok (.iaload, 1) := by decide +kernel
theorem dN_move_60 : decode bN_move 60 = .ok (.iastore, 1) := by decide +kernel
theorem dN_move_61 : decode bN_move 61 = .ok (.iinc 4 1, 3) := by decide +kernel
theorem dN_move_64 : decode bN_move 64 = .ok (.goto (-49), 3) := by decide +kernel
theorem dN_move_67 : decode bN_move 67 = .ok (.return_, 1) := by decide +kernel
theorem dN_turnRound_0 : decode bN_turnRound 0 = .ok (.aload_n 0, 1) := by decide +kernel
theorem dN_turnRound_1 : decode bN_turnRound 1 = .ok (.getfield 16, 3) := by decide +kernel
theorem dN_turnRound_4 : decode bN_turnRound 4 = .ok (.aload_n 2, 1) := by decide +kernel
theorem dN_turnRound_5 : decode bN_turnRound 5 = .ok (.getfield 41, 3) := by decide +kernel
theorem dN_turnRound_8 : decode bN_turnRound 8 = .ok (.putfield 41, 3) := by decide +kernel
theorem dN_turnRound_11 : decode bN_turnRound 11 = .ok (.iconst 0, 1) := by decide +kernel
theorem dN_turnRound_12 : decode bN_turnRound 12 = .ok (.istore_n 3, 1) := by decide +kernel
theorem dN_turnRound_13 : decode bN_turnRound 13 = .ok (.iload_n 3, 1) := by decide +kernel
theorem dN_turnRound_14 : decode bN_turnRound 14 = .ok (.aload_n 2, 1) := by decide +kernel
theorem dN_turnRound_15 : decode bN_turnRound 15 = .ok (.getfield 41, 3) := by decide +kernel
theorem dN_turnRound_18 : decode bN_turnRound 18 = .ok (.if_icmp .ge 33, 3) := by decide +kernel
theorem dN_turnRound_21 : decode bN_turnRound 21 = .ok (.aload_n 0, 1) := by decide +kernel
theorem dN_turnRound_22 : decode bN_turnRound 22 = .ok (.getfield 16, 3) := by decide +kernel
theorem dN_turnRound_25 : decode bN_turnRound 25 = .ok (.getfield 37, 3) := by decide +kernel
theorem dN_turnRound_28 : decode bN_turnRound 28 = .ok (.iload_n 3, 1) := by decide +kernel
theorem dN_turnRound_29 : decode bN_turnRound 29 = .ok (.aload_n 2, 1) := by decide +kernel
theorem dN_turnRound_30 : decode bN_turnRound 30 = .ok (.getfield 37, 3) := by decide +kernel
theorem dN_turnRound_33 : decode bN_turnRound 33 = .ok (.iload_n 3, 1) := by decide +kernel
theorem dN_turnRound_34 : decode bN_turnRound 34 = .ok (.iload_n 1, 1) := by decide +kernel
theorem dN_turnRound_35 : decode bN_turnRound 35 = .ok (.isub, 1) := by decide +kernel
theorem dN_turnRound_36 : decode bN_turnRound 36 = .ok (.aload_n 2, 1) := by decide +kernel
theorem dN_turnRound_37 : decode bN_turnRound 37 = .ok (.getfield 41, 3) := by decide +kernel
theorem dN_turnRound_40 : decode bN_turnRound 40 = .ok (.invokestatic 204, 3) := by decide +kernel
theorem dN_turnRound_43 : decode bN_turnRound 43 = .ok (.iaload, 1) := by decide +kernel
theorem dN_turnRound_44 : decode bN_turnRound 44 = .ok (.iastore, 1) := by decide +kernel
theorem dN_turnRound_45 : decode bN_turnRound 45 = .ok (.iinc 3 1, 3) := by decide +kernel
theorem dN_turnRound_48 : decode bN_turnRound 48 = .ok (.goto (-35), 3) := by decide +kernel
theorem dN_turnRound_51 : decode bN_turnRound 51 = .ok (.return_, 1) := by decide +kernel
