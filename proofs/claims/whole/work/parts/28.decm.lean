theorem dMo_init_0 : decode bMo_init 0 = .ok (.aload_n 0, 1) := by decide +kernel
theorem dMo_init_1 : decode bMo_init 1 = .ok (.invokespecial 1, 3) := by decide +kernel
theorem dMo_init_4 : decode bMo_init 4 = .ok (.aload_n 0, 1) := by decide +kernel
theorem dMo_init_5 : decode bMo_init 5 = .ok (.sipush 1024, 3) := by decide +kernel
theorem dMo_init_8 : decode bMo_init 8 = .ok (.newarray .int, 2) := by decide +kernel
theorem dMo_init_10 : decode bMo_init 10 = .ok (.putfield 7, 3) := by decide +kernel
theorem dMo_init_13 : decode bMo_init 13 = .ok (.aload_n 0, 1) := by decide +kernel
theorem dMo_init_14 : decode bMo_init 14 = .ok (.bipush 16, 2) := by decide +kernel
theorem dMo_init_16 : decode bMo_init 16 = .ok (.newarray .int, 2) := by decide +kernel
theorem dMo_init_18 : decode bMo_init 18 = .ok (.putfield 13, 3) := by decide +kernel
theorem dMo_init_21 : decode bMo_init 21 = .ok (.aload_n 0, 1) := by decide +kernel
theorem dMo_init_22 : decode bMo_init 22 = .ok (.sipush 128, 3) := by decide +kernel
theorem dMo_init_25 : decode bMo_init 25 = .ok (.newarray .int, 2) := by decide +kernel
theorem dMo_init_27 : decode bMo_init 27 = .ok (.putfield 16, 3) := by decide +kernel
theorem dMo_init_30 : decode bMo_init 30 = .ok (.return_, 1) := by decide +kernel
theorem dMo_thrown_0 : decode bMo_thrown 0 = .ok (.aload_n 0, 1) := by decide +kernel
theorem dMo_thrown_1 : decode bMo_thrown 1 = .ok (.getfield 19, 3) := by decide +kernel
theorem dMo_thrown_4 : decode bMo_thrown 4 = .ok (.ireturn, 1) := by decide +kernel
theorem dMo_none_0 : decode bMo_none 0 = .ok (.iload_n 0, 1) := by decide +kernel
theorem dMo_none_1 : decode bMo_none 1 = .ok (.ifCond .lt 9, 3) := by decide +kernel
theorem dMo_none_4 : decode bMo_none 4 = .ok (.iload_n 0, 1) := by decide +kernel
theorem dMo_none_5 : decode bMo_none 5 = .ok (.bipush 15, 2) := by decide +kernel
theorem dMo_none_7 : decode bMo_none 7 = .ok (.if_icmp .le 7, 3) := by decide +kernel
theorem dMo_none_10 : decode bMo_none 10 = .ok (.iconst 1, 1) := by decide +kernel
theorem dMo_none_11 : decode bMo_none 11 = .ok (.goto 4, 3) := by decide +kernel
theorem dMo_none_14 : decode bMo_none 14 = .ok (.iconst 0, 1) := by decide +kernel
theorem dMo_none_15 : decode bMo_none 15 = .ok (.ireturn, 1) := by decide +kernel
theorem dMo_isLow_0 : decode bMo_isLow 0 = .ok (.iload_n 0, 1) := by decide +kernel
theorem dMo_isLow_1 : decode bMo_isLow 1 = .ok (.iconst 2, 1) := by decide +kernel
theorem dMo_isLow_2 : decode bMo_isLow 2 = .ok (.if_icmp .eq 9, 3) := by decide +kernel
theorem dMo_isLow_5 : decode bMo_isLow 5 = .ok (.iload_n 0, 1) := by decide +kernel
theorem dMo_isLow_6 : decode bMo_isLow 6 = .ok (.bipush 6, 2) := by decide +kernel
theorem dMo_isLow_8 : decode bMo_isLow 8 = .ok (.if_icmp .ne 7, 3) := by decide +kernel
theorem dMo_isLow_11 : decode bMo_isLow 11 = .ok (.iconst 1, 1) := by decide +kernel
theorem dMo_isLow_12 : decode bMo_isLow 12 = .ok (.goto 4, 3) := by decide +kernel
theorem dMo_isLow_15 : decode bMo_isLow 15 = .ok (.iconst 0, 1) := by decide +kernel
theorem dMo_isLow_16 : decode bMo_isLow 16 = .ok (.ireturn, 1) := by decide +kernel
theorem dMo_isHigh_0 : decode bMo_isHigh 0 = .ok (.iload_n 0, 1) := by decide +kernel
theorem dMo_isHigh_1 : decode bMo_isHigh 1 = .ok (.iconst 3, 1) := by decide +kernel
theorem dMo_isHigh_2 : decode bMo_isHigh 2 = .ok (.if_icmp .eq 9, 3) := by decide +kernel
theorem dMo_isHigh_5 : decode bMo_isHigh 5 = .ok (.iload_n 0, 1) := by decide +kernel
theorem dMo_isHigh_6 : decode bMo_isHigh 6 = .ok (.bipush 7, 2) := by decide +kernel
theorem dMo_isHigh_8 : decode bMo_isHigh 8 = .ok (.if_icmp .ne 7, 3) := by decide +kernel
theorem dMo_isHigh_11 : decode bMo_isHigh 11 = .ok (.iconst 1, 1) := by decide +kernel
theorem dMo_isHigh_12 : decode bMo_isHigh 12 = .ok (.goto 4, 3) := by decide +kernel
theorem dMo_isHigh_15 : decode bMo_isHigh 15 = .ok (.iconst 0, 1) := by decide +kernel
theorem dMo_isHigh_16 : decode bMo_isHigh 16 = .ok (.ireturn, 1) := by decide +kernel
theorem dMo_isClear_0 : decode bMo_isClear 0 = .ok (.iload_n 0, 1) := by decide +kernel
theorem dMo_isClear_1 : decode bMo_isClear 1 = .ok (.invokestatic 23, 3) := by decide +kernel
theorem dMo_isClear_4 : decode bMo_isClear 4 = .ok (.ifCond .ne 10, 3) := by decide +kernel
theorem dMo_isClear_7 : decode bMo_isClear 7 = .ok (.iload_n 0, 1) := by decide +kernel
theorem dMo_isClear_8 : decode bMo_isClear 8 = .ok (.invokestatic 27, 3) := by decide +kernel
theorem dMo_isClear_11 : decode bMo_isClear 11 = .ok (.ifCond .eq 7, 3) := by decide +kernel
theorem dMo_isClear_14 : decode bMo_isClear 14 = .ok (.iconst 1, 1) := by decide +kernel
theorem dMo_isClear_15 : decode bMo_isClear 15 = .ok (.goto 4, 3) := by decide +kernel
theorem dMo_isClear_18 : decode bMo_isClear 18 = .ok (.iconst 0, 1) := by decide +kernel
theorem dMo_isClear_19 : decode bMo_isClear 19 = .ok (.ireturn, 1) := by decide +kernel
theorem dMo_cell_0 : decode bMo_cell 0 = .ok (.aload_n 0, 1) := by decide +kernel
theorem dMo_cell_1 : decode bMo_cell 1 = .ok (.getfield 7, 3) := by decide +kernel
theorem dMo_cell_4 : decode bMo_cell 4 = .ok (.bipush 64, 2) := by decide +kernel
theorem dMo_cell_6 : decode bMo_cell 6 = .ok (.iload_n 1, 1) := by decide +kernel
theorem dMo_cell_7 : decode bMo_cell 7 = .ok (.imul, 1) := by decide +kernel
theorem dMo_cell_8 : decode bMo_cell 8 = .ok (.iload_n 2, 1) := by decide +kernel
theorem dMo_cell_9 : decode bMo_cell 9 = .ok (.iadd, 1) := by decide +kernel
theorem dMo_cell_10 : decode bMo_cell 10 = .ok (.iaload, 1) := by decide +kernel
theorem dMo_cell_11 : decode bMo_cell 11 = .ok (.ireturn, 1) := by decide +kernel
theorem dMo_keep_0 : decode bMo_keep 0 = .ok (.aload_n 0, 1) := by decide +kernel
theorem dMo_keep_1 : decode bMo_keep 1 = .ok (.getfield 13, 3) := by decide +kernel
theorem dMo_keep_4 : decode bMo_keep 4 = .ok (.iload_n 1, 1) := by decide +kernel
theorem dMo_keep_5 : decode bMo_keep 5 = .ok (.aload_n 0, 1) := by decide +kernel
theorem dMo_keep_6 : decode bMo_keep 6 = .ok (.getfield 30, 3) := by decide +kernel
theorem dMo_keep_9 : decode bMo_keep 9 = .ok (.iastore, 1) := by decide +kernel
theorem dMo_keep_10 : decode bMo_keep 10 = .ok (.iconst 0, 1) := by decide +kernel
theorem dMo_keep_11 : decode bMo_keep 11 = .ok (.istore_n 2, 1) := by decide +kernel
theorem dMo_keep_12 : decode bMo_keep 12 = .ok (.iload_n 2, 1) := by decide +kernel
theorem dMo_keep_13 : decode bMo_keep 13 = .ok (.bipush 64, 2) := by decide +kernel
theorem dMo_keep_15 : decode bMo_keep 15 = .ok (.if_icmp .ge 38, 3) := by decide +kernel
theorem dMo_keep_18 : decode bMo_keep 18 = .ok (.aload_n 0, 1) := by decide +kernel
theorem dMo_keep_19 : decode bMo_keep 19 = .ok (.getfield 7, 3) := by decide +kernel
theorem dMo_keep_22 : decode bMo_keep 22 = .ok (.bipush 64, 2) := by decide +kernel
theorem dMo_keep_24 : decode bMo_keep 24 = .ok (.iload_n 1, 1) := by decide +kernel
theorem dMo_keep_25 : decode bMo_keep 25 = .ok (.imul, 1) := by decide +kernel
theorem dMo_keep_26 : decode bMo_keep 26 = .ok (.iload_n 2, 1) := by decide +kernel
theorem dMo_keep_27 : decode bMo_keep 27 = .ok (.iadd, 1) := by decide +kernel
theorem dMo_keep_28 : decode bMo_keep 28 = .ok (.iload_n 2, 1) := by decide +kernel
theorem dMo_keep_29 : decode bMo_keep 29 = .ok (.aload_n 0, 1) := by decide +kernel
theorem dMo_keep_30 : decode bMo_keep 30 = .ok (.getfield 30, 3) := by decide +kernel
theorem dMo_keep_33 : decode bMo_keep 33 = .ok (.if_icmp .ge 12, 3) := by decide +kernel
theorem dMo_keep_36 : decode bMo_keep 36 = .ok (.aload_n 0, 1) := by decide +kernel
theorem dMo_keep_37 : decode bMo_keep 37 = .ok (.getfield 16, 3) := by decide +kernel
theorem dMo_keep_40 : decode bMo_keep 40 = .ok (.iload_n 2, 1) := by decide +kernel
theorem dMo_keep_41 : decode bMo_keep 41 = .ok (.iaload, 1) := by decide +kernel
theorem dMo_keep_42 : decode bMo_keep 42 = .ok (.goto 4, 3) := by decide +kernel
theorem dMo_keep_45 : decode bMo_keep 45 = .ok (.iconst 0, 1) := by decide +kernel
theorem dMo_keep_46 : decode bMo_keep 46 = .ok (.iastore, 1) := by decide +kernel
theorem dMo_keep_47 : decode bMo_keep 47 = .ok (.iinc 2 1, 3) := by decide +kernel
theorem dMo_keep_50 : decode bMo_keep 50 = .ok (.goto (-38), 3) := by decide +kernel
theorem dMo_keep_53 : decode bMo_keep 53 = .ok (.return_, 1) := by decide +kernel
theorem dMo_fill_0 : decode bMo_fill 0 = .ok (.aload_n 0, 1) := by decide +kernel
theorem dMo_fill_1 : decode bMo_fill 1 = .ok (.iload_n 1, 1) := by decide +kernel
theorem dMo_fill_2 : decode bMo_fill 2 = .ok (.invokestatic 33, 3) := by decide +kernel
theorem dMo_fill_5 : decode bMo_fill 5 = .ok (.ifCond .eq 7, 3) := by decide +kernel
theorem dMo_fill_8 : decode bMo_fill 8 = .ok (.iconst 1, 1) := by decide +kernel
theorem dMo_fill_9 : decode bMo_fill 9 = .ok (.goto 28, 3) := by decide +kernel
theorem dMo_fill_12 : decode bMo_fill 12 = .ok (.iload_n 2, 1) := by decide +kernel
theorem dMo_fill_13 : decode bMo_fill 13 = .ok (.ifCond .lt 19, 3) := by decide +kernel
theorem dMo_fill_16 : decode bMo_fill 16 = .ok (.iload_n 2, 1) := by decide +kernel
theorem dMo_fill_17 : decode bMo_fill 17 = .ok (.bipush 64, 2) := by decide +kernel
theorem dMo_fill_19 : decode bMo_fill 19 = .ok (.if_icmp .gt 13, 3) := by decide +kernel
theorem dMo_fill_22 : decode bMo_fill 22 = .ok (.iload_n 3, 1) := by decide +kernel
theorem dMo_fill_23 : decode bMo_fill 23 = .ok (.ifCond .lt 9, 3) := by decide +kernel
theorem dMo_fill_26 : decode bMo_fill 26 = .ok (.iload_n 3, 1) := by decide +kernel
theorem dMo_fill_27 : decode bMo_fill 27 = .ok (.bipush 8, 2) := by decide +kernel
theorem dMo_fill_29 : decode bMo_fill 29 = .ok (.if_icmp .le 7, 3) := by decide +kernel
theorem dMo_fill_32 : decode bMo_fill 32 = .ok (.iconst 2, 1) := by decide +kernel
theorem dMo_fill_33 : decode bMo_fill 33 = .ok (.goto 4, 3) := by decide +kernel
theorem dMo_fill_36 : decode bMo_fill 36 = .ok (.iconst 0, 1) := by decide +kernel
theorem dMo_fill_37 : decode bMo_fill 37 = .ok (.putfield 19, 3) := by decide +kernel
theorem dMo_fill_40 : decode bMo_fill 40 = .ok (.aload_n 0, 1) := by decide +kernel
theorem dMo_fill_41 : decode bMo_fill 41 = .ok (.getfield 19, 3) := by decide +kernel
theorem dMo_fill_44 : decode bMo_fill 44 = .ok (.ifCond .le 4, 3) := by decide +kernel
theorem dMo_fill_47 : decode bMo_fill 47 = .ok (.return_, 1) := by decide +kernel
theorem dMo_fill_48 : decode bMo_fill 48 = .ok (.aload_n 0, 1) := by decide +kernel
theorem dMo_fill_49 : decode bMo_fill 49 = .ok (.iload_n 2, 1) := by decide +kernel
theorem dMo_fill_50 : decode bMo_fill 50 = .ok (.putfield 30, 3) := by decide +kernel
theorem dMo_fill_53 : decode bMo_fill 53 = .ok (.iconst 0, 1) := by decide +kernel
theorem dMo_fill_54 : decode bMo_fill 54 = .ok (.istore 4, 2) := by decide +kernel
theorem dMo_fill_56 : decode bMo_fill 56 = .ok (.iload 4, 2) := by decide +kernel
theorem dMo_fill_58 : decode bMo_fill 58 = .ok (.iload_n 2, 1) := by decide +kernel
theorem dMo_fill_59 : decode bMo_fill 59 = .ok (.if_icmp .ge 17, 3) := by decide +kernel
theorem dMo_fill_62 : decode bMo_fill 62 = .ok (.aload_n 0, 1) := by decide +kernel
theorem dMo_fill_63 : decode bMo_fill 63 = .ok (.getfield 16, 3) := by decide +kernel
theorem dMo_fill_66 : decode bMo_fill 66 = .ok (.iload 4, 2) := by decide +kernel
theorem dMo_fill_68 : decode bMo_fill 68 = .ok (.iload_n 3, 1) := by decide +kernel
theorem dMo_fill_69 : decode bMo_fill 69 = .ok (.iastore, 1) := by decide +kernel
theorem dMo_fill_70 : decode bMo_fill 70 = .ok (.iinc 4 1, 3) := by decide +kernel
theorem dMo_fill_73 : decode bMo_fill 73 = .ok (.goto (-17), 3) := by decide +kernel
theorem dMo_fill_76 : decode bMo_fill 76 = .ok (.aload_n 0, 1) := by decide +kernel
theorem dMo_fill_77 : decode bMo_fill 77 = .ok (.iload_n 1, 1) := by decide +kernel
theorem dMo_fill_78 : decode bMo_fill 78 = .ok (.invokevirtual 36, 3) := by decide +kernel
theorem dMo_fill_81 : decode bMo_fill 81 = .ok (.return_, 1) := by decide +kernel
theorem dMo_put_0 : decode bMo_put 0 = .ok (.aload_n 0, 1) := by decide +kernel
theorem dMo_put_1 : decode bMo_put 1 = .ok (.iload_n 1, 1) := by decide +kernel
theorem dMo_put_2 : decode bMo_put 2 = .ok (.invokestatic 33, 3) := by decide +kernel
theorem dMo_put_5 : decode bMo_put 5 = .ok (.ifCond .ne 17, 3) := by decide +kernel
theorem dMo_put_8 : decode bMo_put 8 = .ok (.iload_n 2, 1) := by decide +kernel
theorem dMo_put_9 : decode bMo_put 9 = .ok (.ifCond .lt 13, 3) := by decide +kernel
theorem dMo_put_12 : decode bMo_put 12 = .ok (.iload_n 2, 1) := by decide +kernel
theorem dMo_put_13 : decode bMo_put 13 = .ok (.aload_n 0, 1) := by decide +kernel
theorem dMo_put_14 : decode bMo_put 14 = .ok (.getfield 13, 3) := by decide +kernel
theorem dMo_put_17 : decode bMo_put 17 = .ok (.iload_n 1, 1) := by decide +kernel
theorem dMo_put_18 : decode bMo_put 18 = .ok (.iaload, 1) := by decide +kernel
theorem dMo_put_19 : decode bMo_put 19 = .ok (.if_icmp .lt 7, 3) := by decide +kernel
theorem dMo_put_22 : decode bMo_put 22 = .ok (.iconst 1, 1) := by decide +kernel
theorem dMo_put_23 : decode bMo_put 23 = .ok (.goto 18, 3) := by decide +kernel
theorem dMo_put_26 : decode bMo_put 26 = .ok (.iload_n 3, 1) := by decide +kernel
theorem dMo_put_27 : decode bMo_put 27 = .ok (.ifCond .lt 9, 3) := by decide +kernel
theorem dMo_put_30 : decode bMo_put 30 = .ok (.iload_n 3, 1) := by decide +kernel
theorem dMo_put_31 : decode bMo_put 31 = .ok (.bipush 8, 2) := by decide +kernel
theorem dMo_put_33 : decode bMo_put 33 = .ok (.if_icmp .le 7, 3) := by decide +kernel
theorem dMo_put_36 : decode bMo_put 36 = .ok (.iconst 2, 1) := by decide +kernel
theorem dMo_put_37 : decode bMo_put 37 = .ok (.goto 4, 3) := by decide +kernel
theorem dMo_put_40 : decode bMo_put 40 = .ok (.iconst 0, 1) := by decide +kernel
theorem dMo_put_41 : decode bMo_put 41 = .ok (.putfield 19, 3) := by decide +kernel
theorem dMo_put_44 : decode bMo_put 44 = .ok (.aload_n 0, 1) := by decide +kernel
theorem dMo_put_45 : decode bMo_put 45 = .ok (.getfield 19, 3) := by decide +kernel
theorem dMo_put_48 : decode bMo_put 48 = .ok (.ifCond .ne 15, 3) := by decide +kernel
theorem dMo_put_51 : decode bMo_put 51 = .ok (.aload_n 0, 1) := by decide +kernel
theorem dMo_put_52 : decode bMo_put 52 = .ok (.getfield 7, 3) := by decide +kernel
theorem dMo_put_55 : decode bMo_put 55 = .ok (.bipush 64, 2) := by decide +kernel
theorem dMo_put_57 : decode bMo_put 57 = .ok (.iload_n 1, 1) := by decide +kernel
theorem dMo_put_58 : decode bMo_put 58 = .ok (.imul, 1) := by decide +kernel
theorem dMo_put_59 : decode bMo_put 59 = .ok (.iload_n 2, 1) := by decide +kernel
theorem dMo_put_60 : decode bMo_put 60 = .ok (.iadd, 1) := by decide +kernel
theorem dMo_put_61 : decode bMo_put 61 = .ok (.iload_n 3, 1) := by decide +kernel
theorem dMo_put_62 : decode bMo_put 62 = .ok (.iastore, 1) := by decide +kernel
theorem dMo_put_63 : decode bMo_put 63 = .ok (.return_, 1) := by decide +kernel
theorem dMo_get_0 : decode bMo_get 0 = .ok (.aload_n 0, 1) := by decide +kernel
theorem dMo_get_1 : decode bMo_get 1 = .ok (.iload_n 1, 1) := by decide +kernel
theorem dMo_get_2 : decode bMo_get 2 = .ok (.invokestatic 33, 3) := by decide +kernel
theorem dMo_get_5 : decode bMo_get 5 = .ok (.ifCond .ne 17, 3) := by decide +kernel
theorem dMo_get_8 : decode bMo_get 8 = .ok (.iload_n 2, 1) := by decide +kernel
theorem dMo_get_9 : decode bMo_get 9 = .ok (.ifCond .lt 13, 3) := by decide +kernel
theorem dMo_get_12 : decode bMo_get 12 = .ok (.iload_n 2, 1) := by decide +kernel
theorem dMo_get_13 : decode bMo_get 13 = .ok (.aload_n 0, 1) := by decide +kernel
theorem dMo_get_14 : decode bMo_get 14 = .ok (.getfield 13, 3) := by decide +kernel
theorem dMo_get_17 : decode bMo_get 17 = .ok (.iload_n 1, 1) := by decide +kernel
theorem dMo_get_18 : decode bMo_get 18 = .ok (.iaload, 1) := by decide +kernel
theorem dMo_get_19 : decode bMo_get 19 = .ok (.if_icmp .lt 7, 3) := by decide +kernel
theorem dMo_get_22 : decode bMo_get 22 = .ok (.iconst 1, 1) := by decide +kernel
theorem dMo_get_23 : decode bMo_get 23 = .ok (.goto 4, 3) := by decide +kernel
theorem dMo_get_26 : decode bMo_get 26 = .ok (.iconst 0, 1) := by decide +kernel
theorem dMo_get_27 : decode bMo_get 27 = .ok (.putfield 19, 3) := by decide +kernel
theorem dMo_get_30 : decode bMo_get 30 = .ok (.aload_n 0, 1) := by decide +kernel
theorem dMo_get_31 : decode bMo_get 31 = .ok (.getfield 19, 3) := by decide +kernel
theorem dMo_get_34 : decode bMo_get 34 = .ok (.ifCond .le 7, 3) := by decide +kernel
theorem dMo_get_37 : decode bMo_get 37 = .ok (.iconst 0, 1) := by decide +kernel
theorem dMo_get_38 : decode bMo_get 38 = .ok (.goto 9, 3) := by decide +kernel
theorem dMo_get_41 : decode bMo_get 41 = .ok (.aload_n 0, 1) := by decide +kernel
theorem dMo_get_42 : decode bMo_get 42 = .ok (.iload_n 1, 1) := by decide +kernel
theorem dMo_get_43 : decode bMo_get 43 = .ok (.iload_n 2, 1) := by decide +kernel
theorem dMo_get_44 : decode bMo_get 44 = .ok (.invokevirtual 40, 3) := by decide +kernel
theorem dMo_get_47 : decode bMo_get 47 = .ok (.ireturn, 1) := by decide +kernel
theorem dMo_length_0 : decode bMo_length 0 = .ok (.aload_n 0, 1) := by decide +kernel
theorem dMo_length_1 : decode bMo_length 1 = .ok (.iload_n 1, 1) := by decide +kernel
theorem dMo_length_2 : decode bMo_length 2 = .ok (.invokestatic 33, 3) := by decide +kernel
theorem dMo_length_5 : decode bMo_length 5 = .ok (.ifCond .eq 7, 3) := by decide +kernel
theorem dMo_length_8 : decode bMo_length 8 = .ok (.iconst 1, 1) := by decide +kernel
theorem dMo_length_9 : decode bMo_length 9 = .ok (.goto 4, 3) := by decide +kernel
theorem dMo_length_12 : decode bMo_length 12 = .ok (.iconst 0, 1) := by decide +kernel
theorem dMo_length_13 : decode bMo_length 13 = .ok (.putfield 19, 3) := by decide +kernel
theorem dMo_length_16 : decode bMo_length 16 = .ok (.aload_n 0, 1) := by decide +kernel
theorem dMo_length_17 : decode bMo_length 17 = .ok (.getfield 19, 3) := by decide +kernel
theorem dMo_length_20 : decode bMo_length 20 = .ok (.ifCond .le 7, 3) := by decide +kernel
theorem dMo_length_23 : decode bMo_length 23 = .ok (.iconst 0, 1) := by decide +kernel
theorem dMo_length_24 : decode bMo_length 24 = .ok (.goto 9, 3) := by decide +kernel
theorem dMo_length_27 : decode bMo_length 27 = .ok (.aload_n 0, 1) := by decide +kernel
theorem dMo_length_28 : decode bMo_length 28 = .ok (.getfield 13, 3) := by decide +kernel
theorem dMo_length_31 : decode bMo_length 31 = .ok (.iload_n 1, 1) := by decide +kernel
theorem dMo_length_32 : decode bMo_length 32 = .ok (.iaload, 1) := by decide +kernel
theorem dMo_length_33 : decode bMo_length 33 = .ok (.ireturn, 1) := by decide +kernel
theorem dMo_bits_0 : decode bMo_bits 0 = .ok (.aload_n 0, 1) := by decide +kernel
theorem dMo_bits_1 : decode bMo_bits 1 = .ok (.iload_n 1, 1) := by decide +kernel
theorem dMo_bits_2 : decode bMo_bits 2 = .ok (.putfield 30, 3) := by decide +kernel
theorem dMo_bits_5 : decode bMo_bits 5 = .ok (.iconst 0, 1) := by decide +kernel
theorem dMo_bits_6 : decode bMo_bits 6 = .ok (.istore 4, 2) := by decide +kernel
theorem dMo_bits_8 : decode bMo_bits 8 = .ok (.iload 4, 2) := by decide +kernel
theorem dMo_bits_10 : decode bMo_bits 10 = .ok (.iload_n 1, 1) := by decide +kernel
theorem dMo_bits_11 : decode bMo_bits 11 = .ok (.if_icmp .ge 32, 3) := by decide +kernel
theorem dMo_bits_14 : decode bMo_bits 14 = .ok (.aload_n 0, 1) := by decide +kernel
theorem dMo_bits_15 : decode bMo_bits 15 = .ok (.getfield 16, 3) := by decide +kernel
theorem dMo_bits_18 : decode bMo_bits 18 = .ok (.iload 4, 2) := by decide +kernel
theorem dMo_bits_20 : decode bMo_bits 20 = .ok (.lload_n 2, 1) := by decide +kernel
theorem dMo_bits_21 : decode bMo_bits 21 = .ok (.iload 4, 2) := by decide +kernel
theorem dMo_bits_23 : decode bMo_bits 23 = .ok (.lshr, 1) := by decide +kernel
theorem dMo_bits_24 : decode bMo_bits 24 = .ok (.lconst 1, 1) := by decide +kernel
theorem dMo_bits_25 : decode bMo_bits 25 = .ok (.land, 1) := by decide +kernel
theorem dMo_bits_26 : decode bMo_bits 26 = .ok (.lconst 1, 1) := by decide +kernel
theorem dMo_bits_27 : decode bMo_bits 27 = .ok (.lcmp, 1) := by decide +kernel
theorem dMo_bits_28 : decode bMo_bits 28 = .ok (.ifCond .ne 7, 3) := by decide +kernel
theorem dMo_bits_31 : decode bMo_bits 31 = .ok (.iconst 3, 1) := by decide +kernel
theorem dMo_bits_32 : decode bMo_bits 32 = .ok (.goto 4, 3) := by decide +kernel
theorem dMo_bits_35 : decode bMo_bits 35 = .ok (.iconst 2, 1) := by decide +kernel
theorem dMo_bits_36 : decode bMo_bits 36 = .ok (.iastore, 1) := by decide +kernel
theorem dMo_bits_37 : decode bMo_bits 37 = .ok (.iinc 4 1, 3) := by decide +kernel
theorem dMo_bits_40 : decode bMo_bits 40 = .ok (.goto (-32), 3) := by decide +kernel
theorem dMo_bits_43 : decode bMo_bits 43 = .ok (.return_, 1) := by decide +kernel
theorem dMo_number_0 : decode bMo_number 0 = .ok (.aload_n 0, 1) := by decide +kernel
theorem dMo_number_1 : decode bMo_number 1 = .ok (.iload_n 1, 1) := by decide +kernel
theorem dMo_number_2 : decode bMo_number 2 = .ok (.invokestatic 33, 3) := by decide +kernel
theorem dMo_number_5 : decode bMo_number 5 = .ok (.ifCond .eq 7, 3) := by decide +kernel
theorem dMo_number_8 : decode bMo_number 8 = .ok (.iconst 1, 1) := by decide +kernel
theorem dMo_number_9 : decode bMo_number 9 = .ok (.goto 18, 3) := by decide +kernel
theorem dMo_number_12 : decode bMo_number 12 = .ok (.iload_n 2, 1) := by decide +kernel
theorem dMo_number_13 : decode bMo_number 13 = .ok (.ifCond .lt 9, 3) := by decide +kernel
theorem dMo_number_16 : decode bMo_number 16 = .ok (.iload_n 2, 1) := by decide +kernel
theorem dMo_number_17 : decode bMo_number 17 = .ok (.bipush 64, 2) := by decide +kernel
theorem dMo_number_19 : decode bMo_number 19 = .ok (.if_icmp .le 7, 3) := by decide +kernel
theorem dMo_number_22 : decode bMo_number 22 = .ok (.iconst 2, 1) := by decide +kernel
theorem dMo_number_23 : decode bMo_number 23 = .ok (.goto 4, 3) := by decide +kernel
theorem dMo_number_26 : decode bMo_number 26 = .ok (.iconst 0, 1) := by decide +kernel
theorem dMo_number_27 : decode bMo_number 27 = .ok (.putfield 19, 3) := by decide +kernel
theorem dMo_number_30 : decode bMo_number 30 = .ok (.aload_n 0, 1) := by decide +kernel
theorem dMo_number_31 : decode bMo_number 31 = .ok (.getfield 19, 3) := by decide +kernel
theorem dMo_number_34 : decode bMo_number 34 = .ok (.ifCond .le 4, 3) := by decide +kernel
theorem dMo_number_37 : decode bMo_number 37 = .ok (.return_, 1) := by decide +kernel
theorem dMo_number_38 : decode bMo_number 38 = .ok (.aload_n 0, 1) := by decide +kernel
theorem dMo_number_39 : decode bMo_number 39 = .ok (.iload_n 2, 1) := by decide +kernel
theorem dMo_number_40 : decode bMo_number 40 = .ok (.lload_n 3, 1) := by decide +kernel
theorem dMo_number_41 : decode bMo_number 41 = .ok (.invokevirtual 44, 3) := by decide +kernel
theorem dMo_number_44 : decode bMo_number 44 = .ok (.aload_n 0, 1) := by decide +kernel
theorem dMo_number_45 : decode bMo_number 45 = .ok (.iload_n 1, 1) := by decide +kernel
theorem dMo_number_46 : decode bMo_number 46 = .ok (.invokevirtual 36, 3) := by decide +kernel
theorem dMo_number_49 : decode bMo_number 49 = .ok (.return_, 1) := by decide +kernel
theorem dMo_clear_0 : decode bMo_clear 0 = .ok (.aload_n 0, 1) := by decide +kernel
theorem dMo_clear_1 : decode bMo_clear 1 = .ok (.getfield 13, 3) := by decide +kernel
theorem dMo_clear_4 : decode bMo_clear 4 = .ok (.iload_n 1, 1) := by decide +kernel
theorem dMo_clear_5 : decode bMo_clear 5 = .ok (.iaload, 1) := by decide +kernel
theorem dMo_clear_6 : decode bMo_clear 6 = .ok (.ifCond .le 7, 3) := by decide +kernel
theorem dMo_clear_9 : decode bMo_clear 9 = .ok (.iconst 1, 1) := by decide +kernel
theorem dMo_clear_10 : decode bMo_clear 10 = .ok (.goto 4, 3) := by decide +kernel
theorem dMo_clear_13 : decode bMo_clear 13 = .ok (.iconst 0, 1) := by decide +kernel
theorem dMo_clear_14 : decode bMo_clear 14 = .ok (.istore_n 2, 1) := by decide +kernel
theorem dMo_clear_15 : decode bMo_clear 15 = .ok (.iconst 0, 1) := by decide +kernel
theorem dMo_clear_16 : decode bMo_clear 16 = .ok (.istore_n 3, 1) := by decide +kernel
theorem dMo_clear_17 : decode bMo_clear 17 = .ok (.iload_n 3, 1) := by decide +kernel
theorem dMo_clear_18 : decode bMo_clear 18 = .ok (.aload_n 0, 1) := by decide +kernel
theorem dMo_clear_19 : decode bMo_clear 19 = .ok (.getfield 13, 3) := by decide +kernel
theorem dMo_clear_22 : decode bMo_clear 22 = .ok (.iload_n 1, 1) := by decide +kernel
theorem dMo_clear_23 : decode bMo_clear 23 = .ok (.iaload, 1) := by decide +kernel
theorem dMo_clear_24 : decode bMo_clear 24 = .ok (.if_icmp .ge 31, 3) := by decide +kernel
theorem dMo_clear_27 : decode bMo_clear 27 = .ok (.iload_n 2, 1) := by decide +kernel
theorem dMo_clear_28 : decode bMo_clear 28 = .ok (.ifCond .eq 19, 3) := by decide +kernel
theorem dMo_clear_31 : decode bMo_clear 31 = .ok (.aload_n 0, 1) := by decide +kernel
theorem dMo_clear_32 : decode bMo_clear 32 = .ok (.iload_n 1, 1) := by decide +kernel
theorem dMo_clear_33 : decode bMo_clear 33 = .ok (.iload_n 3, 1) := by decide +kernel
theorem dMo_clear_34 : decode bMo_clear 34 = .ok (.invokevirtual 40, 3) := by decide +kernel
theorem dMo_clear_37 : decode bMo_clear 37 = .ok (.invokestatic 48, 3) := by decide +kernel
theorem dMo_clear_40 : decode bMo_clear 40 = .ok (.ifCond .eq 7, 3) := by decide +kernel
theorem dMo_clear_43 : decode bMo_clear 43 = .ok (.iconst 1, 1) := by decide +kernel
theorem dMo_clear_44 : decode bMo_clear 44 = .ok (.goto 4, 3) := by decide +kernel
theorem dMo_clear_47 : decode bMo_clear 47 = .ok (.iconst 0, 1) := by decide +kernel
theorem dMo_clear_48 : decode bMo_clear 48 = .ok (.istore_n 2, 1) := by decide +kernel
theorem dMo_clear_49 : decode bMo_clear 49 = .ok (.iinc 3 1, 3) := by decide +kernel
theorem dMo_clear_52 : decode bMo_clear 52 = .ok (.goto (-35), 3) := by decide +kernel
theorem dMo_clear_55 : decode bMo_clear 55 = .ok (.iload_n 2, 1) := by decide +kernel
theorem dMo_clear_56 : decode bMo_clear 56 = .ok (.ireturn, 1) := by decide +kernel
theorem dMo_value_0 : decode bMo_value 0 = .ok (.lconst 0, 1) := by decide +kernel
theorem dMo_value_1 : decode bMo_value 1 = .ok (.lstore_n 3, 1) := by decide +kernel
theorem dMo_value_2 : decode bMo_value 2 = .ok (.lconst 1, 1) := by decide +kernel
theorem dMo_value_3 : decode bMo_value 3 = .ok (.lstore 5, 2) := by decide +kernel
theorem dMo_value_5 : decode bMo_value 5 = .ok (.iconst 0, 1) := by decide +kernel
theorem dMo_value_6 : decode bMo_value 6 = .ok (.istore 7, 2) := by decide +kernel
theorem dMo_value_8 : decode bMo_value 8 = .ok (.iload 7, 2) := by decide +kernel
theorem dMo_value_10 : decode bMo_value 10 = .ok (.aload_n 0, 1) := by decide +kernel
theorem dMo_value_11 : decode bMo_value 11 = .ok (.getfield 13, 3) := by decide +kernel
theorem dMo_value_14 : decode bMo_value 14 = .ok (.iload_n 1, 1) := by decide +kernel
theorem dMo_value_15 : decode bMo_value 15 = .ok (.iaload, 1) := by decide +kernel
theorem dMo_value_16 : decode bMo_value 16 = .ok (.if_icmp .ge 71, 3) := by decide +kernel
theorem dMo_value_19 : decode bMo_value 19 = .ok (.iload 7, 2) := by decide +kernel
theorem dMo_value_21 : decode bMo_value 21 = .ok (.aload_n 0, 1) := by decide +kernel
theorem dMo_value_22 : decode bMo_value 22 = .ok (.getfield 13, 3) := by decide +kernel
theorem dMo_value_25 : decode bMo_value 25 = .ok (.iload_n 1, 1) := by decide +kernel
theorem dMo_value_26 : decode bMo_value 26 = .ok (.iaload, 1) := by decide +kernel
theorem dMo_value_27 : decode bMo_value 27 = .ok (.iconst 1, 1) := by decide +kernel
theorem dMo_value_28 : decode bMo_value 28 = .ok (.isub, 1) := by decide +kernel
theorem dMo_value_29 : decode bMo_value 29 = .ok (.if_icmp .ne 7, 3) := by decide +kernel
theorem dMo_value_32 : decode bMo_value 32 = .ok (.iconst 1, 1) := by decide +kernel
theorem dMo_value_33 : decode bMo_value 33 = .ok (.goto 4, 3) := by decide +kernel
theorem dMo_value_36 : decode bMo_value 36 = .ok (.iconst 0, 1) := by decide +kernel
theorem dMo_value_37 : decode bMo_value 37 = .ok (.istore 8, 2) := by decide +kernel
theorem dMo_value_39 : decode bMo_value 39 = .ok (.aload_n 0, 1) := by decide +kernel
theorem dMo_value_40 : decode bMo_value 40 = .ok (.iload_n 1, 1) := by decide +kernel
theorem dMo_value_41 : decode bMo_value 41 = .ok (.iload 7, 2) := by decide +kernel
theorem dMo_value_43 : decode bMo_value 43 = .ok (.invokevirtual 40, 3) := by decide +kernel
theorem dMo_value_46 : decode bMo_value 46 = .ok (.invokestatic 27, 3) := by decide +kernel
theorem dMo_value_49 : decode bMo_value 49 = .ok (.ifCond .eq 24, 3) := by decide +kernel
theorem dMo_value_52 : decode bMo_value 52 = .ok (.iload_n 2, 1) := by decide +kernel
theorem dMo_value_53 : decode bMo_value 53 = .ok (.ifCond .eq 15, 3) := by decide +kernel
theorem dMo_value_56 : decode bMo_value 56 = .ok (.iload 8, 2) := by decide +kernel
theorem dMo_value_58 : decode bMo_value 58 = .ok (.ifCond .eq 10, 3) := by decide +kernel
theorem dMo_value_61 : decode bMo_value 61 = .ok (.lload_n 3, 1) := by decide +kernel
theorem dMo_value_62 : decode bMo_value 62 = .ok (.lload 5, 2) := by decide +kernel
theorem dMo_value_64 : decode bMo_value 64 = .ok (.lsub, 1) := by decide +kernel
theorem dMo_value_65 : decode bMo_value 65 = .ok (.goto 7, 3) := by decide +kernel
theorem dMo_value_68 : decode bMo_value 68 = .ok (.lload_n 3, 1) := by decide +kernel
theorem dMo_value_69 : decode bMo_value 69 = .ok (.lload 5, 2) := by decide +kernel
theorem dMo_value_71 : decode bMo_value 71 = .ok (.ladd, 1) := by decide +kernel
theorem dMo_value_72 : decode bMo_value 72 = .ok (.lstore_n 3, 1) := by decide +kernel
theorem dMo_value_73 : decode bMo_value 73 = .ok (.ldc2_w 51, 3) := by decide +kernel
theorem dMo_value_76 : decode bMo_value 76 = .ok (.lload 5, 2) := by decide +kernel
theorem dMo_value_78 : decode bMo_value 78 = .ok (.lmul, 1) := by decide +kernel
theorem dMo_value_79 : decode bMo_value 79 = .ok (.lstore 5, 2) := by decide +kernel
theorem dMo_value_81 : decode bMo_value 81 = .ok (.iinc 7 1, 3) := by decide +kernel
theorem dMo_value_84 : decode bMo_value 84 = .ok (.goto (-76), 3) := by decide +kernel
theorem dMo_value_87 : decode bMo_value 87 = .ok (.lload_n 3, 1) := by decide +kernel
theorem dMo_value_88 : decode bMo_value 88 = .ok (.lreturn, 1) := by decide +kernel
theorem dMo_numberOf_0 : decode bMo_numberOf 0 = .ok (.aload_n 0, 1) := by decide +kernel
theorem dMo_numberOf_1 : decode bMo_numberOf 1 = .ok (.iload_n 1, 1) := by decide +kernel
theorem dMo_numberOf_2 : decode bMo_numberOf 2 = .ok (.invokestatic 33, 3) := by decide +kernel
theorem dMo_numberOf_5 : decode bMo_numberOf 5 = .ok (.ifCond .eq 7, 3) := by decide +kernel
theorem dMo_numberOf_8 : decode bMo_numberOf 8 = .ok (.iconst 1, 1) := by decide +kernel
theorem dMo_numberOf_9 : decode bMo_numberOf 9 = .ok (.goto 25, 3) := by decide +kernel
theorem dMo_numberOf_12 : decode bMo_numberOf 12 = .ok (.aload_n 0, 1) := by decide +kernel
theorem dMo_numberOf_13 : decode bMo_numberOf 13 = .ok (.getfield 13, 3) := by decide +kernel
theorem dMo_numberOf_16 : decode bMo_numberOf 16 = .ok (.iload_n 1, 1) := by decide +kernel
theorem dMo_numberOf_17 : decode bMo_numberOf 17 = .ok (.iaload, 1) := by decide +kernel
theorem dMo_numberOf_18 : decode bMo_numberOf 18 = .ok (.ifCond .le 15, 3) := by decide +kernel
theorem dMo_numberOf_21 : decode bMo_numberOf 21 = .ok (.aload_n 0, 1) := by decide +kernel
theorem dMo_numberOf_22 : decode bMo_numberOf 22 = .ok (.iload_n 1, 1) := by decide +kernel
theorem dMo_numberOf_23 : decode bMo_numberOf 23 = .ok (.invokevirtual 53, 3) := by decide +kernel
theorem dMo_numberOf_26 : decode bMo_numberOf 26 = .ok (.ifCond .ne 7, 3) := by decide +kernel
theorem dMo_numberOf_29 : decode bMo_numberOf 29 = .ok (.iconst 2, 1) := by decide +kernel
theorem dMo_numberOf_30 : decode bMo_numberOf 30 = .ok (.goto 4, 3) := by decide +kernel
theorem dMo_numberOf_33 : decode bMo_numberOf 33 = .ok (.iconst 0, 1) := by decide +kernel
theorem dMo_numberOf_34 : decode bMo_numberOf 34 = .ok (.putfield 19, 3) := by decide +kernel
theorem dMo_numberOf_37 : decode bMo_numberOf 37 = .ok (.aload_n 0, 1) := by decide +kernel
theorem dMo_numberOf_38 : decode bMo_numberOf 38 = .ok (.getfield 19, 3) := by decide +kernel
theorem dMo_numberOf_41 : decode bMo_numberOf 41 = .ok (.ifCond .le 7, 3) := by decide +kernel
theorem dMo_numberOf_44 : decode bMo_numberOf 44 = .ok (.lconst 0, 1) := by decide +kernel
theorem dMo_numberOf_45 : decode bMo_numberOf 45 = .ok (.goto 9, 3) := by decide +kernel
theorem dMo_numberOf_48 : decode bMo_numberOf 48 = .ok (.aload_n 0, 1) := by decide +kernel
theorem dMo_numberOf_49 : decode bMo_numberOf 49 = .ok (.iload_n 1, 1) := by decide +kernel
theorem dMo_numberOf_50 : decode bMo_numberOf 50 = .ok (.iload_n 2, 1) := by decide +kernel
theorem dMo_numberOf_51 : decode bMo_numberOf 51 = .ok (.invokevirtual 56, 3) := by decide +kernel
theorem dMo_numberOf_54 : decode bMo_numberOf 54 = .ok (.lreturn, 1) := by decide +kernel
theorem dMo_together_0 : decode bMo_together 0 = .ok (.iload_n 0, 1) := by decide +kernel
theorem dMo_together_1 : decode bMo_together 1 = .ok (.ifCond .eq 7, 3) := by decide +kernel
theorem dMo_together_4 : decode bMo_together 4 = .ok (.iload_n 1, 1) := by decide +kernel
theorem dMo_together_5 : decode bMo_together 5 = .ok (.ifCond .ne 5, 3) := by decide +kernel
theorem dMo_together_8 : decode bMo_together 8 = .ok (.iconst 0, 1) := by decide +kernel
theorem dMo_together_9 : decode bMo_together 9 = .ok (.ireturn, 1) := by decide +kernel
theorem dMo_together_10 : decode bMo_together 10 = .ok (.iload_n 0, 1) := by decide +kernel
theorem dMo_together_11 : decode bMo_together 11 = .ok (.iconst 1, 1) := by decide +kernel
theorem dMo_together_12 : decode bMo_together 12 = .ok (.if_icmp .eq 20, 3) := by decide +kernel
theorem dMo_together_15 : decode bMo_together 15 = .ok (.iload_n 1, 1) := by decide +kernel
theorem dMo_together_16 : decode bMo_together 16 = .ok (.iconst 1, 1) := by decide +kernel
theorem dMo_together_17 : decode bMo_together 17 = .ok (.if_icmp .eq 15, 3) := by decide +kernel
theorem dMo_together_20 : decode bMo_together 20 = .ok (.iload_n 0, 1) := by decide +kernel
theorem dMo_together_21 : decode bMo_together 21 = .ok (.bipush 8, 2) := by decide +kernel
theorem dMo_together_23 : decode bMo_together 23 = .ok (.if_icmp .eq 9, 3) := by decide +kernel
theorem dMo_together_26 : decode bMo_together 26 = .ok (.iload_n 1, 1) := by decide +kernel
theorem dMo_together_27 : decode bMo_together 27 = .ok (.bipush 8, 2) := by decide +kernel
theorem dMo_together_29 : decode bMo_together 29 = .ok (.if_icmp .ne 5, 3) := by decide +kernel
theorem dMo_together_32 : decode bMo_together 32 = .ok (.iconst 1, 1) := by decide +kernel
theorem dMo_together_33 : decode bMo_together 33 = .ok (.ireturn, 1) := by decide +kernel
theorem dMo_together_34 : decode bMo_together 34 = .ok (.iload_n 0, 1) := by decide +kernel
theorem dMo_together_35 : decode bMo_together 35 = .ok (.iconst 4, 1) := by decide +kernel
theorem dMo_together_36 : decode bMo_together 36 = .ok (.if_icmp .ne 5, 3) := by decide +kernel
theorem dMo_together_39 : decode bMo_together 39 = .ok (.iload_n 1, 1) := by decide +kernel
theorem dMo_together_40 : decode bMo_together 40 = .ok (.ireturn, 1) := by decide +kernel
theorem dMo_together_41 : decode bMo_together 41 = .ok (.iload_n 1, 1) := by decide +kernel
theorem dMo_together_42 : decode bMo_together 42 = .ok (.iconst 4, 1) := by decide +kernel
theorem dMo_together_43 : decode bMo_together 43 = .ok (.if_icmp .ne 5, 3) := by decide +kernel
theorem dMo_together_46 : decode bMo_together 46 = .ok (.iload_n 0, 1) := by decide +kernel
theorem dMo_together_47 : decode bMo_together 47 = .ok (.ireturn, 1) := by decide +kernel
theorem dMo_together_48 : decode bMo_together 48 = .ok (.iload_n 0, 1) := by decide +kernel
theorem dMo_together_49 : decode bMo_together 49 = .ok (.iconst 2, 1) := by decide +kernel
theorem dMo_together_50 : decode bMo_together 50 = .ok (.if_icmp .ne 8, 3) := by decide +kernel
theorem dMo_together_53 : decode bMo_together 53 = .ok (.iload_n 1, 1) := by decide +kernel
theorem dMo_together_54 : decode bMo_together 54 = .ok (.iconst 3, 1) := by decide +kernel
theorem dMo_together_55 : decode bMo_together 55 = .ok (.if_icmp .eq 13, 3) := by decide +kernel
theorem dMo_together_58 : decode bMo_together 58 = .ok (.iload_n 0, 1) := by decide +kernel
theorem dMo_together_59 : decode bMo_together 59 = .ok (.iconst 3, 1) := by decide +kernel
theorem dMo_together_60 : decode bMo_together 60 = .ok (.if_icmp .ne 10, 3) := by decide +kernel
theorem dMo_together_63 : decode bMo_together 63 = .ok (.iload_n 1, 1) := by decide +kernel
theorem dMo_together_64 : decode bMo_together 64 = .ok (.iconst 2, 1) := by decide +kernel
theorem dMo_together_65 : decode bMo_together 65 = .ok (.if_icmp .ne 5, 3) := by decide +kernel
theorem dMo_together_68 : decode bMo_together 68 = .ok (.iconst 1, 1) := by decide +kernel
theorem dMo_together_69 : decode bMo_together 69 = .ok (.ireturn, 1) := by decide +kernel
theorem dMo_together_70 : decode bMo_together 70 = .ok (.iload_n 0, 1) := by decide +kernel
theorem dMo_together_71 : decode bMo_together 71 = .ok (.iconst 2, 1) := by decide +kernel
theorem dMo_together_72 : decode bMo_together 72 = .ok (.if_icmp .eq 8, 3) := by decide +kernel
theorem dMo_together_75 : decode bMo_together 75 = .ok (.iload_n 0, 1) := by decide +kernel
theorem dMo_together_76 : decode bMo_together 76 = .ok (.iconst 3, 1) := by decide +kernel
theorem dMo_together_77 : decode bMo_together 77 = .ok (.if_icmp .ne 5, 3) := by decide +kernel
theorem dMo_together_80 : decode bMo_together 80 = .ok (.iload_n 0, 1) := by decide +kernel
theorem dMo_together_81 : decode bMo_together 81 = .ok (.ireturn, 1) := by decide +kernel
theorem dMo_together_82 : decode bMo_together 82 = .ok (.iload_n 1, 1) := by decide +kernel
theorem dMo_together_83 : decode bMo_together 83 = .ok (.iconst 2, 1) := by decide +kernel
theorem dMo_together_84 : decode bMo_together 84 = .ok (.if_icmp .eq 8, 3) := by decide +kernel
theorem dMo_together_87 : decode bMo_together 87 = .ok (.iload_n 1, 1) := by decide +kernel
theorem dMo_together_88 : decode bMo_together 88 = .ok (.iconst 3, 1) := by decide +kernel
theorem dMo_together_89 : decode bMo_together 89 = .ok (.if_icmp .ne 5, 3) := by decide +kernel
theorem dMo_together_92 : decode bMo_together 92 = .ok (.iload_n 1, 1) := by decide +kernel
theorem dMo_together_93 : decode bMo_together 93 = .ok (.ireturn, 1) := by decide +kernel
theorem dMo_together_94 : decode bMo_together 94 = .ok (.iload_n 0, 1) := by decide +kernel
theorem dMo_together_95 : decode bMo_together 95 = .ok (.iload_n 1, 1) := by decide +kernel
theorem dMo_together_96 : decode bMo_together 96 = .ok (.if_icmp .ne 7, 3) := by decide +kernel
theorem dMo_together_99 : decode bMo_together 99 = .ok (.iload_n 0, 1) := by decide +kernel
theorem dMo_together_100 : decode bMo_together 100 = .ok (.goto 4, 3) := by decide +kernel
theorem dMo_together_103 : decode bMo_together 103 = .ok (.iconst 5, 1) := by decide +kernel
theorem dMo_together_104 : decode bMo_together 104 = .ok (.ireturn, 1) := by decide +kernel
theorem dMo_and_0 : decode bMo_and 0 = .ok (.iload_n 0, 1) := by decide +kernel
theorem dMo_and_1 : decode bMo_and 1 = .ok (.invokestatic 23, 3) := by decide +kernel
theorem dMo_and_4 : decode bMo_and 4 = .ok (.ifCond .ne 10, 3) := by decide +kernel
theorem dMo_and_7 : decode bMo_and 7 = .ok (.iload_n 1, 1) := by decide +kernel
theorem dMo_and_8 : decode bMo_and 8 = .ok (.invokestatic 23, 3) := by decide +kernel
theorem dMo_and_11 : decode bMo_and 11 = .ok (.ifCond .eq 5, 3) := by decide +kernel
theorem dMo_and_14 : decode bMo_and 14 = .ok (.iconst 2, 1) := by decide +kernel
theorem dMo_and_15 : decode bMo_and 15 = .ok (.ireturn, 1) := by decide +kernel
theorem dMo_and_16 : decode bMo_and 16 = .ok (.iload_n 0, 1) := by decide +kernel
theorem dMo_and_17 : decode bMo_and 17 = .ok (.ifCond .eq 7, 3) := by decide +kernel
theorem dMo_and_20 : decode bMo_and 20 = .ok (.iload_n 1, 1) := by decide +kernel
theorem dMo_and_21 : decode bMo_and 21 = .ok (.ifCond .ne 5, 3) := by decide +kernel
theorem dMo_and_24 : decode bMo_and 24 = .ok (.iconst 0, 1) := by decide +kernel
theorem dMo_and_25 : decode bMo_and 25 = .ok (.ireturn, 1) := by decide +kernel
theorem dMo_and_26 : decode bMo_and 26 = .ok (.iload_n 0, 1) := by decide +kernel
theorem dMo_and_27 : decode bMo_and 27 = .ok (.invokestatic 27, 3) := by decide +kernel
theorem dMo_and_30 : decode bMo_and 30 = .ok (.ifCond .eq 14, 3) := by decide +kernel
theorem dMo_and_33 : decode bMo_and 33 = .ok (.iload_n 1, 1) := by decide +kernel
theorem dMo_and_34 : decode bMo_and 34 = .ok (.invokestatic 27, 3) := by decide +kernel
theorem dMo_and_37 : decode bMo_and 37 = .ok (.ifCond .eq 7, 3) := by decide +kernel
theorem dMo_and_40 : decode bMo_and 40 = .ok (.iconst 3, 1) := by decide +kernel
theorem dMo_and_41 : decode bMo_and 41 = .ok (.goto 4, 3) := by decide +kernel
theorem dMo_and_44 : decode bMo_and 44 = .ok (.iconst 1, 1) := by decide +kernel
theorem dMo_and_45 : decode bMo_and 45 = .ok (.ireturn, 1) := by decide +kernel
theorem dMo_or_0 : decode bMo_or 0 = .ok (.iload_n 0, 1) := by decide +kernel
theorem dMo_or_1 : decode bMo_or 1 = .ok (.invokestatic 27, 3) := by decide +kernel
theorem dMo_or_4 : decode bMo_or 4 = .ok (.ifCond .ne 10, 3) := by decide +kernel
theorem dMo_or_7 : decode bMo_or 7 = .ok (.iload_n 1, 1) := by decide +kernel
theorem dMo_or_8 : decode bMo_or 8 = .ok (.invokestatic 27, 3) := by decide +kernel
theorem dMo_or_11 : decode bMo_or 11 = .ok (.ifCond .eq 5, 3) := by decide +kernel
theorem dMo_or_14 : decode bMo_or 14 = .ok (.iconst 3, 1) := by decide +kernel
theorem dMo_or_15 : decode bMo_or 15 = .ok (.ireturn, 1) := by decide +kernel
theorem dMo_or_16 : decode bMo_or 16 = .ok (.iload_n 0, 1) := by decide +kernel
theorem dMo_or_17 : decode bMo_or 17 = .ok (.ifCond .eq 7, 3) := by decide +kernel
theorem dMo_or_20 : decode bMo_or 20 = .ok (.iload_n 1, 1) := by decide +kernel
theorem dMo_or_21 : decode bMo_or 21 = .ok (.ifCond .ne 5, 3) := by decide +kernel
theorem dMo_or_24 : decode bMo_or 24 = .ok (.iconst 0, 1) := by decide +kernel
theorem dMo_or_25 : decode bMo_or 25 = .ok (.ireturn, 1) := by decide +kernel
theorem dMo_or_26 : decode bMo_or 26 = .ok (.iload_n 0, 1) := by decide +kernel
theorem dMo_or_27 : decode bMo_or 27 = .ok (.invokestatic 23, 3) := by decide +kernel
theorem dMo_or_30 : decode bMo_or 30 = .ok (.ifCond .eq 14, 3) := by decide +kernel
theorem dMo_or_33 : decode bMo_or 33 = .ok (.iload_n 1, 1) := by decide +kernel
theorem dMo_or_34 : decode bMo_or 34 = .ok (.invokestatic 23, 3) := by decide +kernel
theorem dMo_or_37 : decode bMo_or 37 = .ok (.ifCond .eq 7, 3) := by decide +kernel
theorem dMo_or_40 : decode bMo_or 40 = .ok (.iconst 2, 1) := by decide +kernel
theorem dMo_or_41 : decode bMo_or 41 = .ok (.goto 4, 3) := by decide +kernel
theorem dMo_or_44 : decode bMo_or 44 = .ok (.iconst 1, 1) := by decide +kernel
theorem dMo_or_45 : decode bMo_or 45 = .ok (.ireturn, 1) := by decide +kernel
theorem dMo_xor_0 : decode bMo_xor 0 = .ok (.iload_n 0, 1) := by decide +kernel
theorem dMo_xor_1 : decode bMo_xor 1 = .ok (.ifCond .eq 7, 3) := by decide +kernel
theorem dMo_xor_4 : decode bMo_xor 4 = .ok (.iload_n 1, 1) := by decide +kernel
theorem dMo_xor_5 : decode bMo_xor 5 = .ok (.ifCond .ne 5, 3) := by decide +kernel
theorem dMo_xor_8 : decode bMo_xor 8 = .ok (.iconst 0, 1) := by decide +kernel
theorem dMo_xor_9 : decode bMo_xor 9 = .ok (.ireturn, 1) := by decide +kernel
theorem dMo_xor_10 : decode bMo_xor 10 = .ok (.iload_n 0, 1) := by decide +kernel
theorem dMo_xor_11 : decode bMo_xor 11 = .ok (.invokestatic 48, 3) := by decide +kernel
theorem dMo_xor_14 : decode bMo_xor 14 = .ok (.ifCond .eq 10, 3) := by decide +kernel
theorem dMo_xor_17 : decode bMo_xor 17 = .ok (.iload_n 1, 1) := by decide +kernel
theorem dMo_xor_18 : decode bMo_xor 18 = .ok (.invokestatic 48, 3) := by decide +kernel
theorem dMo_xor_21 : decode bMo_xor 21 = .ok (.ifCond .ne 5, 3) := by decide +kernel
theorem dMo_xor_24 : decode bMo_xor 24 = .ok (.iconst 1, 1) := by decide +kernel
theorem dMo_xor_25 : decode bMo_xor 25 = .ok (.ireturn, 1) := by decide +kernel
theorem dMo_xor_26 : decode bMo_xor 26 = .ok (.iload_n 0, 1) := by decide +kernel
theorem dMo_xor_27 : decode bMo_xor 27 = .ok (.invokestatic 27, 3) := by decide +kernel
theorem dMo_xor_30 : decode bMo_xor 30 = .ok (.iload_n 1, 1) := by decide +kernel
theorem dMo_xor_31 : decode bMo_xor 31 = .ok (.invokestatic 27, 3) := by decide +kernel
theorem dMo_xor_34 : decode bMo_xor 34 = .ok (.if_icmp .ne 7, 3) := by decide +kernel
theorem dMo_xor_37 : decode bMo_xor 37 = .ok (.iconst 2, 1) := by decide +kernel
theorem dMo_xor_38 : decode bMo_xor 38 = .ok (.goto 4, 3) := by decide +kernel
theorem dMo_xor_41 : decode bMo_xor 41 = .ok (.iconst 3, 1) := by decide +kernel
theorem dMo_xor_42 : decode bMo_xor 42 = .ok (.ireturn, 1) := by decide +kernel
theorem dMo_not_0 : decode bMo_not 0 = .ok (.iload_n 0, 1) := by decide +kernel
theorem dMo_not_1 : decode bMo_not 1 = .ok (.ifCond .ne 7, 3) := by decide +kernel
theorem dMo_not_4 : decode bMo_not 4 = .ok (.iconst 0, 1) := by decide +kernel
theorem dMo_not_5 : decode bMo_not 5 = .ok (.goto 26, 3) := by decide +kernel
theorem dMo_not_8 : decode bMo_not 8 = .ok (.iload_n 0, 1) := by decide +kernel
theorem dMo_not_9 : decode bMo_not 9 = .ok (.invokestatic 23, 3) := by decide +kernel
theorem dMo_not_12 : decode bMo_not 12 = .ok (.ifCond .eq 7, 3) := by decide +kernel
theorem dMo_not_15 : decode bMo_not 15 = .ok (.iconst 3, 1) := by decide +kernel
theorem dMo_not_16 : decode bMo_not 16 = .ok (.goto 15, 3) := by decide +kernel
theorem dMo_not_19 : decode bMo_not 19 = .ok (.iload_n 0, 1) := by decide +kernel
theorem dMo_not_20 : decode bMo_not 20 = .ok (.invokestatic 27, 3) := by decide +kernel
theorem dMo_not_23 : decode bMo_not 23 = .ok (.ifCond .eq 7, 3) := by decide +kernel
theorem dMo_not_26 : decode bMo_not 26 = .ok (.iconst 2, 1) := by decide +kernel
theorem dMo_not_27 : decode bMo_not 27 = .ok (.goto 4, 3) := by decide +kernel
theorem dMo_not_30 : decode bMo_not 30 = .ok (.iconst 1, 1) := by decide +kernel
theorem dMo_not_31 : decode bMo_not 31 = .ok (.ireturn, 1) := by decide +kernel
theorem dMo_strip_0 : decode bMo_strip 0 = .ok (.iload_n 1, 1) := by decide +kernel
theorem dMo_strip_1 : decode bMo_strip 1 = .ok (.invokestatic 23, 3) := by decide +kernel
theorem dMo_strip_4 : decode bMo_strip 4 = .ok (.ifCond .eq 5, 3) := by decide +kernel
theorem dMo_strip_7 : decode bMo_strip 7 = .ok (.iconst 2, 1) := by decide +kernel
theorem dMo_strip_8 : decode bMo_strip 8 = .ok (.ireturn, 1) := by decide +kernel
theorem dMo_strip_9 : decode bMo_strip 9 = .ok (.iload_n 1, 1) := by decide +kernel
theorem dMo_strip_10 : decode bMo_strip 10 = .ok (.invokestatic 27, 3) := by decide +kernel
theorem dMo_strip_13 : decode bMo_strip 13 = .ok (.ifCond .eq 5, 3) := by decide +kernel
theorem dMo_strip_16 : decode bMo_strip 16 = .ok (.iconst 3, 1) := by decide +kernel
theorem dMo_strip_17 : decode bMo_strip 17 = .ok (.ireturn, 1) := by decide +kernel
theorem dMo_strip_18 : decode bMo_strip 18 = .ok (.iload_n 0, 1) := by decide +kernel
theorem dMo_strip_19 : decode bMo_strip 19 = .ok (.iconst 1, 1) := by decide +kernel
theorem dMo_strip_20 : decode bMo_strip 20 = .ok (.if_icmp .ne 8, 3) := by decide +kernel
theorem dMo_strip_23 : decode bMo_strip 23 = .ok (.iload_n 1, 1) := by decide +kernel
theorem dMo_strip_24 : decode bMo_strip 24 = .ok (.iconst 4, 1) := by decide +kernel
theorem dMo_strip_25 : decode bMo_strip 25 = .ok (.if_icmp .eq 12, 3) := by decide +kernel
theorem dMo_strip_28 : decode bMo_strip 28 = .ok (.iload_n 0, 1) := by decide +kernel
theorem dMo_strip_29 : decode bMo_strip 29 = .ok (.iconst 2, 1) := by decide +kernel
theorem dMo_strip_30 : decode bMo_strip 30 = .ok (.if_icmp .ne 9, 3) := by decide +kernel
theorem dMo_strip_33 : decode bMo_strip 33 = .ok (.iload_n 1, 1) := by decide +kernel
theorem dMo_strip_34 : decode bMo_strip 34 = .ok (.ifCond .ne 5, 3) := by decide +kernel
theorem dMo_strip_37 : decode bMo_strip 37 = .ok (.iload_n 1, 1) := by decide +kernel
theorem dMo_strip_38 : decode bMo_strip 38 = .ok (.ireturn, 1) := by decide +kernel
theorem dMo_strip_39 : decode bMo_strip 39 = .ok (.iload_n 0, 1) := by decide +kernel
theorem dMo_strip_40 : decode bMo_strip 40 = .ok (.iconst 3, 1) := by decide +kernel
theorem dMo_strip_41 : decode bMo_strip 41 = .ok (.if_icmp .ne 7, 3) := by decide +kernel
theorem dMo_strip_44 : decode bMo_strip 44 = .ok (.iconst 2, 1) := by decide +kernel
theorem dMo_strip_45 : decode bMo_strip 45 = .ok (.goto 4, 3) := by decide +kernel
theorem dMo_strip_48 : decode bMo_strip 48 = .ok (.iconst 1, 1) := by decide +kernel
theorem dMo_strip_49 : decode bMo_strip 49 = .ok (.ireturn, 1) := by decide +kernel
theorem dMo_byTable_0 : decode bMo_byTable 0 = .ok (.iload_n 0, 1) := by decide +kernel
theorem dMo_byTable_1 : decode bMo_byTable 1 = .ok (.tableswitch 81 0 5 #[39, 45, 51, 57, 63, 72], 39) := by decide +kernel
theorem dMo_byTable_40 : decode bMo_byTable 40 = .ok (.iload_n 1, 1) := by decide +kernel
theorem dMo_byTable_41 : decode bMo_byTable 41 = .ok (.iload_n 2, 1) := by decide +kernel
theorem dMo_byTable_42 : decode bMo_byTable 42 = .ok (.invokestatic 60, 3) := by decide +kernel
theorem dMo_byTable_45 : decode bMo_byTable 45 = .ok (.ireturn, 1) := by decide +kernel
theorem dMo_byTable_46 : decode bMo_byTable 46 = .ok (.iload_n 1, 1) := by decide +kernel
theorem dMo_byTable_47 : decode bMo_byTable 47 = .ok (.iload_n 2, 1) := by decide +kernel
theorem dMo_byTable_48 : decode bMo_byTable 48 = .ok (.invokestatic 63, 3) := by decide +kernel
theorem dMo_byTable_51 : decode bMo_byTable 51 = .ok (.ireturn, 1) := by decide +kernel
theorem dMo_byTable_52 : decode bMo_byTable 52 = .ok (.iload_n 1, 1) := by decide +kernel
theorem dMo_byTable_53 : decode bMo_byTable 53 = .ok (.iload_n 2, 1) := by decide +kernel
theorem dMo_byTable_54 : decode bMo_byTable 54 = .ok (.invokestatic 66, 3) := by decide +kernel
theorem dMo_byTable_57 : decode bMo_byTable 57 = .ok (.ireturn, 1) := by decide +kernel
theorem dMo_byTable_58 : decode bMo_byTable 58 = .ok (.iload_n 1, 1) := by decide +kernel
theorem dMo_byTable_59 : decode bMo_byTable 59 = .ok (.iload_n 2, 1) := by decide +kernel
theorem dMo_byTable_60 : decode bMo_byTable 60 = .ok (.invokestatic 69, 3) := by decide +kernel
theorem dMo_byTable_63 : decode bMo_byTable 63 = .ok (.ireturn, 1) := by decide +kernel
theorem dMo_byTable_64 : decode bMo_byTable 64 = .ok (.iload_n 1, 1) := by decide +kernel
theorem dMo_byTable_65 : decode bMo_byTable 65 = .ok (.iload_n 2, 1) := by decide +kernel
theorem dMo_byTable_66 : decode bMo_byTable 66 = .ok (.invokestatic 63, 3) := by decide +kernel
theorem dMo_byTable_69 : decode bMo_byTable 69 = .ok (.invokestatic 72, 3) := by decide +kernel
theorem dMo_byTable_72 : decode bMo_byTable 72 = .ok (.ireturn, 1) := by decide +kernel
theorem dMo_byTable_73 : decode bMo_byTable 73 = .ok (.iload_n 1, 1) := by decide +kernel
theorem dMo_byTable_74 : decode bMo_byTable 74 = .ok (.iload_n 2, 1) := by decide +kernel
theorem dMo_byTable_75 : decode bMo_byTable 75 = .ok (.invokestatic 66, 3) := by decide +kernel
theorem dMo_byTable_78 : decode bMo_byTable 78 = .ok (.invokestatic 72, 3) := by decide +kernel
theorem dMo_byTable_81 : decode bMo_byTable 81 = .ok (.ireturn, 1) := by decide +kernel
theorem dMo_byTable_82 : decode bMo_byTable 82 = .ok (.iload_n 1, 1) := by decide +kernel
theorem dMo_byTable_83 : decode bMo_byTable 83 = .ok (.iload_n 2, 1) := by decide +kernel
theorem dMo_byTable_84 : decode bMo_byTable 84 = .ok (.invokestatic 69, 3) := by decide +kernel
theorem dMo_byTable_87 : decode bMo_byTable 87 = .ok (.invokestatic 72, 3) := by decide +kernel
theorem dMo_byTable_90 : decode bMo_byTable 90 = .ok (.ireturn, 1) := by decide +kernel
theorem dMo_divide_0 : decode bMo_divide 0 = .ok (.lconst 0, 1) := by decide +kernel
theorem dMo_divide_1 : decode bMo_divide 1 = .ok (.lstore 6, 2) := by decide +kernel
theorem dMo_divide_3 : decode bMo_divide 3 = .ok (.lconst 0, 1) := by decide +kernel
theorem dMo_divide_4 : decode bMo_divide 4 = .ok (.lstore 8, 2) := by decide +kernel
theorem dMo_divide_6 : decode bMo_divide 6 = .ok (.bipush 63, 2) := by decide +kernel
theorem dMo_divide_8 : decode bMo_divide 8 = .ok (.istore 10, 2) := by decide +kernel
theorem dMo_divide_10 : decode bMo_divide 10 = .ok (.iload 10, 2) := by decide +kernel
theorem dMo_divide_12 : decode bMo_divide 12 = .ok (.ifCond .lt 100, 3) := by decide +kernel
theorem dMo_divide_15 : decode bMo_divide 15 = .ok (.lload 8, 2) := by decide +kernel
theorem dMo_divide_17 : decode bMo_divide 17 = .ok (.lconst 0, 1) := by decide +kernel
theorem dMo_divide_18 : decode bMo_divide 18 = .ok (.lcmp, 1) := by decide +kernel
theorem dMo_divide_19 : decode bMo_divide 19 = .ok (.ifCond .ge 7, 3) := by decide +kernel
theorem dMo_divide_22 : decode bMo_divide 22 = .ok (.iconst 1, 1) := by decide +kernel
theorem dMo_divide_23 : decode bMo_divide 23 = .ok (.goto 4, 3) := by decide +kernel
theorem dMo_divide_26 : decode bMo_divide 26 = .ok (.iconst 0, 1) := by decide +kernel
theorem dMo_divide_27 : decode bMo_divide 27 = .ok (.istore 11, 2) := by decide +kernel
theorem dMo_divide_29 : decode bMo_divide 29 = .ok (.ldc2_w 51, 3) := by decide +kernel
theorem dMo_divide_32 : decode bMo_divide 32 = .ok (.lload 8, 2) := by decide +kernel
theorem dMo_divide_34 : decode bMo_divide 34 = .ok (.lmul, 1) := by decide +kernel
theorem dMo_divide_35 : decode bMo_divide 35 = .ok (.lload_n 1, 1) := by decide +kernel
theorem dMo_divide_36 : decode bMo_divide 36 = .ok (.iload 10, 2) := by decide +kernel
theorem dMo_divide_38 : decode bMo_divide 38 = .ok (.lshr, 1) := by decide +kernel
theorem dMo_divide_39 : decode bMo_divide 39 = .ok (.lconst 1, 1) := by decide +kernel
theorem dMo_divide_40 : decode bMo_divide 40 = .ok (.land, 1) := by decide +kernel
theorem dMo_divide_41 : decode bMo_divide 41 = .ok (.ladd, 1) := by decide +kernel
theorem dMo_divide_42 : decode bMo_divide 42 = .ok (.lstore 8, 2) := by decide +kernel
theorem dMo_divide_44 : decode bMo_divide 44 = .ok (.iload 11, 2) := by decide +kernel
theorem dMo_divide_46 : decode bMo_divide 46 = .ok (.ifCond .ne 18, 3) := by decide +kernel
theorem dMo_divide_49 : decode bMo_divide 49 = .ok (.lload 8, 2) := by decide +kernel
theorem dMo_divide_51 : decode bMo_divide 51 = .ok (.ldc2_w 78, 3) := by decide +kernel
theorem dMo_divide_54 : decode bMo_divide 54 = .ok (.ladd, 1) := by decide +kernel
theorem dMo_divide_55 : decode bMo_divide 55 = .ok (.lload_n 3, 1) := by decide +kernel
theorem dMo_divide_56 : decode bMo_divide 56 = .ok (.ldc2_w 78, 3) := by decide +kernel
theorem dMo_divide_59 : decode bMo_divide 59 = .ok (.ladd, 1) := by decide +kernel
theorem dMo_divide_60 : decode bMo_divide 60 = .ok (.lcmp, 1) := by decide +kernel
theorem dMo_divide_61 : decode bMo_divide 61 = .ok (.ifCond .lt 7, 3) := by decide +kernel
theorem dMo_divide_64 : decode bMo_divide 64 = .ok (.iconst 1, 1) := by decide +kernel
theorem dMo_divide_65 : decode bMo_divide 65 = .ok (.goto 4, 3) := by decide +kernel
theorem dMo_divide_68 : decode bMo_divide 68 = .ok (.iconst 0, 1) := by decide +kernel
theorem dMo_divide_69 : decode bMo_divide 69 = .ok (.istore 12, 2) := by decide +kernel
theorem dMo_divide_71 : decode bMo_divide 71 = .ok (.iload 12, 2) := by decide +kernel
theorem dMo_divide_73 : decode bMo_divide 73 = .ok (.ifCond .eq 10, 3) := by decide +kernel
theorem dMo_divide_76 : decode bMo_divide 76 = .ok (.lload 8, 2) := by decide +kernel
theorem dMo_divide_78 : decode bMo_divide 78 = .ok (.lload_n 3, 1) := by decide +kernel
theorem dMo_divide_79 : decode bMo_divide 79 = .ok (.lsub, 1) := by decide +kernel
theorem dMo_divide_80 : decode bMo_divide 80 = .ok (.goto 5, 3) := by decide +kernel
theorem dMo_divide_83 : decode bMo_divide 83 = .ok (.lload 8, 2) := by decide +kernel
theorem dMo_divide_85 : decode bMo_divide 85 = .ok (.lstore 8, 2) := by decide +kernel
theorem dMo_divide_87 : decode bMo_divide 87 = .ok (.ldc2_w 51, 3) := by decide +kernel
theorem dMo_divide_90 : decode bMo_divide 90 = .ok (.lload 6, 2) := by decide +kernel
theorem dMo_divide_92 : decode bMo_divide 92 = .ok (.lmul, 1) := by decide +kernel
theorem dMo_divide_93 : decode bMo_divide 93 = .ok (.iload 12, 2) := by decide +kernel
theorem dMo_divide_95 : decode bMo_divide 95 = .ok (.ifCond .eq 7, 3) := by decide +kernel
theorem dMo_divide_98 : decode bMo_divide 98 = .ok (.lconst 1, 1) := by decide +kernel
theorem dMo_divide_99 : decode bMo_divide 99 = .ok (.goto 4, 3) := by decide +kernel
theorem dMo_divide_102 : decode bMo_divide 102 = .ok (.lconst 0, 1) := by decide +kernel
theorem dMo_divide_103 : decode bMo_divide 103 = .ok (.ladd, 1) := by decide +kernel
theorem dMo_divide_104 : decode bMo_divide 104 = .ok (.lstore 6, 2) := by decide +kernel
theorem dMo_divide_106 : decode bMo_divide 106 = .ok (.iinc 10 (-1), 3) := by decide +kernel
theorem dMo_divide_109 : decode bMo_divide 109 = .ok (.goto (-99), 3) := by decide +kernel
theorem dMo_divide_112 : decode bMo_divide 112 = .ok (.iload 5, 2) := by decide +kernel
theorem dMo_divide_114 : decode bMo_divide 114 = .ok (.ifCond .eq 8, 3) := by decide +kernel
theorem dMo_divide_117 : decode bMo_divide 117 = .ok (.lload 6, 2) := by decide +kernel
theorem dMo_divide_119 : decode bMo_divide 119 = .ok (.goto 5, 3) := by decide +kernel
theorem dMo_divide_122 : decode bMo_divide 122 = .ok (.lload 8, 2) := by decide +kernel
theorem dMo_divide_124 : decode bMo_divide 124 = .ok (.lreturn, 1) := by decide +kernel
theorem dMo_numbers_0 : decode bMo_numbers 0 = .ok (.aload_n 0, 1) := by decide +kernel
theorem dMo_numbers_1 : decode bMo_numbers 1 = .ok (.iload_n 3, 1) := by decide +kernel
theorem dMo_numbers_2 : decode bMo_numbers 2 = .ok (.invokevirtual 53, 3) := by decide +kernel
theorem dMo_numbers_5 : decode bMo_numbers 5 = .ok (.ifCond .eq 12, 3) := by decide +kernel
theorem dMo_numbers_8 : decode bMo_numbers 8 = .ok (.aload_n 0, 1) := by decide +kernel
theorem dMo_numbers_9 : decode bMo_numbers 9 = .ok (.iload 4, 2) := by decide +kernel
theorem dMo_numbers_11 : decode bMo_numbers 11 = .ok (.invokevirtual 53, 3) := by decide +kernel
theorem dMo_numbers_14 : decode bMo_numbers 14 = .ok (.ifCond .ne 59, 3) := by decide +kernel
theorem dMo_numbers_17 : decode bMo_numbers 17 = .ok (.aload_n 0, 1) := by decide +kernel
theorem dMo_numbers_18 : decode bMo_numbers 18 = .ok (.aload_n 0, 1) := by decide +kernel
theorem dMo_numbers_19 : decode bMo_numbers 19 = .ok (.getfield 13, 3) := by decide +kernel
theorem dMo_numbers_22 : decode bMo_numbers 22 = .ok (.iload_n 3, 1) := by decide +kernel
theorem dMo_numbers_23 : decode bMo_numbers 23 = .ok (.iaload, 1) := by decide +kernel
theorem dMo_numbers_24 : decode bMo_numbers 24 = .ok (.ifCond .eq 13, 3) := by decide +kernel
theorem dMo_numbers_27 : decode bMo_numbers 27 = .ok (.aload_n 0, 1) := by decide +kernel
theorem dMo_numbers_28 : decode bMo_numbers 28 = .ok (.getfield 13, 3) := by decide +kernel
theorem dMo_numbers_31 : decode bMo_numbers 31 = .ok (.iload 4, 2) := by decide +kernel
theorem dMo_numbers_33 : decode bMo_numbers 33 = .ok (.iaload, 1) := by decide +kernel
theorem dMo_numbers_34 : decode bMo_numbers 34 = .ok (.ifCond .ne 7, 3) := by decide +kernel
theorem dMo_numbers_37 : decode bMo_numbers 37 = .ok (.iconst 0, 1) := by decide +kernel
theorem dMo_numbers_38 : decode bMo_numbers 38 = .ok (.goto 5, 3) := by decide +kernel
theorem dMo_numbers_41 : decode bMo_numbers 41 = .ok (.iload 5, 2) := by decide +kernel
theorem dMo_numbers_43 : decode bMo_numbers 43 = .ok (.putfield 30, 3) := by decide +kernel
theorem dMo_numbers_46 : decode bMo_numbers 46 = .ok (.iconst 0, 1) := by decide +kernel
theorem dMo_numbers_47 : decode bMo_numbers 47 = .ok (.istore 6, 2) := by decide +kernel
theorem dMo_numbers_49 : decode bMo_numbers 49 = .ok (.iload 6, 2) := by decide +kernel
theorem dMo_numbers_51 : decode bMo_numbers 51 = .ok (.aload_n 0, 1) := by decide +kernel
theorem dMo_numbers_52 : decode bMo_numbers 52 = .ok (.getfield 30, 3) := by decide +kernel
theorem dMo_numbers_55 : decode bMo_numbers 55 = .ok (.if_icmp .ge 17, 3) := by decide +kernel
theorem dMo_numbers_58 : decode bMo_numbers 58 = .ok (.aload_n 0, 1) := by decide +kernel
theorem dMo_numbers_59 : decode bMo_numbers 59 = .ok (.getfield 16, 3) := by decide +kernel
theorem dMo_numbers_62 : decode bMo_numbers 62 = .ok (.iload 6, 2) := by decide +kernel
theorem dMo_numbers_64 : decode bMo_numbers 64 = .ok (.iconst 1, 1) := by decide +kernel
theorem dMo_numbers_65 : decode bMo_numbers 65 = .ok (.iastore, 1) := by decide +kernel
theorem dMo_numbers_66 : decode bMo_numbers 66 = .ok (.iinc 6 1, 3) := by decide +kernel
theorem dMo_numbers_69 : decode bMo_numbers 69 = .ok (.goto (-20), 3) := by decide +kernel
theorem dMo_numbers_72 : decode bMo_numbers 72 = .ok (.return_, 1) := by decide +kernel
theorem dMo_numbers_73 : decode bMo_numbers 73 = .ok (.aload_n 0, 1) := by decide +kernel
theorem dMo_numbers_74 : decode bMo_numbers 74 = .ok (.iload_n 3, 1) := by decide +kernel
theorem dMo_numbers_75 : decode bMo_numbers 75 = .ok (.iload_n 2, 1) := by decide +kernel
theorem dMo_numbers_76 : decode bMo_numbers 76 = .ok (.invokevirtual 56, 3) := by decide +kernel
theorem dMo_numbers_79 : decode bMo_numbers 79 = .ok (.lstore 6, 2) := by decide +kernel
theorem dMo_numbers_81 : decode bMo_numbers 81 = .ok (.aload_n 0, 1) := by decide +kernel
theorem dMo_numbers_82 : decode bMo_numbers 82 = .ok (.iload 4, 2) := by decide +kernel
theorem dMo_numbers_84 : decode bMo_numbers 84 = .ok (.iload_n 2, 1) := by decide +kernel
theorem dMo_numbers_85 : decode bMo_numbers 85 = .ok (.invokevirtual 56, 3) := by decide +kernel
theorem dMo_numbers_88 : decode bMo_numbers 88 = .ok (.lstore 8, 2) := by decide +kernel
theorem dMo_numbers_90 : decode bMo_numbers 90 = .ok (.aload_n 0, 1) := by decide +kernel
theorem dMo_numbers_91 : decode bMo_numbers 91 = .ok (.iload_n 1, 1) := by decide +kernel
theorem dMo_numbers_92 : decode bMo_numbers 92 = .ok (.bipush 9, 2) := by decide +kernel
theorem dMo_numbers_94 : decode bMo_numbers 94 = .ok (.if_icmp .le 14, 3) := by decide +kernel
theorem dMo_numbers_97 : decode bMo_numbers 97 = .ok (.lload 8, 2) := by decide +kernel
theorem dMo_numbers_99 : decode bMo_numbers 99 = .ok (.lconst 0, 1) := by decide +kernel
theorem dMo_numbers_100 : decode bMo_numbers 100 = .ok (.lcmp, 1) := by decide +kernel
theorem dMo_numbers_101 : decode bMo_numbers 101 = .ok (.ifCond .ne 7, 3) := by decide +kernel
theorem dMo_numbers_104 : decode bMo_numbers 104 = .ok (.iconst 3, 1) := by decide +kernel
theorem dMo_numbers_105 : decode bMo_numbers 105 = .ok (.goto 4, 3) := by decide +kernel
theorem dMo_numbers_108 : decode bMo_numbers 108 = .ok (.iconst 0, 1) := by decide +kernel
theorem dMo_numbers_109 : decode bMo_numbers 109 = .ok (.putfield 19, 3) := by decide +kernel
theorem dMo_numbers_112 : decode bMo_numbers 112 = .ok (.aload_n 0, 1) := by decide +kernel
theorem dMo_numbers_113 : decode bMo_numbers 113 = .ok (.getfield 19, 3) := by decide +kernel
theorem dMo_numbers_116 : decode bMo_numbers 116 = .ok (.ifCond .le 4, 3) := by decide +kernel
theorem dMo_numbers_119 : decode bMo_numbers 119 = .ok (.return_, 1) := by decide +kernel
theorem dMo_numbers_120 : decode bMo_numbers 120 = .ok (.iload_n 1, 1) := by decide +kernel
theorem dMo_numbers_121 : decode bMo_numbers 121 = .ok (.bipush 10, 2) := by decide +kernel
theorem dMo_numbers_123 : decode bMo_numbers 123 = .ok (.if_icmp .ge 43, 3) := by decide +kernel
theorem dMo_numbers_126 : decode bMo_numbers 126 = .ok (.aload_n 0, 1) := by decide +kernel
theorem dMo_numbers_127 : decode bMo_numbers 127 = .ok (.iload 5, 2) := by decide +kernel
theorem dMo_numbers_129 : decode bMo_numbers 129 = .ok (.iload_n 1, 1) := by decide +kernel
theorem dMo_numbers_130 : decode bMo_numbers 130 = .ok (.bipush 7, 2) := by decide +kernel
theorem dMo_numbers_132 : decode bMo_numbers 132 = .ok (.if_icmp .ne 11, 3) := by decide +kernel
theorem dMo_numbers_135 : decode bMo_numbers 135 = .ok (.lload 6, 2) := by decide +kernel
theorem dMo_numbers_137 : decode bMo_numbers 137 = .ok (.lload 8, 2) := by decide +kernel
theorem dMo_numbers_139 : decode bMo_numbers 139 = .ok (.ladd, 1) := by decide +kernel
theorem dMo_numbers_140 : decode bMo_numbers 140 = .ok (.goto 22, 3) := by decide +kernel
theorem dMo_numbers_143 : decode bMo_numbers 143 = .ok (.iload_n 1, 1) := by decide +kernel
theorem dMo_numbers_144 : decode bMo_numbers 144 = .ok (.bipush 8, 2) := by decide +kernel
theorem dMo_numbers_146 : decode bMo_numbers 146 = .ok (.if_icmp .ne 11, 3) := by decide +kernel
theorem dMo_numbers_149 : decode bMo_numbers 149 = .ok (.lload 6, 2) := by decide +kernel
theorem dMo_numbers_151 : decode bMo_numbers 151 = .ok (.lload 8, 2) := by decide +kernel
theorem dMo_numbers_153 : decode bMo_numbers 153 = .ok (.lsub, 1) := by decide +kernel
theorem dMo_numbers_154 : decode bMo_numbers 154 = .ok (.goto 8, 3) := by decide +kernel
theorem dMo_numbers_157 : decode bMo_numbers 157 = .ok (.lload 6, 2) := by decide +kernel
theorem dMo_numbers_159 : decode bMo_numbers 159 = .ok (.lload 8, 2) := by decide +kernel
theorem dMo_numbers_161 : decode bMo_numbers 161 = .ok (.lmul, 1) := by decide +kernel
theorem dMo_numbers_162 : decode bMo_numbers 162 = .ok (.invokevirtual 44, 3) := by decide +kernel
theorem dMo_numbers_165 : decode bMo_numbers 165 = .ok (.return_, 1) := by decide +kernel
theorem dMo_numbers_166 : decode bMo_numbers 166 = .ok (.iload_n 2, 1) := by decide +kernel
theorem dMo_numbers_167 : decode bMo_numbers 167 = .ok (.ifCond .eq 14, 3) := by decide +kernel
theorem dMo_numbers_170 : decode bMo_numbers 170 = .ok (.lload 6, 2) := by decide +kernel
theorem dMo_numbers_172 : decode bMo_numbers 172 = .ok (.lconst 0, 1) := by decide +kernel
theorem dMo_numbers_173 : decode bMo_numbers 173 = .ok (.lcmp, 1) := by decide +kernel
theorem dMo_numbers_174 : decode bMo_numbers 174 = .ok (.ifCond .ge 7, 3) := by decide +kernel
theorem dMo_numbers_177 : decode bMo_numbers 177 = .ok (.iconst 1, 1) := by decide +kernel
theorem dMo_numbers_178 : decode bMo_numbers 178 = .ok (.goto 4, 3) := by decide +kernel
theorem dMo_numbers_181 : decode bMo_numbers 181 = .ok (.iconst 0, 1) := by decide +kernel
theorem dMo_numbers_182 : decode bMo_numbers 182 = .ok (.istore 10, 2) := by decide +kernel
theorem dMo_numbers_184 : decode bMo_numbers 184 = .ok (.iload_n 2, 1) := by decide +kernel
theorem dMo_numbers_185 : decode bMo_numbers 185 = .ok (.ifCond .eq 14, 3) := by decide +kernel
theorem dMo_numbers_188 : decode bMo_numbers 188 = .ok (.lload 8, 2) := by decide +kernel
theorem dMo_numbers_190 : decode bMo_numbers 190 = .ok (.lconst 0, 1) := by decide +kernel
theorem dMo_numbers_191 : decode bMo_numbers 191 = .ok (.lcmp, 1) := by decide +kernel
theorem dMo_numbers_192 : decode bMo_numbers 192 = .ok (.ifCond .ge 7, 3) := by decide +kernel
theorem dMo_numbers_195 : decode bMo_numbers 195 = .ok (.iconst 1, 1) := by decide +kernel
theorem dMo_numbers_196 : decode bMo_numbers 196 = .ok (.goto 4, 3) := by decide +kernel
theorem dMo_numbers_199 : decode bMo_numbers 199 = .ok (.iconst 0, 1) := by decide +kernel
theorem dMo_numbers_200 : decode bMo_numbers 200 = .ok (.istore 11, 2) := by decide +kernel
theorem dMo_numbers_202 : decode bMo_numbers 202 = .ok (.iload 10, 2) := by decide +kernel
theorem dMo_numbers_204 : decode bMo_numbers 204 = .ok (.ifCond .eq 9, 3) := by decide +kernel
theorem dMo_numbers_207 : decode bMo_numbers 207 = .ok (.lload 6, 2) := by decide +kernel
theorem dMo_numbers_209 : decode bMo_numbers 209 = .ok (.lneg, 1) := by decide +kernel
theorem dMo_numbers_210 : decode bMo_numbers 210 = .ok (.goto 5, 3) := by decide +kernel
theorem dMo_numbers_213 : decode bMo_numbers 213 = .ok (.lload 6, 2) := by decide +kernel
theorem dMo_numbers_215 : decode bMo_numbers 215 = .ok (.lstore 12, 2) := by decide +kernel
theorem dMo_numbers_217 : decode bMo_numbers 217 = .ok (.iload 11, 2) := by decide +kernel
theorem dMo_numbers_219 : decode bMo_numbers 219 = .ok (.ifCond .eq 9, 3) := by decide +kernel
theorem dMo_numbers_222 : decode bMo_numbers 222 = .ok (.lload 8, 2) := by decide +kernel
theorem dMo_numbers_224 : decode bMo_numbers 224 = .ok (.lneg, 1) := by decide +kernel
theorem dMo_numbers_225 : decode bMo_numbers 225 = .ok (.goto 5, 3) := by decide +kernel
theorem dMo_numbers_228 : decode bMo_numbers 228 = .ok (.lload 8, 2) := by decide +kernel
theorem dMo_numbers_230 : decode bMo_numbers 230 = .ok (.lstore 14, 2) := by decide +kernel
theorem dMo_numbers_232 : decode bMo_numbers 232 = .ok (.aload_n 0, 1) := by decide +kernel
theorem dMo_numbers_233 : decode bMo_numbers 233 = .ok (.lload 12, 2) := by decide +kernel
theorem dMo_numbers_235 : decode bMo_numbers 235 = .ok (.lload 14, 2) := by decide +kernel
theorem dMo_numbers_237 : decode bMo_numbers 237 = .ok (.iconst 1, 1) := by decide +kernel
theorem dMo_numbers_238 : decode bMo_numbers 238 = .ok (.invokevirtual 80, 3) := by decide +kernel
theorem dMo_numbers_241 : decode bMo_numbers 241 = .ok (.lstore 16, 2) := by decide +kernel
theorem dMo_numbers_243 : decode bMo_numbers 243 = .ok (.aload_n 0, 1) := by decide +kernel
theorem dMo_numbers_244 : decode bMo_numbers 244 = .ok (.lload 12, 2) := by decide +kernel
theorem dMo_numbers_246 : decode bMo_numbers 246 = .ok (.lload 14, 2) := by decide +kernel
theorem dMo_numbers_248 : decode bMo_numbers 248 = .ok (.iconst 0, 1) := by decide +kernel
theorem dMo_numbers_249 : decode bMo_numbers 249 = .ok (.invokevirtual 80, 3) := by decide +kernel
theorem dMo_numbers_252 : decode bMo_numbers 252 = .ok (.lstore 18, 2) := by decide +kernel
theorem dMo_numbers_254 : decode bMo_numbers 254 = .ok (.iload 10, 2) := by decide +kernel
theorem dMo_numbers_256 : decode bMo_numbers 256 = .ok (.iload 11, 2) := by decide +kernel
theorem dMo_numbers_258 : decode bMo_numbers 258 = .ok (.if_icmp .eq 9, 3) := by decide +kernel
theorem dMo_numbers_261 : decode bMo_numbers 261 = .ok (.lload 16, 2) := by decide +kernel
theorem dMo_numbers_263 : decode bMo_numbers 263 = .ok (.lneg, 1) := by decide +kernel
theorem dMo_numbers_264 : decode bMo_numbers 264 = .ok (.goto 5, 3) := by decide +kernel
theorem dMo_numbers_267 : decode bMo_numbers 267 = .ok (.lload 16, 2) := by decide +kernel
theorem dMo_numbers_269 : decode bMo_numbers 269 = .ok (.lstore 16, 2) := by decide +kernel
theorem dMo_numbers_271 : decode bMo_numbers 271 = .ok (.iload 10, 2) := by decide +kernel
theorem dMo_numbers_273 : decode bMo_numbers 273 = .ok (.ifCond .eq 9, 3) := by decide +kernel
theorem dMo_numbers_276 : decode bMo_numbers 276 = .ok (.lload 18, 2) := by decide +kernel
theorem dMo_numbers_278 : decode bMo_numbers 278 = .ok (.lneg, 1) := by decide +kernel
theorem dMo_numbers_279 : decode bMo_numbers 279 = .ok (.goto 5, 3) := by decide +kernel
theorem dMo_numbers_282 : decode bMo_numbers 282 = .ok (.lload 18, 2) := by decide +kernel
theorem dMo_numbers_284 : decode bMo_numbers 284 = .ok (.lstore 18, 2) := by decide +kernel
theorem dMo_numbers_286 : decode bMo_numbers 286 = .ok (.iload_n 1, 1) := by decide +kernel
theorem dMo_numbers_287 : decode bMo_numbers 287 = .ok (.bipush 12, 2) := by decide +kernel
theorem dMo_numbers_289 : decode bMo_numbers 289 = .ok (.if_icmp .ne 24, 3) := by decide +kernel
theorem dMo_numbers_292 : decode bMo_numbers 292 = .ok (.lload 18, 2) := by decide +kernel
theorem dMo_numbers_294 : decode bMo_numbers 294 = .ok (.lconst 0, 1) := by decide +kernel
theorem dMo_numbers_295 : decode bMo_numbers 295 = .ok (.lcmp, 1) := by decide +kernel
theorem dMo_numbers_296 : decode bMo_numbers 296 = .ok (.ifCond .eq 17, 3) := by decide +kernel
theorem dMo_numbers_299 : decode bMo_numbers 299 = .ok (.iload 10, 2) := by decide +kernel
theorem dMo_numbers_301 : decode bMo_numbers 301 = .ok (.iload 11, 2) := by decide +kernel
theorem dMo_numbers_303 : decode bMo_numbers 303 = .ok (.if_icmp .eq 10, 3) := by decide +kernel
theorem dMo_numbers_306 : decode bMo_numbers 306 = .ok (.lload 18, 2) := by decide +kernel
theorem dMo_numbers_308 : decode bMo_numbers 308 = .ok (.lload 8, 2) := by decide +kernel
theorem dMo_numbers_310 : decode bMo_numbers 310 = .ok (.ladd, 1) := by decide +kernel
theorem dMo_numbers_311 : decode bMo_numbers 311 = .ok (.lstore 18, 2) := by decide +kernel
theorem dMo_numbers_313 : decode bMo_numbers 313 = .ok (.aload_n 0, 1) := by decide +kernel
theorem dMo_numbers_314 : decode bMo_numbers 314 = .ok (.iload 5, 2) := by decide +kernel
theorem dMo_numbers_316 : decode bMo_numbers 316 = .ok (.iload_n 1, 1) := by decide +kernel
theorem dMo_numbers_317 : decode bMo_numbers 317 = .ok (.bipush 10, 2) := by decide +kernel
theorem dMo_numbers_319 : decode bMo_numbers 319 = .ok (.if_icmp .ne 8, 3) := by decide +kernel
theorem dMo_numbers_322 : decode bMo_numbers 322 = .ok (.lload 16, 2) := by decide +kernel
theorem dMo_numbers_324 : decode bMo_numbers 324 = .ok (.goto 5, 3) := by decide +kernel
theorem dMo_numbers_327 : decode bMo_numbers 327 = .ok (.lload 18, 2) := by decide +kernel
theorem dMo_numbers_329 : decode bMo_numbers 329 = .ok (.invokevirtual 44, 3) := by decide +kernel
theorem dMo_numbers_332 : decode bMo_numbers 332 = .ok (.return_, 1) := by decide +kernel
theorem dMo_operate_0 : decode bMo_operate 0 = .ok (.aload_n 0, 1) := by decide +kernel
theorem dMo_operate_1 : decode bMo_operate 1 = .ok (.iload_n 3, 1) := by decide +kernel
theorem dMo_operate_2 : decode bMo_operate 2 = .ok (.invokestatic 33, 3) := by decide +kernel
theorem dMo_operate_5 : decode bMo_operate 5 = .ok (.ifCond .ne 19, 3) := by decide +kernel
theorem dMo_operate_8 : decode bMo_operate 8 = .ok (.iload 4, 2) := by decide +kernel
theorem dMo_operate_10 : decode bMo_operate 10 = .ok (.invokestatic 33, 3) := by decide +kernel
theorem dMo_operate_13 : decode bMo_operate 13 = .ok (.ifCond .ne 11, 3) := by decide +kernel
theorem dMo_operate_16 : decode bMo_operate 16 = .ok (.iload 5, 2) := by decide +kernel
theorem dMo_operate_18 : decode bMo_operate 18 = .ok (.invokestatic 33, 3) := by decide +kernel
theorem dMo_operate_21 : decode bMo_operate 21 = .ok (.ifCond .eq 7, 3) := by decide +kernel
theorem dMo_operate_24 : decode bMo_operate 24 = .ok (.iconst 1, 1) := by decide +kernel
theorem dMo_operate_25 : decode bMo_operate 25 = .ok (.goto 18, 3) := by decide +kernel
theorem dMo_operate_28 : decode bMo_operate 28 = .ok (.iload_n 1, 1) := by decide +kernel
theorem dMo_operate_29 : decode bMo_operate 29 = .ok (.ifCond .lt 9, 3) := by decide +kernel
theorem dMo_operate_32 : decode bMo_operate 32 = .ok (.iload_n 1, 1) := by decide +kernel
theorem dMo_operate_33 : decode bMo_operate 33 = .ok (.bipush 13, 2) := by decide +kernel
theorem dMo_operate_35 : decode bMo_operate 35 = .ok (.if_icmp .le 7, 3) := by decide +kernel
theorem dMo_operate_38 : decode bMo_operate 38 = .ok (.iconst 2, 1) := by decide +kernel
theorem dMo_operate_39 : decode bMo_operate 39 = .ok (.goto 4, 3) := by decide +kernel
theorem dMo_operate_42 : decode bMo_operate 42 = .ok (.iconst 0, 1) := by decide +kernel
theorem dMo_operate_43 : decode bMo_operate 43 = .ok (.putfield 19, 3) := by decide +kernel
theorem dMo_operate_46 : decode bMo_operate 46 = .ok (.aload_n 0, 1) := by decide +kernel
theorem dMo_operate_47 : decode bMo_operate 47 = .ok (.getfield 19, 3) := by decide +kernel
theorem dMo_operate_50 : decode bMo_operate 50 = .ok (.ifCond .le 4, 3) := by decide +kernel
theorem dMo_operate_53 : decode bMo_operate 53 = .ok (.return_, 1) := by decide +kernel
theorem dMo_operate_54 : decode bMo_operate 54 = .ok (.aload_n 0, 1) := by decide +kernel
theorem dMo_operate_55 : decode bMo_operate 55 = .ok (.getfield 13, 3) := by decide +kernel
theorem dMo_operate_58 : decode bMo_operate 58 = .ok (.iload_n 3, 1) := by decide +kernel
theorem dMo_operate_59 : decode bMo_operate 59 = .ok (.iaload, 1) := by decide +kernel
theorem dMo_operate_60 : decode bMo_operate 60 = .ok (.istore 6, 2) := by decide +kernel
theorem dMo_operate_62 : decode bMo_operate 62 = .ok (.aload_n 0, 1) := by decide +kernel
theorem dMo_operate_63 : decode bMo_operate 63 = .ok (.getfield 13, 3) := by decide +kernel
theorem dMo_operate_66 : decode bMo_operate 66 = .ok (.iload 4, 2) := by decide +kernel
theorem dMo_operate_68 : decode bMo_operate 68 = .ok (.iaload, 1) := by decide +kernel
theorem dMo_operate_69 : decode bMo_operate 69 = .ok (.istore 7, 2) := by decide +kernel
theorem dMo_operate_71 : decode bMo_operate 71 = .ok (.iload_n 1, 1) := by decide +kernel
theorem dMo_operate_72 : decode bMo_operate 72 = .ok (.bipush 7, 2) := by decide +kernel
theorem dMo_operate_74 : decode bMo_operate 74 = .ok (.if_icmp .ge 8, 3) := by decide +kernel
theorem dMo_operate_77 : decode bMo_operate 77 = .ok (.iload 6, 2) := by decide +kernel
theorem dMo_operate_79 : decode bMo_operate 79 = .ok (.goto 59, 3) := by decide +kernel
theorem dMo_operate_82 : decode bMo_operate 82 = .ok (.iload_n 1, 1) := by decide +kernel
theorem dMo_operate_83 : decode bMo_operate 83 = .ok (.bipush 9, 2) := by decide +kernel
theorem dMo_operate_85 : decode bMo_operate 85 = .ok (.if_icmp .ge 20, 3) := by decide +kernel
theorem dMo_operate_88 : decode bMo_operate 88 = .ok (.iload 6, 2) := by decide +kernel
theorem dMo_operate_90 : decode bMo_operate 90 = .ok (.iload 7, 2) := by decide +kernel
theorem dMo_operate_92 : decode bMo_operate 92 = .ok (.if_icmp .le 8, 3) := by decide +kernel
theorem dMo_operate_95 : decode bMo_operate 95 = .ok (.iload 6, 2) := by decide +kernel
theorem dMo_operate_97 : decode bMo_operate 97 = .ok (.goto 41, 3) := by decide +kernel
theorem dMo_operate_100 : decode bMo_operate 100 = .ok (.iload 7, 2) := by decide +kernel
theorem dMo_operate_102 : decode bMo_operate 102 = .ok (.goto 36, 3) := by decide +kernel
theorem dMo_operate_105 : decode bMo_operate 105 = .ok (.iload_n 1, 1) := by decide +kernel
theorem dMo_operate_106 : decode bMo_operate 106 = .ok (.bipush 9, 2) := by decide +kernel
theorem dMo_operate_108 : decode bMo_operate 108 = .ok (.if_icmp .eq 9, 3) := by decide +kernel
theorem dMo_operate_111 : decode bMo_operate 111 = .ok (.iload_n 1, 1) := by decide +kernel
theorem dMo_operate_112 : decode bMo_operate 112 = .ok (.bipush 13, 2) := by decide +kernel
theorem dMo_operate_114 : decode bMo_operate 114 = .ok (.if_icmp .ne 11, 3) := by decide +kernel
theorem dMo_operate_117 : decode bMo_operate 117 = .ok (.iload 6, 2) := by decide +kernel
theorem dMo_operate_119 : decode bMo_operate 119 = .ok (.iload 7, 2) := by decide +kernel
theorem dMo_operate_121 : decode bMo_operate 121 = .ok (.iadd, 1) := by decide +kernel
theorem dMo_operate_122 : decode bMo_operate 122 = .ok (.goto 16, 3) := by decide +kernel
theorem dMo_operate_125 : decode bMo_operate 125 = .ok (.iload_n 1, 1) := by decide +kernel
theorem dMo_operate_126 : decode bMo_operate 126 = .ok (.bipush 10, 2) := by decide +kernel
theorem dMo_operate_128 : decode bMo_operate 128 = .ok (.if_icmp .ne 8, 3) := by decide +kernel
theorem dMo_operate_131 : decode bMo_operate 131 = .ok (.iload 6, 2) := by decide +kernel
theorem dMo_operate_133 : decode bMo_operate 133 = .ok (.goto 5, 3) := by decide +kernel
theorem dMo_operate_136 : decode bMo_operate 136 = .ok (.iload 7, 2) := by decide +kernel
theorem dMo_operate_138 : decode bMo_operate 138 = .ok (.istore 8, 2) := by decide +kernel
theorem dMo_operate_140 : decode bMo_operate 140 = .ok (.aload_n 0, 1) := by decide +kernel
theorem dMo_operate_141 : decode bMo_operate 141 = .ok (.iload_n 1, 1) := by decide +kernel
theorem dMo_operate_142 : decode bMo_operate 142 = .ok (.bipush 7, 2) := by decide +kernel
theorem dMo_operate_144 : decode bMo_operate 144 = .ok (.if_icmp .ge 10, 3) := by decide +kernel
theorem dMo_operate_147 : decode bMo_operate 147 = .ok (.iload 6, 2) := by decide +kernel
theorem dMo_operate_149 : decode bMo_operate 149 = .ok (.iload 7, 2) := by decide +kernel
theorem dMo_operate_151 : decode bMo_operate 151 = .ok (.if_icmp .ne 10, 3) := by decide +kernel
theorem dMo_operate_154 : decode bMo_operate 154 = .ok (.iload 8, 2) := by decide +kernel
theorem dMo_operate_156 : decode bMo_operate 156 = .ok (.bipush 64, 2) := by decide +kernel
theorem dMo_operate_158 : decode bMo_operate 158 = .ok (.if_icmp .le 7, 3) := by decide +kernel
theorem dMo_operate_161 : decode bMo_operate 161 = .ok (.iconst 2, 1) := by decide +kernel
theorem dMo_operate_162 : decode bMo_operate 162 = .ok (.goto 4, 3) := by decide +kernel
theorem dMo_operate_165 : decode bMo_operate 165 = .ok (.iconst 0, 1) := by decide +kernel
theorem dMo_operate_166 : decode bMo_operate 166 = .ok (.putfield 19, 3) := by decide +kernel
theorem dMo_operate_169 : decode bMo_operate 169 = .ok (.aload_n 0, 1) := by decide +kernel
theorem dMo_operate_170 : decode bMo_operate 170 = .ok (.getfield 19, 3) := by decide +kernel
theorem dMo_operate_173 : decode bMo_operate 173 = .ok (.ifCond .le 4, 3) := by decide +kernel
theorem dMo_operate_176 : decode bMo_operate 176 = .ok (.return_, 1) := by decide +kernel
theorem dMo_operate_177 : decode bMo_operate 177 = .ok (.iload_n 1, 1) := by decide +kernel
theorem dMo_operate_178 : decode bMo_operate 178 = .ok (.bipush 7, 2) := by decide +kernel
theorem dMo_operate_180 : decode bMo_operate 180 = .ok (.if_icmp .ge 54, 3) := by decide +kernel
theorem dMo_operate_183 : decode bMo_operate 183 = .ok (.aload_n 0, 1) := by decide +kernel
theorem dMo_operate_184 : decode bMo_operate 184 = .ok (.iload 8, 2) := by decide +kernel
theorem dMo_operate_186 : decode bMo_operate 186 = .ok (.putfield 30, 3) := by decide +kernel
theorem dMo_operate_189 : decode bMo_operate 189 = .ok (.iconst 0, 1) := by decide +kernel
theorem dMo_operate_190 : decode bMo_operate 190 = .ok (.istore 9, 2) := by decide +kernel
theorem dMo_operate_192 : decode bMo_operate 192 = .ok (.iload 9, 2) := by decide +kernel
theorem dMo_operate_194 : decode bMo_operate 194 = .ok (.iload 8, 2) := by decide +kernel
theorem dMo_operate_196 : decode bMo_operate 196 = .ok (.if_icmp .ge 35, 3) := by decide +kernel
theorem dMo_operate_199 : decode bMo_operate 199 = .ok (.aload_n 0, 1) := by decide +kernel
theorem dMo_operate_200 : decode bMo_operate 200 = .ok (.getfield 16, 3) := by decide +kernel
theorem dMo_operate_203 : decode bMo_operate 203 = .ok (.iload 9, 2) := by decide +kernel
theorem dMo_operate_205 : decode bMo_operate 205 = .ok (.iload_n 1, 1) := by decide +kernel
theorem dMo_operate_206 : decode bMo_operate 206 = .ok (.aload_n 0, 1) := by decide +kernel
theorem dMo_operate_207 : decode bMo_operate 207 = .ok (.iload_n 3, 1) := by decide +kernel
theorem dMo_operate_208 : decode bMo_operate 208 = .ok (.iload 9, 2) := by decide +kernel
theorem dMo_operate_210 : decode bMo_operate 210 = .ok (.invokevirtual 40, 3) := by decide +kernel
theorem dMo_operate_213 : decode bMo_operate 213 = .ok (.aload_n 0, 1) := by decide +kernel
theorem dMo_operate_214 : decode bMo_operate 214 = .ok (.iload 4, 2) := by decide +kernel
theorem dMo_operate_216 : decode bMo_operate 216 = .ok (.iload 9, 2) := by decide +kernel
theorem dMo_operate_218 : decode bMo_operate 218 = .ok (.invokevirtual 40, 3) := by decide +kernel
theorem dMo_operate_221 : decode bMo_operate 221 = .ok (.invokestatic 84, 3) := by decide +kernel
theorem dMo_operate_224 : decode bMo_operate 224 = .ok (.iastore, 1) := by decide +kernel
theorem dMo_operate_225 : decode bMo_operate 225 = .ok (.iinc 9 1, 3) := by decide +kernel
theorem dMo_operate_228 : decode bMo_operate 228 = .ok (.goto (-36), 3) := by decide +kernel
theorem dMo_operate_231 : decode bMo_operate 231 = .ok (.goto 80, 3) := by decide +kernel
theorem dMo_operate_234 : decode bMo_operate 234 = .ok (.iload_n 1, 1) := by decide +kernel
theorem dMo_operate_235 : decode bMo_operate 235 = .ok (.bipush 13, 2) := by decide +kernel
theorem dMo_operate_237 : decode bMo_operate 237 = .ok (.if_icmp .ge 17, 3) := by decide +kernel
theorem dMo_operate_240 : decode bMo_operate 240 = .ok (.aload_n 0, 1) := by decide +kernel
theorem dMo_operate_241 : decode bMo_operate 241 = .ok (.iload_n 1, 1) := by decide +kernel
theorem dMo_operate_242 : decode bMo_operate 242 = .ok (.iload_n 2, 1) := by decide +kernel
theorem dMo_operate_243 : decode bMo_operate 243 = .ok (.iload_n 3, 1) := by decide +kernel
theorem dMo_operate_244 : decode bMo_operate 244 = .ok (.iload 4, 2) := by decide +kernel
theorem dMo_operate_246 : decode bMo_operate 246 = .ok (.iload 8, 2) := by decide +kernel
theorem dMo_operate_248 : decode bMo_operate 248 = .ok (.invokevirtual 88, 3) := by decide +kernel
theorem dMo_operate_251 : decode bMo_operate 251 = .ok (.goto 60, 3) := by decide +kernel
theorem dMo_operate_254 : decode bMo_operate 254 = .ok (.aload_n 0, 1) := by decide +kernel
theorem dMo_operate_255 : decode bMo_operate 255 = .ok (.iload 8, 2) := by decide +kernel
theorem dMo_operate_257 : decode bMo_operate 257 = .ok (.putfield 30, 3) := by decide +kernel
theorem dMo_operate_260 : decode bMo_operate 260 = .ok (.iconst 0, 1) := by decide +kernel
theorem dMo_operate_261 : decode bMo_operate 261 = .ok (.istore 9, 2) := by decide +kernel
theorem dMo_operate_263 : decode bMo_operate 263 = .ok (.iload 9, 2) := by decide +kernel
theorem dMo_operate_265 : decode bMo_operate 265 = .ok (.iload 8, 2) := by decide +kernel
theorem dMo_operate_267 : decode bMo_operate 267 = .ok (.if_icmp .ge 44, 3) := by decide +kernel
theorem dMo_operate_270 : decode bMo_operate 270 = .ok (.aload_n 0, 1) := by decide +kernel
theorem dMo_operate_271 : decode bMo_operate 271 = .ok (.getfield 16, 3) := by decide +kernel
theorem dMo_operate_274 : decode bMo_operate 274 = .ok (.iload 9, 2) := by decide +kernel
theorem dMo_operate_276 : decode bMo_operate 276 = .ok (.iload 9, 2) := by decide +kernel
theorem dMo_operate_278 : decode bMo_operate 278 = .ok (.iload 7, 2) := by decide +kernel
theorem dMo_operate_280 : decode bMo_operate 280 = .ok (.if_icmp .ge 14, 3) := by decide +kernel
theorem dMo_operate_283 : decode bMo_operate 283 = .ok (.aload_n 0, 1) := by decide +kernel
theorem dMo_operate_284 : decode bMo_operate 284 = .ok (.iload 4, 2) := by decide +kernel
theorem dMo_operate_286 : decode bMo_operate 286 = .ok (.iload 9, 2) := by decide +kernel
theorem dMo_operate_288 : decode bMo_operate 288 = .ok (.invokevirtual 40, 3) := by decide +kernel
theorem dMo_operate_291 : decode bMo_operate 291 = .ok (.goto 13, 3) := by decide +kernel
theorem dMo_operate_294 : decode bMo_operate 294 = .ok (.aload_n 0, 1) := by decide +kernel
theorem dMo_operate_295 : decode bMo_operate 295 = .ok (.iload_n 3, 1) := by decide +kernel
theorem dMo_operate_296 : decode bMo_operate 296 = .ok (.iload 9, 2) := by decide +kernel
theorem dMo_operate_298 : decode bMo_operate 298 = .ok (.iload 7, 2) := by decide +kernel
theorem dMo_operate_300 : decode bMo_operate 300 = .ok (.isub, 1) := by decide +kernel
theorem dMo_operate_301 : decode bMo_operate 301 = .ok (.invokevirtual 40, 3) := by decide +kernel
theorem dMo_operate_304 : decode bMo_operate 304 = .ok (.iastore, 1) := by decide +kernel
theorem dMo_operate_305 : decode bMo_operate 305 = .ok (.iinc 9 1, 3) := by decide +kernel
theorem dMo_operate_308 : decode bMo_operate 308 = .ok (.goto (-45), 3) := by decide +kernel
theorem dMo_operate_311 : decode bMo_operate 311 = .ok (.aload_n 0, 1) := by decide +kernel
theorem dMo_operate_312 : decode bMo_operate 312 = .ok (.getfield 19, 3) := by decide +kernel
theorem dMo_operate_315 : decode bMo_operate 315 = .ok (.ifCond .ne 9, 3) := by decide +kernel
theorem dMo_operate_318 : decode bMo_operate 318 = .ok (.aload_n 0, 1) := by decide +kernel
theorem dMo_operate_319 : decode bMo_operate 319 = .ok (.iload 5, 2) := by decide +kernel
theorem dMo_operate_321 : decode bMo_operate 321 = .ok (.invokevirtual 36, 3) := by decide +kernel
theorem dMo_operate_324 : decode bMo_operate 324 = .ok (.return_, 1) := by decide +kernel
theorem dMo_change_0 : decode bMo_change 0 = .ok (.aload_n 0, 1) := by decide +kernel
theorem dMo_change_1 : decode bMo_change 1 = .ok (.iload_n 2, 1) := by decide +kernel
theorem dMo_change_2 : decode bMo_change 2 = .ok (.invokestatic 33, 3) := by decide +kernel
theorem dMo_change_5 : decode bMo_change 5 = .ok (.ifCond .ne 10, 3) := by decide +kernel
theorem dMo_change_8 : decode bMo_change 8 = .ok (.iload_n 3, 1) := by decide +kernel
theorem dMo_change_9 : decode bMo_change 9 = .ok (.invokestatic 33, 3) := by decide +kernel
theorem dMo_change_12 : decode bMo_change 12 = .ok (.ifCond .eq 7, 3) := by decide +kernel
theorem dMo_change_15 : decode bMo_change 15 = .ok (.iconst 1, 1) := by decide +kernel
theorem dMo_change_16 : decode bMo_change 16 = .ok (.goto 18, 3) := by decide +kernel
theorem dMo_change_19 : decode bMo_change 19 = .ok (.iload_n 1, 1) := by decide +kernel
theorem dMo_change_20 : decode bMo_change 20 = .ok (.ifCond .lt 9, 3) := by decide +kernel
theorem dMo_change_23 : decode bMo_change 23 = .ok (.iload_n 1, 1) := by decide +kernel
theorem dMo_change_24 : decode bMo_change 24 = .ok (.bipush 6, 2) := by decide +kernel
theorem dMo_change_26 : decode bMo_change 26 = .ok (.if_icmp .le 7, 3) := by decide +kernel
theorem dMo_change_29 : decode bMo_change 29 = .ok (.iconst 2, 1) := by decide +kernel
theorem dMo_change_30 : decode bMo_change 30 = .ok (.goto 4, 3) := by decide +kernel
theorem dMo_change_33 : decode bMo_change 33 = .ok (.iconst 0, 1) := by decide +kernel
theorem dMo_change_34 : decode bMo_change 34 = .ok (.putfield 19, 3) := by decide +kernel
theorem dMo_change_37 : decode bMo_change 37 = .ok (.aload_n 0, 1) := by decide +kernel
theorem dMo_change_38 : decode bMo_change 38 = .ok (.getfield 19, 3) := by decide +kernel
theorem dMo_change_41 : decode bMo_change 41 = .ok (.ifCond .le 4, 3) := by decide +kernel
theorem dMo_change_44 : decode bMo_change 44 = .ok (.return_, 1) := by decide +kernel
theorem dMo_change_45 : decode bMo_change 45 = .ok (.aload_n 0, 1) := by decide +kernel
theorem dMo_change_46 : decode bMo_change 46 = .ok (.aload_n 0, 1) := by decide +kernel
theorem dMo_change_47 : decode bMo_change 47 = .ok (.getfield 13, 3) := by decide +kernel
theorem dMo_change_50 : decode bMo_change 50 = .ok (.iload_n 2, 1) := by decide +kernel
theorem dMo_change_51 : decode bMo_change 51 = .ok (.iaload, 1) := by decide +kernel
theorem dMo_change_52 : decode bMo_change 52 = .ok (.putfield 30, 3) := by decide +kernel
theorem dMo_change_55 : decode bMo_change 55 = .ok (.iload_n 1, 1) := by decide +kernel
theorem dMo_change_56 : decode bMo_change 56 = .ok (.iconst 5, 1) := by decide +kernel
theorem dMo_change_57 : decode bMo_change 57 = .ok (.if_icmp .ge 60, 3) := by decide +kernel
theorem dMo_change_60 : decode bMo_change 60 = .ok (.iconst 0, 1) := by decide +kernel
theorem dMo_change_61 : decode bMo_change 61 = .ok (.istore 4, 2) := by decide +kernel
theorem dMo_change_63 : decode bMo_change 63 = .ok (.iload 4, 2) := by decide +kernel
theorem dMo_change_65 : decode bMo_change 65 = .ok (.aload_n 0, 1) := by decide +kernel
theorem dMo_change_66 : decode bMo_change 66 = .ok (.getfield 30, 3) := by decide +kernel
theorem dMo_change_69 : decode bMo_change 69 = .ok (.if_icmp .ge 45, 3) := by decide +kernel
theorem dMo_change_72 : decode bMo_change 72 = .ok (.aload_n 0, 1) := by decide +kernel
theorem dMo_change_73 : decode bMo_change 73 = .ok (.getfield 16, 3) := by decide +kernel
theorem dMo_change_76 : decode bMo_change 76 = .ok (.iload 4, 2) := by decide +kernel
theorem dMo_change_78 : decode bMo_change 78 = .ok (.iload_n 1, 1) := by decide +kernel
theorem dMo_change_79 : decode bMo_change 79 = .ok (.iconst 4, 1) := by decide +kernel
theorem dMo_change_80 : decode bMo_change 80 = .ok (.if_icmp .ne 16, 3) := by decide +kernel
theorem dMo_change_83 : decode bMo_change 83 = .ok (.aload_n 0, 1) := by decide +kernel
theorem dMo_change_84 : decode bMo_change 84 = .ok (.iload_n 2, 1) := by decide +kernel
theorem dMo_change_85 : decode bMo_change 85 = .ok (.iload 4, 2) := by decide +kernel
theorem dMo_change_87 : decode bMo_change 87 = .ok (.invokevirtual 40, 3) := by decide +kernel
theorem dMo_change_90 : decode bMo_change 90 = .ok (.invokestatic 72, 3) := by decide +kernel
theorem dMo_change_93 : decode bMo_change 93 = .ok (.goto 14, 3) := by decide +kernel
theorem dMo_change_96 : decode bMo_change 96 = .ok (.iload_n 1, 1) := by decide +kernel
theorem dMo_change_97 : decode bMo_change 97 = .ok (.aload_n 0, 1) := by decide +kernel
theorem dMo_change_98 : decode bMo_change 98 = .ok (.iload_n 2, 1) := by decide +kernel
theorem dMo_change_99 : decode bMo_change 99 = .ok (.iload 4, 2) := by decide +kernel
theorem dMo_change_101 : decode bMo_change 101 = .ok (.invokevirtual 40, 3) := by decide +kernel
theorem dMo_change_104 : decode bMo_change 104 = .ok (.invokestatic 92, 3) := by decide +kernel
theorem dMo_change_107 : decode bMo_change 107 = .ok (.iastore, 1) := by decide +kernel
theorem dMo_change_108 : decode bMo_change 108 = .ok (.iinc 4 1, 3) := by decide +kernel
theorem dMo_change_111 : decode bMo_change 111 = .ok (.goto (-48), 3) := by decide +kernel
theorem dMo_change_114 : decode bMo_change 114 = .ok (.goto 79, 3) := by decide +kernel
theorem dMo_change_117 : decode bMo_change 117 = .ok (.aload_n 0, 1) := by decide +kernel
theorem dMo_change_118 : decode bMo_change 118 = .ok (.iload_n 2, 1) := by decide +kernel
theorem dMo_change_119 : decode bMo_change 119 = .ok (.invokevirtual 53, 3) := by decide +kernel
theorem dMo_change_122 : decode bMo_change 122 = .ok (.ifCond .eq 45, 3) := by decide +kernel
theorem dMo_change_125 : decode bMo_change 125 = .ok (.aload_n 0, 1) := by decide +kernel
theorem dMo_change_126 : decode bMo_change 126 = .ok (.iload_n 2, 1) := by decide +kernel
theorem dMo_change_127 : decode bMo_change 127 = .ok (.iconst 1, 1) := by decide +kernel
theorem dMo_change_128 : decode bMo_change 128 = .ok (.invokevirtual 56, 3) := by decide +kernel
theorem dMo_change_131 : decode bMo_change 131 = .ok (.lstore 4, 2) := by decide +kernel
theorem dMo_change_133 : decode bMo_change 133 = .ok (.aload_n 0, 1) := by decide +kernel
theorem dMo_change_134 : decode bMo_change 134 = .ok (.aload_n 0, 1) := by decide +kernel
theorem dMo_change_135 : decode bMo_change 135 = .ok (.getfield 13, 3) := by decide +kernel
theorem dMo_change_138 : decode bMo_change 138 = .ok (.iload_n 2, 1) := by decide +kernel
theorem dMo_change_139 : decode bMo_change 139 = .ok (.iaload, 1) := by decide +kernel
theorem dMo_change_140 : decode bMo_change 140 = .ok (.iload_n 1, 1) := by decide +kernel
theorem dMo_change_141 : decode bMo_change 141 = .ok (.bipush 6, 2) := by decide +kernel
theorem dMo_change_143 : decode bMo_change 143 = .ok (.if_icmp .ne 15, 3) := by decide +kernel
theorem dMo_change_146 : decode bMo_change 146 = .ok (.lload 4, 2) := by decide +kernel
theorem dMo_change_148 : decode bMo_change 148 = .ok (.lconst 0, 1) := by decide +kernel
theorem dMo_change_149 : decode bMo_change 149 = .ok (.lcmp, 1) := by decide +kernel
theorem dMo_change_150 : decode bMo_change 150 = .ok (.ifCond .lt 8, 3) := by decide +kernel
theorem dMo_change_153 : decode bMo_change 153 = .ok (.lload 4, 2) := by decide +kernel
theorem dMo_change_155 : decode bMo_change 155 = .ok (.goto 6, 3) := by decide +kernel
theorem dMo_change_158 : decode bMo_change 158 = .ok (.lload 4, 2) := by decide +kernel
theorem dMo_change_160 : decode bMo_change 160 = .ok (.lneg, 1) := by decide +kernel
theorem dMo_change_161 : decode bMo_change 161 = .ok (.invokevirtual 44, 3) := by decide +kernel
theorem dMo_change_164 : decode bMo_change 164 = .ok (.goto 29, 3) := by decide +kernel
theorem dMo_change_167 : decode bMo_change 167 = .ok (.iconst 0, 1) := by decide +kernel
theorem dMo_change_168 : decode bMo_change 168 = .ok (.istore 4, 2) := by decide +kernel
theorem dMo_change_170 : decode bMo_change 170 = .ok (.iload 4, 2) := by decide +kernel
theorem dMo_change_172 : decode bMo_change 172 = .ok (.aload_n 0, 1) := by decide +kernel
theorem dMo_change_173 : decode bMo_change 173 = .ok (.getfield 30, 3) := by decide +kernel
theorem dMo_change_176 : decode bMo_change 176 = .ok (.if_icmp .ge 17, 3) := by decide +kernel
theorem dMo_change_179 : decode bMo_change 179 = .ok (.aload_n 0, 1) := by decide +kernel
theorem dMo_change_180 : decode bMo_change 180 = .ok (.getfield 16, 3) := by decide +kernel
theorem dMo_change_183 : decode bMo_change 183 = .ok (.iload 4, 2) := by decide +kernel
theorem dMo_change_185 : decode bMo_change 185 = .ok (.iconst 1, 1) := by decide +kernel
theorem dMo_change_186 : decode bMo_change 186 = .ok (.iastore, 1) := by decide +kernel
theorem dMo_change_187 : decode bMo_change 187 = .ok (.iinc 4 1, 3) := by decide +kernel
theorem dMo_change_190 : decode bMo_change 190 = .ok (.goto (-20), 3) := by decide +kernel
theorem dMo_change_193 : decode bMo_change 193 = .ok (.aload_n 0, 1) := by decide +kernel
theorem dMo_change_194 : decode bMo_change 194 = .ok (.iload_n 3, 1) := by decide +kernel
theorem dMo_change_195 : decode bMo_change 195 = .ok (.invokevirtual 36, 3) := by decide +kernel
theorem dMo_change_198 : decode bMo_change 198 = .ok (.return_, 1) := by decide +kernel
theorem dMo_shift_0 : decode bMo_shift 0 = .ok (.aload_n 0, 1) := by decide +kernel
theorem dMo_shift_1 : decode bMo_shift 1 = .ok (.iload 4, 2) := by decide +kernel
theorem dMo_shift_3 : decode bMo_shift 3 = .ok (.invokestatic 33, 3) := by decide +kernel
theorem dMo_shift_6 : decode bMo_shift 6 = .ok (.ifCond .ne 11, 3) := by decide +kernel
theorem dMo_shift_9 : decode bMo_shift 9 = .ok (.iload 5, 2) := by decide +kernel
theorem dMo_shift_11 : decode bMo_shift 11 = .ok (.invokestatic 33, 3) := by decide +kernel
theorem dMo_shift_14 : decode bMo_shift 14 = .ok (.ifCond .eq 7, 3) := by decide +kernel
theorem dMo_shift_17 : decode bMo_shift 17 = .ok (.iconst 1, 1) := by decide +kernel
theorem dMo_shift_18 : decode bMo_shift 18 = .ok (.goto 41, 3) := by decide +kernel
theorem dMo_shift_21 : decode bMo_shift 21 = .ok (.iload_n 1, 1) := by decide +kernel
theorem dMo_shift_22 : decode bMo_shift 22 = .ok (.ifCond .lt 32, 3) := by decide +kernel
theorem dMo_shift_25 : decode bMo_shift 25 = .ok (.iload_n 1, 1) := by decide +kernel
theorem dMo_shift_26 : decode bMo_shift 26 = .ok (.iconst 4, 1) := by decide +kernel
theorem dMo_shift_27 : decode bMo_shift 27 = .ok (.if_icmp .gt 27, 3) := by decide +kernel
theorem dMo_shift_30 : decode bMo_shift 30 = .ok (.iload_n 3, 1) := by decide +kernel
theorem dMo_shift_31 : decode bMo_shift 31 = .ok (.ifCond .lt 23, 3) := by decide +kernel
theorem dMo_shift_34 : decode bMo_shift 34 = .ok (.iload_n 3, 1) := by decide +kernel
theorem dMo_shift_35 : decode bMo_shift 35 = .ok (.bipush 8, 2) := by decide +kernel
theorem dMo_shift_37 : decode bMo_shift 37 = .ok (.if_icmp .gt 17, 3) := by decide +kernel
theorem dMo_shift_40 : decode bMo_shift 40 = .ok (.iload_n 2, 1) := by decide +kernel
theorem dMo_shift_41 : decode bMo_shift 41 = .ok (.sipush (-1000), 3) := by decide +kernel
theorem dMo_shift_44 : decode bMo_shift 44 = .ok (.if_icmp .lt 10, 3) := by decide +kernel
theorem dMo_shift_47 : decode bMo_shift 47 = .ok (.iload_n 2, 1) := by decide +kernel
theorem dMo_shift_48 : decode bMo_shift 48 = .ok (.sipush 1000, 3) := by decide +kernel
theorem dMo_shift_51 : decode bMo_shift 51 = .ok (.if_icmp .le 7, 3) := by decide +kernel
theorem dMo_shift_54 : decode bMo_shift 54 = .ok (.iconst 2, 1) := by decide +kernel
theorem dMo_shift_55 : decode bMo_shift 55 = .ok (.goto 4, 3) := by decide +kernel
theorem dMo_shift_58 : decode bMo_shift 58 = .ok (.iconst 0, 1) := by decide +kernel
theorem dMo_shift_59 : decode bMo_shift 59 = .ok (.putfield 19, 3) := by decide +kernel
theorem dMo_shift_62 : decode bMo_shift 62 = .ok (.aload_n 0, 1) := by decide +kernel
theorem dMo_shift_63 : decode bMo_shift 63 = .ok (.getfield 19, 3) := by decide +kernel
theorem dMo_shift_66 : decode bMo_shift 66 = .ok (.ifCond .le 4, 3) := by decide +kernel
theorem dMo_shift_69 : decode bMo_shift 69 = .ok (.return_, 1) := by decide +kernel
theorem dMo_shift_70 : decode bMo_shift 70 = .ok (.aload_n 0, 1) := by decide +kernel
theorem dMo_shift_71 : decode bMo_shift 71 = .ok (.aload_n 0, 1) := by decide +kernel
theorem dMo_shift_72 : decode bMo_shift 72 = .ok (.getfield 13, 3) := by decide +kernel
theorem dMo_shift_75 : decode bMo_shift 75 = .ok (.iload 4, 2) := by decide +kernel
theorem dMo_shift_77 : decode bMo_shift 77 = .ok (.iaload, 1) := by decide +kernel
theorem dMo_shift_78 : decode bMo_shift 78 = .ok (.putfield 30, 3) := by decide +kernel
theorem dMo_shift_81 : decode bMo_shift 81 = .ok (.iload_n 1, 1) := by decide +kernel
theorem dMo_shift_82 : decode bMo_shift 82 = .ok (.ifCond .eq 8, 3) := by decide +kernel
theorem dMo_shift_85 : decode bMo_shift 85 = .ok (.iload_n 1, 1) := by decide +kernel
theorem dMo_shift_86 : decode bMo_shift 86 = .ok (.iconst 3, 1) := by decide +kernel
theorem dMo_shift_87 : decode bMo_shift 87 = .ok (.if_icmp .ne 7, 3) := by decide +kernel
theorem dMo_shift_90 : decode bMo_shift 90 = .ok (.iconst 1, 1) := by decide +kernel
theorem dMo_shift_91 : decode bMo_shift 91 = .ok (.goto 4, 3) := by decide +kernel
theorem dMo_shift_94 : decode bMo_shift 94 = .ok (.iconst 0, 1) := by decide +kernel
theorem dMo_shift_95 : decode bMo_shift 95 = .ok (.istore 6, 2) := by decide +kernel
theorem dMo_shift_97 : decode bMo_shift 97 = .ok (.iload 6, 2) := by decide +kernel
theorem dMo_shift_99 : decode bMo_shift 99 = .ok (.ifCond .eq 7, 3) := by decide +kernel
theorem dMo_shift_102 : decode bMo_shift 102 = .ok (.iload_n 2, 1) := by decide +kernel
theorem dMo_shift_103 : decode bMo_shift 103 = .ok (.goto 5, 3) := by decide +kernel
theorem dMo_shift_106 : decode bMo_shift 106 = .ok (.iload_n 2, 1) := by decide +kernel
theorem dMo_shift_107 : decode bMo_shift 107 = .ok (.ineg, 1) := by decide +kernel
theorem dMo_shift_108 : decode bMo_shift 108 = .ok (.istore 7, 2) := by decide +kernel
theorem dMo_shift_110 : decode bMo_shift 110 = .ok (.iconst 0, 1) := by decide +kernel
theorem dMo_shift_111 : decode bMo_shift 111 = .ok (.istore 8, 2) := by decide +kernel
theorem dMo_shift_113 : decode bMo_shift 113 = .ok (.iload 8, 2) := by decide +kernel
theorem dMo_shift_115 : decode bMo_shift 115 = .ok (.aload_n 0, 1) := by decide +kernel
theorem dMo_shift_116 : decode bMo_shift 116 = .ok (.getfield 30, 3) := by decide +kernel
theorem dMo_shift_119 : decode bMo_shift 119 = .ok (.if_icmp .ge 137, 3) := by decide +kernel
theorem dMo_shift_122 : decode bMo_shift 122 = .ok (.iload 8, 2) := by decide +kernel
theorem dMo_shift_124 : decode bMo_shift 124 = .ok (.iload 7, 2) := by decide +kernel
theorem dMo_shift_126 : decode bMo_shift 126 = .ok (.isub, 1) := by decide +kernel
theorem dMo_shift_127 : decode bMo_shift 127 = .ok (.istore 9, 2) := by decide +kernel
theorem dMo_shift_129 : decode bMo_shift 129 = .ok (.iload_n 1, 1) := by decide +kernel
theorem dMo_shift_130 : decode bMo_shift 130 = .ok (.iconst 2, 1) := by decide +kernel
theorem dMo_shift_131 : decode bMo_shift 131 = .ok (.if_icmp .le 41, 3) := by decide +kernel
theorem dMo_shift_134 : decode bMo_shift 134 = .ok (.iload 9, 2) := by decide +kernel
theorem dMo_shift_136 : decode bMo_shift 136 = .ok (.ifCond .ge 15, 3) := by decide +kernel
theorem dMo_shift_139 : decode bMo_shift 139 = .ok (.iload 9, 2) := by decide +kernel
theorem dMo_shift_141 : decode bMo_shift 141 = .ok (.aload_n 0, 1) := by decide +kernel
theorem dMo_shift_142 : decode bMo_shift 142 = .ok (.getfield 30, 3) := by decide +kernel
theorem dMo_shift_145 : decode bMo_shift 145 = .ok (.iadd, 1) := by decide +kernel
theorem dMo_shift_146 : decode bMo_shift 146 = .ok (.istore 9, 2) := by decide +kernel
theorem dMo_shift_148 : decode bMo_shift 148 = .ok (.goto (-14), 3) := by decide +kernel
theorem dMo_shift_151 : decode bMo_shift 151 = .ok (.iload 9, 2) := by decide +kernel
theorem dMo_shift_153 : decode bMo_shift 153 = .ok (.aload_n 0, 1) := by decide +kernel
theorem dMo_shift_154 : decode bMo_shift 154 = .ok (.getfield 30, 3) := by decide +kernel
theorem dMo_shift_157 : decode bMo_shift 157 = .ok (.if_icmp .lt 15, 3) := by decide +kernel
theorem dMo_shift_160 : decode bMo_shift 160 = .ok (.iload 9, 2) := by decide +kernel
theorem dMo_shift_162 : decode bMo_shift 162 = .ok (.aload_n 0, 1) := by decide +kernel
theorem dMo_shift_163 : decode bMo_shift 163 = .ok (.getfield 30, 3) := by decide +kernel
theorem dMo_shift_166 : decode bMo_shift 166 = .ok (.isub, 1) := by decide +kernel
theorem dMo_shift_167 : decode bMo_shift 167 = .ok (.istore 9, 2) := by decide +kernel
theorem dMo_shift_169 : decode bMo_shift 169 = .ok (.goto (-18), 3) := by decide +kernel
theorem dMo_shift_172 : decode bMo_shift 172 = .ok (.iload 9, 2) := by decide +kernel
theorem dMo_shift_174 : decode bMo_shift 174 = .ok (.ifCond .lt 16, 3) := by decide +kernel
theorem dMo_shift_177 : decode bMo_shift 177 = .ok (.iload 9, 2) := by decide +kernel
theorem dMo_shift_179 : decode bMo_shift 179 = .ok (.aload_n 0, 1) := by decide +kernel
theorem dMo_shift_180 : decode bMo_shift 180 = .ok (.getfield 30, 3) := by decide +kernel
theorem dMo_shift_183 : decode bMo_shift 183 = .ok (.if_icmp .ge 7, 3) := by decide +kernel
theorem dMo_shift_186 : decode bMo_shift 186 = .ok (.iconst 1, 1) := by decide +kernel
theorem dMo_shift_187 : decode bMo_shift 187 = .ok (.goto 4, 3) := by decide +kernel
theorem dMo_shift_190 : decode bMo_shift 190 = .ok (.iconst 0, 1) := by decide +kernel
theorem dMo_shift_191 : decode bMo_shift 191 = .ok (.istore 10, 2) := by decide +kernel
theorem dMo_shift_193 : decode bMo_shift 193 = .ok (.iload_n 1, 1) := by decide +kernel
theorem dMo_shift_194 : decode bMo_shift 194 = .ok (.iconst 2, 1) := by decide +kernel
theorem dMo_shift_195 : decode bMo_shift 195 = .ok (.if_icmp .eq 7, 3) := by decide +kernel
theorem dMo_shift_198 : decode bMo_shift 198 = .ok (.iload_n 3, 1) := by decide +kernel
theorem dMo_shift_199 : decode bMo_shift 199 = .ok (.goto 24, 3) := by decide +kernel
theorem dMo_shift_202 : decode bMo_shift 202 = .ok (.iload 7, 2) := by decide +kernel
theorem dMo_shift_204 : decode bMo_shift 204 = .ok (.ifCond .le 7, 3) := by decide +kernel
theorem dMo_shift_207 : decode bMo_shift 207 = .ok (.iconst 2, 1) := by decide +kernel
theorem dMo_shift_208 : decode bMo_shift 208 = .ok (.goto 15, 3) := by decide +kernel
theorem dMo_shift_211 : decode bMo_shift 211 = .ok (.aload_n 0, 1) := by decide +kernel
theorem dMo_shift_212 : decode bMo_shift 212 = .ok (.iload 4, 2) := by decide +kernel
theorem dMo_shift_214 : decode bMo_shift 214 = .ok (.aload_n 0, 1) := by decide +kernel
theorem dMo_shift_215 : decode bMo_shift 215 = .ok (.getfield 30, 3) := by decide +kernel
theorem dMo_shift_218 : decode bMo_shift 218 = .ok (.iconst 1, 1) := by decide +kernel
theorem dMo_shift_219 : decode bMo_shift 219 = .ok (.isub, 1) := by decide +kernel
theorem dMo_shift_220 : decode bMo_shift 220 = .ok (.invokevirtual 40, 3) := by decide +kernel
theorem dMo_shift_223 : decode bMo_shift 223 = .ok (.istore 11, 2) := by decide +kernel
theorem dMo_shift_225 : decode bMo_shift 225 = .ok (.aload_n 0, 1) := by decide +kernel
theorem dMo_shift_226 : decode bMo_shift 226 = .ok (.getfield 16, 3) := by decide +kernel
theorem dMo_shift_229 : decode bMo_shift 229 = .ok (.iload 8, 2) := by decide +kernel
theorem dMo_shift_231 : decode bMo_shift 231 = .ok (.iload 10, 2) := by decide +kernel
theorem dMo_shift_233 : decode bMo_shift 233 = .ok (.ifCond .eq 14, 3) := by decide +kernel
theorem dMo_shift_236 : decode bMo_shift 236 = .ok (.aload_n 0, 1) := by decide +kernel
theorem dMo_shift_237 : decode bMo_shift 237 = .ok (.iload 4, 2) := by decide +kernel
theorem dMo_shift_239 : decode bMo_shift 239 = .ok (.iload 9, 2) := by decide +kernel
theorem dMo_shift_241 : decode bMo_shift 241 = .ok (.invokevirtual 40, 3) := by decide +kernel
theorem dMo_shift_244 : decode bMo_shift 244 = .ok (.goto 5, 3) := by decide +kernel
theorem dMo_shift_247 : decode bMo_shift 247 = .ok (.iload 11, 2) := by decide +kernel
theorem dMo_shift_249 : decode bMo_shift 249 = .ok (.iastore, 1) := by decide +kernel
theorem dMo_shift_250 : decode bMo_shift 250 = .ok (.iinc 8 1, 3) := by decide +kernel
theorem dMo_shift_253 : decode bMo_shift 253 = .ok (.goto (-140), 3) := by decide +kernel
theorem dMo_shift_256 : decode bMo_shift 256 = .ok (.aload_n 0, 1) := by decide +kernel
theorem dMo_shift_257 : decode bMo_shift 257 = .ok (.iload 5, 2) := by decide +kernel
theorem dMo_shift_259 : decode bMo_shift 259 = .ok (.invokevirtual 36, 3) := by decide +kernel
theorem dMo_shift_262 : decode bMo_shift 262 = .ok (.return_, 1) := by decide +kernel
theorem dMo_bring_0 : decode bMo_bring 0 = .ok (.aload_n 0, 1) := by decide +kernel
theorem dMo_bring_1 : decode bMo_bring 1 = .ok (.iload_n 3, 1) := by decide +kernel
theorem dMo_bring_2 : decode bMo_bring 2 = .ok (.invokestatic 33, 3) := by decide +kernel
theorem dMo_bring_5 : decode bMo_bring 5 = .ok (.ifCond .ne 11, 3) := by decide +kernel
theorem dMo_bring_8 : decode bMo_bring 8 = .ok (.iload 4, 2) := by decide +kernel
theorem dMo_bring_10 : decode bMo_bring 10 = .ok (.invokestatic 33, 3) := by decide +kernel
theorem dMo_bring_13 : decode bMo_bring 13 = .ok (.ifCond .eq 7, 3) := by decide +kernel
theorem dMo_bring_16 : decode bMo_bring 16 = .ok (.iconst 1, 1) := by decide +kernel
theorem dMo_bring_17 : decode bMo_bring 17 = .ok (.goto 18, 3) := by decide +kernel
theorem dMo_bring_20 : decode bMo_bring 20 = .ok (.iload_n 2, 1) := by decide +kernel
theorem dMo_bring_21 : decode bMo_bring 21 = .ok (.ifCond .lt 9, 3) := by decide +kernel
theorem dMo_bring_24 : decode bMo_bring 24 = .ok (.iload_n 2, 1) := by decide +kernel
theorem dMo_bring_25 : decode bMo_bring 25 = .ok (.bipush 64, 2) := by decide +kernel
theorem dMo_bring_27 : decode bMo_bring 27 = .ok (.if_icmp .le 7, 3) := by decide +kernel
theorem dMo_bring_30 : decode bMo_bring 30 = .ok (.iconst 2, 1) := by decide +kernel
theorem dMo_bring_31 : decode bMo_bring 31 = .ok (.goto 4, 3) := by decide +kernel
theorem dMo_bring_34 : decode bMo_bring 34 = .ok (.iconst 0, 1) := by decide +kernel
theorem dMo_bring_35 : decode bMo_bring 35 = .ok (.putfield 19, 3) := by decide +kernel
theorem dMo_bring_38 : decode bMo_bring 38 = .ok (.aload_n 0, 1) := by decide +kernel
theorem dMo_bring_39 : decode bMo_bring 39 = .ok (.getfield 19, 3) := by decide +kernel
theorem dMo_bring_42 : decode bMo_bring 42 = .ok (.ifCond .le 4, 3) := by decide +kernel
theorem dMo_bring_45 : decode bMo_bring 45 = .ok (.return_, 1) := by decide +kernel
theorem dMo_bring_46 : decode bMo_bring 46 = .ok (.aload_n 0, 1) := by decide +kernel
theorem dMo_bring_47 : decode bMo_bring 47 = .ok (.getfield 13, 3) := by decide +kernel
theorem dMo_bring_50 : decode bMo_bring 50 = .ok (.iload_n 3, 1) := by decide +kernel
theorem dMo_bring_51 : decode bMo_bring 51 = .ok (.iaload, 1) := by decide +kernel
theorem dMo_bring_52 : decode bMo_bring 52 = .ok (.istore 5, 2) := by decide +kernel
theorem dMo_bring_54 : decode bMo_bring 54 = .ok (.iload_n 1, 1) := by decide +kernel
theorem dMo_bring_55 : decode bMo_bring 55 = .ok (.ifCond .eq 20, 3) := by decide +kernel
theorem dMo_bring_58 : decode bMo_bring 58 = .ok (.iload 5, 2) := by decide +kernel
theorem dMo_bring_60 : decode bMo_bring 60 = .ok (.ifCond .le 15, 3) := by decide +kernel
theorem dMo_bring_63 : decode bMo_bring 63 = .ok (.aload_n 0, 1) := by decide +kernel
theorem dMo_bring_64 : decode bMo_bring 64 = .ok (.iload_n 3, 1) := by decide +kernel
theorem dMo_bring_65 : decode bMo_bring 65 = .ok (.iload 5, 2) := by decide +kernel
theorem dMo_bring_67 : decode bMo_bring 67 = .ok (.iconst 1, 1) := by decide +kernel
theorem dMo_bring_68 : decode bMo_bring 68 = .ok (.isub, 1) := by decide +kernel
theorem dMo_bring_69 : decode bMo_bring 69 = .ok (.invokevirtual 40, 3) := by decide +kernel
theorem dMo_bring_72 : decode bMo_bring 72 = .ok (.goto 4, 3) := by decide +kernel
theorem dMo_bring_75 : decode bMo_bring 75 = .ok (.iconst 2, 1) := by decide +kernel
theorem dMo_bring_76 : decode bMo_bring 76 = .ok (.istore 6, 2) := by decide +kernel
theorem dMo_bring_78 : decode bMo_bring 78 = .ok (.aload_n 0, 1) := by decide +kernel
theorem dMo_bring_79 : decode bMo_bring 79 = .ok (.iload_n 2, 1) := by decide +kernel
theorem dMo_bring_80 : decode bMo_bring 80 = .ok (.putfield 30, 3) := by decide +kernel
theorem dMo_bring_83 : decode bMo_bring 83 = .ok (.iconst 0, 1) := by decide +kernel
theorem dMo_bring_84 : decode bMo_bring 84 = .ok (.istore 7, 2) := by decide +kernel
theorem dMo_bring_86 : decode bMo_bring 86 = .ok (.iload 7, 2) := by decide +kernel
theorem dMo_bring_88 : decode bMo_bring 88 = .ok (.iload_n 2, 1) := by decide +kernel
theorem dMo_bring_89 : decode bMo_bring 89 = .ok (.if_icmp .ge 35, 3) := by decide +kernel
theorem dMo_bring_92 : decode bMo_bring 92 = .ok (.aload_n 0, 1) := by decide +kernel
theorem dMo_bring_93 : decode bMo_bring 93 = .ok (.getfield 16, 3) := by decide +kernel
theorem dMo_bring_96 : decode bMo_bring 96 = .ok (.iload 7, 2) := by decide +kernel
theorem dMo_bring_98 : decode bMo_bring 98 = .ok (.iload 7, 2) := by decide +kernel
theorem dMo_bring_100 : decode bMo_bring 100 = .ok (.iload 5, 2) := by decide +kernel
theorem dMo_bring_102 : decode bMo_bring 102 = .ok (.if_icmp .ge 13, 3) := by decide +kernel
theorem dMo_bring_105 : decode bMo_bring 105 = .ok (.aload_n 0, 1) := by decide +kernel
theorem dMo_bring_106 : decode bMo_bring 106 = .ok (.iload_n 3, 1) := by decide +kernel
theorem dMo_bring_107 : decode bMo_bring 107 = .ok (.iload 7, 2) := by decide +kernel
theorem dMo_bring_109 : decode bMo_bring 109 = .ok (.invokevirtual 40, 3) := by decide +kernel
theorem dMo_bring_112 : decode bMo_bring 112 = .ok (.goto 5, 3) := by decide +kernel
theorem dMo_bring_115 : decode bMo_bring 115 = .ok (.iload 6, 2) := by decide +kernel
theorem dMo_bring_117 : decode bMo_bring 117 = .ok (.iastore, 1) := by decide +kernel
theorem dMo_bring_118 : decode bMo_bring 118 = .ok (.iinc 7 1, 3) := by decide +kernel
theorem dMo_bring_121 : decode bMo_bring 121 = .ok (.goto (-35), 3) := by decide +kernel
theorem dMo_bring_124 : decode bMo_bring 124 = .ok (.aload_n 0, 1) := by decide +kernel
theorem dMo_bring_125 : decode bMo_bring 125 = .ok (.iload 4, 2) := by decide +kernel
theorem dMo_bring_127 : decode bMo_bring 127 = .ok (.invokevirtual 36, 3) := by decide +kernel
theorem dMo_bring_130 : decode bMo_bring 130 = .ok (.return_, 1) := by decide +kernel
theorem dMo_cut_0 : decode bMo_cut 0 = .ok (.aload_n 0, 1) := by decide +kernel
theorem dMo_cut_1 : decode bMo_cut 1 = .ok (.iload_n 3, 1) := by decide +kernel
theorem dMo_cut_2 : decode bMo_cut 2 = .ok (.invokestatic 33, 3) := by decide +kernel
theorem dMo_cut_5 : decode bMo_cut 5 = .ok (.ifCond .ne 11, 3) := by decide +kernel
theorem dMo_cut_8 : decode bMo_cut 8 = .ok (.iload 4, 2) := by decide +kernel
theorem dMo_cut_10 : decode bMo_cut 10 = .ok (.invokestatic 33, 3) := by decide +kernel
theorem dMo_cut_13 : decode bMo_cut 13 = .ok (.ifCond .eq 7, 3) := by decide +kernel
theorem dMo_cut_16 : decode bMo_cut 16 = .ok (.iconst 1, 1) := by decide +kernel
theorem dMo_cut_17 : decode bMo_cut 17 = .ok (.goto 4, 3) := by decide +kernel
theorem dMo_cut_20 : decode bMo_cut 20 = .ok (.iconst 0, 1) := by decide +kernel
theorem dMo_cut_21 : decode bMo_cut 21 = .ok (.putfield 19, 3) := by decide +kernel
theorem dMo_cut_24 : decode bMo_cut 24 = .ok (.aload_n 0, 1) := by decide +kernel
theorem dMo_cut_25 : decode bMo_cut 25 = .ok (.getfield 19, 3) := by decide +kernel
theorem dMo_cut_28 : decode bMo_cut 28 = .ok (.ifCond .ne 42, 3) := by decide +kernel
theorem dMo_cut_31 : decode bMo_cut 31 = .ok (.aload_n 0, 1) := by decide +kernel
theorem dMo_cut_32 : decode bMo_cut 32 = .ok (.iload_n 1, 1) := by decide +kernel
theorem dMo_cut_33 : decode bMo_cut 33 = .ok (.ifCond .lt 29, 3) := by decide +kernel
theorem dMo_cut_36 : decode bMo_cut 36 = .ok (.iload_n 2, 1) := by decide +kernel
theorem dMo_cut_37 : decode bMo_cut 37 = .ok (.ifCond .lt 25, 3) := by decide +kernel
theorem dMo_cut_40 : decode bMo_cut 40 = .ok (.iload_n 1, 1) := by decide +kernel
theorem dMo_cut_41 : decode bMo_cut 41 = .ok (.aload_n 0, 1) := by decide +kernel
theorem dMo_cut_42 : decode bMo_cut 42 = .ok (.getfield 13, 3) := by decide +kernel
theorem dMo_cut_45 : decode bMo_cut 45 = .ok (.iload_n 3, 1) := by decide +kernel
theorem dMo_cut_46 : decode bMo_cut 46 = .ok (.iaload, 1) := by decide +kernel
theorem dMo_cut_47 : decode bMo_cut 47 = .ok (.if_icmp .gt 15, 3) := by decide +kernel
theorem dMo_cut_50 : decode bMo_cut 50 = .ok (.iload_n 2, 1) := by decide +kernel
theorem dMo_cut_51 : decode bMo_cut 51 = .ok (.aload_n 0, 1) := by decide +kernel
theorem dMo_cut_52 : decode bMo_cut 52 = .ok (.getfield 13, 3) := by decide +kernel
theorem dMo_cut_55 : decode bMo_cut 55 = .ok (.iload_n 3, 1) := by decide +kernel
theorem dMo_cut_56 : decode bMo_cut 56 = .ok (.iaload, 1) := by decide +kernel
theorem dMo_cut_57 : decode bMo_cut 57 = .ok (.iload_n 1, 1) := by decide +kernel
theorem dMo_cut_58 : decode bMo_cut 58 = .ok (.isub, 1) := by decide +kernel
theorem dMo_cut_59 : decode bMo_cut 59 = .ok (.if_icmp .le 7, 3) := by decide +kernel
theorem dMo_cut_62 : decode bMo_cut 62 = .ok (.iconst 1, 1) := by decide +kernel
theorem dMo_cut_63 : decode bMo_cut 63 = .ok (.goto 4, 3) := by decide +kernel
theorem dMo_cut_66 : decode bMo_cut 66 = .ok (.iconst 0, 1) := by decide +kernel
theorem dMo_cut_67 : decode bMo_cut 67 = .ok (.putfield 19, 3) := by decide +kernel
theorem dMo_cut_70 : decode bMo_cut 70 = .ok (.aload_n 0, 1) := by decide +kernel
theorem dMo_cut_71 : decode bMo_cut 71 = .ok (.getfield 19, 3) := by decide +kernel
theorem dMo_cut_74 : decode bMo_cut 74 = .ok (.ifCond .le 4, 3) := by decide +kernel
theorem dMo_cut_77 : decode bMo_cut 77 = .ok (.return_, 1) := by decide +kernel
theorem dMo_cut_78 : decode bMo_cut 78 = .ok (.aload_n 0, 1) := by decide +kernel
theorem dMo_cut_79 : decode bMo_cut 79 = .ok (.iload_n 2, 1) := by decide +kernel
theorem dMo_cut_80 : decode bMo_cut 80 = .ok (.putfield 30, 3) := by decide +kernel
theorem dMo_cut_83 : decode bMo_cut 83 = .ok (.iconst 0, 1) := by decide +kernel
theorem dMo_cut_84 : decode bMo_cut 84 = .ok (.istore 5, 2) := by decide +kernel
theorem dMo_cut_86 : decode bMo_cut 86 = .ok (.iload 5, 2) := by decide +kernel
theorem dMo_cut_88 : decode bMo_cut 88 = .ok (.iload_n 2, 1) := by decide +kernel
theorem dMo_cut_89 : decode bMo_cut 89 = .ok (.if_icmp .ge 25, 3) := by decide +kernel
theorem dMo_cut_92 : decode bMo_cut 92 = .ok (.aload_n 0, 1) := by decide +kernel
theorem dMo_cut_93 : decode bMo_cut 93 = .ok (.getfield 16, 3) := by decide +kernel
theorem dMo_cut_96 : decode bMo_cut 96 = .ok (.iload 5, 2) := by decide +kernel
theorem dMo_cut_98 : decode bMo_cut 98 = .ok (.aload_n 0, 1) := by decide +kernel
theorem dMo_cut_99 : decode bMo_cut 99 = .ok (.iload_n 3, 1) := by decide +kernel
theorem dMo_cut_100 : decode bMo_cut 100 = .ok (.iload_n 1, 1) := by decide +kernel
theorem dMo_cut_101 : decode bMo_cut 101 = .ok (.iload 5, 2) := by decide +kernel
theorem dMo_cut_103 : decode bMo_cut 103 = .ok (.iadd, 1) := by decide +kernel
theorem dMo_cut_104 : decode bMo_cut 104 = .ok (.invokevirtual 40, 3) := by decide +kernel
theorem dMo_cut_107 : decode bMo_cut 107 = .ok (.iastore, 1) := by decide +kernel
theorem dMo_cut_108 : decode bMo_cut 108 = .ok (.iinc 5 1, 3) := by decide +kernel
theorem dMo_cut_111 : decode bMo_cut 111 = .ok (.goto (-25), 3) := by decide +kernel
theorem dMo_cut_114 : decode bMo_cut 114 = .ok (.aload_n 0, 1) := by decide +kernel
theorem dMo_cut_115 : decode bMo_cut 115 = .ok (.iload 4, 2) := by decide +kernel
theorem dMo_cut_117 : decode bMo_cut 117 = .ok (.invokevirtual 36, 3) := by decide +kernel
theorem dMo_cut_120 : decode bMo_cut 120 = .ok (.return_, 1) := by decide +kernel
theorem dMo_bit_0 : decode bMo_bit 0 = .ok (.iload_n 2, 1) := by decide +kernel
theorem dMo_bit_1 : decode bMo_bit 1 = .ok (.aload_n 0, 1) := by decide +kernel
theorem dMo_bit_2 : decode bMo_bit 2 = .ok (.getfield 13, 3) := by decide +kernel
theorem dMo_bit_5 : decode bMo_bit 5 = .ok (.iload_n 1, 1) := by decide +kernel
theorem dMo_bit_6 : decode bMo_bit 6 = .ok (.iaload, 1) := by decide +kernel
theorem dMo_bit_7 : decode bMo_bit 7 = .ok (.if_icmp .ge 21, 3) := by decide +kernel
theorem dMo_bit_10 : decode bMo_bit 10 = .ok (.aload_n 0, 1) := by decide +kernel
theorem dMo_bit_11 : decode bMo_bit 11 = .ok (.iload_n 1, 1) := by decide +kernel
theorem dMo_bit_12 : decode bMo_bit 12 = .ok (.iload_n 2, 1) := by decide +kernel
theorem dMo_bit_13 : decode bMo_bit 13 = .ok (.invokevirtual 40, 3) := by decide +kernel
theorem dMo_bit_16 : decode bMo_bit 16 = .ok (.invokestatic 27, 3) := by decide +kernel
theorem dMo_bit_19 : decode bMo_bit 19 = .ok (.ifCond .eq 7, 3) := by decide +kernel
theorem dMo_bit_22 : decode bMo_bit 22 = .ok (.iconst 1, 1) := by decide +kernel
theorem dMo_bit_23 : decode bMo_bit 23 = .ok (.goto 4, 3) := by decide +kernel
theorem dMo_bit_26 : decode bMo_bit 26 = .ok (.iconst 0, 1) := by decide +kernel
theorem dMo_bit_27 : decode bMo_bit 27 = .ok (.ireturn, 1) := by decide +kernel
theorem dMo_bit_28 : decode bMo_bit 28 = .ok (.iload_n 3, 1) := by decide +kernel
theorem dMo_bit_29 : decode bMo_bit 29 = .ok (.ifCond .eq 26, 3) := by decide +kernel
theorem dMo_bit_32 : decode bMo_bit 32 = .ok (.aload_n 0, 1) := by decide +kernel
theorem dMo_bit_33 : decode bMo_bit 33 = .ok (.iload_n 1, 1) := by decide +kernel
theorem dMo_bit_34 : decode bMo_bit 34 = .ok (.aload_n 0, 1) := by decide +kernel
theorem dMo_bit_35 : decode bMo_bit 35 = .ok (.getfield 13, 3) := by decide +kernel
theorem dMo_bit_38 : decode bMo_bit 38 = .ok (.iload_n 1, 1) := by decide +kernel
theorem dMo_bit_39 : decode bMo_bit 39 = .ok (.iaload, 1) := by decide +kernel
theorem dMo_bit_40 : decode bMo_bit 40 = .ok (.iconst 1, 1) := by decide +kernel
theorem dMo_bit_41 : decode bMo_bit 41 = .ok (.isub, 1) := by decide +kernel
theorem dMo_bit_42 : decode bMo_bit 42 = .ok (.invokevirtual 40, 3) := by decide +kernel
theorem dMo_bit_45 : decode bMo_bit 45 = .ok (.invokestatic 27, 3) := by decide +kernel
theorem dMo_bit_48 : decode bMo_bit 48 = .ok (.ifCond .eq 7, 3) := by decide +kernel
theorem dMo_bit_51 : decode bMo_bit 51 = .ok (.iconst 1, 1) := by decide +kernel
theorem dMo_bit_52 : decode bMo_bit 52 = .ok (.goto 4, 3) := by decide +kernel
theorem dMo_bit_55 : decode bMo_bit 55 = .ok (.iconst 0, 1) := by decide +kernel
theorem dMo_bit_56 : decode bMo_bit 56 = .ok (.ireturn, 1) := by decide +kernel
theorem dMo_compare_0 : decode bMo_compare 0 = .ok (.aload_n 0, 1) := by decide +kernel
theorem dMo_compare_1 : decode bMo_compare 1 = .ok (.iload_n 2, 1) := by decide +kernel
theorem dMo_compare_2 : decode bMo_compare 2 = .ok (.invokestatic 33, 3) := by decide +kernel
theorem dMo_compare_5 : decode bMo_compare 5 = .ok (.ifCond .ne 10, 3) := by decide +kernel
theorem dMo_compare_8 : decode bMo_compare 8 = .ok (.iload_n 3, 1) := by decide +kernel
theorem dMo_compare_9 : decode bMo_compare 9 = .ok (.invokestatic 33, 3) := by decide +kernel
theorem dMo_compare_12 : decode bMo_compare 12 = .ok (.ifCond .eq 7, 3) := by decide +kernel
theorem dMo_compare_15 : decode bMo_compare 15 = .ok (.iconst 1, 1) := by decide +kernel
theorem dMo_compare_16 : decode bMo_compare 16 = .ok (.goto 4, 3) := by decide +kernel
theorem dMo_compare_19 : decode bMo_compare 19 = .ok (.iconst 0, 1) := by decide +kernel
theorem dMo_compare_20 : decode bMo_compare 20 = .ok (.putfield 19, 3) := by decide +kernel
theorem dMo_compare_23 : decode bMo_compare 23 = .ok (.aload_n 0, 1) := by decide +kernel
theorem dMo_compare_24 : decode bMo_compare 24 = .ok (.getfield 19, 3) := by decide +kernel
theorem dMo_compare_27 : decode bMo_compare 27 = .ok (.ifCond .le 5, 3) := by decide +kernel
theorem dMo_compare_30 : decode bMo_compare 30 = .ok (.iconst 0, 1) := by decide +kernel
theorem dMo_compare_31 : decode bMo_compare 31 = .ok (.ireturn, 1) := by decide +kernel
theorem dMo_compare_32 : decode bMo_compare 32 = .ok (.aload_n 0, 1) := by decide +kernel
theorem dMo_compare_33 : decode bMo_compare 33 = .ok (.iload_n 2, 1) := by decide +kernel
theorem dMo_compare_34 : decode bMo_compare 34 = .ok (.invokevirtual 53, 3) := by decide +kernel
theorem dMo_compare_37 : decode bMo_compare 37 = .ok (.ifCond .eq 11, 3) := by decide +kernel
theorem dMo_compare_40 : decode bMo_compare 40 = .ok (.aload_n 0, 1) := by decide +kernel
theorem dMo_compare_41 : decode bMo_compare 41 = .ok (.iload_n 3, 1) := by decide +kernel
theorem dMo_compare_42 : decode bMo_compare 42 = .ok (.invokevirtual 53, 3) := by decide +kernel
theorem dMo_compare_45 : decode bMo_compare 45 = .ok (.ifCond .ne 5, 3) := by decide +kernel
theorem dMo_compare_48 : decode bMo_compare 48 = .ok (.iconst 2, 1) := by decide +kernel
theorem dMo_compare_49 : decode bMo_compare 49 = .ok (.ireturn, 1) := by decide +kernel
theorem dMo_compare_50 : decode bMo_compare 50 = .ok (.iconst 0, 1) := by decide +kernel
theorem dMo_compare_51 : decode bMo_compare 51 = .ok (.istore 4, 2) := by decide +kernel
theorem dMo_compare_53 : decode bMo_compare 53 = .ok (.iconst 0, 1) := by decide +kernel
theorem dMo_compare_54 : decode bMo_compare 54 = .ok (.istore 5, 2) := by decide +kernel
theorem dMo_compare_56 : decode bMo_compare 56 = .ok (.iload 5, 2) := by decide +kernel
theorem dMo_compare_58 : decode bMo_compare 58 = .ok (.bipush 65, 2) := by decide +kernel
theorem dMo_compare_60 : decode bMo_compare 60 = .ok (.if_icmp .ge 79, 3) := by decide +kernel
theorem dMo_compare_63 : decode bMo_compare 63 = .ok (.aload_n 0, 1) := by decide +kernel
theorem dMo_compare_64 : decode bMo_compare 64 = .ok (.iload_n 2, 1) := by decide +kernel
theorem dMo_compare_65 : decode bMo_compare 65 = .ok (.iload 5, 2) := by decide +kernel
theorem dMo_compare_67 : decode bMo_compare 67 = .ok (.iload_n 1, 1) := by decide +kernel
theorem dMo_compare_68 : decode bMo_compare 68 = .ok (.invokevirtual 95, 3) := by decide +kernel
theorem dMo_compare_71 : decode bMo_compare 71 = .ok (.istore 6, 2) := by decide +kernel
theorem dMo_compare_73 : decode bMo_compare 73 = .ok (.aload_n 0, 1) := by decide +kernel
theorem dMo_compare_74 : decode bMo_compare 74 = .ok (.iload_n 3, 1) := by decide +kernel
theorem dMo_compare_75 : decode bMo_compare 75 = .ok (.iload 5, 2) := by decide +kernel
theorem dMo_compare_77 : decode bMo_compare 77 = .ok (.iload_n 1, 1) := by decide +kernel
theorem dMo_compare_78 : decode bMo_compare 78 = .ok (.invokevirtual 95, 3) := by decide +kernel
theorem dMo_compare_81 : decode bMo_compare 81 = .ok (.istore 7, 2) := by decide +kernel
theorem dMo_compare_83 : decode bMo_compare 83 = .ok (.iload 5, 2) := by decide +kernel
theorem dMo_compare_85 : decode bMo_compare 85 = .ok (.bipush 64, 2) := by decide +kernel
theorem dMo_compare_87 : decode bMo_compare 87 = .ok (.if_icmp .ne 7, 3) := by decide +kernel
theorem dMo_compare_90 : decode bMo_compare 90 = .ok (.iconst 1, 1) := by decide +kernel
theorem dMo_compare_91 : decode bMo_compare 91 = .ok (.goto 4, 3) := by decide +kernel
theorem dMo_compare_94 : decode bMo_compare 94 = .ok (.iconst 0, 1) := by decide +kernel
theorem dMo_compare_95 : decode bMo_compare 95 = .ok (.istore 8, 2) := by decide +kernel
theorem dMo_compare_97 : decode bMo_compare 97 = .ok (.iload 6, 2) := by decide +kernel
theorem dMo_compare_99 : decode bMo_compare 99 = .ok (.iload 7, 2) := by decide +kernel
theorem dMo_compare_101 : decode bMo_compare 101 = .ok (.if_icmp .ne 8, 3) := by decide +kernel
theorem dMo_compare_104 : decode bMo_compare 104 = .ok (.iload 4, 2) := by decide +kernel
theorem dMo_compare_106 : decode bMo_compare 106 = .ok (.goto 25, 3) := by decide +kernel
theorem dMo_compare_109 : decode bMo_compare 109 = .ok (.iload 6, 2) := by decide +kernel
theorem dMo_compare_111 : decode bMo_compare 111 = .ok (.iload 7, 2) := by decide +kernel
theorem dMo_compare_113 : decode bMo_compare 113 = .ok (.if_icmp .le 7, 3) := by decide +kernel
theorem dMo_compare_116 : decode bMo_compare 116 = .ok (.iconst 1, 1) := by decide +kernel
theorem dMo_compare_117 : decode bMo_compare 117 = .ok (.goto 4, 3) := by decide +kernel
theorem dMo_compare_120 : decode bMo_compare 120 = .ok (.iconst 0, 1) := by decide +kernel
theorem dMo_compare_121 : decode bMo_compare 121 = .ok (.iload 8, 2) := by decide +kernel
theorem dMo_compare_123 : decode bMo_compare 123 = .ok (.if_icmp .ne 7, 3) := by decide +kernel
theorem dMo_compare_126 : decode bMo_compare 126 = .ok (.iconst (-1), 1) := by decide +kernel
theorem dMo_compare_127 : decode bMo_compare 127 = .ok (.goto 4, 3) := by decide +kernel
theorem dMo_compare_130 : decode bMo_compare 130 = .ok (.iconst 1, 1) := by decide +kernel
theorem dMo_compare_131 : decode bMo_compare 131 = .ok (.istore 4, 2) := by decide +kernel
theorem dMo_compare_133 : decode bMo_compare 133 = .ok (.iinc 5 1, 3) := by decide +kernel
theorem dMo_compare_136 : decode bMo_compare 136 = .ok (.goto (-80), 3) := by decide +kernel
theorem dMo_compare_139 : decode bMo_compare 139 = .ok (.iload 4, 2) := by decide +kernel
theorem dMo_compare_141 : decode bMo_compare 141 = .ok (.ireturn, 1) := by decide +kernel
theorem dMo_goes_0 : decode bMo_goes 0 = .ok (.iload_n 0, 1) := by decide +kernel
theorem dMo_goes_1 : decode bMo_goes 1 = .ok (.bipush 8, 2) := by decide +kernel
theorem dMo_goes_3 : decode bMo_goes 3 = .ok (.if_icmp .eq 37, 3) := by decide +kernel
theorem dMo_goes_6 : decode bMo_goes 6 = .ok (.iload_n 1, 1) := by decide +kernel
theorem dMo_goes_7 : decode bMo_goes 7 = .ok (.bipush 8, 2) := by decide +kernel
theorem dMo_goes_9 : decode bMo_goes 9 = .ok (.if_icmp .eq 31, 3) := by decide +kernel
theorem dMo_goes_12 : decode bMo_goes 12 = .ok (.iload_n 0, 1) := by decide +kernel
theorem dMo_goes_13 : decode bMo_goes 13 = .ok (.invokestatic 23, 3) := by decide +kernel
theorem dMo_goes_16 : decode bMo_goes 16 = .ok (.ifCond .eq 10, 3) := by decide +kernel
theorem dMo_goes_19 : decode bMo_goes 19 = .ok (.iload_n 1, 1) := by decide +kernel
theorem dMo_goes_20 : decode bMo_goes 20 = .ok (.invokestatic 23, 3) := by decide +kernel
theorem dMo_goes_23 : decode bMo_goes 23 = .ok (.ifCond .ne 17, 3) := by decide +kernel
theorem dMo_goes_26 : decode bMo_goes 26 = .ok (.iload_n 0, 1) := by decide +kernel
theorem dMo_goes_27 : decode bMo_goes 27 = .ok (.invokestatic 27, 3) := by decide +kernel
theorem dMo_goes_30 : decode bMo_goes 30 = .ok (.ifCond .eq 14, 3) := by decide +kernel
theorem dMo_goes_33 : decode bMo_goes 33 = .ok (.iload_n 1, 1) := by decide +kernel
theorem dMo_goes_34 : decode bMo_goes 34 = .ok (.invokestatic 27, 3) := by decide +kernel
theorem dMo_goes_37 : decode bMo_goes 37 = .ok (.ifCond .eq 7, 3) := by decide +kernel
theorem dMo_goes_40 : decode bMo_goes 40 = .ok (.iconst 1, 1) := by decide +kernel
theorem dMo_goes_41 : decode bMo_goes 41 = .ok (.goto 4, 3) := by decide +kernel
theorem dMo_goes_44 : decode bMo_goes 44 = .ok (.iconst 0, 1) := by decide +kernel
theorem dMo_goes_45 : decode bMo_goes 45 = .ok (.ireturn, 1) := by decide +kernel
theorem dMo_same_0 : decode bMo_same 0 = .ok (.aload_n 0, 1) := by decide +kernel
theorem dMo_same_1 : decode bMo_same 1 = .ok (.iload_n 2, 1) := by decide +kernel
theorem dMo_same_2 : decode bMo_same 2 = .ok (.invokestatic 33, 3) := by decide +kernel
theorem dMo_same_5 : decode bMo_same 5 = .ok (.ifCond .ne 10, 3) := by decide +kernel
theorem dMo_same_8 : decode bMo_same 8 = .ok (.iload_n 3, 1) := by decide +kernel
theorem dMo_same_9 : decode bMo_same 9 = .ok (.invokestatic 33, 3) := by decide +kernel
theorem dMo_same_12 : decode bMo_same 12 = .ok (.ifCond .eq 7, 3) := by decide +kernel
theorem dMo_same_15 : decode bMo_same 15 = .ok (.iconst 1, 1) := by decide +kernel
theorem dMo_same_16 : decode bMo_same 16 = .ok (.goto 4, 3) := by decide +kernel
theorem dMo_same_19 : decode bMo_same 19 = .ok (.iconst 0, 1) := by decide +kernel
theorem dMo_same_20 : decode bMo_same 20 = .ok (.putfield 19, 3) := by decide +kernel
theorem dMo_same_23 : decode bMo_same 23 = .ok (.aload_n 0, 1) := by decide +kernel
theorem dMo_same_24 : decode bMo_same 24 = .ok (.getfield 19, 3) := by decide +kernel
theorem dMo_same_27 : decode bMo_same 27 = .ok (.ifCond .le 5, 3) := by decide +kernel
theorem dMo_same_30 : decode bMo_same 30 = .ok (.iconst 0, 1) := by decide +kernel
theorem dMo_same_31 : decode bMo_same 31 = .ok (.ireturn, 1) := by decide +kernel
theorem dMo_same_32 : decode bMo_same 32 = .ok (.aload_n 0, 1) := by decide +kernel
theorem dMo_same_33 : decode bMo_same 33 = .ok (.getfield 13, 3) := by decide +kernel
theorem dMo_same_36 : decode bMo_same 36 = .ok (.iload_n 2, 1) := by decide +kernel
theorem dMo_same_37 : decode bMo_same 37 = .ok (.iaload, 1) := by decide +kernel
theorem dMo_same_38 : decode bMo_same 38 = .ok (.aload_n 0, 1) := by decide +kernel
theorem dMo_same_39 : decode bMo_same 39 = .ok (.getfield 13, 3) := by decide +kernel
theorem dMo_same_42 : decode bMo_same 42 = .ok (.iload_n 3, 1) := by decide +kernel
theorem dMo_same_43 : decode bMo_same 43 = .ok (.iaload, 1) := by decide +kernel
theorem dMo_same_44 : decode bMo_same 44 = .ok (.if_icmp .ne 7, 3) := by decide +kernel
theorem dMo_same_47 : decode bMo_same 47 = .ok (.iconst 1, 1) := by decide +kernel
theorem dMo_same_48 : decode bMo_same 48 = .ok (.goto 4, 3) := by decide +kernel
theorem dMo_same_51 : decode bMo_same 51 = .ok (.iconst 0, 1) := by decide +kernel
theorem dMo_same_52 : decode bMo_same 52 = .ok (.istore 4, 2) := by decide +kernel
theorem dMo_same_54 : decode bMo_same 54 = .ok (.iconst 0, 1) := by decide +kernel
theorem dMo_same_55 : decode bMo_same 55 = .ok (.istore 5, 2) := by decide +kernel
theorem dMo_same_57 : decode bMo_same 57 = .ok (.iload 5, 2) := by decide +kernel
theorem dMo_same_59 : decode bMo_same 59 = .ok (.aload_n 0, 1) := by decide +kernel
theorem dMo_same_60 : decode bMo_same 60 = .ok (.getfield 13, 3) := by decide +kernel
theorem dMo_same_63 : decode bMo_same 63 = .ok (.iload_n 2, 1) := by decide +kernel
theorem dMo_same_64 : decode bMo_same 64 = .ok (.iaload, 1) := by decide +kernel
theorem dMo_same_65 : decode bMo_same 65 = .ok (.if_icmp .ge 62, 3) := by decide +kernel
theorem dMo_same_68 : decode bMo_same 68 = .ok (.iload 4, 2) := by decide +kernel
theorem dMo_same_70 : decode bMo_same 70 = .ok (.ifCond .eq 57, 3) := by decide +kernel
theorem dMo_same_73 : decode bMo_same 73 = .ok (.iload_n 1, 1) := by decide +kernel
theorem dMo_same_74 : decode bMo_same 74 = .ok (.ifCond .eq 23, 3) := by decide +kernel
theorem dMo_same_77 : decode bMo_same 77 = .ok (.aload_n 0, 1) := by decide +kernel
theorem dMo_same_78 : decode bMo_same 78 = .ok (.iload_n 2, 1) := by decide +kernel
theorem dMo_same_79 : decode bMo_same 79 = .ok (.iload 5, 2) := by decide +kernel
theorem dMo_same_81 : decode bMo_same 81 = .ok (.invokevirtual 40, 3) := by decide +kernel
theorem dMo_same_84 : decode bMo_same 84 = .ok (.aload_n 0, 1) := by decide +kernel
theorem dMo_same_85 : decode bMo_same 85 = .ok (.iload_n 3, 1) := by decide +kernel
theorem dMo_same_86 : decode bMo_same 86 = .ok (.iload 5, 2) := by decide +kernel
theorem dMo_same_88 : decode bMo_same 88 = .ok (.invokevirtual 40, 3) := by decide +kernel
theorem dMo_same_91 : decode bMo_same 91 = .ok (.invokestatic 99, 3) := by decide +kernel
theorem dMo_same_94 : decode bMo_same 94 = .ok (.goto 25, 3) := by decide +kernel
theorem dMo_same_97 : decode bMo_same 97 = .ok (.aload_n 0, 1) := by decide +kernel
theorem dMo_same_98 : decode bMo_same 98 = .ok (.iload_n 2, 1) := by decide +kernel
theorem dMo_same_99 : decode bMo_same 99 = .ok (.iload 5, 2) := by decide +kernel
theorem dMo_same_101 : decode bMo_same 101 = .ok (.invokevirtual 40, 3) := by decide +kernel
theorem dMo_same_104 : decode bMo_same 104 = .ok (.aload_n 0, 1) := by decide +kernel
theorem dMo_same_105 : decode bMo_same 105 = .ok (.iload_n 3, 1) := by decide +kernel
theorem dMo_same_106 : decode bMo_same 106 = .ok (.iload 5, 2) := by decide +kernel
theorem dMo_same_108 : decode bMo_same 108 = .ok (.invokevirtual 40, 3) := by decide +kernel
theorem dMo_same_111 : decode bMo_same 111 = .ok (.if_icmp .ne 7, 3) := by decide +kernel
theorem dMo_same_114 : decode bMo_same 114 = .ok (.iconst 1, 1) := by decide +kernel
theorem dMo_same_115 : decode bMo_same 115 = .ok (.goto 4, 3) := by decide +kernel
theorem dMo_same_118 : decode bMo_same 118 = .ok (.iconst 0, 1) := by decide +kernel
theorem dMo_same_119 : decode bMo_same 119 = .ok (.istore 4, 2) := by decide +kernel
theorem dMo_same_121 : decode bMo_same 121 = .ok (.iinc 5 1, 3) := by decide +kernel
theorem dMo_same_124 : decode bMo_same 124 = .ok (.goto (-67), 3) := by decide +kernel
theorem dMo_same_127 : decode bMo_same 127 = .ok (.iload 4, 2) := by decide +kernel
theorem dMo_same_129 : decode bMo_same 129 = .ok (.ireturn, 1) := by decide +kernel
theorem dMo_all_0 : decode bMo_all 0 = .ok (.aload_n 0, 1) := by decide +kernel
theorem dMo_all_1 : decode bMo_all 1 = .ok (.iload_n 2, 1) := by decide +kernel
theorem dMo_all_2 : decode bMo_all 2 = .ok (.invokestatic 33, 3) := by decide +kernel
theorem dMo_all_5 : decode bMo_all 5 = .ok (.ifCond .eq 7, 3) := by decide +kernel
theorem dMo_all_8 : decode bMo_all 8 = .ok (.iconst 1, 1) := by decide +kernel
theorem dMo_all_9 : decode bMo_all 9 = .ok (.goto 17, 3) := by decide +kernel
theorem dMo_all_12 : decode bMo_all 12 = .ok (.iload_n 1, 1) := by decide +kernel
theorem dMo_all_13 : decode bMo_all 13 = .ok (.ifCond .lt 8, 3) := by decide +kernel
theorem dMo_all_16 : decode bMo_all 16 = .ok (.iload_n 1, 1) := by decide +kernel
theorem dMo_all_17 : decode bMo_all 17 = .ok (.iconst 3, 1) := by decide +kernel
theorem dMo_all_18 : decode bMo_all 18 = .ok (.if_icmp .le 7, 3) := by decide +kernel
theorem dMo_all_21 : decode bMo_all 21 = .ok (.iconst 2, 1) := by decide +kernel
theorem dMo_all_22 : decode bMo_all 22 = .ok (.goto 4, 3) := by decide +kernel
theorem dMo_all_25 : decode bMo_all 25 = .ok (.iconst 0, 1) := by decide +kernel
theorem dMo_all_26 : decode bMo_all 26 = .ok (.putfield 19, 3) := by decide +kernel
theorem dMo_all_29 : decode bMo_all 29 = .ok (.aload_n 0, 1) := by decide +kernel
theorem dMo_all_30 : decode bMo_all 30 = .ok (.getfield 19, 3) := by decide +kernel
theorem dMo_all_33 : decode bMo_all 33 = .ok (.ifCond .le 5, 3) := by decide +kernel
theorem dMo_all_36 : decode bMo_all 36 = .ok (.iconst 0, 1) := by decide +kernel
theorem dMo_all_37 : decode bMo_all 37 = .ok (.ireturn, 1) := by decide +kernel
theorem dMo_all_38 : decode bMo_all 38 = .ok (.iload_n 1, 1) := by decide +kernel
theorem dMo_all_39 : decode bMo_all 39 = .ok (.ifCond .ne 7, 3) := by decide +kernel
theorem dMo_all_42 : decode bMo_all 42 = .ok (.iconst 3, 1) := by decide +kernel
theorem dMo_all_43 : decode bMo_all 43 = .ok (.goto 13, 3) := by decide +kernel
theorem dMo_all_46 : decode bMo_all 46 = .ok (.iload_n 1, 1) := by decide +kernel
theorem dMo_all_47 : decode bMo_all 47 = .ok (.iconst 3, 1) := by decide +kernel
theorem dMo_all_48 : decode bMo_all 48 = .ok (.if_icmp .ne 7, 3) := by decide +kernel
theorem dMo_all_51 : decode bMo_all 51 = .ok (.iconst 4, 1) := by decide +kernel
theorem dMo_all_52 : decode bMo_all 52 = .ok (.goto 4, 3) := by decide +kernel
theorem dMo_all_55 : decode bMo_all 55 = .ok (.iconst 2, 1) := by decide +kernel
theorem dMo_all_56 : decode bMo_all 56 = .ok (.istore_n 3, 1) := by decide +kernel
theorem dMo_all_57 : decode bMo_all 57 = .ok (.iconst 0, 1) := by decide +kernel
theorem dMo_all_58 : decode bMo_all 58 = .ok (.istore 4, 2) := by decide +kernel
theorem dMo_all_60 : decode bMo_all 60 = .ok (.iload 4, 2) := by decide +kernel
theorem dMo_all_62 : decode bMo_all 62 = .ok (.aload_n 0, 1) := by decide +kernel
theorem dMo_all_63 : decode bMo_all 63 = .ok (.getfield 13, 3) := by decide +kernel
theorem dMo_all_66 : decode bMo_all 66 = .ok (.iload_n 2, 1) := by decide +kernel
theorem dMo_all_67 : decode bMo_all 67 = .ok (.iaload, 1) := by decide +kernel
theorem dMo_all_68 : decode bMo_all 68 = .ok (.if_icmp .ge 77, 3) := by decide +kernel
theorem dMo_all_71 : decode bMo_all 71 = .ok (.iload_n 1, 1) := by decide +kernel
theorem dMo_all_72 : decode bMo_all 72 = .ok (.ifCond .ne 17, 3) := by decide +kernel
theorem dMo_all_75 : decode bMo_all 75 = .ok (.iload_n 3, 1) := by decide +kernel
theorem dMo_all_76 : decode bMo_all 76 = .ok (.aload_n 0, 1) := by decide +kernel
theorem dMo_all_77 : decode bMo_all 77 = .ok (.iload_n 2, 1) := by decide +kernel
theorem dMo_all_78 : decode bMo_all 78 = .ok (.iload 4, 2) := by decide +kernel
theorem dMo_all_80 : decode bMo_all 80 = .ok (.invokevirtual 40, 3) := by decide +kernel
theorem dMo_all_83 : decode bMo_all 83 = .ok (.invokestatic 63, 3) := by decide +kernel
theorem dMo_all_86 : decode bMo_all 86 = .ok (.goto 52, 3) := by decide +kernel
theorem dMo_all_89 : decode bMo_all 89 = .ok (.iload_n 1, 1) := by decide +kernel
theorem dMo_all_90 : decode bMo_all 90 = .ok (.iconst 1, 1) := by decide +kernel
theorem dMo_all_91 : decode bMo_all 91 = .ok (.if_icmp .ne 17, 3) := by decide +kernel
theorem dMo_all_94 : decode bMo_all 94 = .ok (.iload_n 3, 1) := by decide +kernel
theorem dMo_all_95 : decode bMo_all 95 = .ok (.aload_n 0, 1) := by decide +kernel
theorem dMo_all_96 : decode bMo_all 96 = .ok (.iload_n 2, 1) := by decide +kernel
theorem dMo_all_97 : decode bMo_all 97 = .ok (.iload 4, 2) := by decide +kernel
theorem dMo_all_99 : decode bMo_all 99 = .ok (.invokevirtual 40, 3) := by decide +kernel
theorem dMo_all_102 : decode bMo_all 102 = .ok (.invokestatic 66, 3) := by decide +kernel
theorem dMo_all_105 : decode bMo_all 105 = .ok (.goto 33, 3) := by decide +kernel
theorem dMo_all_108 : decode bMo_all 108 = .ok (.iload_n 1, 1) := by decide +kernel
theorem dMo_all_109 : decode bMo_all 109 = .ok (.iconst 2, 1) := by decide +kernel
theorem dMo_all_110 : decode bMo_all 110 = .ok (.if_icmp .ne 17, 3) := by decide +kernel
theorem dMo_all_113 : decode bMo_all 113 = .ok (.iload_n 3, 1) := by decide +kernel
theorem dMo_all_114 : decode bMo_all 114 = .ok (.aload_n 0, 1) := by decide +kernel
theorem dMo_all_115 : decode bMo_all 115 = .ok (.iload_n 2, 1) := by decide +kernel
theorem dMo_all_116 : decode bMo_all 116 = .ok (.iload 4, 2) := by decide +kernel
theorem dMo_all_118 : decode bMo_all 118 = .ok (.invokevirtual 40, 3) := by decide +kernel
theorem dMo_all_121 : decode bMo_all 121 = .ok (.invokestatic 69, 3) := by decide +kernel
theorem dMo_all_124 : decode bMo_all 124 = .ok (.goto 14, 3) := by decide +kernel
theorem dMo_all_127 : decode bMo_all 127 = .ok (.iload_n 3, 1) := by decide +kernel
theorem dMo_all_128 : decode bMo_all 128 = .ok (.aload_n 0, 1) := by decide +kernel
theorem dMo_all_129 : decode bMo_all 129 = .ok (.iload_n 2, 1) := by decide +kernel
theorem dMo_all_130 : decode bMo_all 130 = .ok (.iload 4, 2) := by decide +kernel
theorem dMo_all_132 : decode bMo_all 132 = .ok (.invokevirtual 40, 3) := by decide +kernel
theorem dMo_all_135 : decode bMo_all 135 = .ok (.invokestatic 60, 3) := by decide +kernel
theorem dMo_all_138 : decode bMo_all 138 = .ok (.istore_n 3, 1) := by decide +kernel
theorem dMo_all_139 : decode bMo_all 139 = .ok (.iinc 4 1, 3) := by decide +kernel
theorem dMo_all_142 : decode bMo_all 142 = .ok (.goto (-82), 3) := by decide +kernel
theorem dMo_all_145 : decode bMo_all 145 = .ok (.iload_n 3, 1) := by decide +kernel
theorem dMo_all_146 : decode bMo_all 146 = .ok (.ireturn, 1) := by decide +kernel
theorem dMo_edge_0 : decode bMo_edge 0 = .ok (.aload_n 0, 1) := by decide +kernel
theorem dMo_edge_1 : decode bMo_edge 1 = .ok (.iload_n 1, 1) := by decide +kernel
theorem dMo_edge_2 : decode bMo_edge 2 = .ok (.ifCond .lt 19, 3) := by decide +kernel
theorem dMo_edge_5 : decode bMo_edge 5 = .ok (.iload_n 1, 1) := by decide +kernel
theorem dMo_edge_6 : decode bMo_edge 6 = .ok (.bipush 8, 2) := by decide +kernel
theorem dMo_edge_8 : decode bMo_edge 8 = .ok (.if_icmp .gt 13, 3) := by decide +kernel
theorem dMo_edge_11 : decode bMo_edge 11 = .ok (.iload_n 2, 1) := by decide +kernel
theorem dMo_edge_12 : decode bMo_edge 12 = .ok (.ifCond .lt 9, 3) := by decide +kernel
theorem dMo_edge_15 : decode bMo_edge 15 = .ok (.iload_n 2, 1) := by decide +kernel
theorem dMo_edge_16 : decode bMo_edge 16 = .ok (.bipush 8, 2) := by decide +kernel
theorem dMo_edge_18 : decode bMo_edge 18 = .ok (.if_icmp .le 7, 3) := by decide +kernel
theorem dMo_edge_21 : decode bMo_edge 21 = .ok (.iconst 1, 1) := by decide +kernel
theorem dMo_edge_22 : decode bMo_edge 22 = .ok (.goto 4, 3) := by decide +kernel
theorem dMo_edge_25 : decode bMo_edge 25 = .ok (.iconst 0, 1) := by decide +kernel
theorem dMo_edge_26 : decode bMo_edge 26 = .ok (.putfield 19, 3) := by decide +kernel
theorem dMo_edge_29 : decode bMo_edge 29 = .ok (.aload_n 0, 1) := by decide +kernel
theorem dMo_edge_30 : decode bMo_edge 30 = .ok (.getfield 19, 3) := by decide +kernel
theorem dMo_edge_33 : decode bMo_edge 33 = .ok (.ifCond .le 5, 3) := by decide +kernel
theorem dMo_edge_36 : decode bMo_edge 36 = .ok (.iconst 0, 1) := by decide +kernel
theorem dMo_edge_37 : decode bMo_edge 37 = .ok (.ireturn, 1) := by decide +kernel
theorem dMo_edge_38 : decode bMo_edge 38 = .ok (.iload_n 1, 1) := by decide +kernel
theorem dMo_edge_39 : decode bMo_edge 39 = .ok (.invokestatic 23, 3) := by decide +kernel
theorem dMo_edge_42 : decode bMo_edge 42 = .ok (.ifCond .eq 14, 3) := by decide +kernel
theorem dMo_edge_45 : decode bMo_edge 45 = .ok (.iload_n 2, 1) := by decide +kernel
theorem dMo_edge_46 : decode bMo_edge 46 = .ok (.invokestatic 27, 3) := by decide +kernel
theorem dMo_edge_49 : decode bMo_edge 49 = .ok (.ifCond .eq 7, 3) := by decide +kernel
theorem dMo_edge_52 : decode bMo_edge 52 = .ok (.iconst 1, 1) := by decide +kernel
theorem dMo_edge_53 : decode bMo_edge 53 = .ok (.goto 22, 3) := by decide +kernel
theorem dMo_edge_56 : decode bMo_edge 56 = .ok (.iload_n 1, 1) := by decide +kernel
theorem dMo_edge_57 : decode bMo_edge 57 = .ok (.invokestatic 27, 3) := by decide +kernel
theorem dMo_edge_60 : decode bMo_edge 60 = .ok (.ifCond .eq 14, 3) := by decide +kernel
theorem dMo_edge_63 : decode bMo_edge 63 = .ok (.iload_n 2, 1) := by decide +kernel
theorem dMo_edge_64 : decode bMo_edge 64 = .ok (.invokestatic 23, 3) := by decide +kernel
theorem dMo_edge_67 : decode bMo_edge 67 = .ok (.ifCond .eq 7, 3) := by decide +kernel
theorem dMo_edge_70 : decode bMo_edge 70 = .ok (.iconst (-1), 1) := by decide +kernel
theorem dMo_edge_71 : decode bMo_edge 71 = .ok (.goto 4, 3) := by decide +kernel
theorem dMo_edge_74 : decode bMo_edge 74 = .ok (.iconst 0, 1) := by decide +kernel
theorem dMo_edge_75 : decode bMo_edge 75 = .ok (.ireturn, 1) := by decide +kernel
