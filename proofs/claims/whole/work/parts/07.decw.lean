theorem dWire_isLow_0 : decode bWire_isLow 0 = .ok (.iload_n 0, 1) := by decide +kernel
theorem dWire_isLow_1 : decode bWire_isLow 1 = .ok (.iconst 2, 1) := by decide +kernel
theorem dWire_isLow_2 : decode bWire_isLow 2 = .ok (.if_icmp .eq 9, 3) := by decide +kernel
theorem dWire_isLow_5 : decode bWire_isLow 5 = .ok (.iload_n 0, 1) := by decide +kernel
theorem dWire_isLow_6 : decode bWire_isLow 6 = .ok (.bipush 6, 2) := by decide +kernel
theorem dWire_isLow_8 : decode bWire_isLow 8 = .ok (.if_icmp .ne 7, 3) := by decide +kernel
theorem dWire_isLow_11 : decode bWire_isLow 11 = .ok (.iconst 1, 1) := by decide +kernel
theorem dWire_isLow_12 : decode bWire_isLow 12 = .ok (.goto 4, 3) := by decide +kernel
theorem dWire_isLow_15 : decode bWire_isLow 15 = .ok (.iconst 0, 1) := by decide +kernel
theorem dWire_isLow_16 : decode bWire_isLow 16 = .ok (.ireturn, 1) := by decide +kernel
theorem dWire_isHigh_0 : decode bWire_isHigh 0 = .ok (.iload_n 0, 1) := by decide +kernel
theorem dWire_isHigh_1 : decode bWire_isHigh 1 = .ok (.iconst 3, 1) := by decide +kernel
theorem dWire_isHigh_2 : decode bWire_isHigh 2 = .ok (.if_icmp .eq 9, 3) := by decide +kernel
theorem dWire_isHigh_5 : decode bWire_isHigh 5 = .ok (.iload_n 0, 1) := by decide +kernel
theorem dWire_isHigh_6 : decode bWire_isHigh 6 = .ok (.bipush 7, 2) := by decide +kernel
theorem dWire_isHigh_8 : decode bWire_isHigh 8 = .ok (.if_icmp .ne 7, 3) := by decide +kernel
theorem dWire_isHigh_11 : decode bWire_isHigh 11 = .ok (.iconst 1, 1) := by decide +kernel
theorem dWire_isHigh_12 : decode bWire_isHigh 12 = .ok (.goto 4, 3) := by decide +kernel
theorem dWire_isHigh_15 : decode bWire_isHigh 15 = .ok (.iconst 0, 1) := by decide +kernel
theorem dWire_isHigh_16 : decode bWire_isHigh 16 = .ok (.ireturn, 1) := by decide +kernel
theorem dWire_isClear_0 : decode bWire_isClear 0 = .ok (.iload_n 0, 1) := by decide +kernel
theorem dWire_isClear_1 : decode bWire_isClear 1 = .ok (.invokestatic 9, 3) := by decide +kernel
theorem dWire_isClear_4 : decode bWire_isClear 4 = .ok (.ifCond .ne 10, 3) := by decide +kernel
theorem dWire_isClear_7 : decode bWire_isClear 7 = .ok (.iload_n 0, 1) := by decide +kernel
theorem dWire_isClear_8 : decode bWire_isClear 8 = .ok (.invokestatic 15, 3) := by decide +kernel
theorem dWire_isClear_11 : decode bWire_isClear 11 = .ok (.ifCond .eq 7, 3) := by decide +kernel
theorem dWire_isClear_14 : decode bWire_isClear 14 = .ok (.iconst 1, 1) := by decide +kernel
theorem dWire_isClear_15 : decode bWire_isClear 15 = .ok (.goto 4, 3) := by decide +kernel
theorem dWire_isClear_18 : decode bWire_isClear 18 = .ok (.iconst 0, 1) := by decide +kernel
theorem dWire_isClear_19 : decode bWire_isClear 19 = .ok (.ireturn, 1) := by decide +kernel
theorem dWire_join_0 : decode bWire_join 0 = .ok (.iload_n 0, 1) := by decide +kernel
theorem dWire_join_1 : decode bWire_join 1 = .ok (.tableswitch 81 0 5 #[39, 45, 51, 57, 63, 72], 39) := by decide +kernel
theorem dWire_join_40 : decode bWire_join 40 = .ok (.iload_n 1, 1) := by decide +kernel
theorem dWire_join_41 : decode bWire_join 41 = .ok (.iload_n 2, 1) := by decide +kernel
theorem dWire_join_42 : decode bWire_join 42 = .ok (.invokestatic 18, 3) := by decide +kernel
theorem dWire_join_45 : decode bWire_join 45 = .ok (.ireturn, 1) := by decide +kernel
theorem dWire_join_46 : decode bWire_join 46 = .ok (.iload_n 1, 1) := by decide +kernel
theorem dWire_join_47 : decode bWire_join 47 = .ok (.iload_n 2, 1) := by decide +kernel
theorem dWire_join_48 : decode bWire_join 48 = .ok (.invokestatic 22, 3) := by decide +kernel
theorem dWire_join_51 : decode bWire_join 51 = .ok (.ireturn, 1) := by decide +kernel
theorem dWire_join_52 : decode bWire_join 52 = .ok (.iload_n 1, 1) := by decide +kernel
theorem dWire_join_53 : decode bWire_join 53 = .ok (.iload_n 2, 1) := by decide +kernel
theorem dWire_join_54 : decode bWire_join 54 = .ok (.invokestatic 25, 3) := by decide +kernel
theorem dWire_join_57 : decode bWire_join 57 = .ok (.ireturn, 1) := by decide +kernel
theorem dWire_join_58 : decode bWire_join 58 = .ok (.iload_n 1, 1) := by decide +kernel
theorem dWire_join_59 : decode bWire_join 59 = .ok (.iload_n 2, 1) := by decide +kernel
theorem dWire_join_60 : decode bWire_join 60 = .ok (.invokestatic 28, 3) := by decide +kernel
theorem dWire_join_63 : decode bWire_join 63 = .ok (.ireturn, 1) := by decide +kernel
theorem dWire_join_64 : decode bWire_join 64 = .ok (.iload_n 1, 1) := by decide +kernel
theorem dWire_join_65 : decode bWire_join 65 = .ok (.iload_n 2, 1) := by decide +kernel
theorem dWire_join_66 : decode bWire_join 66 = .ok (.invokestatic 22, 3) := by decide +kernel
theorem dWire_join_69 : decode bWire_join 69 = .ok (.invokestatic 31, 3) := by decide +kernel
theorem dWire_join_72 : decode bWire_join 72 = .ok (.ireturn, 1) := by decide +kernel
theorem dWire_join_73 : decode bWire_join 73 = .ok (.iload_n 1, 1) := by decide +kernel
theorem dWire_join_74 : decode bWire_join 74 = .ok (.iload_n 2, 1) := by decide +kernel
theorem dWire_join_75 : decode bWire_join 75 = .ok (.invokestatic 25, 3) := by decide +kernel
theorem dWire_join_78 : decode bWire_join 78 = .ok (.invokestatic 31, 3) := by decide +kernel
theorem dWire_join_81 : decode bWire_join 81 = .ok (.ireturn, 1) := by decide +kernel
theorem dWire_join_82 : decode bWire_join 82 = .ok (.iload_n 1, 1) := by decide +kernel
theorem dWire_join_83 : decode bWire_join 83 = .ok (.iload_n 2, 1) := by decide +kernel
theorem dWire_join_84 : decode bWire_join 84 = .ok (.invokestatic 28, 3) := by decide +kernel
theorem dWire_join_87 : decode bWire_join 87 = .ok (.invokestatic 31, 3) := by decide +kernel
theorem dWire_join_90 : decode bWire_join 90 = .ok (.ireturn, 1) := by decide +kernel
theorem dWire_drive_0 : decode bWire_drive 0 = .ok (.iload_n 0, 1) := by decide +kernel
theorem dWire_drive_1 : decode bWire_drive 1 = .ok (.ifCond .eq 7, 3) := by decide +kernel
theorem dWire_drive_4 : decode bWire_drive 4 = .ok (.iload_n 1, 1) := by decide +kernel
theorem dWire_drive_5 : decode bWire_drive 5 = .ok (.ifCond .ne 5, 3) := by decide +kernel
theorem dWire_drive_8 : decode bWire_drive 8 = .ok (.iconst 0, 1) := by decide +kernel
theorem dWire_drive_9 : decode bWire_drive 9 = .ok (.ireturn, 1) := by decide +kernel
theorem dWire_drive_10 : decode bWire_drive 10 = .ok (.iload_n 0, 1) := by decide +kernel
theorem dWire_drive_11 : decode bWire_drive 11 = .ok (.iconst 1, 1) := by decide +kernel
theorem dWire_drive_12 : decode bWire_drive 12 = .ok (.if_icmp .eq 20, 3) := by decide +kernel
theorem dWire_drive_15 : decode bWire_drive 15 = .ok (.iload_n 0, 1) := by decide +kernel
theorem dWire_drive_16 : decode bWire_drive 16 = .ok (.bipush 8, 2) := by decide +kernel
theorem dWire_drive_18 : decode bWire_drive 18 = .ok (.if_icmp .eq 14, 3) := by decide +kernel
theorem dWire_drive_21 : decode bWire_drive 21 = .ok (.iload_n 1, 1) := by decide +kernel
theorem dWire_drive_22 : decode bWire_drive 22 = .ok (.iconst 1, 1) := by decide +kernel
theorem dWire_drive_23 : decode bWire_drive 23 = .ok (.if_icmp .eq 9, 3) := by decide +kernel
theorem dWire_drive_26 : decode bWire_drive 26 = .ok (.iload_n 1, 1) := by decide +kernel
theorem dWire_drive_27 : decode bWire_drive 27 = .ok (.bipush 8, 2) := by decide +kernel
theorem dWire_drive_29 : decode bWire_drive 29 = .ok (.if_icmp .ne 5, 3) := by decide +kernel
theorem dWire_drive_32 : decode bWire_drive 32 = .ok (.iconst 1, 1) := by decide +kernel
theorem dWire_drive_33 : decode bWire_drive 33 = .ok (.ireturn, 1) := by decide +kernel
theorem dWire_drive_34 : decode bWire_drive 34 = .ok (.iload_n 0, 1) := by decide +kernel
theorem dWire_drive_35 : decode bWire_drive 35 = .ok (.iconst 4, 1) := by decide +kernel
theorem dWire_drive_36 : decode bWire_drive 36 = .ok (.if_icmp .eq 8, 3) := by decide +kernel
theorem dWire_drive_39 : decode bWire_drive 39 = .ok (.iload_n 0, 1) := by decide +kernel
theorem dWire_drive_40 : decode bWire_drive 40 = .ok (.iload_n 1, 1) := by decide +kernel
theorem dWire_drive_41 : decode bWire_drive 41 = .ok (.if_icmp .ne 5, 3) := by decide +kernel
theorem dWire_drive_44 : decode bWire_drive 44 = .ok (.iload_n 1, 1) := by decide +kernel
theorem dWire_drive_45 : decode bWire_drive 45 = .ok (.ireturn, 1) := by decide +kernel
theorem dWire_drive_46 : decode bWire_drive 46 = .ok (.iload_n 1, 1) := by decide +kernel
theorem dWire_drive_47 : decode bWire_drive 47 = .ok (.iconst 4, 1) := by decide +kernel
theorem dWire_drive_48 : decode bWire_drive 48 = .ok (.if_icmp .ne 5, 3) := by decide +kernel
theorem dWire_drive_51 : decode bWire_drive 51 = .ok (.iload_n 0, 1) := by decide +kernel
theorem dWire_drive_52 : decode bWire_drive 52 = .ok (.ireturn, 1) := by decide +kernel
theorem dWire_drive_53 : decode bWire_drive 53 = .ok (.iload_n 0, 1) := by decide +kernel
theorem dWire_drive_54 : decode bWire_drive 54 = .ok (.iconst 2, 1) := by decide +kernel
theorem dWire_drive_55 : decode bWire_drive 55 = .ok (.if_icmp .eq 8, 3) := by decide +kernel
theorem dWire_drive_58 : decode bWire_drive 58 = .ok (.iload_n 0, 1) := by decide +kernel
theorem dWire_drive_59 : decode bWire_drive 59 = .ok (.iconst 3, 1) := by decide +kernel
theorem dWire_drive_60 : decode bWire_drive 60 = .ok (.if_icmp .ne 7, 3) := by decide +kernel
theorem dWire_drive_63 : decode bWire_drive 63 = .ok (.iconst 1, 1) := by decide +kernel
theorem dWire_drive_64 : decode bWire_drive 64 = .ok (.goto 4, 3) := by decide +kernel
theorem dWire_drive_67 : decode bWire_drive 67 = .ok (.iconst 0, 1) := by decide +kernel
theorem dWire_drive_68 : decode bWire_drive 68 = .ok (.istore_n 2, 1) := by decide +kernel
theorem dWire_drive_69 : decode bWire_drive 69 = .ok (.iload_n 1, 1) := by decide +kernel
theorem dWire_drive_70 : decode bWire_drive 70 = .ok (.iconst 2, 1) := by decide +kernel
theorem dWire_drive_71 : decode bWire_drive 71 = .ok (.if_icmp .eq 8, 3) := by decide +kernel
theorem dWire_drive_74 : decode bWire_drive 74 = .ok (.iload_n 1, 1) := by decide +kernel
theorem dWire_drive_75 : decode bWire_drive 75 = .ok (.iconst 3, 1) := by decide +kernel
theorem dWire_drive_76 : decode bWire_drive 76 = .ok (.if_icmp .ne 7, 3) := by decide +kernel
theorem dWire_drive_79 : decode bWire_drive 79 = .ok (.iconst 1, 1) := by decide +kernel
theorem dWire_drive_80 : decode bWire_drive 80 = .ok (.goto 4, 3) := by decide +kernel
theorem dWire_drive_83 : decode bWire_drive 83 = .ok (.iconst 0, 1) := by decide +kernel
theorem dWire_drive_84 : decode bWire_drive 84 = .ok (.istore_n 3, 1) := by decide +kernel
theorem dWire_drive_85 : decode bWire_drive 85 = .ok (.iload_n 2, 1) := by decide +kernel
theorem dWire_drive_86 : decode bWire_drive 86 = .ok (.ifCond .eq 9, 3) := by decide +kernel
theorem dWire_drive_89 : decode bWire_drive 89 = .ok (.iload_n 3, 1) := by decide +kernel
theorem dWire_drive_90 : decode bWire_drive 90 = .ok (.ifCond .eq 5, 3) := by decide +kernel
theorem dWire_drive_93 : decode bWire_drive 93 = .ok (.iconst 1, 1) := by decide +kernel
theorem dWire_drive_94 : decode bWire_drive 94 = .ok (.ireturn, 1) := by decide +kernel
theorem dWire_drive_95 : decode bWire_drive 95 = .ok (.iload_n 2, 1) := by decide +kernel
theorem dWire_drive_96 : decode bWire_drive 96 = .ok (.ifCond .eq 5, 3) := by decide +kernel
theorem dWire_drive_99 : decode bWire_drive 99 = .ok (.iload_n 0, 1) := by decide +kernel
theorem dWire_drive_100 : decode bWire_drive 100 = .ok (.ireturn, 1) := by decide +kernel
theorem dWire_drive_101 : decode bWire_drive 101 = .ok (.iload_n 3, 1) := by decide +kernel
theorem dWire_drive_102 : decode bWire_drive 102 = .ok (.ifCond .eq 7, 3) := by decide +kernel
theorem dWire_drive_105 : decode bWire_drive 105 = .ok (.iload_n 1, 1) := by decide +kernel
theorem dWire_drive_106 : decode bWire_drive 106 = .ok (.goto 4, 3) := by decide +kernel
theorem dWire_drive_109 : decode bWire_drive 109 = .ok (.iconst 5, 1) := by decide +kernel
theorem dWire_drive_110 : decode bWire_drive 110 = .ok (.ireturn, 1) := by decide +kernel
theorem dWire_and_0 : decode bWire_and 0 = .ok (.iload_n 0, 1) := by decide +kernel
theorem dWire_and_1 : decode bWire_and 1 = .ok (.invokestatic 9, 3) := by decide +kernel
theorem dWire_and_4 : decode bWire_and 4 = .ok (.ifCond .ne 10, 3) := by decide +kernel
theorem dWire_and_7 : decode bWire_and 7 = .ok (.iload_n 1, 1) := by decide +kernel
theorem dWire_and_8 : decode bWire_and 8 = .ok (.invokestatic 9, 3) := by decide +kernel
theorem dWire_and_11 : decode bWire_and 11 = .ok (.ifCond .eq 5, 3) := by decide +kernel
theorem dWire_and_14 : decode bWire_and 14 = .ok (.iconst 2, 1) := by decide +kernel
theorem dWire_and_15 : decode bWire_and 15 = .ok (.ireturn, 1) := by decide +kernel
theorem dWire_and_16 : decode bWire_and 16 = .ok (.iload_n 0, 1) := by decide +kernel
theorem dWire_and_17 : decode bWire_and 17 = .ok (.ifCond .eq 7, 3) := by decide +kernel
theorem dWire_and_20 : decode bWire_and 20 = .ok (.iload_n 1, 1) := by decide +kernel
theorem dWire_and_21 : decode bWire_and 21 = .ok (.ifCond .ne 5, 3) := by decide +kernel
theorem dWire_and_24 : decode bWire_and 24 = .ok (.iconst 0, 1) := by decide +kernel
theorem dWire_and_25 : decode bWire_and 25 = .ok (.ireturn, 1) := by decide +kernel
theorem dWire_and_26 : decode bWire_and 26 = .ok (.iload_n 0, 1) := by decide +kernel
theorem dWire_and_27 : decode bWire_and 27 = .ok (.invokestatic 15, 3) := by decide +kernel
theorem dWire_and_30 : decode bWire_and 30 = .ok (.ifCond .eq 14, 3) := by decide +kernel
theorem dWire_and_33 : decode bWire_and 33 = .ok (.iload_n 1, 1) := by decide +kernel
theorem dWire_and_34 : decode bWire_and 34 = .ok (.invokestatic 15, 3) := by decide +kernel
theorem dWire_and_37 : decode bWire_and 37 = .ok (.ifCond .eq 7, 3) := by decide +kernel
theorem dWire_and_40 : decode bWire_and 40 = .ok (.iconst 3, 1) := by decide +kernel
theorem dWire_and_41 : decode bWire_and 41 = .ok (.goto 4, 3) := by decide +kernel
theorem dWire_and_44 : decode bWire_and 44 = .ok (.iconst 1, 1) := by decide +kernel
theorem dWire_and_45 : decode bWire_and 45 = .ok (.ireturn, 1) := by decide +kernel
theorem dWire_or_0 : decode bWire_or 0 = .ok (.iload_n 0, 1) := by decide +kernel
theorem dWire_or_1 : decode bWire_or 1 = .ok (.invokestatic 15, 3) := by decide +kernel
theorem dWire_or_4 : decode bWire_or 4 = .ok (.ifCond .ne 10, 3) := by decide +kernel
theorem dWire_or_7 : decode bWire_or 7 = .ok (.iload_n 1, 1) := by decide +kernel
theorem dWire_or_8 : decode bWire_or 8 = .ok (.invokestatic 15, 3) := by decide +kernel
theorem dWire_or_11 : decode bWire_or 11 = .ok (.ifCond .eq 5, 3) := by decide +kernel
theorem dWire_or_14 : decode bWire_or 14 = .ok (.iconst 3, 1) := by decide +kernel
theorem dWire_or_15 : decode bWire_or 15 = .ok (.ireturn, 1) := by decide +kernel
theorem dWire_or_16 : decode bWire_or 16 = .ok (.iload_n 0, 1) := by decide +kernel
theorem dWire_or_17 : decode bWire_or 17 = .ok (.ifCond .eq 7, 3) := by decide +kernel
theorem dWire_or_20 : decode bWire_or 20 = .ok (.iload_n 1, 1) := by decide +kernel
theorem dWire_or_21 : decode bWire_or 21 = .ok (.ifCond .ne 5, 3) := by decide +kernel
theorem dWire_or_24 : decode bWire_or 24 = .ok (.iconst 0, 1) := by decide +kernel
theorem dWire_or_25 : decode bWire_or 25 = .ok (.ireturn, 1) := by decide +kernel
theorem dWire_or_26 : decode bWire_or 26 = .ok (.iload_n 0, 1) := by decide +kernel
theorem dWire_or_27 : decode bWire_or 27 = .ok (.invokestatic 9, 3) := by decide +kernel
theorem dWire_or_30 : decode bWire_or 30 = .ok (.ifCond .eq 14, 3) := by decide +kernel
theorem dWire_or_33 : decode bWire_or 33 = .ok (.iload_n 1, 1) := by decide +kernel
theorem dWire_or_34 : decode bWire_or 34 = .ok (.invokestatic 9, 3) := by decide +kernel
theorem dWire_or_37 : decode bWire_or 37 = .ok (.ifCond .eq 7, 3) := by decide +kernel
theorem dWire_or_40 : decode bWire_or 40 = .ok (.iconst 2, 1) := by decide +kernel
theorem dWire_or_41 : decode bWire_or 41 = .ok (.goto 4, 3) := by decide +kernel
theorem dWire_or_44 : decode bWire_or 44 = .ok (.iconst 1, 1) := by decide +kernel
theorem dWire_or_45 : decode bWire_or 45 = .ok (.ireturn, 1) := by decide +kernel
theorem dWire_xor_0 : decode bWire_xor 0 = .ok (.iload_n 0, 1) := by decide +kernel
theorem dWire_xor_1 : decode bWire_xor 1 = .ok (.ifCond .eq 7, 3) := by decide +kernel
theorem dWire_xor_4 : decode bWire_xor 4 = .ok (.iload_n 1, 1) := by decide +kernel
theorem dWire_xor_5 : decode bWire_xor 5 = .ok (.ifCond .ne 5, 3) := by decide +kernel
theorem dWire_xor_8 : decode bWire_xor 8 = .ok (.iconst 0, 1) := by decide +kernel
theorem dWire_xor_9 : decode bWire_xor 9 = .ok (.ireturn, 1) := by decide +kernel
theorem dWire_xor_10 : decode bWire_xor 10 = .ok (.iload_n 0, 1) := by decide +kernel
theorem dWire_xor_11 : decode bWire_xor 11 = .ok (.invokestatic 35, 3) := by decide +kernel
theorem dWire_xor_14 : decode bWire_xor 14 = .ok (.ifCond .eq 10, 3) := by decide +kernel
theorem dWire_xor_17 : decode bWire_xor 17 = .ok (.iload_n 1, 1) := by decide +kernel
theorem dWire_xor_18 : decode bWire_xor 18 = .ok (.invokestatic 35, 3) := by decide +kernel
theorem dWire_xor_21 : decode bWire_xor 21 = .ok (.ifCond .ne 5, 3) := by decide +kernel
theorem dWire_xor_24 : decode bWire_xor 24 = .ok (.iconst 1, 1) := by decide +kernel
theorem dWire_xor_25 : decode bWire_xor 25 = .ok (.ireturn, 1) := by decide +kernel
theorem dWire_xor_26 : decode bWire_xor 26 = .ok (.iload_n 0, 1) := by decide +kernel
theorem dWire_xor_27 : decode bWire_xor 27 = .ok (.invokestatic 15, 3) := by decide +kernel
theorem dWire_xor_30 : decode bWire_xor 30 = .ok (.iload_n 1, 1) := by decide +kernel
theorem dWire_xor_31 : decode bWire_xor 31 = .ok (.invokestatic 15, 3) := by decide +kernel
theorem dWire_xor_34 : decode bWire_xor 34 = .ok (.if_icmp .ne 7, 3) := by decide +kernel
theorem dWire_xor_37 : decode bWire_xor 37 = .ok (.iconst 2, 1) := by decide +kernel
theorem dWire_xor_38 : decode bWire_xor 38 = .ok (.goto 4, 3) := by decide +kernel
theorem dWire_xor_41 : decode bWire_xor 41 = .ok (.iconst 3, 1) := by decide +kernel
theorem dWire_xor_42 : decode bWire_xor 42 = .ok (.ireturn, 1) := by decide +kernel
theorem dWire_not_0 : decode bWire_not 0 = .ok (.iload_n 0, 1) := by decide +kernel
theorem dWire_not_1 : decode bWire_not 1 = .ok (.invokestatic 35, 3) := by decide +kernel
theorem dWire_not_4 : decode bWire_not 4 = .ok (.ifCond .eq 16, 3) := by decide +kernel
theorem dWire_not_7 : decode bWire_not 7 = .ok (.iload_n 0, 1) := by decide +kernel
theorem dWire_not_8 : decode bWire_not 8 = .ok (.invokestatic 9, 3) := by decide +kernel
theorem dWire_not_11 : decode bWire_not 11 = .ok (.ifCond .eq 7, 3) := by decide +kernel
theorem dWire_not_14 : decode bWire_not 14 = .ok (.iconst 3, 1) := by decide +kernel
theorem dWire_not_15 : decode bWire_not 15 = .ok (.goto 4, 3) := by decide +kernel
theorem dWire_not_18 : decode bWire_not 18 = .ok (.iconst 2, 1) := by decide +kernel
theorem dWire_not_19 : decode bWire_not 19 = .ok (.ireturn, 1) := by decide +kernel
theorem dWire_not_20 : decode bWire_not 20 = .ok (.iload_n 0, 1) := by decide +kernel
theorem dWire_not_21 : decode bWire_not 21 = .ok (.ifCond .ne 7, 3) := by decide +kernel
theorem dWire_not_24 : decode bWire_not 24 = .ok (.iconst 0, 1) := by decide +kernel
theorem dWire_not_25 : decode bWire_not 25 = .ok (.goto 4, 3) := by decide +kernel
theorem dWire_not_28 : decode bWire_not 28 = .ok (.iconst 1, 1) := by decide +kernel
theorem dWire_not_29 : decode bWire_not 29 = .ok (.ireturn, 1) := by decide +kernel
theorem dWire_strip_0 : decode bWire_strip 0 = .ok (.iload_n 1, 1) := by decide +kernel
theorem dWire_strip_1 : decode bWire_strip 1 = .ok (.invokestatic 35, 3) := by decide +kernel
theorem dWire_strip_4 : decode bWire_strip 4 = .ok (.ifCond .eq 16, 3) := by decide +kernel
theorem dWire_strip_7 : decode bWire_strip 7 = .ok (.iload_n 1, 1) := by decide +kernel
theorem dWire_strip_8 : decode bWire_strip 8 = .ok (.invokestatic 9, 3) := by decide +kernel
theorem dWire_strip_11 : decode bWire_strip 11 = .ok (.ifCond .eq 7, 3) := by decide +kernel
theorem dWire_strip_14 : decode bWire_strip 14 = .ok (.iconst 2, 1) := by decide +kernel
theorem dWire_strip_15 : decode bWire_strip 15 = .ok (.goto 4, 3) := by decide +kernel
theorem dWire_strip_18 : decode bWire_strip 18 = .ok (.iconst 3, 1) := by decide +kernel
theorem dWire_strip_19 : decode bWire_strip 19 = .ok (.ireturn, 1) := by decide +kernel
theorem dWire_strip_20 : decode bWire_strip 20 = .ok (.iload_n 0, 1) := by decide +kernel
theorem dWire_strip_21 : decode bWire_strip 21 = .ok (.iconst 1, 1) := by decide +kernel
theorem dWire_strip_22 : decode bWire_strip 22 = .ok (.if_icmp .ne 8, 3) := by decide +kernel
theorem dWire_strip_25 : decode bWire_strip 25 = .ok (.iload_n 1, 1) := by decide +kernel
theorem dWire_strip_26 : decode bWire_strip 26 = .ok (.iconst 4, 1) := by decide +kernel
theorem dWire_strip_27 : decode bWire_strip 27 = .ok (.if_icmp .eq 12, 3) := by decide +kernel
theorem dWire_strip_30 : decode bWire_strip 30 = .ok (.iload_n 0, 1) := by decide +kernel
theorem dWire_strip_31 : decode bWire_strip 31 = .ok (.iconst 2, 1) := by decide +kernel
theorem dWire_strip_32 : decode bWire_strip 32 = .ok (.if_icmp .ne 9, 3) := by decide +kernel
theorem dWire_strip_35 : decode bWire_strip 35 = .ok (.iload_n 1, 1) := by decide +kernel
theorem dWire_strip_36 : decode bWire_strip 36 = .ok (.ifCond .ne 5, 3) := by decide +kernel
theorem dWire_strip_39 : decode bWire_strip 39 = .ok (.iload_n 1, 1) := by decide +kernel
theorem dWire_strip_40 : decode bWire_strip 40 = .ok (.ireturn, 1) := by decide +kernel
theorem dWire_strip_41 : decode bWire_strip 41 = .ok (.iload_n 0, 1) := by decide +kernel
theorem dWire_strip_42 : decode bWire_strip 42 = .ok (.iconst 3, 1) := by decide +kernel
theorem dWire_strip_43 : decode bWire_strip 43 = .ok (.if_icmp .ne 7, 3) := by decide +kernel
theorem dWire_strip_46 : decode bWire_strip 46 = .ok (.iconst 2, 1) := by decide +kernel
theorem dWire_strip_47 : decode bWire_strip 47 = .ok (.goto 4, 3) := by decide +kernel
theorem dWire_strip_50 : decode bWire_strip 50 = .ok (.iconst 1, 1) := by decide +kernel
theorem dWire_strip_51 : decode bWire_strip 51 = .ok (.ireturn, 1) := by decide +kernel
theorem dWire_goTogether_0 : decode bWire_goTogether 0 = .ok (.iload_n 0, 1) := by decide +kernel
theorem dWire_goTogether_1 : decode bWire_goTogether 1 = .ok (.bipush 8, 2) := by decide +kernel
theorem dWire_goTogether_3 : decode bWire_goTogether 3 = .ok (.if_icmp .eq 37, 3) := by decide +kernel
theorem dWire_goTogether_6 : decode bWire_goTogether 6 = .ok (.iload_n 1, 1) := by decide +kernel
theorem dWire_goTogether_7 : decode bWire_goTogether 7 = .ok (.bipush 8, 2) := by decide +kernel
theorem dWire_goTogether_9 : decode bWire_goTogether 9 = .ok (.if_icmp .eq 31, 3) := by decide +kernel
theorem dWire_goTogether_12 : decode bWire_goTogether 12 = .ok (.iload_n 0, 1) := by decide +kernel
theorem dWire_goTogether_13 : decode bWire_goTogether 13 = .ok (.invokestatic 9, 3) := by decide +kernel
theorem dWire_goTogether_16 : decode bWire_goTogether 16 = .ok (.ifCond .eq 10, 3) := by decide +kernel
theorem dWire_goTogether_19 : decode bWire_goTogether 19 = .ok (.iload_n 1, 1) := by decide +kernel
theorem dWire_goTogether_20 : decode bWire_goTogether 20 = .ok (.invokestatic 9, 3) := by decide +kernel
theorem dWire_goTogether_23 : decode bWire_goTogether 23 = .ok (.ifCond .ne 17, 3) := by decide +kernel
theorem dWire_goTogether_26 : decode bWire_goTogether 26 = .ok (.iload_n 0, 1) := by decide +kernel
theorem dWire_goTogether_27 : decode bWire_goTogether 27 = .ok (.invokestatic 15, 3) := by decide +kernel
theorem dWire_goTogether_30 : decode bWire_goTogether 30 = .ok (.ifCond .eq 14, 3) := by decide +kernel
theorem dWire_goTogether_33 : decode bWire_goTogether 33 = .ok (.iload_n 1, 1) := by decide +kernel
theorem dWire_goTogether_34 : decode bWire_goTogether 34 = .ok (.invokestatic 15, 3) := by decide +kernel
theorem dWire_goTogether_37 : decode bWire_goTogether 37 = .ok (.ifCond .eq 7, 3) := by decide +kernel
theorem dWire_goTogether_40 : decode bWire_goTogether 40 = .ok (.iconst 1, 1) := by decide +kernel
theorem dWire_goTogether_41 : decode bWire_goTogether 41 = .ok (.goto 4, 3) := by decide +kernel
theorem dWire_goTogether_44 : decode bWire_goTogether 44 = .ok (.iconst 0, 1) := by decide +kernel
theorem dWire_goTogether_45 : decode bWire_goTogether 45 = .ok (.ireturn, 1) := by decide +kernel
theorem dWord_init_0 : decode bWord_init 0 = .ok (.aload_n 0, 1) := by decide +kernel
theorem dWord_init_1 : decode bWord_init 1 = .ok (.invokespecial 3, 3) := by decide +kernel
theorem dWord_init_4 : decode bWord_init 4 = .ok (.aload_n 0, 1) := by decide +kernel
theorem dWord_init_5 : decode bWord_init 5 = .ok (.iconst 0, 1) := by decide +kernel
theorem dWord_init_6 : decode bWord_init 6 = .ok (.putfield 9, 3) := by decide +kernel
theorem dWord_init_9 : decode bWord_init 9 = .ok (.aload_n 0, 1) := by decide +kernel
theorem dWord_init_10 : decode bWord_init 10 = .ok (.bipush 64, 2) := by decide +kernel
theorem dWord_init_12 : decode bWord_init 12 = .ok (.newarray .int, 2) := by decide +kernel
theorem dWord_init_14 : decode bWord_init 14 = .ok (.putfield 15, 3) := by decide +kernel
theorem dWord_init_17 : decode bWord_init 17 = .ok (.return_, 1) := by decide +kernel
theorem dWord_become_0 : decode bWord_become 0 = .ok (.aload_n 0, 1) := by decide +kernel
theorem dWord_become_1 : decode bWord_become 1 = .ok (.iload_n 1, 1) := by decide +kernel
theorem dWord_become_2 : decode bWord_become 2 = .ok (.putfield 9, 3) := by decide +kernel
theorem dWord_become_5 : decode bWord_become 5 = .ok (.iconst 0, 1) := by decide +kernel
theorem dWord_become_6 : decode bWord_become 6 = .ok (.istore_n 3, 1) := by decide +kernel
theorem dWord_become_7 : decode bWord_become 7 = .ok (.iload_n 3, 1) := by decide +kernel
theorem dWord_become_8 : decode bWord_become 8 = .ok (.iload_n 1, 1) := by decide +kernel
theorem dWord_become_9 : decode bWord_become 9 = .ok (.if_icmp .ge 16, 3) := by decide +kernel
theorem dWord_become_12 : decode bWord_become 12 = .ok (.aload_n 0, 1) := by decide +kernel
theorem dWord_become_13 : decode bWord_become 13 = .ok (.getfield 15, 3) := by decide +kernel
theorem dWord_become_16 : decode bWord_become 16 = .ok (.iload_n 3, 1) := by decide +kernel
theorem dWord_become_17 : decode bWord_become 17 = .ok (.iload_n 2, 1) := by decide +kernel
theorem dWord_become_18 : decode bWord_become 18 = .ok (.iastore, 1) := by decide +kernel
theorem dWord_become_19 : decode bWord_become 19 = .ok (.iinc 3 1, 3) := by decide +kernel
theorem dWord_become_22 : decode bWord_become 22 = .ok (.goto (-15), 3) := by decide +kernel
theorem dWord_become_25 : decode bWord_become 25 = .ok (.return_, 1) := by decide +kernel
theorem dWord_hold_0 : decode bWord_hold 0 = .ok (.aload_n 0, 1) := by decide +kernel
theorem dWord_hold_1 : decode bWord_hold 1 = .ok (.iload_n 1, 1) := by decide +kernel
theorem dWord_hold_2 : decode bWord_hold 2 = .ok (.putfield 9, 3) := by decide +kernel
theorem dWord_hold_5 : decode bWord_hold 5 = .ok (.iconst 0, 1) := by decide +kernel
theorem dWord_hold_6 : decode bWord_hold 6 = .ok (.istore 4, 2) := by decide +kernel
theorem dWord_hold_8 : decode bWord_hold 8 = .ok (.iload 4, 2) := by decide +kernel
theorem dWord_hold_10 : decode bWord_hold 10 = .ok (.iload_n 1, 1) := by decide +kernel
theorem dWord_hold_11 : decode bWord_hold 11 = .ok (.if_icmp .ge 32, 3) := by decide +kernel
theorem dWord_hold_14 : decode bWord_hold 14 = .ok (.aload_n 0, 1) := by decide +kernel
theorem dWord_hold_15 : decode bWord_hold 15 = .ok (.getfield 15, 3) := by decide +kernel
theorem dWord_hold_18 : decode bWord_hold 18 = .ok (.iload 4, 2) := by decide +kernel
theorem dWord_hold_20 : decode bWord_hold 20 = .ok (.lload_n 2, 1) := by decide +kernel
theorem dWord_hold_21 : decode bWord_hold 21 = .ok (.iload 4, 2) := by decide +kernel
theorem dWord_hold_23 : decode bWord_hold 23 = .ok (.lushr, 1) := by decide +kernel
theorem dWord_hold_24 : decode bWord_hold 24 = .ok (.lconst 1, 1) := by decide +kernel
theorem dWord_hold_25 : decode bWord_hold 25 = .ok (.land, 1) := by decide +kernel
theorem dWord_hold_26 : decode bWord_hold 26 = .ok (.lconst 0, 1) := by decide +kernel
theorem dWord_hold_27 : decode bWord_hold 27 = .ok (.lcmp, 1) := by decide +kernel
theorem dWord_hold_28 : decode bWord_hold 28 = .ok (.ifCond .ne 7, 3) := by decide +kernel
theorem dWord_hold_31 : decode bWord_hold 31 = .ok (.iconst 2, 1) := by decide +kernel
theorem dWord_hold_32 : decode bWord_hold 32 = .ok (.goto 4, 3) := by decide +kernel
theorem dWord_hold_35 : decode bWord_hold 35 = .ok (.iconst 3, 1) := by decide +kernel
theorem dWord_hold_36 : decode bWord_hold 36 = .ok (.iastore, 1) := by decide +kernel
theorem dWord_hold_37 : decode bWord_hold 37 = .ok (.iinc 4 1, 3) := by decide +kernel
theorem dWord_hold_40 : decode bWord_hold 40 = .ok (.goto (-32), 3) := by decide +kernel
theorem dWord_hold_43 : decode bWord_hold 43 = .ok (.return_, 1) := by decide +kernel
theorem dWord_copy_0 : decode bWord_copy 0 = .ok (.aload_n 0, 1) := by decide +kernel
theorem dWord_copy_1 : decode bWord_copy 1 = .ok (.aload_n 1, 1) := by decide +kernel
theorem dWord_copy_2 : decode bWord_copy 2 = .ok (.getfield 9, 3) := by decide +kernel
theorem dWord_copy_5 : decode bWord_copy 5 = .ok (.putfield 9, 3) := by decide +kernel
theorem dWord_copy_8 : decode bWord_copy 8 = .ok (.aload_n 0, 1) := by decide +kernel
theorem dWord_copy_9 : decode bWord_copy 9 = .ok (.aload_n 1, 1) := by decide +kernel
theorem dWord_copy_10 : decode bWord_copy 10 = .ok (.iconst 0, 1) := by decide +kernel
theorem dWord_copy_11 : decode bWord_copy 11 = .ok (.aload_n 1, 1) := by decide +kernel
theorem dWord_copy_12 : decode bWord_copy 12 = .ok (.getfield 9, 3) := by decide +kernel
theorem dWord_copy_15 : decode bWord_copy 15 = .ok (.iconst 0, 1) := by decide +kernel
theorem dWord_copy_16 : decode bWord_copy 16 = .ok (.invokevirtual 19, 3) := by decide +kernel
theorem dWord_copy_19 : decode bWord_copy 19 = .ok (.return_, 1) := by decide +kernel
theorem dWord_lay_0 : decode bWord_lay 0 = .ok (.iconst 0, 1) := by decide +kernel
theorem dWord_lay_1 : decode bWord_lay 1 = .ok (.istore 5, 2) := by decide +kernel
theorem dWord_lay_3 : decode bWord_lay 3 = .ok (.iload 5, 2) := by decide +kernel
theorem dWord_lay_5 : decode bWord_lay 5 = .ok (.iload_n 3, 1) := by decide +kernel
theorem dWord_lay_6 : decode bWord_lay 6 = .ok (.if_icmp .ge 28, 3) := by decide +kernel
theorem dWord_lay_9 : decode bWord_lay 9 = .ok (.aload_n 0, 1) := by decide +kernel
theorem dWord_lay_10 : decode bWord_lay 10 = .ok (.getfield 15, 3) := by decide +kernel
theorem dWord_lay_13 : decode bWord_lay 13 = .ok (.iload 4, 2) := by decide +kernel
theorem dWord_lay_15 : decode bWord_lay 15 = .ok (.iload 5, 2) := by decide +kernel
theorem dWord_lay_17 : decode bWord_lay 17 = .ok (.iadd, 1) := by decide +kernel
theorem dWord_lay_18 : decode bWord_lay 18 = .ok (.aload_n 1, 1) := by decide +kernel
theorem dWord_lay_19 : decode bWord_lay 19 = .ok (.getfield 15, 3) := by decide +kernel
theorem dWord_lay_22 : decode bWord_lay 22 = .ok (.iload_n 2, 1) := by decide +kernel
theorem dWord_lay_23 : decode bWord_lay 23 = .ok (.iload 5, 2) := by decide +kernel
theorem dWord_lay_25 : decode bWord_lay 25 = .ok (.iadd, 1) := by decide +kernel
theorem dWord_lay_26 : decode bWord_lay 26 = .ok (.iaload, 1) := by decide +kernel
theorem dWord_lay_27 : decode bWord_lay 27 = .ok (.iastore, 1) := by decide +kernel
theorem dWord_lay_28 : decode bWord_lay 28 = .ok (.iinc 5 1, 3) := by decide +kernel
theorem dWord_lay_31 : decode bWord_lay 31 = .ok (.goto (-28), 3) := by decide +kernel
theorem dWord_lay_34 : decode bWord_lay 34 = .ok (.return_, 1) := by decide +kernel
theorem dWord_last_0 : decode bWord_last 0 = .ok (.aload_n 0, 1) := by decide +kernel
theorem dWord_last_1 : decode bWord_last 1 = .ok (.getfield 9, 3) := by decide +kernel
theorem dWord_last_4 : decode bWord_last 4 = .ok (.ifCond .ne 7, 3) := by decide +kernel
theorem dWord_last_7 : decode bWord_last 7 = .ok (.iconst 2, 1) := by decide +kernel
theorem dWord_last_8 : decode bWord_last 8 = .ok (.goto 14, 3) := by decide +kernel
theorem dWord_last_11 : decode bWord_last 11 = .ok (.aload_n 0, 1) := by decide +kernel
theorem dWord_last_12 : decode bWord_last 12 = .ok (.getfield 15, 3) := by decide +kernel
theorem dWord_last_15 : decode bWord_last 15 = .ok (.aload_n 0, 1) := by decide +kernel
theorem dWord_last_16 : decode bWord_last 16 = .ok (.getfield 9, 3) := by decide +kernel
theorem dWord_last_19 : decode bWord_last 19 = .ok (.iconst 1, 1) := by decide +kernel
theorem dWord_last_20 : decode bWord_last 20 = .ok (.isub, 1) := by decide +kernel
theorem dWord_last_21 : decode bWord_last 21 = .ok (.iaload, 1) := by decide +kernel
theorem dWord_last_22 : decode bWord_last 22 = .ok (.ireturn, 1) := by decide +kernel
theorem dWord_isClear_0 : decode bWord_isClear 0 = .ok (.iconst 0, 1) := by decide +kernel
theorem dWord_isClear_1 : decode bWord_isClear 1 = .ok (.istore_n 1, 1) := by decide +kernel
theorem dWord_isClear_2 : decode bWord_isClear 2 = .ok (.iload_n 1, 1) := by decide +kernel
theorem dWord_isClear_3 : decode bWord_isClear 3 = .ok (.aload_n 0, 1) := by decide +kernel
theorem dWord_isClear_4 : decode bWord_isClear 4 = .ok (.getfield 9, 3) := by decide +kernel
theorem dWord_isClear_7 : decode bWord_isClear 7 = .ok (.if_icmp .ge 23, 3) := by decide +kernel
theorem dWord_isClear_10 : decode bWord_isClear 10 = .ok (.aload_n 0, 1) := by decide +kernel
theorem dWord_isClear_11 : decode bWord_isClear 11 = .ok (.getfield 15, 3) := by decide +kernel
theorem dWord_isClear_14 : decode bWord_isClear 14 = .ok (.iload_n 1, 1) := by decide +kernel
theorem dWord_isClear_15 : decode bWord_isClear 15 = .ok (.iaload, 1) := by decide +kernel
theorem dWord_isClear_16 : decode bWord_isClear 16 = .ok (.invokestatic 23, 3) := by decide +kernel
theorem dWord_isClear_19 : decode bWord_isClear 19 = .ok (.ifCond .ne 5, 3) := by decide +kernel
theorem dWord_isClear_22 : decode bWord_isClear 22 = .ok (.iconst 0, 1) := by decide +kernel
theorem dWord_isClear_23 : decode bWord_isClear 23 = .ok (.ireturn, 1) := by decide +kernel
theorem dWord_isClear_24 : decode bWord_isClear 24 = .ok (.iinc 1 1, 3) := by decide +kernel
theorem dWord_isClear_27 : decode bWord_isClear 27 = .ok (.goto (-25), 3) := by decide +kernel
theorem dWord_isClear_30 : decode bWord_isClear 30 = .ok (.iconst 1, 1) := by decide +kernel
theorem dWord_isClear_31 : decode bWord_isClear 31 = .ok (.ireturn, 1) := by decide +kernel
theorem dWord_counts_0 : decode bWord_counts 0 = .ok (.aload_n 0, 1) := by decide +kernel
theorem dWord_counts_1 : decode bWord_counts 1 = .ok (.getfield 9, 3) := by decide +kernel
theorem dWord_counts_4 : decode bWord_counts 4 = .ok (.ifCond .le 14, 3) := by decide +kernel
theorem dWord_counts_7 : decode bWord_counts 7 = .ok (.aload_n 0, 1) := by decide +kernel
theorem dWord_counts_8 : decode bWord_counts 8 = .ok (.invokevirtual 29, 3) := by decide +kernel
theorem dWord_counts_11 : decode bWord_counts 11 = .ok (.ifCond .eq 7, 3) := by decide +kernel
theorem dWord_counts_14 : decode bWord_counts 14 = .ok (.iconst 1, 1) := by decide +kernel
theorem dWord_counts_15 : decode bWord_counts 15 = .ok (.goto 4, 3) := by decide +kernel
theorem dWord_counts_18 : decode bWord_counts 18 = .ok (.iconst 0, 1) := by decide +kernel
theorem dWord_counts_19 : decode bWord_counts 19 = .ok (.ireturn, 1) := by decide +kernel
theorem dWord_asLong_0 : decode bWord_asLong 0 = .ok (.lconst 0, 1) := by decide +kernel
theorem dWord_asLong_1 : decode bWord_asLong 1 = .ok (.lstore_n 2, 1) := by decide +kernel
theorem dWord_asLong_2 : decode bWord_asLong 2 = .ok (.iload_n 1, 1) := by decide +kernel
theorem dWord_asLong_3 : decode bWord_asLong 3 = .ok (.ifCond .eq 8, 3) := by decide +kernel
theorem dWord_asLong_6 : decode bWord_asLong 6 = .ok (.bipush 64, 2) := by decide +kernel
theorem dWord_asLong_8 : decode bWord_asLong 8 = .ok (.goto 7, 3) := by decide +kernel
theorem dWord_asLong_11 : decode bWord_asLong 11 = .ok (.aload_n 0, 1) := by decide +kernel
theorem dWord_asLong_12 : decode bWord_asLong 12 = .ok (.getfield 9, 3) := by decide +kernel
theorem dWord_asLong_15 : decode bWord_asLong 15 = .ok (.istore 4, 2) := by decide +kernel
theorem dWord_asLong_17 : decode bWord_asLong 17 = .ok (.iconst 0, 1) := by decide +kernel
theorem dWord_asLong_18 : decode bWord_asLong 18 = .ok (.istore 5, 2) := by decide +kernel
theorem dWord_asLong_20 : decode bWord_asLong 20 = .ok (.iload 5, 2) := by decide +kernel
theorem dWord_asLong_22 : decode bWord_asLong 22 = .ok (.iload 4, 2) := by decide +kernel
theorem dWord_asLong_24 : decode bWord_asLong 24 = .ok (.if_icmp .ge 49, 3) := by decide +kernel
theorem dWord_asLong_27 : decode bWord_asLong 27 = .ok (.iload 5, 2) := by decide +kernel
theorem dWord_asLong_29 : decode bWord_asLong 29 = .ok (.aload_n 0, 1) := by decide +kernel
theorem dWord_asLong_30 : decode bWord_asLong 30 = .ok (.getfield 9, 3) := by decide +kernel
theorem dWord_asLong_33 : decode bWord_asLong 33 = .ok (.if_icmp .ge 13, 3) := by decide +kernel
theorem dWord_asLong_36 : decode bWord_asLong 36 = .ok (.aload_n 0, 1) := by decide +kernel
theorem dWord_asLong_37 : decode bWord_asLong 37 = .ok (.getfield 15, 3) := by decide +kernel
theorem dWord_asLong_40 : decode bWord_asLong 40 = .ok (.iload 5, 2) := by decide +kernel
theorem dWord_asLong_42 : decode bWord_asLong 42 = .ok (.iaload, 1) := by decide +kernel
theorem dWord_asLong_43 : decode bWord_asLong 43 = .ok (.goto 7, 3) := by decide +kernel
theorem dWord_asLong_46 : decode bWord_asLong 46 = .ok (.aload_n 0, 1) := by decide +kernel
theorem dWord_asLong_47 : decode bWord_asLong 47 = .ok (.invokevirtual 32, 3) := by decide +kernel
theorem dWord_asLong_50 : decode bWord_asLong 50 = .ok (.istore 6, 2) := by decide +kernel
theorem dWord_asLong_52 : decode bWord_asLong 52 = .ok (.iload 6, 2) := by decide +kernel
theorem dWord_asLong_54 : decode bWord_asLong 54 = .ok (.invokestatic 36, 3) := by decide +kernel
theorem dWord_asLong_57 : decode bWord_asLong 57 = .ok (.ifCond .eq 10, 3) := by decide +kernel
theorem dWord_asLong_60 : decode bWord_asLong 60 = .ok (.lload_n 2, 1) := by decide +kernel
theorem dWord_asLong_61 : decode bWord_asLong 61 = .ok (.lconst 1, 1) := by decide +kernel
theorem dWord_asLong_62 : decode bWord_asLong 62 = .ok (.iload 5, 2) := by decide +kernel
theorem dWord_asLong_64 : decode bWord_asLong 64 = .ok (.lshl, 1) := by decide +kernel
theorem dWord_asLong_65 : decode bWord_asLong 65 = .ok (.lor, 1) := by decide +kernel
theorem dWord_asLong_66 : decode bWord_asLong 66 = .ok (.lstore_n 2, 1) := by decide +kernel
theorem dWord_asLong_67 : decode bWord_asLong 67 = .ok (.iinc 5 1, 3) := by decide +kernel
theorem dWord_asLong_70 : decode bWord_asLong 70 = .ok (.goto (-50), 3) := by decide +kernel
theorem dWord_asLong_73 : decode bWord_asLong 73 = .ok (.lload_n 2, 1) := by decide +kernel
theorem dWord_asLong_74 : decode bWord_asLong 74 = .ok (.lreturn, 1) := by decide +kernel
theorem dWord_joined_0 : decode bWord_joined 0 = .ok (.iload_n 2, 1) := by decide +kernel
theorem dWord_joined_1 : decode bWord_joined 1 = .ok (.istore_n 3, 1) := by decide +kernel
theorem dWord_joined_2 : decode bWord_joined 2 = .ok (.iconst 0, 1) := by decide +kernel
theorem dWord_joined_3 : decode bWord_joined 3 = .ok (.istore 4, 2) := by decide +kernel
theorem dWord_joined_5 : decode bWord_joined 5 = .ok (.iload 4, 2) := by decide +kernel
theorem dWord_joined_7 : decode bWord_joined 7 = .ok (.aload_n 0, 1) := by decide +kernel
theorem dWord_joined_8 : decode bWord_joined 8 = .ok (.getfield 9, 3) := by decide +kernel
theorem dWord_joined_11 : decode bWord_joined 11 = .ok (.if_icmp .ge 22, 3) := by decide +kernel
theorem dWord_joined_14 : decode bWord_joined 14 = .ok (.iload_n 1, 1) := by decide +kernel
theorem dWord_joined_15 : decode bWord_joined 15 = .ok (.iload_n 3, 1) := by decide +kernel
theorem dWord_joined_16 : decode bWord_joined 16 = .ok (.aload_n 0, 1) := by decide +kernel
theorem dWord_joined_17 : decode bWord_joined 17 = .ok (.getfield 15, 3) := by decide +kernel
theorem dWord_joined_20 : decode bWord_joined 20 = .ok (.iload 4, 2) := by decide +kernel
theorem dWord_joined_22 : decode bWord_joined 22 = .ok (.iaload, 1) := by decide +kernel
theorem dWord_joined_23 : decode bWord_joined 23 = .ok (.invokestatic 39, 3) := by decide +kernel
theorem dWord_joined_26 : decode bWord_joined 26 = .ok (.istore_n 3, 1) := by decide +kernel
theorem dWord_joined_27 : decode bWord_joined 27 = .ok (.iinc 4 1, 3) := by decide +kernel
theorem dWord_joined_30 : decode bWord_joined 30 = .ok (.goto (-25), 3) := by decide +kernel
theorem dWord_joined_33 : decode bWord_joined 33 = .ok (.iload_n 3, 1) := by decide +kernel
theorem dWord_joined_34 : decode bWord_joined 34 = .ok (.ireturn, 1) := by decide +kernel
