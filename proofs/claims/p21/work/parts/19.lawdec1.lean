theorem dL_cell_0 : decode cL_cell 0 = .ok (.iload_n 1, 1) := by decide +kernel
theorem dL_cell_1 : decode cL_cell 1 = .ok (.aload_n 0, 1) := by decide +kernel
theorem dL_cell_2 : decode cL_cell 2 = .ok (.arraylength, 1) := by decide +kernel
theorem dL_cell_3 : decode cL_cell 3 = .ok (.if_icmp .ge 9, 3) := by decide +kernel
theorem dL_cell_6 : decode cL_cell 6 = .ok (.aload_n 0, 1) := by decide +kernel
theorem dL_cell_7 : decode cL_cell 7 = .ok (.iload_n 1, 1) := by decide +kernel
theorem dL_cell_8 : decode cL_cell 8 = .ok (.iaload, 1) := by decide +kernel
theorem dL_cell_9 : decode cL_cell 9 = .ok (.goto 13, 3) := by decide +kernel
theorem dL_cell_12 : decode cL_cell 12 = .ok (.ldc 7, 2) := by decide +kernel
theorem dL_cell_14 : decode cL_cell 14 = .ok (.iload_n 1, 1) := by decide +kernel
theorem dL_cell_15 : decode cL_cell 15 = .ok (.bipush 29, 2) := by decide +kernel
theorem dL_cell_17 : decode cL_cell 17 = .ok (.iadd, 1) := by decide +kernel
theorem dL_cell_18 : decode cL_cell 18 = .ok (.imul, 1) := by decide +kernel
theorem dL_cell_19 : decode cL_cell 19 = .ok (.ldc 8, 2) := by decide +kernel
theorem dL_cell_21 : decode cL_cell 21 = .ok (.iadd, 1) := by decide +kernel
theorem dL_cell_22 : decode cL_cell 22 = .ok (.ireturn, 1) := by decide +kernel
theorem dL_low_0 : decode cL_low 0 = .ok (.iload_n 0, 1) := by decide +kernel
theorem dL_low_1 : decode cL_low 1 = .ok (.ldc 9, 2) := by decide +kernel
theorem dL_low_3 : decode cL_low 3 = .ok (.iand, 1) := by decide +kernel
theorem dL_low_4 : decode cL_low 4 = .ok (.iload_n 1, 1) := by decide +kernel
theorem dL_low_5 : decode cL_low 5 = .ok (.irem, 1) := by decide +kernel
theorem dL_low_6 : decode cL_low 6 = .ok (.ireturn, 1) := by decide +kernel
theorem dL_tells_0 : decode cL_tells 0 = .ok (.aload_n 0, 1) := by decide +kernel
theorem dL_tells_1 : decode cL_tells 1 = .ok (.iload_n 1, 1) := by decide +kernel
theorem dL_tells_2 : decode cL_tells 2 = .ok (.invokevirtual 10, 3) := by decide +kernel
theorem dL_tells_5 : decode cL_tells 5 = .ok (.ireturn, 1) := by decide +kernel
theorem dL_tells_6 : decode cL_tells 6 = .ok (.astore_n 2, 1) := by decide +kernel
theorem dL_tells_7 : decode cL_tells 7 = .ok (.bipush (-3), 2) := by decide +kernel
theorem dL_tells_9 : decode cL_tells 9 = .ok (.ireturn, 1) := by decide +kernel
theorem dL_moves_0 : decode cL_moves 0 = .ok (.aload_n 0, 1) := by decide +kernel
theorem dL_moves_1 : decode cL_moves 1 = .ok (.iload_n 1, 1) := by decide +kernel
theorem dL_moves_2 : decode cL_moves 2 = .ok (.invokevirtual 18, 3) := by decide +kernel
theorem dL_moves_5 : decode cL_moves 5 = .ok (.ireturn, 1) := by decide +kernel
theorem dL_moves_6 : decode cL_moves 6 = .ok (.astore_n 2, 1) := by decide +kernel
theorem dL_moves_7 : decode cL_moves 7 = .ok (.bipush (-3), 2) := by decide +kernel
theorem dL_moves_9 : decode cL_moves 9 = .ok (.ireturn, 1) := by decide +kernel
theorem dL_can_0 : decode cL_can 0 = .ok (.iload_n 2, 1) := by decide +kernel
theorem dL_can_1 : decode cL_can 1 = .ok (.iload_n 3, 1) := by decide +kernel
theorem dL_can_2 : decode cL_can 2 = .ok (.iadd, 1) := by decide +kernel
theorem dL_can_3 : decode cL_can 3 = .ok (.istore 4, 2) := by decide +kernel
theorem dL_can_5 : decode cL_can 5 = .ok (.iload_n 3, 1) := by decide +kernel
theorem dL_can_6 : decode cL_can 6 = .ok (.ifCond .le 44, 3) := by decide +kernel
theorem dL_can_9 : decode cL_can 9 = .ok (.iload 4, 2) := by decide +kernel
theorem dL_can_11 : decode cL_can 11 = .ok (.bipush 15, 2) := by decide +kernel
theorem dL_can_13 : decode cL_can 13 = .ok (.if_icmp .gt 37, 3) := by decide +kernel
theorem dL_can_16 : decode cL_can 16 = .ok (.aload_n 0, 1) := by decide +kernel
theorem dL_can_17 : decode cL_can 17 = .ok (.bipush 16, 2) := by decide +kernel
theorem dL_can_19 : decode cL_can 19 = .ok (.iload_n 1, 1) := by decide +kernel
theorem dL_can_20 : decode cL_can 20 = .ok (.imul, 1) := by decide +kernel
theorem dL_can_21 : decode cL_can 21 = .ok (.iload_n 2, 1) := by decide +kernel
theorem dL_can_22 : decode cL_can 22 = .ok (.iadd, 1) := by decide +kernel
theorem dL_can_23 : decode cL_can 23 = .ok (.iaload, 1) := by decide +kernel
theorem dL_can_24 : decode cL_can 24 = .ok (.ifCond .le 26, 3) := by decide +kernel
theorem dL_can_27 : decode cL_can 27 = .ok (.iload 4, 2) := by decide +kernel
theorem dL_can_29 : decode cL_can 29 = .ok (.bipush 15, 2) := by decide +kernel
theorem dL_can_31 : decode cL_can 31 = .ok (.if_icmp .eq 15, 3) := by decide +kernel
theorem dL_can_34 : decode cL_can 34 = .ok (.aload_n 0, 1) := by decide +kernel
theorem dL_can_35 : decode cL_can 35 = .ok (.bipush 16, 2) := by decide +kernel
theorem dL_can_37 : decode cL_can 37 = .ok (.iload_n 1, 1) := by decide +kernel
theorem dL_can_38 : decode cL_can 38 = .ok (.imul, 1) := by decide +kernel
theorem dL_can_39 : decode cL_can 39 = .ok (.iload 4, 2) := by decide +kernel
theorem dL_can_41 : decode cL_can 41 = .ok (.iadd, 1) := by decide +kernel
theorem dL_can_42 : decode cL_can 42 = .ok (.iaload, 1) := by decide +kernel
theorem dL_can_43 : decode cL_can 43 = .ok (.ifCond .ne 7, 3) := by decide +kernel
theorem dL_can_46 : decode cL_can 46 = .ok (.iconst 1, 1) := by decide +kernel
theorem dL_can_47 : decode cL_can 47 = .ok (.goto 4, 3) := by decide +kernel
theorem dL_can_50 : decode cL_can 50 = .ok (.iconst 0, 1) := by decide +kernel
theorem dL_can_51 : decode cL_can 51 = .ok (.istore 5, 2) := by decide +kernel
theorem dL_can_53 : decode cL_can 53 = .ok (.iload 5, 2) := by decide +kernel
theorem dL_can_55 : decode cL_can 55 = .ok (.ifCond .eq 28, 3) := by decide +kernel
theorem dL_can_58 : decode cL_can 58 = .ok (.iload 4, 2) := by decide +kernel
theorem dL_can_60 : decode cL_can 60 = .ok (.bipush 8, 2) := by decide +kernel
theorem dL_can_62 : decode cL_can 62 = .ok (.if_icmp .ne 17, 3) := by decide +kernel
theorem dL_can_65 : decode cL_can 65 = .ok (.aload_n 0, 1) := by decide +kernel
theorem dL_can_66 : decode cL_can 66 = .ok (.bipush 16, 2) := by decide +kernel
theorem dL_can_68 : decode cL_can 68 = .ok (.iconst 1, 1) := by decide +kernel
theorem dL_can_69 : decode cL_can 69 = .ok (.iload_n 1, 1) := by decide +kernel
theorem dL_can_70 : decode cL_can 70 = .ok (.isub, 1) := by decide +kernel
theorem dL_can_71 : decode cL_can 71 = .ok (.imul, 1) := by decide +kernel
theorem dL_can_72 : decode cL_can 72 = .ok (.bipush 8, 2) := by decide +kernel
theorem dL_can_74 : decode cL_can 74 = .ok (.iadd, 1) := by decide +kernel
theorem dL_can_75 : decode cL_can 75 = .ok (.iaload, 1) := by decide +kernel
theorem dL_can_76 : decode cL_can 76 = .ok (.ifCond .ne 7, 3) := by decide +kernel
theorem dL_can_79 : decode cL_can 79 = .ok (.iconst 1, 1) := by decide +kernel
theorem dL_can_80 : decode cL_can 80 = .ok (.goto 4, 3) := by decide +kernel
theorem dL_can_83 : decode cL_can 83 = .ok (.iconst 0, 1) := by decide +kernel
theorem dL_can_84 : decode cL_can 84 = .ok (.ireturn, 1) := by decide +kernel
theorem dL_takes_0 : decode cL_takes 0 = .ok (.iload_n 2, 1) := by decide +kernel
theorem dL_takes_1 : decode cL_takes 1 = .ok (.iconst 4, 1) := by decide +kernel
theorem dL_takes_2 : decode cL_takes 2 = .ok (.if_icmp .le 26, 3) := by decide +kernel
theorem dL_takes_5 : decode cL_takes 5 = .ok (.iload_n 2, 1) := by decide +kernel
theorem dL_takes_6 : decode cL_takes 6 = .ok (.bipush 13, 2) := by decide +kernel
theorem dL_takes_8 : decode cL_takes 8 = .ok (.if_icmp .ge 20, 3) := by decide +kernel
theorem dL_takes_11 : decode cL_takes 11 = .ok (.aload_n 0, 1) := by decide +kernel
theorem dL_takes_12 : decode cL_takes 12 = .ok (.bipush 16, 2) := by decide +kernel
theorem dL_takes_14 : decode cL_takes 14 = .ok (.iconst 1, 1) := by decide +kernel
theorem dL_takes_15 : decode cL_takes 15 = .ok (.iload_n 1, 1) := by decide +kernel
theorem dL_takes_16 : decode cL_takes 16 = .ok (.isub, 1) := by decide +kernel
theorem dL_takes_17 : decode cL_takes 17 = .ok (.imul, 1) := by decide +kernel
theorem dL_takes_18 : decode cL_takes 18 = .ok (.iload_n 2, 1) := by decide +kernel
theorem dL_takes_19 : decode cL_takes 19 = .ok (.iadd, 1) := by decide +kernel
theorem dL_takes_20 : decode cL_takes 20 = .ok (.iaload, 1) := by decide +kernel
theorem dL_takes_21 : decode cL_takes 21 = .ok (.ifCond .le 7, 3) := by decide +kernel
theorem dL_takes_24 : decode cL_takes 24 = .ok (.iconst 1, 1) := by decide +kernel
theorem dL_takes_25 : decode cL_takes 25 = .ok (.goto 4, 3) := by decide +kernel
theorem dL_takes_28 : decode cL_takes 28 = .ok (.iconst 0, 1) := by decide +kernel
theorem dL_takes_29 : decode cL_takes 29 = .ok (.ireturn, 1) := by decide +kernel
theorem dL_shift_0 : decode cL_shift 0 = .ok (.iload_n 2, 1) := by decide +kernel
theorem dL_shift_1 : decode cL_shift 1 = .ok (.iload_n 3, 1) := by decide +kernel
theorem dL_shift_2 : decode cL_shift 2 = .ok (.iadd, 1) := by decide +kernel
theorem dL_shift_3 : decode cL_shift 3 = .ok (.istore 4, 2) := by decide +kernel
theorem dL_shift_5 : decode cL_shift 5 = .ok (.aload_n 0, 1) := by decide +kernel
theorem dL_shift_6 : decode cL_shift 6 = .ok (.iload_n 1, 1) := by decide +kernel
theorem dL_shift_7 : decode cL_shift 7 = .ok (.iload 4, 2) := by decide +kernel
theorem dL_shift_9 : decode cL_shift 9 = .ok (.invokestatic 21, 3) := by decide +kernel
theorem dL_shift_12 : decode cL_shift 12 = .ok (.ifCond .eq 30, 3) := by decide +kernel
theorem dL_shift_15 : decode cL_shift 15 = .ok (.aload_n 0, 1) := by decide +kernel
theorem dL_shift_16 : decode cL_shift 16 = .ok (.bipush 16, 2) := by decide +kernel
theorem dL_shift_18 : decode cL_shift 18 = .ok (.iconst 1, 1) := by decide +kernel
theorem dL_shift_19 : decode cL_shift 19 = .ok (.iload_n 1, 1) := by decide +kernel
theorem dL_shift_20 : decode cL_shift 20 = .ok (.isub, 1) := by decide +kernel
theorem dL_shift_21 : decode cL_shift 21 = .ok (.imul, 1) := by decide +kernel
theorem dL_shift_22 : decode cL_shift 22 = .ok (.iload 4, 2) := by decide +kernel
theorem dL_shift_24 : decode cL_shift 24 = .ok (.iadd, 1) := by decide +kernel
theorem dL_shift_25 : decode cL_shift 25 = .ok (.dup2, 1) := by decide +kernel
theorem dL_shift_26 : decode cL_shift 26 = .ok (.iaload, 1) := by decide +kernel
theorem dL_shift_27 : decode cL_shift 27 = .ok (.iconst 1, 1) := by decide +kernel
theorem dL_shift_28 : decode cL_shift 28 = .ok (.isub, 1) := by decide +kernel
theorem dL_shift_29 : decode cL_shift 29 = .ok (.iastore, 1) := by decide +kernel
theorem dL_shift_30 : decode cL_shift 30 = .ok (.aload_n 0, 1) := by decide +kernel
theorem dL_shift_31 : decode cL_shift 31 = .ok (.bipush 16, 2) := by decide +kernel
theorem dL_shift_33 : decode cL_shift 33 = .ok (.iconst 1, 1) := by decide +kernel
theorem dL_shift_34 : decode cL_shift 34 = .ok (.iload_n 1, 1) := by decide +kernel
theorem dL_shift_35 : decode cL_shift 35 = .ok (.isub, 1) := by decide +kernel
theorem dL_shift_36 : decode cL_shift 36 = .ok (.imul, 1) := by decide +kernel
theorem dL_shift_37 : decode cL_shift 37 = .ok (.dup2, 1) := by decide +kernel
theorem dL_shift_38 : decode cL_shift 38 = .ok (.iaload, 1) := by decide +kernel
theorem dL_shift_39 : decode cL_shift 39 = .ok (.iconst 1, 1) := by decide +kernel
theorem dL_shift_40 : decode cL_shift 40 = .ok (.iadd, 1) := by decide +kernel
theorem dL_shift_41 : decode cL_shift 41 = .ok (.iastore, 1) := by decide +kernel
theorem dL_shift_42 : decode cL_shift 42 = .ok (.aload_n 0, 1) := by decide +kernel
theorem dL_shift_43 : decode cL_shift 43 = .ok (.bipush 16, 2) := by decide +kernel
theorem dL_shift_45 : decode cL_shift 45 = .ok (.iload_n 1, 1) := by decide +kernel
theorem dL_shift_46 : decode cL_shift 46 = .ok (.imul, 1) := by decide +kernel
theorem dL_shift_47 : decode cL_shift 47 = .ok (.iload_n 2, 1) := by decide +kernel
theorem dL_shift_48 : decode cL_shift 48 = .ok (.iadd, 1) := by decide +kernel
theorem dL_shift_49 : decode cL_shift 49 = .ok (.dup2, 1) := by decide +kernel
theorem dL_shift_50 : decode cL_shift 50 = .ok (.iaload, 1) := by decide +kernel
theorem dL_shift_51 : decode cL_shift 51 = .ok (.iconst 1, 1) := by decide +kernel
theorem dL_shift_52 : decode cL_shift 52 = .ok (.isub, 1) := by decide +kernel
theorem dL_shift_53 : decode cL_shift 53 = .ok (.iastore, 1) := by decide +kernel
theorem dL_shift_54 : decode cL_shift 54 = .ok (.aload_n 0, 1) := by decide +kernel
theorem dL_shift_55 : decode cL_shift 55 = .ok (.bipush 16, 2) := by decide +kernel
theorem dL_shift_57 : decode cL_shift 57 = .ok (.iload_n 1, 1) := by decide +kernel
theorem dL_shift_58 : decode cL_shift 58 = .ok (.imul, 1) := by decide +kernel
theorem dL_shift_59 : decode cL_shift 59 = .ok (.iload 4, 2) := by decide +kernel
theorem dL_shift_61 : decode cL_shift 61 = .ok (.iadd, 1) := by decide +kernel
theorem dL_shift_62 : decode cL_shift 62 = .ok (.dup2, 1) := by decide +kernel
theorem dL_shift_63 : decode cL_shift 63 = .ok (.iaload, 1) := by decide +kernel
theorem dL_shift_64 : decode cL_shift 64 = .ok (.iconst 1, 1) := by decide +kernel
theorem dL_shift_65 : decode cL_shift 65 = .ok (.iadd, 1) := by decide +kernel
theorem dL_shift_66 : decode cL_shift 66 = .ok (.iastore, 1) := by decide +kernel
theorem dL_shift_67 : decode cL_shift 67 = .ok (.return_, 1) := by decide +kernel
theorem dL_after_0 : decode cL_after 0 = .ok (.iload_n 1, 1) := by decide +kernel
theorem dL_after_1 : decode cL_after 1 = .ok (.iconst 4, 1) := by decide +kernel
theorem dL_after_2 : decode cL_after 2 = .ok (.if_icmp .eq 15, 3) := by decide +kernel
theorem dL_after_5 : decode cL_after 5 = .ok (.iload_n 1, 1) := by decide +kernel
theorem dL_after_6 : decode cL_after 6 = .ok (.bipush 8, 2) := by decide +kernel
theorem dL_after_8 : decode cL_after 8 = .ok (.if_icmp .eq 9, 3) := by decide +kernel
theorem dL_after_11 : decode cL_after 11 = .ok (.iload_n 1, 1) := by decide +kernel
theorem dL_after_12 : decode cL_after 12 = .ok (.bipush 14, 2) := by decide +kernel
theorem dL_after_14 : decode cL_after 14 = .ok (.if_icmp .ne 7, 3) := by decide +kernel
theorem dL_after_17 : decode cL_after 17 = .ok (.iload_n 0, 1) := by decide +kernel
theorem dL_after_18 : decode cL_after 18 = .ok (.goto 6, 3) := by decide +kernel
theorem dL_after_21 : decode cL_after 21 = .ok (.iconst 1, 1) := by decide +kernel
theorem dL_after_22 : decode cL_after 22 = .ok (.iload_n 0, 1) := by decide +kernel
theorem dL_after_23 : decode cL_after 23 = .ok (.isub, 1) := by decide +kernel
theorem dL_after_24 : decode cL_after 24 = .ok (.ireturn, 1) := by decide +kernel
theorem dL_progress_0 : decode cL_progress 0 = .ok (.iconst 0, 1) := by decide +kernel
theorem dL_progress_1 : decode cL_progress 1 = .ok (.istore_n 2, 1) := by decide +kernel
theorem dL_progress_2 : decode cL_progress 2 = .ok (.iconst 1, 1) := by decide +kernel
theorem dL_progress_3 : decode cL_progress 3 = .ok (.istore_n 3, 1) := by decide +kernel
theorem dL_progress_4 : decode cL_progress 4 = .ok (.iload_n 3, 1) := by decide +kernel
theorem dL_progress_5 : decode cL_progress 5 = .ok (.bipush 16, 2) := by decide +kernel
theorem dL_progress_7 : decode cL_progress 7 = .ok (.if_icmp .ge 22, 3) := by decide +kernel
theorem dL_progress_10 : decode cL_progress 10 = .ok (.iload_n 2, 1) := by decide +kernel
theorem dL_progress_11 : decode cL_progress 11 = .ok (.iload_n 3, 1) := by decide +kernel
theorem dL_progress_12 : decode cL_progress 12 = .ok (.aload_n 0, 1) := by decide +kernel
theorem dL_progress_13 : decode cL_progress 13 = .ok (.bipush 16, 2) := by decide +kernel
theorem dL_progress_15 : decode cL_progress 15 = .ok (.iload_n 1, 1) := by decide +kernel
theorem dL_progress_16 : decode cL_progress 16 = .ok (.imul, 1) := by decide +kernel
theorem dL_progress_17 : decode cL_progress 17 = .ok (.iload_n 3, 1) := by decide +kernel
theorem dL_progress_18 : decode cL_progress 18 = .ok (.iadd, 1) := by decide +kernel
theorem dL_progress_19 : decode cL_progress 19 = .ok (.iaload, 1) := by decide +kernel
theorem dL_progress_20 : decode cL_progress 20 = .ok (.imul, 1) := by decide +kernel
theorem dL_progress_21 : decode cL_progress 21 = .ok (.iadd, 1) := by decide +kernel
theorem dL_progress_22 : decode cL_progress 22 = .ok (.istore_n 2, 1) := by decide +kernel
theorem dL_progress_23 : decode cL_progress 23 = .ok (.iinc 3 1, 3) := by decide +kernel
theorem dL_progress_26 : decode cL_progress 26 = .ok (.goto (-22), 3) := by decide +kernel
theorem dL_progress_29 : decode cL_progress 29 = .ok (.iload_n 2, 1) := by decide +kernel
theorem dL_progress_30 : decode cL_progress 30 = .ok (.ireturn, 1) := by decide +kernel
theorem dL_plain_0 : decode cL_plain 0 = .ok (.iconst (-1), 1) := by decide +kernel
theorem dL_plain_1 : decode cL_plain 1 = .ok (.istore 4, 2) := by decide +kernel
theorem dL_plain_3 : decode cL_plain 3 = .ok (.iconst (-1), 1) := by decide +kernel
theorem dL_plain_4 : decode cL_plain 4 = .ok (.istore 5, 2) := by decide +kernel
theorem dL_plain_6 : decode cL_plain 6 = .ok (.iconst 0, 1) := by decide +kernel
theorem dL_plain_7 : decode cL_plain 7 = .ok (.istore 6, 2) := by decide +kernel
theorem dL_plain_9 : decode cL_plain 9 = .ok (.iload 6, 2) := by decide +kernel
theorem dL_plain_11 : decode cL_plain 11 = .ok (.bipush 15, 2) := by decide +kernel
theorem dL_plain_13 : decode cL_plain 13 = .ok (.if_icmp .ge 53, 3) := by decide +kernel
theorem dL_plain_16 : decode cL_plain 16 = .ok (.aload_n 1, 1) := by decide +kernel
theorem dL_plain_17 : decode cL_plain 17 = .ok (.bipush 16, 2) := by decide +kernel
theorem dL_plain_19 : decode cL_plain 19 = .ok (.iload_n 2, 1) := by decide +kernel
theorem dL_plain_20 : decode cL_plain 20 = .ok (.imul, 1) := by decide +kernel
theorem dL_plain_21 : decode cL_plain 21 = .ok (.iload 6, 2) := by decide +kernel
theorem dL_plain_23 : decode cL_plain 23 = .ok (.iadd, 1) := by decide +kernel
theorem dL_plain_24 : decode cL_plain 24 = .ok (.iaload, 1) := by decide +kernel
theorem dL_plain_25 : decode cL_plain 25 = .ok (.ifCond .le 8, 3) := by decide +kernel
theorem dL_plain_28 : decode cL_plain 28 = .ok (.iload 6, 2) := by decide +kernel
theorem dL_plain_30 : decode cL_plain 30 = .ok (.goto 5, 3) := by decide +kernel
theorem dL_plain_33 : decode cL_plain 33 = .ok (.iload 4, 2) := by decide +kernel
theorem dL_plain_35 : decode cL_plain 35 = .ok (.istore 4, 2) := by decide +kernel
theorem dL_plain_37 : decode cL_plain 37 = .ok (.aload_n 1, 1) := by decide +kernel
theorem dL_plain_38 : decode cL_plain 38 = .ok (.bipush 16, 2) := by decide +kernel
theorem dL_plain_40 : decode cL_plain 40 = .ok (.iconst 1, 1) := by decide +kernel
theorem dL_plain_41 : decode cL_plain 41 = .ok (.iload_n 2, 1) := by decide +kernel
theorem dL_plain_42 : decode cL_plain 42 = .ok (.isub, 1) := by decide +kernel
theorem dL_plain_43 : decode cL_plain 43 = .ok (.imul, 1) := by decide +kernel
theorem dL_plain_44 : decode cL_plain 44 = .ok (.iload 6, 2) := by decide +kernel
theorem dL_plain_46 : decode cL_plain 46 = .ok (.iadd, 1) := by decide +kernel
theorem dL_plain_47 : decode cL_plain 47 = .ok (.iaload, 1) := by decide +kernel
theorem dL_plain_48 : decode cL_plain 48 = .ok (.ifCond .le 8, 3) := by decide +kernel
theorem dL_plain_51 : decode cL_plain 51 = .ok (.iload 6, 2) := by decide +kernel
theorem dL_plain_53 : decode cL_plain 53 = .ok (.goto 5, 3) := by decide +kernel
theorem dL_plain_56 : decode cL_plain 56 = .ok (.iload 5, 2) := by decide +kernel
theorem dL_plain_58 : decode cL_plain 58 = .ok (.istore 5, 2) := by decide +kernel
theorem dL_plain_60 : decode cL_plain 60 = .ok (.iinc 6 1, 3) := by decide +kernel
theorem dL_plain_63 : decode cL_plain 63 = .ok (.goto (-54), 3) := by decide +kernel
theorem dL_plain_66 : decode cL_plain 66 = .ok (.aload_n 1, 1) := by decide +kernel
theorem dL_plain_67 : decode cL_plain 67 = .ok (.bipush 16, 2) := by decide +kernel
theorem dL_plain_69 : decode cL_plain 69 = .ok (.iload_n 2, 1) := by decide +kernel
theorem dL_plain_70 : decode cL_plain 70 = .ok (.imul, 1) := by decide +kernel
theorem dL_plain_71 : decode cL_plain 71 = .ok (.bipush 15, 2) := by decide +kernel
theorem dL_plain_73 : decode cL_plain 73 = .ok (.iadd, 1) := by decide +kernel
theorem dL_plain_74 : decode cL_plain 74 = .ok (.iaload, 1) := by decide +kernel
theorem dL_plain_75 : decode cL_plain 75 = .ok (.iload_n 3, 1) := by decide +kernel
theorem dL_plain_76 : decode cL_plain 76 = .ok (.iconst 1, 1) := by decide +kernel
theorem dL_plain_77 : decode cL_plain 77 = .ok (.isub, 1) := by decide +kernel
theorem dL_plain_78 : decode cL_plain 78 = .ok (.if_icmp .ne 31, 3) := by decide +kernel
theorem dL_plain_81 : decode cL_plain 81 = .ok (.aload_n 1, 1) := by decide +kernel
theorem dL_plain_82 : decode cL_plain 82 = .ok (.bipush 16, 2) := by decide +kernel
theorem dL_plain_84 : decode cL_plain 84 = .ok (.iconst 1, 1) := by decide +kernel
theorem dL_plain_85 : decode cL_plain 85 = .ok (.iload_n 2, 1) := by decide +kernel
theorem dL_plain_86 : decode cL_plain 86 = .ok (.isub, 1) := by decide +kernel
theorem dL_plain_87 : decode cL_plain 87 = .ok (.imul, 1) := by decide +kernel
theorem dL_plain_88 : decode cL_plain 88 = .ok (.bipush 15, 2) := by decide +kernel
theorem dL_plain_90 : decode cL_plain 90 = .ok (.iadd, 1) := by decide +kernel
theorem dL_plain_91 : decode cL_plain 91 = .ok (.iaload, 1) := by decide +kernel
theorem dL_plain_92 : decode cL_plain 92 = .ok (.iload_n 3, 1) := by decide +kernel
theorem dL_plain_93 : decode cL_plain 93 = .ok (.iconst 1, 1) := by decide +kernel
theorem dL_plain_94 : decode cL_plain 94 = .ok (.isub, 1) := by decide +kernel
theorem dL_plain_95 : decode cL_plain 95 = .ok (.if_icmp .ne 14, 3) := by decide +kernel
theorem dL_plain_98 : decode cL_plain 98 = .ok (.aload_n 0, 1) := by decide +kernel
theorem dL_plain_99 : decode cL_plain 99 = .ok (.iload 4, 2) := by decide +kernel
theorem dL_plain_101 : decode cL_plain 101 = .ok (.iload 5, 2) := by decide +kernel
theorem dL_plain_103 : decode cL_plain 103 = .ok (.bipush 40, 2) := by decide +kernel
theorem dL_plain_105 : decode cL_plain 105 = .ok (.invokevirtual 27, 3) := by decide +kernel
theorem dL_plain_108 : decode cL_plain 108 = .ok (.ireturn, 1) := by decide +kernel
theorem dL_plain_109 : decode cL_plain 109 = .ok (.ldc 31, 2) := by decide +kernel
theorem dL_plain_111 : decode cL_plain 111 = .ok (.ldc 32, 2) := by decide +kernel
theorem dL_plain_113 : decode cL_plain 113 = .ok (.aload_n 1, 1) := by decide +kernel
theorem dL_plain_114 : decode cL_plain 114 = .ok (.iload_n 2, 1) := by decide +kernel
theorem dL_plain_115 : decode cL_plain 115 = .ok (.invokestatic 33, 3) := by decide +kernel
theorem dL_plain_118 : decode cL_plain 118 = .ok (.aload_n 1, 1) := by decide +kernel
theorem dL_plain_119 : decode cL_plain 119 = .ok (.iconst 1, 1) := by decide +kernel
theorem dL_plain_120 : decode cL_plain 120 = .ok (.iload_n 2, 1) := by decide +kernel
theorem dL_plain_121 : decode cL_plain 121 = .ok (.isub, 1) := by decide +kernel
theorem dL_plain_122 : decode cL_plain 122 = .ok (.invokestatic 33, 3) := by decide +kernel
theorem dL_plain_125 : decode cL_plain 125 = .ok (.isub, 1) := by decide +kernel
theorem dL_plain_126 : decode cL_plain 126 = .ok (.imul, 1) := by decide +kernel
theorem dL_plain_127 : decode cL_plain 127 = .ok (.iadd, 1) := by decide +kernel
theorem dL_plain_128 : decode cL_plain 128 = .ok (.ireturn, 1) := by decide +kernel
theorem dL_ahead_0 : decode cL_ahead 0 = .ok (.lconst 0, 1) := by decide +kernel
theorem dL_ahead_1 : decode cL_ahead 1 = .ok (.lstore 5, 2) := by decide +kernel
theorem dL_ahead_3 : decode cL_ahead 3 = .ok (.iconst 0, 1) := by decide +kernel
theorem dL_ahead_4 : decode cL_ahead 4 = .ok (.istore 7, 2) := by decide +kernel
theorem dL_ahead_6 : decode cL_ahead 6 = .ok (.iload 7, 2) := by decide +kernel
theorem dL_ahead_8 : decode cL_ahead 8 = .ok (.iconst 5, 1) := by decide +kernel
theorem dL_ahead_9 : decode cL_ahead 9 = .ok (.if_icmp .ge 202, 3) := by decide +kernel
theorem dL_ahead_12 : decode cL_ahead 12 = .ok (.iconst (-1), 1) := by decide +kernel
theorem dL_ahead_13 : decode cL_ahead 13 = .ok (.istore 8, 2) := by decide +kernel
theorem dL_ahead_15 : decode cL_ahead 15 = .ok (.iconst 0, 1) := by decide +kernel
theorem dL_ahead_16 : decode cL_ahead 16 = .ok (.istore 9, 2) := by decide +kernel
theorem dL_ahead_18 : decode cL_ahead 18 = .ok (.iload 9, 2) := by decide +kernel
theorem dL_ahead_20 : decode cL_ahead 20 = .ok (.bipush 15, 2) := by decide +kernel
theorem dL_ahead_22 : decode cL_ahead 22 = .ok (.if_icmp .ge 124, 3) := by decide +kernel
theorem dL_ahead_25 : decode cL_ahead 25 = .ok (.aload_n 1, 1) := by decide +kernel
theorem dL_ahead_26 : decode cL_ahead 26 = .ok (.iload_n 3, 1) := by decide +kernel
theorem dL_ahead_27 : decode cL_ahead 27 = .ok (.iload 9, 2) := by decide +kernel
theorem dL_ahead_29 : decode cL_ahead 29 = .ok (.iload 7, 2) := by decide +kernel
theorem dL_ahead_31 : decode cL_ahead 31 = .ok (.invokestatic 37, 3) := by decide +kernel
theorem dL_ahead_34 : decode cL_ahead 34 = .ok (.ifCond .eq 106, 3) := by decide +kernel
theorem dL_ahead_37 : decode cL_ahead 37 = .ok (.aload_n 1, 1) := by decide +kernel
theorem dL_ahead_38 : decode cL_ahead 38 = .ok (.aload_n 2, 1) := by decide +kernel
theorem dL_ahead_39 : decode cL_ahead 39 = .ok (.invokestatic 41, 3) := by decide +kernel
theorem dL_ahead_42 : decode cL_ahead 42 = .ok (.aload_n 2, 1) := by decide +kernel
theorem dL_ahead_43 : decode cL_ahead 43 = .ok (.iload_n 3, 1) := by decide +kernel
theorem dL_ahead_44 : decode cL_ahead 44 = .ok (.iload 9, 2) := by decide +kernel
theorem dL_ahead_46 : decode cL_ahead 46 = .ok (.iload 7, 2) := by decide +kernel
theorem dL_ahead_48 : decode cL_ahead 48 = .ok (.invokestatic 45, 3) := by decide +kernel
theorem dL_ahead_51 : decode cL_ahead 51 = .ok (.iload_n 3, 1) := by decide +kernel
theorem dL_ahead_52 : decode cL_ahead 52 = .ok (.iload 9, 2) := by decide +kernel
theorem dL_ahead_54 : decode cL_ahead 54 = .ok (.iload 7, 2) := by decide +kernel
theorem dL_ahead_56 : decode cL_ahead 56 = .ok (.iadd, 1) := by decide +kernel
theorem dL_ahead_57 : decode cL_ahead 57 = .ok (.invokestatic 49, 3) := by decide +kernel
theorem dL_ahead_60 : decode cL_ahead 60 = .ok (.istore 10, 2) := by decide +kernel
theorem dL_ahead_62 : decode cL_ahead 62 = .ok (.aload_n 2, 1) := by decide +kernel
theorem dL_ahead_63 : decode cL_ahead 63 = .ok (.bipush 16, 2) := by decide +kernel
theorem dL_ahead_65 : decode cL_ahead 65 = .ok (.iload_n 3, 1) := by decide +kernel
theorem dL_ahead_66 : decode cL_ahead 66 = .ok (.imul, 1) := by decide +kernel
theorem dL_ahead_67 : decode cL_ahead 67 = .ok (.bipush 15, 2) := by decide +kernel
theorem dL_ahead_69 : decode cL_ahead 69 = .ok (.iadd, 1) := by decide +kernel
theorem dL_ahead_70 : decode cL_ahead 70 = .ok (.iaload, 1) := by decide +kernel
theorem dL_ahead_71 : decode cL_ahead 71 = .ok (.iload 4, 2) := by decide +kernel
theorem dL_ahead_73 : decode cL_ahead 73 = .ok (.if_icmp .ne 8, 3) := by decide +kernel
theorem dL_ahead_76 : decode cL_ahead 76 = .ok (.ldc 53, 2) := by decide +kernel
theorem dL_ahead_78 : decode cL_ahead 78 = .ok (.goto 12, 3) := by decide +kernel
theorem dL_ahead_81 : decode cL_ahead 81 = .ok (.aload_n 0, 1) := by decide +kernel
theorem dL_ahead_82 : decode cL_ahead 82 = .ok (.aload_n 2, 1) := by decide +kernel
theorem dL_ahead_83 : decode cL_ahead 83 = .ok (.iload 10, 2) := by decide +kernel
theorem dL_ahead_85 : decode cL_ahead 85 = .ok (.iload 4, 2) := by decide +kernel
theorem dL_ahead_87 : decode cL_ahead 87 = .ok (.invokestatic 54, 3) := by decide +kernel
theorem dL_ahead_90 : decode cL_ahead 90 = .ok (.istore 11, 2) := by decide +kernel
theorem dL_ahead_92 : decode cL_ahead 92 = .ok (.aload_n 2, 1) := by decide +kernel
theorem dL_ahead_93 : decode cL_ahead 93 = .ok (.bipush 16, 2) := by decide +kernel
theorem dL_ahead_95 : decode cL_ahead 95 = .ok (.iload_n 3, 1) := by decide +kernel
theorem dL_ahead_96 : decode cL_ahead 96 = .ok (.imul, 1) := by decide +kernel
theorem dL_ahead_97 : decode cL_ahead 97 = .ok (.bipush 15, 2) := by decide +kernel
theorem dL_ahead_99 : decode cL_ahead 99 = .ok (.iadd, 1) := by decide +kernel
theorem dL_ahead_100 : decode cL_ahead 100 = .ok (.iaload, 1) := by decide +kernel
theorem dL_ahead_101 : decode cL_ahead 101 = .ok (.iload 4, 2) := by decide +kernel
theorem dL_ahead_103 : decode cL_ahead 103 = .ok (.if_icmp .eq 9, 3) := by decide +kernel
theorem dL_ahead_106 : decode cL_ahead 106 = .ok (.iload 10, 2) := by decide +kernel
theorem dL_ahead_108 : decode cL_ahead 108 = .ok (.iload_n 3, 1) := by decide +kernel
theorem dL_ahead_109 : decode cL_ahead 109 = .ok (.if_icmp .ne 8, 3) := by decide +kernel
theorem dL_ahead_112 : decode cL_ahead 112 = .ok (.iload 11, 2) := by decide +kernel
theorem dL_ahead_114 : decode cL_ahead 114 = .ok (.goto 8, 3) := by decide +kernel
theorem dL_ahead_117 : decode cL_ahead 117 = .ok (.ldc 53, 2) := by decide +kernel
theorem dL_ahead_119 : decode cL_ahead 119 = .ok (.iload 11, 2) := by decide +kernel
theorem dL_ahead_121 : decode cL_ahead 121 = .ok (.isub, 1) := by decide +kernel
theorem dL_ahead_122 : decode cL_ahead 122 = .ok (.istore 11, 2) := by decide +kernel
theorem dL_ahead_124 : decode cL_ahead 124 = .ok (.iload 11, 2) := by decide +kernel
theorem dL_ahead_126 : decode cL_ahead 126 = .ok (.iload 8, 2) := by decide +kernel
theorem dL_ahead_128 : decode cL_ahead 128 = .ok (.if_icmp .le 8, 3) := by decide +kernel
theorem dL_ahead_131 : decode cL_ahead 131 = .ok (.iload 11, 2) := by decide +kernel
theorem dL_ahead_133 : decode cL_ahead 133 = .ok (.goto 5, 3) := by decide +kernel
theorem dL_ahead_136 : decode cL_ahead 136 = .ok (.iload 8, 2) := by decide +kernel
theorem dL_ahead_138 : decode cL_ahead 138 = .ok (.istore 8, 2) := by decide +kernel
theorem dL_ahead_140 : decode cL_ahead 140 = .ok (.iinc 9 1, 3) := by decide +kernel
theorem dL_ahead_143 : decode cL_ahead 143 = .ok (.goto (-125), 3) := by decide +kernel
theorem dL_ahead_146 : decode cL_ahead 146 = .ok (.iload 8, 2) := by decide +kernel
theorem dL_ahead_148 : decode cL_ahead 148 = .ok (.ifCond .ge 19, 3) := by decide +kernel
theorem dL_ahead_151 : decode cL_ahead 151 = .ok (.ldc 53, 2) := by decide +kernel
theorem dL_ahead_153 : decode cL_ahead 153 = .ok (.aload_n 0, 1) := by decide +kernel
theorem dL_ahead_154 : decode cL_ahead 154 = .ok (.aload_n 1, 1) := by decide +kernel
theorem dL_ahead_155 : decode cL_ahead 155 = .ok (.iconst 1, 1) := by decide +kernel
theorem dL_ahead_156 : decode cL_ahead 156 = .ok (.iload_n 3, 1) := by decide +kernel
theorem dL_ahead_157 : decode cL_ahead 157 = .ok (.isub, 1) := by decide +kernel
theorem dL_ahead_158 : decode cL_ahead 158 = .ok (.iload 4, 2) := by decide +kernel
theorem dL_ahead_160 : decode cL_ahead 160 = .ok (.invokestatic 54, 3) := by decide +kernel
theorem dL_ahead_163 : decode cL_ahead 163 = .ok (.isub, 1) := by decide +kernel
theorem dL_ahead_164 : decode cL_ahead 164 = .ok (.goto 5, 3) := by decide +kernel
theorem dL_ahead_167 : decode cL_ahead 167 = .ok (.iload 8, 2) := by decide +kernel
theorem dL_ahead_169 : decode cL_ahead 169 = .ok (.istore 8, 2) := by decide +kernel
theorem dL_ahead_171 : decode cL_ahead 171 = .ok (.lload 5, 2) := by decide +kernel
theorem dL_ahead_173 : decode cL_ahead 173 = .ok (.iload 8, 2) := by decide +kernel
theorem dL_ahead_175 : decode cL_ahead 175 = .ok (.i2l, 1) := by decide +kernel
theorem dL_ahead_176 : decode cL_ahead 176 = .ok (.iload 7, 2) := by decide +kernel
theorem dL_ahead_178 : decode cL_ahead 178 = .ok (.iconst 2, 1) := by decide +kernel
theorem dL_ahead_179 : decode cL_ahead 179 = .ok (.if_icmp .ne 8, 3) := by decide +kernel
theorem dL_ahead_182 : decode cL_ahead 182 = .ok (.bipush 6, 2) := by decide +kernel
theorem dL_ahead_184 : decode cL_ahead 184 = .ok (.goto 16, 3) := by decide +kernel
theorem dL_ahead_187 : decode cL_ahead 187 = .ok (.iload 7, 2) := by decide +kernel
theorem dL_ahead_189 : decode cL_ahead 189 = .ok (.iconst 2, 1) := by decide +kernel
theorem dL_ahead_190 : decode cL_ahead 190 = .ok (.irem, 1) := by decide +kernel
theorem dL_ahead_191 : decode cL_ahead 191 = .ok (.iconst 1, 1) := by decide +kernel
theorem dL_ahead_192 : decode cL_ahead 192 = .ok (.if_icmp .ne 7, 3) := by decide +kernel
theorem dL_ahead_195 : decode cL_ahead 195 = .ok (.iconst 4, 1) := by decide +kernel
theorem dL_ahead_196 : decode cL_ahead 196 = .ok (.goto 4, 3) := by decide +kernel
theorem dL_ahead_199 : decode cL_ahead 199 = .ok (.iconst 1, 1) := by decide +kernel
theorem dL_ahead_200 : decode cL_ahead 200 = .ok (.i2l, 1) := by decide +kernel
theorem dL_ahead_201 : decode cL_ahead 201 = .ok (.lmul, 1) := by decide +kernel
theorem dL_ahead_202 : decode cL_ahead 202 = .ok (.ladd, 1) := by decide +kernel
theorem dL_ahead_203 : decode cL_ahead 203 = .ok (.lstore 5, 2) := by decide +kernel
theorem dL_ahead_205 : decode cL_ahead 205 = .ok (.iinc 7 1, 3) := by decide +kernel
theorem dL_ahead_208 : decode cL_ahead 208 = .ok (.goto (-202), 3) := by decide +kernel
theorem dL_ahead_211 : decode cL_ahead 211 = .ok (.lload 5, 2) := by decide +kernel
theorem dL_ahead_213 : decode cL_ahead 213 = .ok (.ldc2_w 58, 3) := by decide +kernel
theorem dL_ahead_216 : decode cL_ahead 216 = .ok (.ldiv, 1) := by decide +kernel
theorem dL_ahead_217 : decode cL_ahead 217 = .ok (.l2i, 1) := by decide +kernel
theorem dL_ahead_218 : decode cL_ahead 218 = .ok (.ireturn, 1) := by decide +kernel
theorem dL_copy_0 : decode cL_copy 0 = .ok (.iconst 0, 1) := by decide +kernel
theorem dL_copy_1 : decode cL_copy 1 = .ok (.istore_n 2, 1) := by decide +kernel
theorem dL_copy_2 : decode cL_copy 2 = .ok (.iload_n 2, 1) := by decide +kernel
theorem dL_copy_3 : decode cL_copy 3 = .ok (.bipush 32, 2) := by decide +kernel
theorem dL_copy_5 : decode cL_copy 5 = .ok (.if_icmp .ge 15, 3) := by decide +kernel
theorem dL_copy_8 : decode cL_copy 8 = .ok (.aload_n 1, 1) := by decide +kernel
theorem dL_copy_9 : decode cL_copy 9 = .ok (.iload_n 2, 1) := by decide +kernel
theorem dL_copy_10 : decode cL_copy 10 = .ok (.aload_n 0, 1) := by decide +kernel
theorem dL_copy_11 : decode cL_copy 11 = .ok (.iload_n 2, 1) := by decide +kernel
theorem dL_copy_12 : decode cL_copy 12 = .ok (.iaload, 1) := by decide +kernel
theorem dL_copy_13 : decode cL_copy 13 = .ok (.iastore, 1) := by decide +kernel
theorem dL_copy_14 : decode cL_copy 14 = .ok (.iinc 2 1, 3) := by decide +kernel
theorem dL_copy_17 : decode cL_copy 17 = .ok (.goto (-15), 3) := by decide +kernel
theorem dL_copy_20 : decode cL_copy 20 = .ok (.return_, 1) := by decide +kernel
theorem dL_behind_0 : decode cL_behind 0 = .ok (.aload_n 3, 1) := by decide +kernel
theorem dL_behind_1 : decode cL_behind 1 = .ok (.aload 4, 2) := by decide +kernel
theorem dL_behind_3 : decode cL_behind 3 = .ok (.invokestatic 41, 3) := by decide +kernel
theorem dL_behind_6 : decode cL_behind 6 = .ok (.aload 4, 2) := by decide +kernel
theorem dL_behind_8 : decode cL_behind 8 = .ok (.aload 6, 2) := by decide +kernel
theorem dL_behind_10 : decode cL_behind 10 = .ok (.iconst 1, 1) := by decide +kernel
theorem dL_behind_11 : decode cL_behind 11 = .ok (.iaload, 1) := by decide +kernel
theorem dL_behind_12 : decode cL_behind 12 = .ok (.iload_n 1, 1) := by decide +kernel
theorem dL_behind_13 : decode cL_behind 13 = .ok (.aload 6, 2) := by decide +kernel
theorem dL_behind_15 : decode cL_behind 15 = .ok (.iconst 2, 1) := by decide +kernel
theorem dL_behind_16 : decode cL_behind 16 = .ok (.iaload, 1) := by decide +kernel
theorem dL_behind_17 : decode cL_behind 17 = .ok (.invokestatic 45, 3) := by decide +kernel
theorem dL_behind_20 : decode cL_behind 20 = .ok (.aload 4, 2) := by decide +kernel
theorem dL_behind_22 : decode cL_behind 22 = .ok (.bipush 16, 2) := by decide +kernel
theorem dL_behind_24 : decode cL_behind 24 = .ok (.aload 6, 2) := by decide +kernel
theorem dL_behind_26 : decode cL_behind 26 = .ok (.iconst 1, 1) := by decide +kernel
theorem dL_behind_27 : decode cL_behind 27 = .ok (.iaload, 1) := by decide +kernel
theorem dL_behind_28 : decode cL_behind 28 = .ok (.imul, 1) := by decide +kernel
theorem dL_behind_29 : decode cL_behind 29 = .ok (.bipush 15, 2) := by decide +kernel
theorem dL_behind_31 : decode cL_behind 31 = .ok (.iadd, 1) := by decide +kernel
theorem dL_behind_32 : decode cL_behind 32 = .ok (.iaload, 1) := by decide +kernel
theorem dL_behind_33 : decode cL_behind 33 = .ok (.aload 6, 2) := by decide +kernel
theorem dL_behind_35 : decode cL_behind 35 = .ok (.iconst 0, 1) := by decide +kernel
theorem dL_behind_36 : decode cL_behind 36 = .ok (.iaload, 1) := by decide +kernel
theorem dL_behind_37 : decode cL_behind 37 = .ok (.if_icmp .ne 6, 3) := by decide +kernel
theorem dL_behind_40 : decode cL_behind 40 = .ok (.ldc 53, 2) := by decide +kernel
theorem dL_behind_42 : decode cL_behind 42 = .ok (.ireturn, 1) := by decide +kernel
theorem dL_behind_43 : decode cL_behind 43 = .ok (.aload 6, 2) := by decide +kernel
theorem dL_behind_45 : decode cL_behind 45 = .ok (.iconst 1, 1) := by decide +kernel
theorem dL_behind_46 : decode cL_behind 46 = .ok (.iaload, 1) := by decide +kernel
theorem dL_behind_47 : decode cL_behind 47 = .ok (.iload_n 1, 1) := by decide +kernel
theorem dL_behind_48 : decode cL_behind 48 = .ok (.aload 6, 2) := by decide +kernel
theorem dL_behind_50 : decode cL_behind 50 = .ok (.iconst 2, 1) := by decide +kernel
theorem dL_behind_51 : decode cL_behind 51 = .ok (.iaload, 1) := by decide +kernel
theorem dL_behind_52 : decode cL_behind 52 = .ok (.iadd, 1) := by decide +kernel
theorem dL_behind_53 : decode cL_behind 53 = .ok (.invokestatic 49, 3) := by decide +kernel
theorem dL_behind_56 : decode cL_behind 56 = .ok (.istore 7, 2) := by decide +kernel
theorem dL_behind_58 : decode cL_behind 58 = .ok (.iload_n 2, 1) := by decide +kernel
theorem dL_behind_59 : decode cL_behind 59 = .ok (.ifCond .ne 18, 3) := by decide +kernel
theorem dL_behind_62 : decode cL_behind 62 = .ok (.aload_n 0, 1) := by decide +kernel
theorem dL_behind_63 : decode cL_behind 63 = .ok (.aload 4, 2) := by decide +kernel
theorem dL_behind_65 : decode cL_behind 65 = .ok (.iload 7, 2) := by decide +kernel
theorem dL_behind_67 : decode cL_behind 67 = .ok (.aload 6, 2) := by decide +kernel
theorem dL_behind_69 : decode cL_behind 69 = .ok (.iconst 0, 1) := by decide +kernel
theorem dL_behind_70 : decode cL_behind 70 = .ok (.iaload, 1) := by decide +kernel
theorem dL_behind_71 : decode cL_behind 71 = .ok (.invokestatic 54, 3) := by decide +kernel
theorem dL_behind_74 : decode cL_behind 74 = .ok (.goto 17, 3) := by decide +kernel
theorem dL_behind_77 : decode cL_behind 77 = .ok (.aload_n 0, 1) := by decide +kernel
theorem dL_behind_78 : decode cL_behind 78 = .ok (.aload 4, 2) := by decide +kernel
theorem dL_behind_80 : decode cL_behind 80 = .ok (.aload 5, 2) := by decide +kernel
theorem dL_behind_82 : decode cL_behind 82 = .ok (.iload 7, 2) := by decide +kernel
theorem dL_behind_84 : decode cL_behind 84 = .ok (.aload 6, 2) := by decide +kernel
theorem dL_behind_86 : decode cL_behind 86 = .ok (.iconst 0, 1) := by decide +kernel
theorem dL_behind_87 : decode cL_behind 87 = .ok (.iaload, 1) := by decide +kernel
theorem dL_behind_88 : decode cL_behind 88 = .ok (.invokestatic 60, 3) := by decide +kernel
theorem dL_behind_91 : decode cL_behind 91 = .ok (.istore 8, 2) := by decide +kernel
theorem dL_behind_93 : decode cL_behind 93 = .ok (.iload 7, 2) := by decide +kernel
theorem dL_behind_95 : decode cL_behind 95 = .ok (.aload 6, 2) := by decide +kernel
theorem dL_behind_97 : decode cL_behind 97 = .ok (.iconst 1, 1) := by decide +kernel
theorem dL_behind_98 : decode cL_behind 98 = .ok (.iaload, 1) := by decide +kernel
theorem dL_behind_99 : decode cL_behind 99 = .ok (.if_icmp .ne 8, 3) := by decide +kernel
theorem dL_behind_102 : decode cL_behind 102 = .ok (.iload 8, 2) := by decide +kernel
theorem dL_behind_104 : decode cL_behind 104 = .ok (.goto 8, 3) := by decide +kernel
theorem dL_behind_107 : decode cL_behind 107 = .ok (.ldc 53, 2) := by decide +kernel
theorem dL_behind_109 : decode cL_behind 109 = .ok (.iload 8, 2) := by decide +kernel
theorem dL_behind_111 : decode cL_behind 111 = .ok (.isub, 1) := by decide +kernel
theorem dL_behind_112 : decode cL_behind 112 = .ok (.ireturn, 1) := by decide +kernel
theorem dL_worths_0 : decode cL_worths 0 = .ok (.iconst 0, 1) := by decide +kernel
theorem dL_worths_1 : decode cL_worths 1 = .ok (.istore 7, 2) := by decide +kernel
theorem dL_worths_3 : decode cL_worths 3 = .ok (.iconst 0, 1) := by decide +kernel
theorem dL_worths_4 : decode cL_worths 4 = .ok (.istore 8, 2) := by decide +kernel
theorem dL_worths_6 : decode cL_worths 6 = .ok (.aload 5, 2) := by decide +kernel
theorem dL_worths_8 : decode cL_worths 8 = .ok (.iconst 3, 1) := by decide +kernel
theorem dL_worths_9 : decode cL_worths 9 = .ok (.iaload, 1) := by decide +kernel
theorem dL_worths_10 : decode cL_worths 10 = .ok (.ifCond .lt 25, 3) := by decide +kernel
theorem dL_worths_13 : decode cL_worths 13 = .ok (.aload 5, 2) := by decide +kernel
theorem dL_worths_15 : decode cL_worths 15 = .ok (.iconst 3, 1) := by decide +kernel
theorem dL_worths_16 : decode cL_worths 16 = .ok (.iaload, 1) := by decide +kernel
theorem dL_worths_17 : decode cL_worths 17 = .ok (.aload 5, 2) := by decide +kernel
theorem dL_worths_19 : decode cL_worths 19 = .ok (.iconst 1, 1) := by decide +kernel
theorem dL_worths_20 : decode cL_worths 20 = .ok (.iaload, 1) := by decide +kernel
theorem dL_worths_21 : decode cL_worths 21 = .ok (.if_icmp .ne 8, 3) := by decide +kernel
theorem dL_worths_24 : decode cL_worths 24 = .ok (.ldc 53, 2) := by decide +kernel
theorem dL_worths_26 : decode cL_worths 26 = .ok (.goto 4, 3) := by decide +kernel
theorem dL_worths_29 : decode cL_worths 29 = .ok (.iconst 0, 1) := by decide +kernel
theorem dL_worths_30 : decode cL_worths 30 = .ok (.istore 7, 2) := by decide +kernel
theorem dL_worths_32 : decode cL_worths 32 = .ok (.goto 47, 3) := by decide +kernel
theorem dL_worths_35 : decode cL_worths 35 = .ok (.aload 5, 2) := by decide +kernel
theorem dL_worths_37 : decode cL_worths 37 = .ok (.iconst 2, 1) := by decide +kernel
theorem dL_worths_38 : decode cL_worths 38 = .ok (.iaload, 1) := by decide +kernel
theorem dL_worths_39 : decode cL_worths 39 = .ok (.ifCond .ge 40, 3) := by decide +kernel
theorem dL_worths_42 : decode cL_worths 42 = .ok (.iload_n 1, 1) := by decide +kernel
theorem dL_worths_43 : decode cL_worths 43 = .ok (.ifCond .ne 19, 3) := by decide +kernel
theorem dL_worths_46 : decode cL_worths 46 = .ok (.aload_n 0, 1) := by decide +kernel
theorem dL_worths_47 : decode cL_worths 47 = .ok (.aload_n 2, 1) := by decide +kernel
theorem dL_worths_48 : decode cL_worths 48 = .ok (.aload 5, 2) := by decide +kernel
theorem dL_worths_50 : decode cL_worths 50 = .ok (.iconst 1, 1) := by decide +kernel
theorem dL_worths_51 : decode cL_worths 51 = .ok (.iaload, 1) := by decide +kernel
theorem dL_worths_52 : decode cL_worths 52 = .ok (.aload 5, 2) := by decide +kernel
theorem dL_worths_54 : decode cL_worths 54 = .ok (.iconst 0, 1) := by decide +kernel
theorem dL_worths_55 : decode cL_worths 55 = .ok (.iaload, 1) := by decide +kernel
theorem dL_worths_56 : decode cL_worths 56 = .ok (.invokestatic 54, 3) := by decide +kernel
theorem dL_worths_59 : decode cL_worths 59 = .ok (.goto 18, 3) := by decide +kernel
theorem dL_worths_62 : decode cL_worths 62 = .ok (.aload_n 0, 1) := by decide +kernel
theorem dL_worths_63 : decode cL_worths 63 = .ok (.aload_n 2, 1) := by decide +kernel
theorem dL_worths_64 : decode cL_worths 64 = .ok (.aload 4, 2) := by decide +kernel
theorem dL_worths_66 : decode cL_worths 66 = .ok (.aload 5, 2) := by decide +kernel
theorem dL_worths_68 : decode cL_worths 68 = .ok (.iconst 1, 1) := by decide +kernel
theorem dL_worths_69 : decode cL_worths 69 = .ok (.iaload, 1) := by decide +kernel
theorem dL_worths_70 : decode cL_worths 70 = .ok (.aload 5, 2) := by decide +kernel
theorem dL_worths_72 : decode cL_worths 72 = .ok (.iconst 0, 1) := by decide +kernel
theorem dL_worths_73 : decode cL_worths 73 = .ok (.iaload, 1) := by decide +kernel
theorem dL_worths_74 : decode cL_worths 74 = .ok (.invokestatic 60, 3) := by decide +kernel
theorem dL_worths_77 : decode cL_worths 77 = .ok (.istore 7, 2) := by decide +kernel
theorem dL_worths_79 : decode cL_worths 79 = .ok (.iconst 0, 1) := by decide +kernel
theorem dL_worths_80 : decode cL_worths 80 = .ok (.istore 9, 2) := by decide +kernel
theorem dL_worths_82 : decode cL_worths 82 = .ok (.iload 9, 2) := by decide +kernel
theorem dL_worths_84 : decode cL_worths 84 = .ok (.bipush 15, 2) := by decide +kernel
theorem dL_worths_86 : decode cL_worths 86 = .ok (.if_icmp .ge 95, 3) := by decide +kernel
theorem dL_worths_89 : decode cL_worths 89 = .ok (.aload 6, 2) := by decide +kernel
theorem dL_worths_91 : decode cL_worths 91 = .ok (.iload 9, 2) := by decide +kernel
theorem dL_worths_93 : decode cL_worths 93 = .ok (.aload 5, 2) := by decide +kernel
theorem dL_worths_95 : decode cL_worths 95 = .ok (.iconst 2, 1) := by decide +kernel
theorem dL_worths_96 : decode cL_worths 96 = .ok (.iaload, 1) := by decide +kernel
theorem dL_worths_97 : decode cL_worths 97 = .ok (.ifCond .lt 36, 3) := by decide +kernel
theorem dL_worths_100 : decode cL_worths 100 = .ok (.aload_n 2, 1) := by decide +kernel
theorem dL_worths_101 : decode cL_worths 101 = .ok (.aload 5, 2) := by decide +kernel
theorem dL_worths_103 : decode cL_worths 103 = .ok (.iconst 1, 1) := by decide +kernel
theorem dL_worths_104 : decode cL_worths 104 = .ok (.iaload, 1) := by decide +kernel
theorem dL_worths_105 : decode cL_worths 105 = .ok (.iload 9, 2) := by decide +kernel
theorem dL_worths_107 : decode cL_worths 107 = .ok (.aload 5, 2) := by decide +kernel
theorem dL_worths_109 : decode cL_worths 109 = .ok (.iconst 2, 1) := by decide +kernel
theorem dL_worths_110 : decode cL_worths 110 = .ok (.iaload, 1) := by decide +kernel
theorem dL_worths_111 : decode cL_worths 111 = .ok (.invokestatic 37, 3) := by decide +kernel
theorem dL_worths_114 : decode cL_worths 114 = .ok (.ifCond .eq 19, 3) := by decide +kernel
theorem dL_worths_117 : decode cL_worths 117 = .ok (.aload_n 0, 1) := by decide +kernel
theorem dL_worths_118 : decode cL_worths 118 = .ok (.iload 9, 2) := by decide +kernel
theorem dL_worths_120 : decode cL_worths 120 = .ok (.iload_n 1, 1) := by decide +kernel
theorem dL_worths_121 : decode cL_worths 121 = .ok (.aload_n 2, 1) := by decide +kernel
theorem dL_worths_122 : decode cL_worths 122 = .ok (.aload_n 3, 1) := by decide +kernel
theorem dL_worths_123 : decode cL_worths 123 = .ok (.aload 4, 2) := by decide +kernel
theorem dL_worths_125 : decode cL_worths 125 = .ok (.aload 5, 2) := by decide +kernel
theorem dL_worths_127 : decode cL_worths 127 = .ok (.invokestatic 64, 3) := by decide +kernel
theorem dL_worths_130 : decode cL_worths 130 = .ok (.goto 4, 3) := by decide +kernel
theorem dL_worths_133 : decode cL_worths 133 = .ok (.iconst (-1), 1) := by decide +kernel
theorem dL_worths_134 : decode cL_worths 134 = .ok (.iastore, 1) := by decide +kernel
theorem dL_worths_135 : decode cL_worths 135 = .ok (.aload 6, 2) := by decide +kernel
theorem dL_worths_137 : decode cL_worths 137 = .ok (.iload 9, 2) := by decide +kernel
theorem dL_worths_139 : decode cL_worths 139 = .ok (.iaload, 1) := by decide +kernel
theorem dL_worths_140 : decode cL_worths 140 = .ok (.iload 7, 2) := by decide +kernel
theorem dL_worths_142 : decode cL_worths 142 = .ok (.if_icmp .le 11, 3) := by decide +kernel
theorem dL_worths_145 : decode cL_worths 145 = .ok (.aload 6, 2) := by decide +kernel
theorem dL_worths_147 : decode cL_worths 147 = .ok (.iload 9, 2) := by decide +kernel
theorem dL_worths_149 : decode cL_worths 149 = .ok (.iaload, 1) := by decide +kernel
theorem dL_worths_150 : decode cL_worths 150 = .ok (.goto 5, 3) := by decide +kernel
theorem dL_worths_153 : decode cL_worths 153 = .ok (.iload 7, 2) := by decide +kernel
theorem dL_worths_155 : decode cL_worths 155 = .ok (.istore 7, 2) := by decide +kernel
theorem dL_worths_157 : decode cL_worths 157 = .ok (.iload 8, 2) := by decide +kernel
theorem dL_worths_159 : decode cL_worths 159 = .ok (.aload 6, 2) := by decide +kernel
theorem dL_worths_161 : decode cL_worths 161 = .ok (.iload 9, 2) := by decide +kernel
theorem dL_worths_163 : decode cL_worths 163 = .ok (.iaload, 1) := by decide +kernel
theorem dL_worths_164 : decode cL_worths 164 = .ok (.ifCond .ge 7, 3) := by decide +kernel
theorem dL_worths_167 : decode cL_worths 167 = .ok (.iconst 0, 1) := by decide +kernel
theorem dL_worths_168 : decode cL_worths 168 = .ok (.goto 4, 3) := by decide +kernel
theorem dL_worths_171 : decode cL_worths 171 = .ok (.iconst 1, 1) := by decide +kernel
theorem dL_worths_172 : decode cL_worths 172 = .ok (.iadd, 1) := by decide +kernel
theorem dL_worths_173 : decode cL_worths 173 = .ok (.istore 8, 2) := by decide +kernel
theorem dL_worths_175 : decode cL_worths 175 = .ok (.iinc 9 1, 3) := by decide +kernel
theorem dL_worths_178 : decode cL_worths 178 = .ok (.goto (-96), 3) := by decide +kernel
theorem dL_worths_181 : decode cL_worths 181 = .ok (.aload_n 0, 1) := by decide +kernel
theorem dL_worths_182 : decode cL_worths 182 = .ok (.iload_n 1, 1) := by decide +kernel
theorem dL_worths_183 : decode cL_worths 183 = .ok (.invokevirtual 68, 3) := by decide +kernel
theorem dL_worths_186 : decode cL_worths 186 = .ok (.aload 5, 2) := by decide +kernel
theorem dL_worths_188 : decode cL_worths 188 = .ok (.iconst 1, 1) := by decide +kernel
theorem dL_worths_189 : decode cL_worths 189 = .ok (.iaload, 1) := by decide +kernel
theorem dL_worths_190 : decode cL_worths 190 = .ok (.ifCond .ne 8, 3) := by decide +kernel
theorem dL_worths_193 : decode cL_worths 193 = .ok (.iload 7, 2) := by decide +kernel
theorem dL_worths_195 : decode cL_worths 195 = .ok (.goto 8, 3) := by decide +kernel
theorem dL_worths_198 : decode cL_worths 198 = .ok (.ldc 53, 2) := by decide +kernel
theorem dL_worths_200 : decode cL_worths 200 = .ok (.iload 7, 2) := by decide +kernel
theorem dL_worths_202 : decode cL_worths 202 = .ok (.isub, 1) := by decide +kernel
theorem dL_worths_203 : decode cL_worths 203 = .ok (.if_icmp .ne 23, 3) := by decide +kernel
theorem dL_worths_206 : decode cL_worths 206 = .ok (.aload_n 0, 1) := by decide +kernel
theorem dL_worths_207 : decode cL_worths 207 = .ok (.iload_n 1, 1) := by decide +kernel
theorem dL_worths_208 : decode cL_worths 208 = .ok (.invokevirtual 71, 3) := by decide +kernel
