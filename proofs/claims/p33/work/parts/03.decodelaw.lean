set_option maxRecDepth 20000 in
theorem dL_cell_0 : decode cL_cell 0 = .ok (.iload_n 1, 1) := by decide +kernel
set_option maxRecDepth 20000 in
theorem dL_cell_1 : decode cL_cell 1 = .ok (.aload_n 0, 1) := by decide +kernel
set_option maxRecDepth 20000 in
theorem dL_cell_2 : decode cL_cell 2 = .ok (.arraylength, 1) := by decide +kernel
set_option maxRecDepth 20000 in
theorem dL_cell_3 : decode cL_cell 3 = .ok (.if_icmp .ge 9, 3) := by decide +kernel
set_option maxRecDepth 20000 in
theorem dL_cell_6 : decode cL_cell 6 = .ok (.aload_n 0, 1) := by decide +kernel
set_option maxRecDepth 20000 in
theorem dL_cell_7 : decode cL_cell 7 = .ok (.iload_n 1, 1) := by decide +kernel
set_option maxRecDepth 20000 in
theorem dL_cell_8 : decode cL_cell 8 = .ok (.iaload, 1) := by decide +kernel
set_option maxRecDepth 20000 in
theorem dL_cell_9 : decode cL_cell 9 = .ok (.goto 12, 3) := by decide +kernel
set_option maxRecDepth 20000 in
theorem dL_cell_12 : decode cL_cell 12 = .ok (.ldc 7, 2) := by decide +kernel
set_option maxRecDepth 20000 in
theorem dL_cell_14 : decode cL_cell 14 = .ok (.iload_n 1, 1) := by decide +kernel
set_option maxRecDepth 20000 in
theorem dL_cell_15 : decode cL_cell 15 = .ok (.iconst 5, 1) := by decide +kernel
set_option maxRecDepth 20000 in
theorem dL_cell_16 : decode cL_cell 16 = .ok (.iadd, 1) := by decide +kernel
set_option maxRecDepth 20000 in
theorem dL_cell_17 : decode cL_cell 17 = .ok (.imul, 1) := by decide +kernel
set_option maxRecDepth 20000 in
theorem dL_cell_18 : decode cL_cell 18 = .ok (.ldc 8, 2) := by decide +kernel
set_option maxRecDepth 20000 in
theorem dL_cell_20 : decode cL_cell 20 = .ok (.iadd, 1) := by decide +kernel
set_option maxRecDepth 20000 in
theorem dL_cell_21 : decode cL_cell 21 = .ok (.ireturn, 1) := by decide +kernel
set_option maxRecDepth 20000 in
theorem dL_low_0 : decode cL_low 0 = .ok (.iload_n 0, 1) := by decide +kernel
set_option maxRecDepth 20000 in
theorem dL_low_1 : decode cL_low 1 = .ok (.ldc 9, 2) := by decide +kernel
set_option maxRecDepth 20000 in
theorem dL_low_3 : decode cL_low 3 = .ok (.iand, 1) := by decide +kernel
set_option maxRecDepth 20000 in
theorem dL_low_4 : decode cL_low 4 = .ok (.iload_n 1, 1) := by decide +kernel
set_option maxRecDepth 20000 in
theorem dL_low_5 : decode cL_low 5 = .ok (.irem, 1) := by decide +kernel
set_option maxRecDepth 20000 in
theorem dL_low_6 : decode cL_low 6 = .ok (.ireturn, 1) := by decide +kernel
set_option maxRecDepth 20000 in
theorem dL_look_0 : decode cL_look 0 = .ok (.iconst 0, 1) := by decide +kernel
set_option maxRecDepth 20000 in
theorem dL_look_1 : decode cL_look 1 = .ok (.istore_n 3, 1) := by decide +kernel
set_option maxRecDepth 20000 in
theorem dL_look_2 : decode cL_look 2 = .ok (.iload_n 3, 1) := by decide +kernel
set_option maxRecDepth 20000 in
theorem dL_look_3 : decode cL_look 3 = .ok (.bipush 16, 2) := by decide +kernel
set_option maxRecDepth 20000 in
theorem dL_look_5 : decode cL_look 5 = .ok (.if_icmp .ge 59, 3) := by decide +kernel
set_option maxRecDepth 20000 in
theorem dL_look_8 : decode cL_look 8 = .ok (.aload_n 1, 1) := by decide +kernel
set_option maxRecDepth 20000 in
theorem dL_look_9 : decode cL_look 9 = .ok (.iload_n 3, 1) := by decide +kernel
set_option maxRecDepth 20000 in
theorem dL_look_10 : decode cL_look 10 = .ok (.aload_n 0, 1) := by decide +kernel
set_option maxRecDepth 20000 in
theorem dL_look_11 : decode cL_look 11 = .ok (.iload_n 3, 1) := by decide +kernel
set_option maxRecDepth 20000 in
theorem dL_look_12 : decode cL_look 12 = .ok (.invokevirtual 10, 3) := by decide +kernel
set_option maxRecDepth 20000 in
theorem dL_look_15 : decode cL_look 15 = .ok (.iastore, 1) := by decide +kernel
set_option maxRecDepth 20000 in
theorem dL_look_16 : decode cL_look 16 = .ok (.aload_n 1, 1) := by decide +kernel
set_option maxRecDepth 20000 in
theorem dL_look_17 : decode cL_look 17 = .ok (.bipush 16, 2) := by decide +kernel
set_option maxRecDepth 20000 in
theorem dL_look_19 : decode cL_look 19 = .ok (.iload_n 3, 1) := by decide +kernel
set_option maxRecDepth 20000 in
theorem dL_look_20 : decode cL_look 20 = .ok (.iadd, 1) := by decide +kernel
set_option maxRecDepth 20000 in
theorem dL_look_21 : decode cL_look 21 = .ok (.aload_n 0, 1) := by decide +kernel
set_option maxRecDepth 20000 in
theorem dL_look_22 : decode cL_look 22 = .ok (.iload_n 3, 1) := by decide +kernel
set_option maxRecDepth 20000 in
theorem dL_look_23 : decode cL_look 23 = .ok (.invokevirtual 16, 3) := by decide +kernel
set_option maxRecDepth 20000 in
theorem dL_look_26 : decode cL_look 26 = .ok (.iastore, 1) := by decide +kernel
set_option maxRecDepth 20000 in
theorem dL_look_27 : decode cL_look 27 = .ok (.iconst 0, 1) := by decide +kernel
set_option maxRecDepth 20000 in
theorem dL_look_28 : decode cL_look 28 = .ok (.istore 4, 2) := by decide +kernel
set_option maxRecDepth 20000 in
theorem dL_look_30 : decode cL_look 30 = .ok (.iload 4, 2) := by decide +kernel
set_option maxRecDepth 20000 in
theorem dL_look_32 : decode cL_look 32 = .ok (.iconst 3, 1) := by decide +kernel
set_option maxRecDepth 20000 in
theorem dL_look_33 : decode cL_look 33 = .ok (.if_icmp .ge 25, 3) := by decide +kernel
set_option maxRecDepth 20000 in
theorem dL_look_36 : decode cL_look 36 = .ok (.aload_n 2, 1) := by decide +kernel
set_option maxRecDepth 20000 in
theorem dL_look_37 : decode cL_look 37 = .ok (.bipush 16, 2) := by decide +kernel
set_option maxRecDepth 20000 in
theorem dL_look_39 : decode cL_look 39 = .ok (.iload 4, 2) := by decide +kernel
set_option maxRecDepth 20000 in
theorem dL_look_41 : decode cL_look 41 = .ok (.imul, 1) := by decide +kernel
set_option maxRecDepth 20000 in
theorem dL_look_42 : decode cL_look 42 = .ok (.iload_n 3, 1) := by decide +kernel
set_option maxRecDepth 20000 in
theorem dL_look_43 : decode cL_look 43 = .ok (.iadd, 1) := by decide +kernel
set_option maxRecDepth 20000 in
theorem dL_look_44 : decode cL_look 44 = .ok (.aload_n 0, 1) := by decide +kernel
set_option maxRecDepth 20000 in
theorem dL_look_45 : decode cL_look 45 = .ok (.iload 4, 2) := by decide +kernel
set_option maxRecDepth 20000 in
theorem dL_look_47 : decode cL_look 47 = .ok (.iload_n 3, 1) := by decide +kernel
set_option maxRecDepth 20000 in
theorem dL_look_48 : decode cL_look 48 = .ok (.invokevirtual 19, 3) := by decide +kernel
set_option maxRecDepth 20000 in
theorem dL_look_51 : decode cL_look 51 = .ok (.iastore, 1) := by decide +kernel
set_option maxRecDepth 20000 in
theorem dL_look_52 : decode cL_look 52 = .ok (.iinc 4 1, 3) := by decide +kernel
set_option maxRecDepth 20000 in
theorem dL_look_55 : decode cL_look 55 = .ok (.goto (-25), 3) := by decide +kernel
set_option maxRecDepth 20000 in
theorem dL_look_58 : decode cL_look 58 = .ok (.iinc 3 1, 3) := by decide +kernel
set_option maxRecDepth 20000 in
theorem dL_look_61 : decode cL_look 61 = .ok (.goto (-59), 3) := by decide +kernel
set_option maxRecDepth 20000 in
theorem dL_look_64 : decode cL_look 64 = .ok (.return_, 1) := by decide +kernel
set_option maxRecDepth 20000 in
theorem dL_areValues_0 : decode cL_areValues 0 = .ok (.iconst 1, 1) := by decide +kernel
set_option maxRecDepth 20000 in
theorem dL_areValues_1 : decode cL_areValues 1 = .ok (.istore_n 2, 1) := by decide +kernel
set_option maxRecDepth 20000 in
theorem dL_areValues_2 : decode cL_areValues 2 = .ok (.iconst 0, 1) := by decide +kernel
set_option maxRecDepth 20000 in
theorem dL_areValues_3 : decode cL_areValues 3 = .ok (.istore_n 3, 1) := by decide +kernel
set_option maxRecDepth 20000 in
theorem dL_areValues_4 : decode cL_areValues 4 = .ok (.iload_n 3, 1) := by decide +kernel
set_option maxRecDepth 20000 in
theorem dL_areValues_5 : decode cL_areValues 5 = .ok (.bipush 16, 2) := by decide +kernel
set_option maxRecDepth 20000 in
theorem dL_areValues_7 : decode cL_areValues 7 = .ok (.if_icmp .ge 30, 3) := by decide +kernel
set_option maxRecDepth 20000 in
theorem dL_areValues_10 : decode cL_areValues 10 = .ok (.iload_n 2, 1) := by decide +kernel
set_option maxRecDepth 20000 in
theorem dL_areValues_11 : decode cL_areValues 11 = .ok (.ifCond .eq 18, 3) := by decide +kernel
set_option maxRecDepth 20000 in
theorem dL_areValues_14 : decode cL_areValues 14 = .ok (.aload_n 0, 1) := by decide +kernel
set_option maxRecDepth 20000 in
theorem dL_areValues_15 : decode cL_areValues 15 = .ok (.iload_n 3, 1) := by decide +kernel
set_option maxRecDepth 20000 in
theorem dL_areValues_16 : decode cL_areValues 16 = .ok (.invokevirtual 10, 3) := by decide +kernel
set_option maxRecDepth 20000 in
theorem dL_areValues_19 : decode cL_areValues 19 = .ok (.aload_n 1, 1) := by decide +kernel
set_option maxRecDepth 20000 in
theorem dL_areValues_20 : decode cL_areValues 20 = .ok (.iload_n 3, 1) := by decide +kernel
set_option maxRecDepth 20000 in
theorem dL_areValues_21 : decode cL_areValues 21 = .ok (.iaload, 1) := by decide +kernel
set_option maxRecDepth 20000 in
theorem dL_areValues_22 : decode cL_areValues 22 = .ok (.if_icmp .ne 7, 3) := by decide +kernel
set_option maxRecDepth 20000 in
theorem dL_areValues_25 : decode cL_areValues 25 = .ok (.iconst 1, 1) := by decide +kernel
set_option maxRecDepth 20000 in
theorem dL_areValues_26 : decode cL_areValues 26 = .ok (.goto 4, 3) := by decide +kernel
set_option maxRecDepth 20000 in
theorem dL_areValues_29 : decode cL_areValues 29 = .ok (.iconst 0, 1) := by decide +kernel
set_option maxRecDepth 20000 in
theorem dL_areValues_30 : decode cL_areValues 30 = .ok (.istore_n 2, 1) := by decide +kernel
set_option maxRecDepth 20000 in
theorem dL_areValues_31 : decode cL_areValues 31 = .ok (.iinc 3 1, 3) := by decide +kernel
set_option maxRecDepth 20000 in
theorem dL_areValues_34 : decode cL_areValues 34 = .ok (.goto (-30), 3) := by decide +kernel
set_option maxRecDepth 20000 in
theorem dL_areValues_37 : decode cL_areValues 37 = .ok (.iload_n 2, 1) := by decide +kernel
set_option maxRecDepth 20000 in
theorem dL_areValues_38 : decode cL_areValues 38 = .ok (.ireturn, 1) := by decide +kernel
set_option maxRecDepth 20000 in
theorem dL_otherModes_0 : decode cL_otherModes 0 = .ok (.iconst 0, 1) := by decide +kernel
set_option maxRecDepth 20000 in
theorem dL_otherModes_1 : decode cL_otherModes 1 = .ok (.istore_n 3, 1) := by decide +kernel
set_option maxRecDepth 20000 in
theorem dL_otherModes_2 : decode cL_otherModes 2 = .ok (.iconst 0, 1) := by decide +kernel
set_option maxRecDepth 20000 in
theorem dL_otherModes_3 : decode cL_otherModes 3 = .ok (.istore 4, 2) := by decide +kernel
set_option maxRecDepth 20000 in
theorem dL_otherModes_5 : decode cL_otherModes 5 = .ok (.iload 4, 2) := by decide +kernel
set_option maxRecDepth 20000 in
theorem dL_otherModes_7 : decode cL_otherModes 7 = .ok (.bipush 48, 2) := by decide +kernel
set_option maxRecDepth 20000 in
theorem dL_otherModes_9 : decode cL_otherModes 9 = .ok (.if_icmp .ge 47, 3) := by decide +kernel
set_option maxRecDepth 20000 in
theorem dL_otherModes_12 : decode cL_otherModes 12 = .ok (.iload_n 3, 1) := by decide +kernel
set_option maxRecDepth 20000 in
theorem dL_otherModes_13 : decode cL_otherModes 13 = .ok (.iload 4, 2) := by decide +kernel
set_option maxRecDepth 20000 in
theorem dL_otherModes_15 : decode cL_otherModes 15 = .ok (.bipush 16, 2) := by decide +kernel
set_option maxRecDepth 20000 in
theorem dL_otherModes_17 : decode cL_otherModes 17 = .ok (.idiv, 1) := by decide +kernel
set_option maxRecDepth 20000 in
theorem dL_otherModes_18 : decode cL_otherModes 18 = .ok (.iload_n 2, 1) := by decide +kernel
set_option maxRecDepth 20000 in
theorem dL_otherModes_19 : decode cL_otherModes 19 = .ok (.if_icmp .eq 28, 3) := by decide +kernel
set_option maxRecDepth 20000 in
theorem dL_otherModes_22 : decode cL_otherModes 22 = .ok (.aload_n 0, 1) := by decide +kernel
set_option maxRecDepth 20000 in
theorem dL_otherModes_23 : decode cL_otherModes 23 = .ok (.iload 4, 2) := by decide +kernel
set_option maxRecDepth 20000 in
theorem dL_otherModes_25 : decode cL_otherModes 25 = .ok (.bipush 16, 2) := by decide +kernel
set_option maxRecDepth 20000 in
theorem dL_otherModes_27 : decode cL_otherModes 27 = .ok (.idiv, 1) := by decide +kernel
set_option maxRecDepth 20000 in
theorem dL_otherModes_28 : decode cL_otherModes 28 = .ok (.iload 4, 2) := by decide +kernel
set_option maxRecDepth 20000 in
theorem dL_otherModes_30 : decode cL_otherModes 30 = .ok (.bipush 16, 2) := by decide +kernel
set_option maxRecDepth 20000 in
theorem dL_otherModes_32 : decode cL_otherModes 32 = .ok (.irem, 1) := by decide +kernel
set_option maxRecDepth 20000 in
theorem dL_otherModes_33 : decode cL_otherModes 33 = .ok (.invokevirtual 19, 3) := by decide +kernel
set_option maxRecDepth 20000 in
theorem dL_otherModes_36 : decode cL_otherModes 36 = .ok (.aload_n 1, 1) := by decide +kernel
set_option maxRecDepth 20000 in
theorem dL_otherModes_37 : decode cL_otherModes 37 = .ok (.iload 4, 2) := by decide +kernel
set_option maxRecDepth 20000 in
theorem dL_otherModes_39 : decode cL_otherModes 39 = .ok (.iaload, 1) := by decide +kernel
set_option maxRecDepth 20000 in
theorem dL_otherModes_40 : decode cL_otherModes 40 = .ok (.if_icmp .eq 7, 3) := by decide +kernel
set_option maxRecDepth 20000 in
theorem dL_otherModes_43 : decode cL_otherModes 43 = .ok (.iconst 1, 1) := by decide +kernel
set_option maxRecDepth 20000 in
theorem dL_otherModes_44 : decode cL_otherModes 44 = .ok (.goto 4, 3) := by decide +kernel
set_option maxRecDepth 20000 in
theorem dL_otherModes_47 : decode cL_otherModes 47 = .ok (.iconst 0, 1) := by decide +kernel
set_option maxRecDepth 20000 in
theorem dL_otherModes_48 : decode cL_otherModes 48 = .ok (.iadd, 1) := by decide +kernel
set_option maxRecDepth 20000 in
theorem dL_otherModes_49 : decode cL_otherModes 49 = .ok (.istore_n 3, 1) := by decide +kernel
set_option maxRecDepth 20000 in
theorem dL_otherModes_50 : decode cL_otherModes 50 = .ok (.iinc 4 1, 3) := by decide +kernel
set_option maxRecDepth 20000 in
theorem dL_otherModes_53 : decode cL_otherModes 53 = .ok (.goto (-48), 3) := by decide +kernel
set_option maxRecDepth 20000 in
theorem dL_otherModes_56 : decode cL_otherModes 56 = .ok (.iload_n 3, 1) := by decide +kernel
set_option maxRecDepth 20000 in
theorem dL_otherModes_57 : decode cL_otherModes 57 = .ok (.ireturn, 1) := by decide +kernel
set_option maxRecDepth 20000 in
theorem dL_isSession_0 : decode cL_isSession 0 = .ok (.aload_n 0, 1) := by decide +kernel
set_option maxRecDepth 20000 in
theorem dL_isSession_1 : decode cL_isSession 1 = .ok (.iload_n 1, 1) := by decide +kernel
set_option maxRecDepth 20000 in
theorem dL_isSession_2 : decode cL_isSession 2 = .ok (.iconst 1, 1) := by decide +kernel
set_option maxRecDepth 20000 in
theorem dL_isSession_3 : decode cL_isSession 3 = .ok (.invokevirtual 23, 3) := by decide +kernel
set_option maxRecDepth 20000 in
theorem dL_isSession_6 : decode cL_isSession 6 = .ok (.istore_n 2, 1) := by decide +kernel
set_option maxRecDepth 20000 in
theorem dL_isSession_7 : decode cL_isSession 7 = .ok (.iconst 0, 1) := by decide +kernel
set_option maxRecDepth 20000 in
theorem dL_isSession_8 : decode cL_isSession 8 = .ok (.istore_n 3, 1) := by decide +kernel
set_option maxRecDepth 20000 in
theorem dL_isSession_9 : decode cL_isSession 9 = .ok (.iconst 0, 1) := by decide +kernel
set_option maxRecDepth 20000 in
theorem dL_isSession_10 : decode cL_isSession 10 = .ok (.istore 4, 2) := by decide +kernel
set_option maxRecDepth 20000 in
theorem dL_isSession_12 : decode cL_isSession 12 = .ok (.aload_n 0, 1) := by decide +kernel
set_option maxRecDepth 20000 in
theorem dL_isSession_13 : decode cL_isSession 13 = .ok (.iload_n 1, 1) := by decide +kernel
set_option maxRecDepth 20000 in
theorem dL_isSession_14 : decode cL_isSession 14 = .ok (.iconst 0, 1) := by decide +kernel
set_option maxRecDepth 20000 in
theorem dL_isSession_15 : decode cL_isSession 15 = .ok (.invokevirtual 23, 3) := by decide +kernel
set_option maxRecDepth 20000 in
theorem dL_isSession_18 : decode cL_isSession 18 = .ok (.iconst 1, 1) := by decide +kernel
set_option maxRecDepth 20000 in
theorem dL_isSession_19 : decode cL_isSession 19 = .ok (.if_icmp .ne 7, 3) := by decide +kernel
set_option maxRecDepth 20000 in
theorem dL_isSession_22 : decode cL_isSession 22 = .ok (.iconst 1, 1) := by decide +kernel
set_option maxRecDepth 20000 in
theorem dL_isSession_23 : decode cL_isSession 23 = .ok (.goto 4, 3) := by decide +kernel
set_option maxRecDepth 20000 in
theorem dL_isSession_26 : decode cL_isSession 26 = .ok (.iconst 0, 1) := by decide +kernel
set_option maxRecDepth 20000 in
theorem dL_isSession_27 : decode cL_isSession 27 = .ok (.istore 5, 2) := by decide +kernel
set_option maxRecDepth 20000 in
theorem dL_isSession_29 : decode cL_isSession 29 = .ok (.iload_n 2, 1) := by decide +kernel
set_option maxRecDepth 20000 in
theorem dL_isSession_30 : decode cL_isSession 30 = .ok (.ifCond .lt 31, 3) := by decide +kernel
set_option maxRecDepth 20000 in
theorem dL_isSession_33 : decode cL_isSession 33 = .ok (.iload_n 2, 1) := by decide +kernel
set_option maxRecDepth 20000 in
theorem dL_isSession_34 : decode cL_isSession 34 = .ok (.bipush 12, 2) := by decide +kernel
set_option maxRecDepth 20000 in
theorem dL_isSession_36 : decode cL_isSession 36 = .ok (.if_icmp .gt 25, 3) := by decide +kernel
set_option maxRecDepth 20000 in
theorem dL_isSession_39 : decode cL_isSession 39 = .ok (.iload 5, 2) := by decide +kernel
set_option maxRecDepth 20000 in
theorem dL_isSession_41 : decode cL_isSession 41 = .ok (.ifCond .ne 16, 3) := by decide +kernel
set_option maxRecDepth 20000 in
theorem dL_isSession_44 : decode cL_isSession 44 = .ok (.iload_n 2, 1) := by decide +kernel
set_option maxRecDepth 20000 in
theorem dL_isSession_45 : decode cL_isSession 45 = .ok (.ifCond .ne 16, 3) := by decide +kernel
set_option maxRecDepth 20000 in
theorem dL_isSession_48 : decode cL_isSession 48 = .ok (.aload_n 0, 1) := by decide +kernel
set_option maxRecDepth 20000 in
theorem dL_isSession_49 : decode cL_isSession 49 = .ok (.iload_n 1, 1) := by decide +kernel
set_option maxRecDepth 20000 in
theorem dL_isSession_50 : decode cL_isSession 50 = .ok (.iconst 2, 1) := by decide +kernel
set_option maxRecDepth 20000 in
theorem dL_isSession_51 : decode cL_isSession 51 = .ok (.invokevirtual 23, 3) := by decide +kernel
set_option maxRecDepth 20000 in
theorem dL_isSession_54 : decode cL_isSession 54 = .ok (.ifCond .ne 7, 3) := by decide +kernel
set_option maxRecDepth 20000 in
theorem dL_isSession_57 : decode cL_isSession 57 = .ok (.iconst 1, 1) := by decide +kernel
set_option maxRecDepth 20000 in
theorem dL_isSession_58 : decode cL_isSession 58 = .ok (.goto 4, 3) := by decide +kernel
set_option maxRecDepth 20000 in
theorem dL_isSession_61 : decode cL_isSession 61 = .ok (.iconst 0, 1) := by decide +kernel
set_option maxRecDepth 20000 in
theorem dL_isSession_62 : decode cL_isSession 62 = .ok (.istore 6, 2) := by decide +kernel
set_option maxRecDepth 20000 in
theorem dL_isSession_64 : decode cL_isSession 64 = .ok (.iconst 0, 1) := by decide +kernel
set_option maxRecDepth 20000 in
theorem dL_isSession_65 : decode cL_isSession 65 = .ok (.istore 7, 2) := by decide +kernel
set_option maxRecDepth 20000 in
theorem dL_isSession_67 : decode cL_isSession 67 = .ok (.iload 7, 2) := by decide +kernel
set_option maxRecDepth 20000 in
theorem dL_isSession_69 : decode cL_isSession 69 = .ok (.bipush 16, 2) := by decide +kernel
set_option maxRecDepth 20000 in
theorem dL_isSession_71 : decode cL_isSession 71 = .ok (.if_icmp .ge 49, 3) := by decide +kernel
set_option maxRecDepth 20000 in
theorem dL_isSession_74 : decode cL_isSession 74 = .ok (.iload_n 3, 1) := by decide +kernel
set_option maxRecDepth 20000 in
theorem dL_isSession_75 : decode cL_isSession 75 = .ok (.aload_n 0, 1) := by decide +kernel
set_option maxRecDepth 20000 in
theorem dL_isSession_76 : decode cL_isSession 76 = .ok (.iload_n 1, 1) := by decide +kernel
set_option maxRecDepth 20000 in
theorem dL_isSession_77 : decode cL_isSession 77 = .ok (.iload 7, 2) := by decide +kernel
set_option maxRecDepth 20000 in
theorem dL_isSession_79 : decode cL_isSession 79 = .ok (.invokevirtual 19, 3) := by decide +kernel
set_option maxRecDepth 20000 in
theorem dL_isSession_82 : decode cL_isSession 82 = .ok (.iconst 1, 1) := by decide +kernel
set_option maxRecDepth 20000 in
theorem dL_isSession_83 : decode cL_isSession 83 = .ok (.if_icmp .ne 7, 3) := by decide +kernel
set_option maxRecDepth 20000 in
theorem dL_isSession_86 : decode cL_isSession 86 = .ok (.iconst 1, 1) := by decide +kernel
set_option maxRecDepth 20000 in
theorem dL_isSession_87 : decode cL_isSession 87 = .ok (.goto 4, 3) := by decide +kernel
set_option maxRecDepth 20000 in
theorem dL_isSession_90 : decode cL_isSession 90 = .ok (.iconst 0, 1) := by decide +kernel
set_option maxRecDepth 20000 in
theorem dL_isSession_91 : decode cL_isSession 91 = .ok (.iadd, 1) := by decide +kernel
set_option maxRecDepth 20000 in
theorem dL_isSession_92 : decode cL_isSession 92 = .ok (.istore_n 3, 1) := by decide +kernel
set_option maxRecDepth 20000 in
theorem dL_isSession_93 : decode cL_isSession 93 = .ok (.iload 4, 2) := by decide +kernel
set_option maxRecDepth 20000 in
theorem dL_isSession_95 : decode cL_isSession 95 = .ok (.aload_n 0, 1) := by decide +kernel
set_option maxRecDepth 20000 in
theorem dL_isSession_96 : decode cL_isSession 96 = .ok (.iload_n 1, 1) := by decide +kernel
set_option maxRecDepth 20000 in
theorem dL_isSession_97 : decode cL_isSession 97 = .ok (.iload 7, 2) := by decide +kernel
set_option maxRecDepth 20000 in
theorem dL_isSession_99 : decode cL_isSession 99 = .ok (.invokevirtual 19, 3) := by decide +kernel
set_option maxRecDepth 20000 in
theorem dL_isSession_102 : decode cL_isSession 102 = .ok (.iconst 2, 1) := by decide +kernel
set_option maxRecDepth 20000 in
theorem dL_isSession_103 : decode cL_isSession 103 = .ok (.if_icmp .ne 7, 3) := by decide +kernel
set_option maxRecDepth 20000 in
theorem dL_isSession_106 : decode cL_isSession 106 = .ok (.iconst 1, 1) := by decide +kernel
set_option maxRecDepth 20000 in
theorem dL_isSession_107 : decode cL_isSession 107 = .ok (.goto 4, 3) := by decide +kernel
set_option maxRecDepth 20000 in
theorem dL_isSession_110 : decode cL_isSession 110 = .ok (.iconst 0, 1) := by decide +kernel
set_option maxRecDepth 20000 in
theorem dL_isSession_111 : decode cL_isSession 111 = .ok (.iadd, 1) := by decide +kernel
set_option maxRecDepth 20000 in
theorem dL_isSession_112 : decode cL_isSession 112 = .ok (.istore 4, 2) := by decide +kernel
set_option maxRecDepth 20000 in
theorem dL_isSession_114 : decode cL_isSession 114 = .ok (.iinc 7 1, 3) := by decide +kernel
set_option maxRecDepth 20000 in
theorem dL_isSession_117 : decode cL_isSession 117 = .ok (.goto (-50), 3) := by decide +kernel
set_option maxRecDepth 20000 in
theorem dL_isSession_120 : decode cL_isSession 120 = .ok (.iload 6, 2) := by decide +kernel
set_option maxRecDepth 20000 in
theorem dL_isSession_122 : decode cL_isSession 122 = .ok (.ifCond .eq 51, 3) := by decide +kernel
set_option maxRecDepth 20000 in
theorem dL_isSession_125 : decode cL_isSession 125 = .ok (.aload_n 0, 1) := by decide +kernel
set_option maxRecDepth 20000 in
theorem dL_isSession_126 : decode cL_isSession 126 = .ok (.iload_n 1, 1) := by decide +kernel
set_option maxRecDepth 20000 in
theorem dL_isSession_127 : decode cL_isSession 127 = .ok (.iconst 3, 1) := by decide +kernel
set_option maxRecDepth 20000 in
theorem dL_isSession_128 : decode cL_isSession 128 = .ok (.invokevirtual 23, 3) := by decide +kernel
set_option maxRecDepth 20000 in
theorem dL_isSession_131 : decode cL_isSession 131 = .ok (.iload_n 3, 1) := by decide +kernel
set_option maxRecDepth 20000 in
theorem dL_isSession_132 : decode cL_isSession 132 = .ok (.if_icmp .ne 41, 3) := by decide +kernel
set_option maxRecDepth 20000 in
theorem dL_isSession_135 : decode cL_isSession 135 = .ok (.aload_n 0, 1) := by decide +kernel
set_option maxRecDepth 20000 in
theorem dL_isSession_136 : decode cL_isSession 136 = .ok (.iload_n 1, 1) := by decide +kernel
set_option maxRecDepth 20000 in
theorem dL_isSession_137 : decode cL_isSession 137 = .ok (.iconst 4, 1) := by decide +kernel
set_option maxRecDepth 20000 in
theorem dL_isSession_138 : decode cL_isSession 138 = .ok (.invokevirtual 23, 3) := by decide +kernel
set_option maxRecDepth 20000 in
theorem dL_isSession_141 : decode cL_isSession 141 = .ok (.iload 4, 2) := by decide +kernel
set_option maxRecDepth 20000 in
theorem dL_isSession_143 : decode cL_isSession 143 = .ok (.if_icmp .ne 30, 3) := by decide +kernel
set_option maxRecDepth 20000 in
theorem dL_isSession_146 : decode cL_isSession 146 = .ok (.iload 5, 2) := by decide +kernel
set_option maxRecDepth 20000 in
theorem dL_isSession_148 : decode cL_isSession 148 = .ok (.ifCond .ne 10, 3) := by decide +kernel
set_option maxRecDepth 20000 in
theorem dL_isSession_151 : decode cL_isSession 151 = .ok (.iload_n 3, 1) := by decide +kernel
set_option maxRecDepth 20000 in
theorem dL_isSession_152 : decode cL_isSession 152 = .ok (.iload 4, 2) := by decide +kernel
set_option maxRecDepth 20000 in
theorem dL_isSession_154 : decode cL_isSession 154 = .ok (.iadd, 1) := by decide +kernel
set_option maxRecDepth 20000 in
theorem dL_isSession_155 : decode cL_isSession 155 = .ok (.ifCond .ne 18, 3) := by decide +kernel
set_option maxRecDepth 20000 in
theorem dL_isSession_158 : decode cL_isSession 158 = .ok (.aload_n 0, 1) := by decide +kernel
set_option maxRecDepth 20000 in
theorem dL_isSession_159 : decode cL_isSession 159 = .ok (.iload_n 1, 1) := by decide +kernel
set_option maxRecDepth 20000 in
theorem dL_isSession_160 : decode cL_isSession 160 = .ok (.iconst 2, 1) := by decide +kernel
set_option maxRecDepth 20000 in
theorem dL_isSession_161 : decode cL_isSession 161 = .ok (.invokevirtual 23, 3) := by decide +kernel
set_option maxRecDepth 20000 in
theorem dL_isSession_164 : decode cL_isSession 164 = .ok (.iload 4, 2) := by decide +kernel
set_option maxRecDepth 20000 in
theorem dL_isSession_166 : decode cL_isSession 166 = .ok (.if_icmp .gt 7, 3) := by decide +kernel
set_option maxRecDepth 20000 in
theorem dL_isSession_169 : decode cL_isSession 169 = .ok (.iconst 1, 1) := by decide +kernel
set_option maxRecDepth 20000 in
theorem dL_isSession_170 : decode cL_isSession 170 = .ok (.goto 4, 3) := by decide +kernel
set_option maxRecDepth 20000 in
theorem dL_isSession_173 : decode cL_isSession 173 = .ok (.iconst 0, 1) := by decide +kernel
set_option maxRecDepth 20000 in
theorem dL_isSession_174 : decode cL_isSession 174 = .ok (.istore 6, 2) := by decide +kernel
set_option maxRecDepth 20000 in
theorem dL_isSession_176 : decode cL_isSession 176 = .ok (.iconst 0, 1) := by decide +kernel
set_option maxRecDepth 20000 in
theorem dL_isSession_177 : decode cL_isSession 177 = .ok (.istore 7, 2) := by decide +kernel
set_option maxRecDepth 20000 in
theorem dL_isSession_179 : decode cL_isSession 179 = .ok (.iload 7, 2) := by decide +kernel
set_option maxRecDepth 20000 in
theorem dL_isSession_181 : decode cL_isSession 181 = .ok (.iload_n 2, 1) := by decide +kernel
set_option maxRecDepth 20000 in
theorem dL_isSession_182 : decode cL_isSession 182 = .ok (.if_icmp .ge 156, 3) := by decide +kernel
set_option maxRecDepth 20000 in
theorem dL_isSession_185 : decode cL_isSession 185 = .ok (.iload 6, 2) := by decide +kernel
set_option maxRecDepth 20000 in
theorem dL_isSession_187 : decode cL_isSession 187 = .ok (.ifCond .eq 151, 3) := by decide +kernel
set_option maxRecDepth 20000 in
theorem dL_isSession_190 : decode cL_isSession 190 = .ok (.aload_n 0, 1) := by decide +kernel
set_option maxRecDepth 20000 in
theorem dL_isSession_191 : decode cL_isSession 191 = .ok (.iload_n 1, 1) := by decide +kernel
set_option maxRecDepth 20000 in
theorem dL_isSession_192 : decode cL_isSession 192 = .ok (.iload 7, 2) := by decide +kernel
set_option maxRecDepth 20000 in
theorem dL_isSession_194 : decode cL_isSession 194 = .ok (.iconst 0, 1) := by decide +kernel
set_option maxRecDepth 20000 in
theorem dL_isSession_195 : decode cL_isSession 195 = .ok (.invokevirtual 26, 3) := by decide +kernel
set_option maxRecDepth 20000 in
theorem dL_isSession_198 : decode cL_isSession 198 = .ok (.istore 8, 2) := by decide +kernel
set_option maxRecDepth 20000 in
theorem dL_isSession_200 : decode cL_isSession 200 = .ok (.aload_n 0, 1) := by decide +kernel
set_option maxRecDepth 20000 in
theorem dL_isSession_201 : decode cL_isSession 201 = .ok (.iload_n 1, 1) := by decide +kernel
set_option maxRecDepth 20000 in
theorem dL_isSession_202 : decode cL_isSession 202 = .ok (.iload 7, 2) := by decide +kernel
set_option maxRecDepth 20000 in
theorem dL_isSession_204 : decode cL_isSession 204 = .ok (.iconst 1, 1) := by decide +kernel
set_option maxRecDepth 20000 in
theorem dL_isSession_205 : decode cL_isSession 205 = .ok (.invokevirtual 26, 3) := by decide +kernel
set_option maxRecDepth 20000 in
theorem dL_isSession_208 : decode cL_isSession 208 = .ok (.istore 9, 2) := by decide +kernel
set_option maxRecDepth 20000 in
theorem dL_isSession_210 : decode cL_isSession 210 = .ok (.iload 8, 2) := by decide +kernel
set_option maxRecDepth 20000 in
theorem dL_isSession_212 : decode cL_isSession 212 = .ok (.ifCond .lt 68, 3) := by decide +kernel
set_option maxRecDepth 20000 in
theorem dL_isSession_215 : decode cL_isSession 215 = .ok (.iload 7, 2) := by decide +kernel
set_option maxRecDepth 20000 in
theorem dL_isSession_217 : decode cL_isSession 217 = .ok (.iconst 1, 1) := by decide +kernel
set_option maxRecDepth 20000 in
theorem dL_isSession_218 : decode cL_isSession 218 = .ok (.iadd, 1) := by decide +kernel
set_option maxRecDepth 20000 in
theorem dL_isSession_219 : decode cL_isSession 219 = .ok (.iload_n 2, 1) := by decide +kernel
set_option maxRecDepth 20000 in
theorem dL_isSession_220 : decode cL_isSession 220 = .ok (.if_icmp .eq 39, 3) := by decide +kernel
set_option maxRecDepth 20000 in
theorem dL_isSession_223 : decode cL_isSession 223 = .ok (.aload_n 0, 1) := by decide +kernel
set_option maxRecDepth 20000 in
theorem dL_isSession_224 : decode cL_isSession 224 = .ok (.iload_n 1, 1) := by decide +kernel
set_option maxRecDepth 20000 in
theorem dL_isSession_225 : decode cL_isSession 225 = .ok (.iload 7, 2) := by decide +kernel
set_option maxRecDepth 20000 in
theorem dL_isSession_227 : decode cL_isSession 227 = .ok (.iconst 1, 1) := by decide +kernel
set_option maxRecDepth 20000 in
theorem dL_isSession_228 : decode cL_isSession 228 = .ok (.iadd, 1) := by decide +kernel
set_option maxRecDepth 20000 in
theorem dL_isSession_229 : decode cL_isSession 229 = .ok (.iconst 0, 1) := by decide +kernel
set_option maxRecDepth 20000 in
theorem dL_isSession_230 : decode cL_isSession 230 = .ok (.invokevirtual 26, 3) := by decide +kernel
set_option maxRecDepth 20000 in
theorem dL_isSession_233 : decode cL_isSession 233 = .ok (.iload 8, 2) := by decide +kernel
set_option maxRecDepth 20000 in
theorem dL_isSession_235 : decode cL_isSession 235 = .ok (.iconst (-1), 1) := by decide +kernel
set_option maxRecDepth 20000 in
theorem dL_isSession_236 : decode cL_isSession 236 = .ok (.ixor, 1) := by decide +kernel
set_option maxRecDepth 20000 in
theorem dL_isSession_237 : decode cL_isSession 237 = .ok (.iand, 1) := by decide +kernel
set_option maxRecDepth 20000 in
theorem dL_isSession_238 : decode cL_isSession 238 = .ok (.ifCond .ne 42, 3) := by decide +kernel
set_option maxRecDepth 20000 in
theorem dL_isSession_241 : decode cL_isSession 241 = .ok (.aload_n 0, 1) := by decide +kernel
set_option maxRecDepth 20000 in
theorem dL_isSession_242 : decode cL_isSession 242 = .ok (.iload_n 1, 1) := by decide +kernel
set_option maxRecDepth 20000 in
theorem dL_isSession_243 : decode cL_isSession 243 = .ok (.iload 7, 2) := by decide +kernel
set_option maxRecDepth 20000 in
theorem dL_isSession_245 : decode cL_isSession 245 = .ok (.iconst 1, 1) := by decide +kernel
set_option maxRecDepth 20000 in
theorem dL_isSession_246 : decode cL_isSession 246 = .ok (.iadd, 1) := by decide +kernel
set_option maxRecDepth 20000 in
theorem dL_isSession_247 : decode cL_isSession 247 = .ok (.iconst 1, 1) := by decide +kernel
set_option maxRecDepth 20000 in
theorem dL_isSession_248 : decode cL_isSession 248 = .ok (.invokevirtual 26, 3) := by decide +kernel
set_option maxRecDepth 20000 in
theorem dL_isSession_251 : decode cL_isSession 251 = .ok (.iload 9, 2) := by decide +kernel
set_option maxRecDepth 20000 in
theorem dL_isSession_253 : decode cL_isSession 253 = .ok (.iconst (-1), 1) := by decide +kernel
set_option maxRecDepth 20000 in
theorem dL_isSession_254 : decode cL_isSession 254 = .ok (.ixor, 1) := by decide +kernel
set_option maxRecDepth 20000 in
theorem dL_isSession_255 : decode cL_isSession 255 = .ok (.iand, 1) := by decide +kernel
set_option maxRecDepth 20000 in
theorem dL_isSession_256 : decode cL_isSession 256 = .ok (.ifCond .ne 24, 3) := by decide +kernel
set_option maxRecDepth 20000 in
theorem dL_isSession_259 : decode cL_isSession 259 = .ok (.aload_n 0, 1) := by decide +kernel
set_option maxRecDepth 20000 in
theorem dL_isSession_260 : decode cL_isSession 260 = .ok (.iload_n 1, 1) := by decide +kernel
set_option maxRecDepth 20000 in
theorem dL_isSession_261 : decode cL_isSession 261 = .ok (.aload_n 0, 1) := by decide +kernel
set_option maxRecDepth 20000 in
theorem dL_isSession_262 : decode cL_isSession 262 = .ok (.iload_n 1, 1) := by decide +kernel
set_option maxRecDepth 20000 in
theorem dL_isSession_263 : decode cL_isSession 263 = .ok (.iload 7, 2) := by decide +kernel
set_option maxRecDepth 20000 in
theorem dL_isSession_265 : decode cL_isSession 265 = .ok (.invokevirtual 30, 3) := by decide +kernel
set_option maxRecDepth 20000 in
theorem dL_isSession_268 : decode cL_isSession 268 = .ok (.invokevirtual 33, 3) := by decide +kernel
set_option maxRecDepth 20000 in
theorem dL_isSession_271 : decode cL_isSession 271 = .ok (.iload 7, 2) := by decide +kernel
set_option maxRecDepth 20000 in
theorem dL_isSession_273 : decode cL_isSession 273 = .ok (.if_icmp .lt 7, 3) := by decide +kernel
set_option maxRecDepth 20000 in
theorem dL_isSession_276 : decode cL_isSession 276 = .ok (.iconst 1, 1) := by decide +kernel
set_option maxRecDepth 20000 in
theorem dL_isSession_277 : decode cL_isSession 277 = .ok (.goto 4, 3) := by decide +kernel
set_option maxRecDepth 20000 in
theorem dL_isSession_280 : decode cL_isSession 280 = .ok (.iconst 0, 1) := by decide +kernel
set_option maxRecDepth 20000 in
theorem dL_isSession_281 : decode cL_isSession 281 = .ok (.istore 6, 2) := by decide +kernel
set_option maxRecDepth 20000 in
theorem dL_isSession_283 : decode cL_isSession 283 = .ok (.iconst 0, 1) := by decide +kernel
set_option maxRecDepth 20000 in
theorem dL_isSession_284 : decode cL_isSession 284 = .ok (.istore 10, 2) := by decide +kernel
set_option maxRecDepth 20000 in
theorem dL_isSession_286 : decode cL_isSession 286 = .ok (.iload 10, 2) := by decide +kernel
set_option maxRecDepth 20000 in
theorem dL_isSession_288 : decode cL_isSession 288 = .ok (.bipush 16, 2) := by decide +kernel
set_option maxRecDepth 20000 in
theorem dL_isSession_290 : decode cL_isSession 290 = .ok (.if_icmp .ge 42, 3) := by decide +kernel
set_option maxRecDepth 20000 in
theorem dL_isSession_293 : decode cL_isSession 293 = .ok (.iload 6, 2) := by decide +kernel
set_option maxRecDepth 20000 in
theorem dL_isSession_295 : decode cL_isSession 295 = .ok (.ifCond .eq 37, 3) := by decide +kernel
set_option maxRecDepth 20000 in
theorem dL_isSession_298 : decode cL_isSession 298 = .ok (.iload 8, 2) := by decide +kernel
set_option maxRecDepth 20000 in
theorem dL_isSession_300 : decode cL_isSession 300 = .ok (.iload 10, 2) := by decide +kernel
set_option maxRecDepth 20000 in
theorem dL_isSession_302 : decode cL_isSession 302 = .ok (.ishr, 1) := by decide +kernel
set_option maxRecDepth 20000 in
theorem dL_isSession_303 : decode cL_isSession 303 = .ok (.iconst 1, 1) := by decide +kernel
set_option maxRecDepth 20000 in
theorem dL_isSession_304 : decode cL_isSession 304 = .ok (.iand, 1) := by decide +kernel
set_option maxRecDepth 20000 in
theorem dL_isSession_305 : decode cL_isSession 305 = .ok (.ifCond .eq 14, 3) := by decide +kernel
set_option maxRecDepth 20000 in
theorem dL_isSession_308 : decode cL_isSession 308 = .ok (.aload_n 0, 1) := by decide +kernel
set_option maxRecDepth 20000 in
theorem dL_isSession_309 : decode cL_isSession 309 = .ok (.iload_n 1, 1) := by decide +kernel
set_option maxRecDepth 20000 in
theorem dL_isSession_310 : decode cL_isSession 310 = .ok (.iload 10, 2) := by decide +kernel
set_option maxRecDepth 20000 in
theorem dL_isSession_312 : decode cL_isSession 312 = .ok (.invokevirtual 19, 3) := by decide +kernel
set_option maxRecDepth 20000 in
theorem dL_isSession_315 : decode cL_isSession 315 = .ok (.iconst 2, 1) := by decide +kernel
set_option maxRecDepth 20000 in
theorem dL_isSession_316 : decode cL_isSession 316 = .ok (.if_icmp .ne 7, 3) := by decide +kernel
set_option maxRecDepth 20000 in
theorem dL_isSession_319 : decode cL_isSession 319 = .ok (.iconst 1, 1) := by decide +kernel
set_option maxRecDepth 20000 in
theorem dL_isSession_320 : decode cL_isSession 320 = .ok (.goto 4, 3) := by decide +kernel
set_option maxRecDepth 20000 in
theorem dL_isSession_323 : decode cL_isSession 323 = .ok (.iconst 0, 1) := by decide +kernel
set_option maxRecDepth 20000 in
theorem dL_isSession_324 : decode cL_isSession 324 = .ok (.istore 6, 2) := by decide +kernel
set_option maxRecDepth 20000 in
theorem dL_isSession_326 : decode cL_isSession 326 = .ok (.iinc 10 1, 3) := by decide +kernel
set_option maxRecDepth 20000 in
theorem dL_isSession_329 : decode cL_isSession 329 = .ok (.goto (-43), 3) := by decide +kernel
set_option maxRecDepth 20000 in
theorem dL_isSession_332 : decode cL_isSession 332 = .ok (.iinc 7 1, 3) := by decide +kernel
set_option maxRecDepth 20000 in
theorem dL_isSession_335 : decode cL_isSession 335 = .ok (.goto (-156), 3) := by decide +kernel
set_option maxRecDepth 20000 in
theorem dL_isSession_338 : decode cL_isSession 338 = .ok (.iconst 0, 1) := by decide +kernel
set_option maxRecDepth 20000 in
theorem dL_isSession_339 : decode cL_isSession 339 = .ok (.istore 7, 2) := by decide +kernel
set_option maxRecDepth 20000 in
theorem dL_isSession_341 : decode cL_isSession 341 = .ok (.iload 7, 2) := by decide +kernel
set_option maxRecDepth 20000 in
theorem dL_isSession_343 : decode cL_isSession 343 = .ok (.bipush 8, 2) := by decide +kernel
set_option maxRecDepth 20000 in
theorem dL_isSession_345 : decode cL_isSession 345 = .ok (.if_icmp .ge 73, 3) := by decide +kernel
set_option maxRecDepth 20000 in
theorem dL_isSession_348 : decode cL_isSession 348 = .ok (.iload 6, 2) := by decide +kernel
set_option maxRecDepth 20000 in
theorem dL_isSession_350 : decode cL_isSession 350 = .ok (.ifCond .eq 68, 3) := by decide +kernel
set_option maxRecDepth 20000 in
theorem dL_isSession_353 : decode cL_isSession 353 = .ok (.bipush (-5), 2) := by decide +kernel
set_option maxRecDepth 20000 in
theorem dL_isSession_355 : decode cL_isSession 355 = .ok (.istore 8, 2) := by decide +kernel
set_option maxRecDepth 20000 in
theorem dL_isSession_357 : decode cL_isSession 357 = .ok (.iconst 0, 1) := by decide +kernel
set_option maxRecDepth 20000 in
theorem dL_isSession_358 : decode cL_isSession 358 = .ok (.istore 9, 2) := by decide +kernel
set_option maxRecDepth 20000 in
theorem dL_isSession_360 : decode cL_isSession 360 = .ok (.iload 9, 2) := by decide +kernel
set_option maxRecDepth 20000 in
theorem dL_isSession_362 : decode cL_isSession 362 = .ok (.iload_n 2, 1) := by decide +kernel
set_option maxRecDepth 20000 in
theorem dL_isSession_363 : decode cL_isSession 363 = .ok (.if_icmp .ge 30, 3) := by decide +kernel
set_option maxRecDepth 20000 in
theorem dL_isSession_366 : decode cL_isSession 366 = .ok (.aload_n 0, 1) := by decide +kernel
set_option maxRecDepth 20000 in
theorem dL_isSession_367 : decode cL_isSession 367 = .ok (.iload_n 1, 1) := by decide +kernel
set_option maxRecDepth 20000 in
theorem dL_isSession_368 : decode cL_isSession 368 = .ok (.iload 9, 2) := by decide +kernel
set_option maxRecDepth 20000 in
theorem dL_isSession_370 : decode cL_isSession 370 = .ok (.invokevirtual 30, 3) := by decide +kernel
set_option maxRecDepth 20000 in
theorem dL_isSession_373 : decode cL_isSession 373 = .ok (.iload 7, 2) := by decide +kernel
set_option maxRecDepth 20000 in
theorem dL_isSession_375 : decode cL_isSession 375 = .ok (.if_icmp .ne 8, 3) := by decide +kernel
set_option maxRecDepth 20000 in
theorem dL_isSession_378 : decode cL_isSession 378 = .ok (.iload 9, 2) := by decide +kernel
set_option maxRecDepth 20000 in
theorem dL_isSession_380 : decode cL_isSession 380 = .ok (.goto 5, 3) := by decide +kernel
set_option maxRecDepth 20000 in
theorem dL_isSession_383 : decode cL_isSession 383 = .ok (.iload 8, 2) := by decide +kernel
set_option maxRecDepth 20000 in
theorem dL_isSession_385 : decode cL_isSession 385 = .ok (.istore 8, 2) := by decide +kernel
set_option maxRecDepth 20000 in
theorem dL_isSession_387 : decode cL_isSession 387 = .ok (.iinc 9 1, 3) := by decide +kernel
set_option maxRecDepth 20000 in
theorem dL_isSession_390 : decode cL_isSession 390 = .ok (.goto (-30), 3) := by decide +kernel
set_option maxRecDepth 20000 in
theorem dL_isSession_393 : decode cL_isSession 393 = .ok (.aload_n 0, 1) := by decide +kernel
set_option maxRecDepth 20000 in
theorem dL_isSession_394 : decode cL_isSession 394 = .ok (.iload_n 1, 1) := by decide +kernel
set_option maxRecDepth 20000 in
theorem dL_isSession_395 : decode cL_isSession 395 = .ok (.iload 7, 2) := by decide +kernel
set_option maxRecDepth 20000 in
theorem dL_isSession_397 : decode cL_isSession 397 = .ok (.invokevirtual 33, 3) := by decide +kernel
set_option maxRecDepth 20000 in
theorem dL_isSession_400 : decode cL_isSession 400 = .ok (.iload 8, 2) := by decide +kernel
set_option maxRecDepth 20000 in
theorem dL_isSession_402 : decode cL_isSession 402 = .ok (.if_icmp .ne 7, 3) := by decide +kernel
set_option maxRecDepth 20000 in
theorem dL_isSession_405 : decode cL_isSession 405 = .ok (.iconst 1, 1) := by decide +kernel
set_option maxRecDepth 20000 in
theorem dL_isSession_406 : decode cL_isSession 406 = .ok (.goto 4, 3) := by decide +kernel
set_option maxRecDepth 20000 in
theorem dL_isSession_409 : decode cL_isSession 409 = .ok (.iconst 0, 1) := by decide +kernel
set_option maxRecDepth 20000 in
theorem dL_isSession_410 : decode cL_isSession 410 = .ok (.istore 6, 2) := by decide +kernel
set_option maxRecDepth 20000 in
theorem dL_isSession_412 : decode cL_isSession 412 = .ok (.iinc 7 1, 3) := by decide +kernel
set_option maxRecDepth 20000 in
theorem dL_isSession_415 : decode cL_isSession 415 = .ok (.goto (-74), 3) := by decide +kernel
set_option maxRecDepth 20000 in
theorem dL_isSession_418 : decode cL_isSession 418 = .ok (.iload 6, 2) := by decide +kernel
set_option maxRecDepth 20000 in
theorem dL_isSession_420 : decode cL_isSession 420 = .ok (.ireturn, 1) := by decide +kernel
set_option maxRecDepth 20000 in
theorem dL_holds_0 : decode cL_holds 0 = .ok (.iconst 0, 1) := by decide +kernel
set_option maxRecDepth 20000 in
theorem dL_holds_1 : decode cL_holds 1 = .ok (.istore_n 1, 1) := by decide +kernel
set_option maxRecDepth 20000 in
theorem dL_holds_2 : decode cL_holds 2 = .ok (.iconst 0, 1) := by decide +kernel
set_option maxRecDepth 20000 in
theorem dL_holds_3 : decode cL_holds 3 = .ok (.istore_n 2, 1) := by decide +kernel
set_option maxRecDepth 20000 in
theorem dL_holds_4 : decode cL_holds 4 = .ok (.iconst 0, 1) := by decide +kernel
set_option maxRecDepth 20000 in
theorem dL_holds_5 : decode cL_holds 5 = .ok (.istore_n 3, 1) := by decide +kernel
set_option maxRecDepth 20000 in
theorem dL_holds_6 : decode cL_holds 6 = .ok (.iload_n 3, 1) := by decide +kernel
set_option maxRecDepth 20000 in
theorem dL_holds_7 : decode cL_holds 7 = .ok (.bipush 16, 2) := by decide +kernel
set_option maxRecDepth 20000 in
theorem dL_holds_9 : decode cL_holds 9 = .ok (.if_icmp .ge 138, 3) := by decide +kernel
set_option maxRecDepth 20000 in
theorem dL_holds_12 : decode cL_holds 12 = .ok (.iconst 0, 1) := by decide +kernel
set_option maxRecDepth 20000 in
theorem dL_holds_13 : decode cL_holds 13 = .ok (.istore 4, 2) := by decide +kernel
set_option maxRecDepth 20000 in
theorem dL_holds_15 : decode cL_holds 15 = .ok (.iconst 0, 1) := by decide +kernel
set_option maxRecDepth 20000 in
theorem dL_holds_16 : decode cL_holds 16 = .ok (.istore 5, 2) := by decide +kernel
set_option maxRecDepth 20000 in
theorem dL_holds_18 : decode cL_holds 18 = .ok (.iconst 0, 1) := by decide +kernel
set_option maxRecDepth 20000 in
theorem dL_holds_19 : decode cL_holds 19 = .ok (.istore 6, 2) := by decide +kernel
set_option maxRecDepth 20000 in
theorem dL_holds_21 : decode cL_holds 21 = .ok (.iload 6, 2) := by decide +kernel
set_option maxRecDepth 20000 in
theorem dL_holds_23 : decode cL_holds 23 = .ok (.iconst 3, 1) := by decide +kernel
set_option maxRecDepth 20000 in
theorem dL_holds_24 : decode cL_holds 24 = .ok (.if_icmp .ge 50, 3) := by decide +kernel
set_option maxRecDepth 20000 in
theorem dL_holds_27 : decode cL_holds 27 = .ok (.iload 4, 2) := by decide +kernel
set_option maxRecDepth 20000 in
theorem dL_holds_29 : decode cL_holds 29 = .ok (.aload_n 0, 1) := by decide +kernel
set_option maxRecDepth 20000 in
theorem dL_holds_30 : decode cL_holds 30 = .ok (.iload 6, 2) := by decide +kernel
set_option maxRecDepth 20000 in
theorem dL_holds_32 : decode cL_holds 32 = .ok (.iload_n 3, 1) := by decide +kernel
set_option maxRecDepth 20000 in
theorem dL_holds_33 : decode cL_holds 33 = .ok (.invokevirtual 19, 3) := by decide +kernel
set_option maxRecDepth 20000 in
theorem dL_holds_36 : decode cL_holds 36 = .ok (.iconst 2, 1) := by decide +kernel
set_option maxRecDepth 20000 in
theorem dL_holds_37 : decode cL_holds 37 = .ok (.if_icmp .ne 7, 3) := by decide +kernel
set_option maxRecDepth 20000 in
theorem dL_holds_40 : decode cL_holds 40 = .ok (.iconst 1, 1) := by decide +kernel
set_option maxRecDepth 20000 in
theorem dL_holds_41 : decode cL_holds 41 = .ok (.goto 4, 3) := by decide +kernel
set_option maxRecDepth 20000 in
theorem dL_holds_44 : decode cL_holds 44 = .ok (.iconst 0, 1) := by decide +kernel
set_option maxRecDepth 20000 in
theorem dL_holds_45 : decode cL_holds 45 = .ok (.iadd, 1) := by decide +kernel
set_option maxRecDepth 20000 in
theorem dL_holds_46 : decode cL_holds 46 = .ok (.istore 4, 2) := by decide +kernel
set_option maxRecDepth 20000 in
theorem dL_holds_48 : decode cL_holds 48 = .ok (.iload 5, 2) := by decide +kernel
set_option maxRecDepth 20000 in
theorem dL_holds_50 : decode cL_holds 50 = .ok (.aload_n 0, 1) := by decide +kernel
set_option maxRecDepth 20000 in
theorem dL_holds_51 : decode cL_holds 51 = .ok (.iload 6, 2) := by decide +kernel
set_option maxRecDepth 20000 in
theorem dL_holds_53 : decode cL_holds 53 = .ok (.iload_n 3, 1) := by decide +kernel
set_option maxRecDepth 20000 in
theorem dL_holds_54 : decode cL_holds 54 = .ok (.invokevirtual 19, 3) := by decide +kernel
set_option maxRecDepth 20000 in
theorem dL_holds_57 : decode cL_holds 57 = .ok (.ifCond .le 7, 3) := by decide +kernel
set_option maxRecDepth 20000 in
theorem dL_holds_60 : decode cL_holds 60 = .ok (.iconst 1, 1) := by decide +kernel
set_option maxRecDepth 20000 in
theorem dL_holds_61 : decode cL_holds 61 = .ok (.goto 4, 3) := by decide +kernel
set_option maxRecDepth 20000 in
theorem dL_holds_64 : decode cL_holds 64 = .ok (.iconst 0, 1) := by decide +kernel
set_option maxRecDepth 20000 in
theorem dL_holds_65 : decode cL_holds 65 = .ok (.iadd, 1) := by decide +kernel
set_option maxRecDepth 20000 in
theorem dL_holds_66 : decode cL_holds 66 = .ok (.istore 5, 2) := by decide +kernel
set_option maxRecDepth 20000 in
theorem dL_holds_68 : decode cL_holds 68 = .ok (.iinc 6 1, 3) := by decide +kernel
set_option maxRecDepth 20000 in
theorem dL_holds_71 : decode cL_holds 71 = .ok (.goto (-50), 3) := by decide +kernel
set_option maxRecDepth 20000 in
theorem dL_holds_74 : decode cL_holds 74 = .ok (.iload 4, 2) := by decide +kernel
set_option maxRecDepth 20000 in
theorem dL_holds_76 : decode cL_holds 76 = .ok (.ifCond .le 9, 3) := by decide +kernel
set_option maxRecDepth 20000 in
theorem dL_holds_79 : decode cL_holds 79 = .ok (.iload 5, 2) := by decide +kernel
set_option maxRecDepth 20000 in
theorem dL_holds_81 : decode cL_holds 81 = .ok (.iconst 1, 1) := by decide +kernel
set_option maxRecDepth 20000 in
theorem dL_holds_82 : decode cL_holds 82 = .ok (.if_icmp .gt 21, 3) := by decide +kernel
set_option maxRecDepth 20000 in
theorem dL_holds_85 : decode cL_holds 85 = .ok (.iload 4, 2) := by decide +kernel
set_option maxRecDepth 20000 in
theorem dL_holds_87 : decode cL_holds 87 = .ok (.ifCond .ne 18, 3) := by decide +kernel
set_option maxRecDepth 20000 in
theorem dL_holds_90 : decode cL_holds 90 = .ok (.aload_n 0, 1) := by decide +kernel
set_option maxRecDepth 20000 in
theorem dL_holds_91 : decode cL_holds 91 = .ok (.iload_n 3, 1) := by decide +kernel
set_option maxRecDepth 20000 in
theorem dL_holds_92 : decode cL_holds 92 = .ok (.invokevirtual 16, 3) := by decide +kernel
set_option maxRecDepth 20000 in
theorem dL_holds_95 : decode cL_holds 95 = .ok (.aload_n 0, 1) := by decide +kernel
set_option maxRecDepth 20000 in
theorem dL_holds_96 : decode cL_holds 96 = .ok (.iload_n 3, 1) := by decide +kernel
set_option maxRecDepth 20000 in
theorem dL_holds_97 : decode cL_holds 97 = .ok (.invokevirtual 10, 3) := by decide +kernel
set_option maxRecDepth 20000 in
theorem dL_holds_100 : decode cL_holds 100 = .ok (.if_icmp .eq 5, 3) := by decide +kernel
set_option maxRecDepth 20000 in
theorem dL_holds_103 : decode cL_holds 103 = .ok (.iconst 0, 1) := by decide +kernel
set_option maxRecDepth 20000 in
theorem dL_holds_104 : decode cL_holds 104 = .ok (.ireturn, 1) := by decide +kernel
set_option maxRecDepth 20000 in
theorem dL_holds_105 : decode cL_holds 105 = .ok (.iload_n 1, 1) := by decide +kernel
set_option maxRecDepth 20000 in
theorem dL_holds_106 : decode cL_holds 106 = .ok (.aload_n 0, 1) := by decide +kernel
set_option maxRecDepth 20000 in
theorem dL_holds_107 : decode cL_holds 107 = .ok (.iload_n 3, 1) := by decide +kernel
set_option maxRecDepth 20000 in
theorem dL_holds_108 : decode cL_holds 108 = .ok (.invokevirtual 10, 3) := by decide +kernel
set_option maxRecDepth 20000 in
theorem dL_holds_111 : decode cL_holds 111 = .ok (.ifCond .ge 7, 3) := by decide +kernel
set_option maxRecDepth 20000 in
theorem dL_holds_114 : decode cL_holds 114 = .ok (.iconst 0, 1) := by decide +kernel
set_option maxRecDepth 20000 in
theorem dL_holds_115 : decode cL_holds 115 = .ok (.goto 4, 3) := by decide +kernel
set_option maxRecDepth 20000 in
theorem dL_holds_118 : decode cL_holds 118 = .ok (.iconst 1, 1) := by decide +kernel
set_option maxRecDepth 20000 in
theorem dL_holds_119 : decode cL_holds 119 = .ok (.iadd, 1) := by decide +kernel
set_option maxRecDepth 20000 in
theorem dL_holds_120 : decode cL_holds 120 = .ok (.istore_n 1, 1) := by decide +kernel
set_option maxRecDepth 20000 in
theorem dL_holds_121 : decode cL_holds 121 = .ok (.iload_n 2, 1) := by decide +kernel
set_option maxRecDepth 20000 in
theorem dL_holds_122 : decode cL_holds 122 = .ok (.aload_n 0, 1) := by decide +kernel
set_option maxRecDepth 20000 in
theorem dL_holds_123 : decode cL_holds 123 = .ok (.iload_n 3, 1) := by decide +kernel
set_option maxRecDepth 20000 in
theorem dL_holds_124 : decode cL_holds 124 = .ok (.invokevirtual 10, 3) := by decide +kernel
set_option maxRecDepth 20000 in
theorem dL_holds_127 : decode cL_holds 127 = .ok (.ifCond .ge 7, 3) := by decide +kernel
set_option maxRecDepth 20000 in
theorem dL_holds_130 : decode cL_holds 130 = .ok (.iconst 0, 1) := by decide +kernel
set_option maxRecDepth 20000 in
theorem dL_holds_131 : decode cL_holds 131 = .ok (.goto 8, 3) := by decide +kernel
set_option maxRecDepth 20000 in
theorem dL_holds_134 : decode cL_holds 134 = .ok (.aload_n 0, 1) := by decide +kernel
set_option maxRecDepth 20000 in
theorem dL_holds_135 : decode cL_holds 135 = .ok (.iload_n 3, 1) := by decide +kernel
set_option maxRecDepth 20000 in
theorem dL_holds_136 : decode cL_holds 136 = .ok (.invokevirtual 10, 3) := by decide +kernel
set_option maxRecDepth 20000 in
theorem dL_holds_139 : decode cL_holds 139 = .ok (.iadd, 1) := by decide +kernel
set_option maxRecDepth 20000 in
theorem dL_holds_140 : decode cL_holds 140 = .ok (.istore_n 2, 1) := by decide +kernel
set_option maxRecDepth 20000 in
theorem dL_holds_141 : decode cL_holds 141 = .ok (.iinc 3 1, 3) := by decide +kernel
set_option maxRecDepth 20000 in
theorem dL_holds_144 : decode cL_holds 144 = .ok (.goto (-138), 3) := by decide +kernel
set_option maxRecDepth 20000 in
theorem dL_holds_147 : decode cL_holds 147 = .ok (.aload_n 0, 1) := by decide +kernel
set_option maxRecDepth 20000 in
theorem dL_holds_148 : decode cL_holds 148 = .ok (.invokevirtual 36, 3) := by decide +kernel
set_option maxRecDepth 20000 in
theorem dL_holds_151 : decode cL_holds 151 = .ok (.iload_n 1, 1) := by decide +kernel
set_option maxRecDepth 20000 in
theorem dL_holds_152 : decode cL_holds 152 = .ok (.ifCond .ne 7, 3) := by decide +kernel
set_option maxRecDepth 20000 in
theorem dL_holds_155 : decode cL_holds 155 = .ok (.dconst 0, 1) := by decide +kernel
set_option maxRecDepth 20000 in
theorem dL_holds_156 : decode cL_holds 156 = .ok (.goto 8, 3) := by decide +kernel
set_option maxRecDepth 20000 in
theorem dL_holds_159 : decode cL_holds 159 = .ok (.iload_n 2, 1) := by decide +kernel
set_option maxRecDepth 20000 in
theorem dL_holds_160 : decode cL_holds 160 = .ok (.i2d, 1) := by decide +kernel
set_option maxRecDepth 20000 in
theorem dL_holds_161 : decode cL_holds 161 = .ok (.iload_n 1, 1) := by decide +kernel
set_option maxRecDepth 20000 in
theorem dL_holds_162 : decode cL_holds 162 = .ok (.i2d, 1) := by decide +kernel
set_option maxRecDepth 20000 in
theorem dL_holds_163 : decode cL_holds 163 = .ok (.ddiv, 1) := by decide +kernel
set_option maxRecDepth 20000 in
theorem dL_holds_164 : decode cL_holds 164 = .ok (.dcmp .l, 1) := by decide +kernel
set_option maxRecDepth 20000 in
theorem dL_holds_165 : decode cL_holds 165 = .ok (.ifCond .ne 31, 3) := by decide +kernel
set_option maxRecDepth 20000 in
theorem dL_holds_168 : decode cL_holds 168 = .ok (.aload_n 0, 1) := by decide +kernel
set_option maxRecDepth 20000 in
theorem dL_holds_169 : decode cL_holds 169 = .ok (.iconst 0, 1) := by decide +kernel
set_option maxRecDepth 20000 in
theorem dL_holds_170 : decode cL_holds 170 = .ok (.invokestatic 40, 3) := by decide +kernel
set_option maxRecDepth 20000 in
theorem dL_holds_173 : decode cL_holds 173 = .ok (.ifCond .eq 23, 3) := by decide +kernel
set_option maxRecDepth 20000 in
theorem dL_holds_176 : decode cL_holds 176 = .ok (.aload_n 0, 1) := by decide +kernel
set_option maxRecDepth 20000 in
theorem dL_holds_177 : decode cL_holds 177 = .ok (.iconst 1, 1) := by decide +kernel
set_option maxRecDepth 20000 in
theorem dL_holds_178 : decode cL_holds 178 = .ok (.invokestatic 40, 3) := by decide +kernel
set_option maxRecDepth 20000 in
theorem dL_holds_181 : decode cL_holds 181 = .ok (.ifCond .eq 15, 3) := by decide +kernel
set_option maxRecDepth 20000 in
theorem dL_holds_184 : decode cL_holds 184 = .ok (.aload_n 0, 1) := by decide +kernel
set_option maxRecDepth 20000 in
theorem dL_holds_185 : decode cL_holds 185 = .ok (.iconst 2, 1) := by decide +kernel
set_option maxRecDepth 20000 in
theorem dL_holds_186 : decode cL_holds 186 = .ok (.invokestatic 40, 3) := by decide +kernel
set_option maxRecDepth 20000 in
theorem dL_holds_189 : decode cL_holds 189 = .ok (.ifCond .eq 7, 3) := by decide +kernel
set_option maxRecDepth 20000 in
theorem dL_holds_192 : decode cL_holds 192 = .ok (.iconst 1, 1) := by decide +kernel
set_option maxRecDepth 20000 in
theorem dL_holds_193 : decode cL_holds 193 = .ok (.goto 4, 3) := by decide +kernel
set_option maxRecDepth 20000 in
theorem dL_holds_196 : decode cL_holds 196 = .ok (.iconst 0, 1) := by decide +kernel
set_option maxRecDepth 20000 in
theorem dL_holds_197 : decode cL_holds 197 = .ok (.ireturn, 1) := by decide +kernel
set_option maxRecDepth 20000 in
theorem dL_doneBy_0 : decode cL_doneBy 0 = .ok (.iload_n 3, 1) := by decide +kernel
set_option maxRecDepth 20000 in
theorem dL_doneBy_1 : decode cL_doneBy 1 = .ok (.iconst 5, 1) := by decide +kernel
set_option maxRecDepth 20000 in
theorem dL_doneBy_2 : decode cL_doneBy 2 = .ok (.invokestatic 46, 3) := by decide +kernel
set_option maxRecDepth 20000 in
theorem dL_doneBy_5 : decode cL_doneBy 5 = .ok (.istore 4, 2) := by decide +kernel
set_option maxRecDepth 20000 in
theorem dL_doneBy_7 : decode cL_doneBy 7 = .ok (.iload_n 1, 1) := by decide +kernel
set_option maxRecDepth 20000 in
theorem dL_doneBy_8 : decode cL_doneBy 8 = .ok (.tableswitch 92 0 4 #[36, 44, 52, 52, 68], 36) := by decide +kernel
set_option maxRecDepth 20000 in
theorem dL_doneBy_44 : decode cL_doneBy 44 = .ok (.aload_n 0, 1) := by decide +kernel
set_option maxRecDepth 20000 in
theorem dL_doneBy_45 : decode cL_doneBy 45 = .ok (.iload_n 2, 1) := by decide +kernel
set_option maxRecDepth 20000 in
theorem dL_doneBy_46 : decode cL_doneBy 46 = .ok (.iload 4, 2) := by decide +kernel
set_option maxRecDepth 20000 in
theorem dL_doneBy_48 : decode cL_doneBy 48 = .ok (.invokevirtual 49, 3) := by decide +kernel
set_option maxRecDepth 20000 in
theorem dL_doneBy_51 : decode cL_doneBy 51 = .ok (.ireturn, 1) := by decide +kernel
set_option maxRecDepth 20000 in
theorem dL_doneBy_52 : decode cL_doneBy 52 = .ok (.aload_n 0, 1) := by decide +kernel
set_option maxRecDepth 20000 in
theorem dL_doneBy_53 : decode cL_doneBy 53 = .ok (.iload_n 2, 1) := by decide +kernel
set_option maxRecDepth 20000 in
theorem dL_doneBy_54 : decode cL_doneBy 54 = .ok (.iload 4, 2) := by decide +kernel
set_option maxRecDepth 20000 in
theorem dL_doneBy_56 : decode cL_doneBy 56 = .ok (.invokevirtual 52, 3) := by decide +kernel
set_option maxRecDepth 20000 in
theorem dL_doneBy_59 : decode cL_doneBy 59 = .ok (.ireturn, 1) := by decide +kernel
set_option maxRecDepth 20000 in
theorem dL_doneBy_60 : decode cL_doneBy 60 = .ok (.aload_n 0, 1) := by decide +kernel
set_option maxRecDepth 20000 in
theorem dL_doneBy_61 : decode cL_doneBy 61 = .ok (.iload_n 2, 1) := by decide +kernel
set_option maxRecDepth 20000 in
theorem dL_doneBy_62 : decode cL_doneBy 62 = .ok (.iload 4, 2) := by decide +kernel
set_option maxRecDepth 20000 in
theorem dL_doneBy_64 : decode cL_doneBy 64 = .ok (.iload_n 3, 1) := by decide +kernel
set_option maxRecDepth 20000 in
theorem dL_doneBy_65 : decode cL_doneBy 65 = .ok (.iconst 3, 1) := by decide +kernel
set_option maxRecDepth 20000 in
theorem dL_doneBy_66 : decode cL_doneBy 66 = .ok (.ishr, 1) := by decide +kernel
set_option maxRecDepth 20000 in
theorem dL_doneBy_67 : decode cL_doneBy 67 = .ok (.bipush 12, 2) := by decide +kernel
set_option maxRecDepth 20000 in
theorem dL_doneBy_69 : decode cL_doneBy 69 = .ok (.invokestatic 46, 3) := by decide +kernel
set_option maxRecDepth 20000 in
theorem dL_doneBy_72 : decode cL_doneBy 72 = .ok (.invokevirtual 55, 3) := by decide +kernel
set_option maxRecDepth 20000 in
theorem dL_doneBy_75 : decode cL_doneBy 75 = .ok (.ireturn, 1) := by decide +kernel
set_option maxRecDepth 20000 in
theorem dL_doneBy_76 : decode cL_doneBy 76 = .ok (.aload_n 0, 1) := by decide +kernel
set_option maxRecDepth 20000 in
theorem dL_doneBy_77 : decode cL_doneBy 77 = .ok (.iload_n 2, 1) := by decide +kernel
set_option maxRecDepth 20000 in
theorem dL_doneBy_78 : decode cL_doneBy 78 = .ok (.iconst 1, 1) := by decide +kernel
set_option maxRecDepth 20000 in
theorem dL_doneBy_79 : decode cL_doneBy 79 = .ok (.iload_n 3, 1) := by decide +kernel
set_option maxRecDepth 20000 in
theorem dL_doneBy_80 : decode cL_doneBy 80 = .ok (.bipush 31, 2) := by decide +kernel
set_option maxRecDepth 20000 in
theorem dL_doneBy_82 : decode cL_doneBy 82 = .ok (.invokestatic 46, 3) := by decide +kernel
set_option maxRecDepth 20000 in
theorem dL_doneBy_85 : decode cL_doneBy 85 = .ok (.iadd, 1) := by decide +kernel
set_option maxRecDepth 20000 in
theorem dL_doneBy_86 : decode cL_doneBy 86 = .ok (.iload_n 3, 1) := by decide +kernel
set_option maxRecDepth 20000 in
theorem dL_doneBy_87 : decode cL_doneBy 87 = .ok (.iconst 5, 1) := by decide +kernel
set_option maxRecDepth 20000 in
theorem dL_doneBy_88 : decode cL_doneBy 88 = .ok (.ishr, 1) := by decide +kernel
set_option maxRecDepth 20000 in
theorem dL_doneBy_89 : decode cL_doneBy 89 = .ok (.bipush 7, 2) := by decide +kernel
set_option maxRecDepth 20000 in
theorem dL_doneBy_91 : decode cL_doneBy 91 = .ok (.invokestatic 46, 3) := by decide +kernel
set_option maxRecDepth 20000 in
theorem dL_doneBy_94 : decode cL_doneBy 94 = .ok (.iconst 3, 1) := by decide +kernel
set_option maxRecDepth 20000 in
theorem dL_doneBy_95 : decode cL_doneBy 95 = .ok (.isub, 1) := by decide +kernel
set_option maxRecDepth 20000 in
theorem dL_doneBy_96 : decode cL_doneBy 96 = .ok (.invokevirtual 59, 3) := by decide +kernel
set_option maxRecDepth 20000 in
theorem dL_doneBy_99 : decode cL_doneBy 99 = .ok (.ireturn, 1) := by decide +kernel
set_option maxRecDepth 20000 in
theorem dL_doneBy_100 : decode cL_doneBy 100 = .ok (.aload_n 0, 1) := by decide +kernel
set_option maxRecDepth 20000 in
theorem dL_doneBy_101 : decode cL_doneBy 101 = .ok (.iload_n 2, 1) := by decide +kernel
set_option maxRecDepth 20000 in
theorem dL_doneBy_102 : decode cL_doneBy 102 = .ok (.iload 4, 2) := by decide +kernel
set_option maxRecDepth 20000 in
theorem dL_doneBy_104 : decode cL_doneBy 104 = .ok (.iload 4, 2) := by decide +kernel
set_option maxRecDepth 20000 in
theorem dL_doneBy_106 : decode cL_doneBy 106 = .ok (.iconst 1, 1) := by decide +kernel
set_option maxRecDepth 20000 in
theorem dL_doneBy_107 : decode cL_doneBy 107 = .ok (.iadd, 1) := by decide +kernel
set_option maxRecDepth 20000 in
theorem dL_doneBy_108 : decode cL_doneBy 108 = .ok (.iload_n 3, 1) := by decide +kernel
set_option maxRecDepth 20000 in
theorem dL_doneBy_109 : decode cL_doneBy 109 = .ok (.iconst 3, 1) := by decide +kernel
set_option maxRecDepth 20000 in
theorem dL_doneBy_110 : decode cL_doneBy 110 = .ok (.ishr, 1) := by decide +kernel
set_option maxRecDepth 20000 in
theorem dL_doneBy_111 : decode cL_doneBy 111 = .ok (.iconst 4, 1) := by decide +kernel
set_option maxRecDepth 20000 in
theorem dL_doneBy_112 : decode cL_doneBy 112 = .ok (.invokestatic 46, 3) := by decide +kernel
set_option maxRecDepth 20000 in
theorem dL_doneBy_115 : decode cL_doneBy 115 = .ok (.iadd, 1) := by decide +kernel
set_option maxRecDepth 20000 in
theorem dL_doneBy_116 : decode cL_doneBy 116 = .ok (.iconst 5, 1) := by decide +kernel
set_option maxRecDepth 20000 in
theorem dL_doneBy_117 : decode cL_doneBy 117 = .ok (.irem, 1) := by decide +kernel
set_option maxRecDepth 20000 in
theorem dL_doneBy_118 : decode cL_doneBy 118 = .ok (.iconst 1, 1) := by decide +kernel
set_option maxRecDepth 20000 in
theorem dL_doneBy_119 : decode cL_doneBy 119 = .ok (.iload_n 3, 1) := by decide +kernel
set_option maxRecDepth 20000 in
theorem dL_doneBy_120 : decode cL_doneBy 120 = .ok (.iconst 5, 1) := by decide +kernel
set_option maxRecDepth 20000 in
theorem dL_doneBy_121 : decode cL_doneBy 121 = .ok (.ishr, 1) := by decide +kernel
set_option maxRecDepth 20000 in
theorem dL_doneBy_122 : decode cL_doneBy 122 = .ok (.iconst 5, 1) := by decide +kernel
set_option maxRecDepth 20000 in
theorem dL_doneBy_123 : decode cL_doneBy 123 = .ok (.invokestatic 46, 3) := by decide +kernel
set_option maxRecDepth 20000 in
theorem dL_doneBy_126 : decode cL_doneBy 126 = .ok (.iadd, 1) := by decide +kernel
set_option maxRecDepth 20000 in
theorem dL_doneBy_127 : decode cL_doneBy 127 = .ok (.invokevirtual 62, 3) := by decide +kernel
set_option maxRecDepth 20000 in
theorem dL_doneBy_130 : decode cL_doneBy 130 = .ok (.ireturn, 1) := by decide +kernel
set_option maxRecDepth 20000 in
theorem dL_states_0 : decode cL_states 0 = .ok (.iload_n 3, 1) := by decide +kernel
set_option maxRecDepth 20000 in
theorem dL_states_1 : decode cL_states 1 = .ok (.iconst 5, 1) := by decide +kernel
set_option maxRecDepth 20000 in
theorem dL_states_2 : decode cL_states 2 = .ok (.invokestatic 46, 3) := by decide +kernel
set_option maxRecDepth 20000 in
theorem dL_states_5 : decode cL_states 5 = .ok (.istore 7, 2) := by decide +kernel
set_option maxRecDepth 20000 in
theorem dL_states_7 : decode cL_states 7 = .ok (.aload_n 0, 1) := by decide +kernel
set_option maxRecDepth 20000 in
theorem dL_states_8 : decode cL_states 8 = .ok (.iload 7, 2) := by decide +kernel
set_option maxRecDepth 20000 in
theorem dL_states_10 : decode cL_states 10 = .ok (.iload_n 1, 1) := by decide +kernel
set_option maxRecDepth 20000 in
theorem dL_states_11 : decode cL_states 11 = .ok (.ifCond .ne 7, 3) := by decide +kernel
set_option maxRecDepth 20000 in
theorem dL_states_14 : decode cL_states 14 = .ok (.iconst 1, 1) := by decide +kernel
set_option maxRecDepth 20000 in
theorem dL_states_15 : decode cL_states 15 = .ok (.goto 4, 3) := by decide +kernel
set_option maxRecDepth 20000 in
theorem dL_states_18 : decode cL_states 18 = .ok (.iconst 2, 1) := by decide +kernel
set_option maxRecDepth 20000 in
theorem dL_states_19 : decode cL_states 19 = .ok (.invokevirtual 66, 3) := by decide +kernel
set_option maxRecDepth 20000 in
theorem dL_states_22 : decode cL_states 22 = .ok (.iload_n 2, 1) := by decide +kernel
set_option maxRecDepth 20000 in
theorem dL_states_23 : decode cL_states 23 = .ok (.ishr, 1) := by decide +kernel
set_option maxRecDepth 20000 in
theorem dL_states_24 : decode cL_states 24 = .ok (.iconst 1, 1) := by decide +kernel
set_option maxRecDepth 20000 in
theorem dL_states_25 : decode cL_states 25 = .ok (.iand, 1) := by decide +kernel
set_option maxRecDepth 20000 in
theorem dL_states_26 : decode cL_states 26 = .ok (.istore 8, 2) := by decide +kernel
set_option maxRecDepth 20000 in
theorem dL_states_28 : decode cL_states 28 = .ok (.aload_n 0, 1) := by decide +kernel
set_option maxRecDepth 20000 in
theorem dL_states_29 : decode cL_states 29 = .ok (.iconst 2, 1) := by decide +kernel
set_option maxRecDepth 20000 in
theorem dL_states_30 : decode cL_states 30 = .ok (.invokevirtual 69, 3) := by decide +kernel
set_option maxRecDepth 20000 in
theorem dL_states_33 : decode cL_states 33 = .ok (.istore 9, 2) := by decide +kernel
set_option maxRecDepth 20000 in
theorem dL_states_35 : decode cL_states 35 = .ok (.aload_n 0, 1) := by decide +kernel
set_option maxRecDepth 20000 in
theorem dL_states_36 : decode cL_states 36 = .ok (.iconst 3, 1) := by decide +kernel
set_option maxRecDepth 20000 in
theorem dL_states_37 : decode cL_states 37 = .ok (.invokevirtual 69, 3) := by decide +kernel
set_option maxRecDepth 20000 in
theorem dL_states_40 : decode cL_states 40 = .ok (.istore 10, 2) := by decide +kernel
set_option maxRecDepth 20000 in
theorem dL_states_42 : decode cL_states 42 = .ok (.aload_n 0, 1) := by decide +kernel
set_option maxRecDepth 20000 in
theorem dL_states_43 : decode cL_states 43 = .ok (.iconst 4, 1) := by decide +kernel
set_option maxRecDepth 20000 in
theorem dL_states_44 : decode cL_states 44 = .ok (.invokevirtual 69, 3) := by decide +kernel
set_option maxRecDepth 20000 in
theorem dL_states_47 : decode cL_states 47 = .ok (.istore 11, 2) := by decide +kernel
set_option maxRecDepth 20000 in
theorem dL_states_49 : decode cL_states 49 = .ok (.aload_n 0, 1) := by decide +kernel
set_option maxRecDepth 20000 in
theorem dL_states_50 : decode cL_states 50 = .ok (.iload_n 1, 1) := by decide +kernel
set_option maxRecDepth 20000 in
theorem dL_states_51 : decode cL_states 51 = .ok (.iload_n 2, 1) := by decide +kernel
set_option maxRecDepth 20000 in
theorem dL_states_52 : decode cL_states 52 = .ok (.iload_n 3, 1) := by decide +kernel
set_option maxRecDepth 20000 in
theorem dL_states_53 : decode cL_states 53 = .ok (.invokestatic 72, 3) := by decide +kernel
set_option maxRecDepth 20000 in
theorem dL_states_56 : decode cL_states 56 = .ok (.istore 12, 2) := by decide +kernel
set_option maxRecDepth 20000 in
theorem dL_states_58 : decode cL_states 58 = .ok (.aload_n 0, 1) := by decide +kernel
set_option maxRecDepth 20000 in
theorem dL_states_59 : decode cL_states 59 = .ok (.iload_n 2, 1) := by decide +kernel
set_option maxRecDepth 20000 in
theorem dL_states_60 : decode cL_states 60 = .ok (.iconst 0, 1) := by decide +kernel
set_option maxRecDepth 20000 in
theorem dL_states_61 : decode cL_states 61 = .ok (.invokevirtual 23, 3) := by decide +kernel
set_option maxRecDepth 20000 in
theorem dL_states_64 : decode cL_states 64 = .ok (.ifCond .ne 45, 3) := by decide +kernel
set_option maxRecDepth 20000 in
theorem dL_states_67 : decode cL_states 67 = .ok (.iload 12, 2) := by decide +kernel
set_option maxRecDepth 20000 in
theorem dL_states_69 : decode cL_states 69 = .ok (.bipush (-4), 2) := by decide +kernel
set_option maxRecDepth 20000 in
theorem dL_states_71 : decode cL_states 71 = .ok (.if_icmp .ne 36, 3) := by decide +kernel
set_option maxRecDepth 20000 in
theorem dL_states_74 : decode cL_states 74 = .ok (.aload_n 0, 1) := by decide +kernel
set_option maxRecDepth 20000 in
theorem dL_states_75 : decode cL_states 75 = .ok (.aload 5, 2) := by decide +kernel
set_option maxRecDepth 20000 in
theorem dL_states_77 : decode cL_states 77 = .ok (.invokestatic 76, 3) := by decide +kernel
set_option maxRecDepth 20000 in
theorem dL_states_80 : decode cL_states 80 = .ok (.ifCond .eq 27, 3) := by decide +kernel
set_option maxRecDepth 20000 in
theorem dL_states_83 : decode cL_states 83 = .ok (.aload_n 0, 1) := by decide +kernel
set_option maxRecDepth 20000 in
theorem dL_states_84 : decode cL_states 84 = .ok (.aload 6, 2) := by decide +kernel
set_option maxRecDepth 20000 in
theorem dL_states_86 : decode cL_states 86 = .ok (.iconst 3, 1) := by decide +kernel
set_option maxRecDepth 20000 in
theorem dL_states_87 : decode cL_states 87 = .ok (.invokestatic 80, 3) := by decide +kernel
set_option maxRecDepth 20000 in
theorem dL_states_90 : decode cL_states 90 = .ok (.ifCond .ne 17, 3) := by decide +kernel
set_option maxRecDepth 20000 in
theorem dL_states_93 : decode cL_states 93 = .ok (.aload_n 0, 1) := by decide +kernel
set_option maxRecDepth 20000 in
theorem dL_states_94 : decode cL_states 94 = .ok (.iconst 2, 1) := by decide +kernel
set_option maxRecDepth 20000 in
theorem dL_states_95 : decode cL_states 95 = .ok (.invokevirtual 69, 3) := by decide +kernel
set_option maxRecDepth 20000 in
theorem dL_states_98 : decode cL_states 98 = .ok (.iload 9, 2) := by decide +kernel
set_option maxRecDepth 20000 in
theorem dL_states_100 : decode cL_states 100 = .ok (.if_icmp .ne 7, 3) := by decide +kernel
set_option maxRecDepth 20000 in
theorem dL_states_103 : decode cL_states 103 = .ok (.iconst 1, 1) := by decide +kernel
set_option maxRecDepth 20000 in
theorem dL_states_104 : decode cL_states 104 = .ok (.goto 4, 3) := by decide +kernel
set_option maxRecDepth 20000 in
theorem dL_states_107 : decode cL_states 107 = .ok (.iconst 0, 1) := by decide +kernel
set_option maxRecDepth 20000 in
theorem dL_states_108 : decode cL_states 108 = .ok (.ireturn, 1) := by decide +kernel
set_option maxRecDepth 20000 in
theorem dL_states_109 : decode cL_states 109 = .ok (.iload 12, 2) := by decide +kernel
set_option maxRecDepth 20000 in
theorem dL_states_111 : decode cL_states 111 = .ok (.bipush (-6), 2) := by decide +kernel
set_option maxRecDepth 20000 in
theorem dL_states_113 : decode cL_states 113 = .ok (.if_icmp .eq 10, 3) := by decide +kernel
set_option maxRecDepth 20000 in
theorem dL_states_116 : decode cL_states 116 = .ok (.iload 12, 2) := by decide +kernel
set_option maxRecDepth 20000 in
theorem dL_states_118 : decode cL_states 118 = .ok (.bipush (-7), 2) := by decide +kernel
set_option maxRecDepth 20000 in
theorem dL_states_120 : decode cL_states 120 = .ok (.if_icmp .ne 7, 3) := by decide +kernel
set_option maxRecDepth 20000 in
theorem dL_states_123 : decode cL_states 123 = .ok (.iconst 1, 1) := by decide +kernel
set_option maxRecDepth 20000 in
theorem dL_states_124 : decode cL_states 124 = .ok (.goto 4, 3) := by decide +kernel
set_option maxRecDepth 20000 in
theorem dL_states_127 : decode cL_states 127 = .ok (.iconst 0, 1) := by decide +kernel
set_option maxRecDepth 20000 in
theorem dL_states_128 : decode cL_states 128 = .ok (.istore 13, 2) := by decide +kernel
set_option maxRecDepth 20000 in
theorem dL_states_130 : decode cL_states 130 = .ok (.aload_n 0, 1) := by decide +kernel
set_option maxRecDepth 20000 in
theorem dL_states_131 : decode cL_states 131 = .ok (.iconst 2, 1) := by decide +kernel
set_option maxRecDepth 20000 in
theorem dL_states_132 : decode cL_states 132 = .ok (.invokevirtual 69, 3) := by decide +kernel
set_option maxRecDepth 20000 in
theorem dL_states_135 : decode cL_states 135 = .ok (.iload 9, 2) := by decide +kernel
set_option maxRecDepth 20000 in
theorem dL_states_137 : decode cL_states 137 = .ok (.iload 13, 2) := by decide +kernel
set_option maxRecDepth 20000 in
theorem dL_states_139 : decode cL_states 139 = .ok (.ifCond .eq 7, 3) := by decide +kernel
set_option maxRecDepth 20000 in
theorem dL_states_142 : decode cL_states 142 = .ok (.iconst 0, 1) := by decide +kernel
set_option maxRecDepth 20000 in
theorem dL_states_143 : decode cL_states 143 = .ok (.goto 4, 3) := by decide +kernel
set_option maxRecDepth 20000 in
theorem dL_states_146 : decode cL_states 146 = .ok (.iconst 1, 1) := by decide +kernel
set_option maxRecDepth 20000 in
theorem dL_states_147 : decode cL_states 147 = .ok (.iadd, 1) := by decide +kernel
set_option maxRecDepth 20000 in
theorem dL_states_148 : decode cL_states 148 = .ok (.if_icmp .ne 94, 3) := by decide +kernel
set_option maxRecDepth 20000 in
theorem dL_states_151 : decode cL_states 151 = .ok (.aload_n 0, 1) := by decide +kernel
set_option maxRecDepth 20000 in
theorem dL_states_152 : decode cL_states 152 = .ok (.iconst 3, 1) := by decide +kernel
set_option maxRecDepth 20000 in
theorem dL_states_153 : decode cL_states 153 = .ok (.invokevirtual 69, 3) := by decide +kernel
set_option maxRecDepth 20000 in
theorem dL_states_156 : decode cL_states 156 = .ok (.iload 10, 2) := by decide +kernel
set_option maxRecDepth 20000 in
theorem dL_states_158 : decode cL_states 158 = .ok (.iload 12, 2) := by decide +kernel
set_option maxRecDepth 20000 in
theorem dL_states_160 : decode cL_states 160 = .ok (.bipush (-6), 2) := by decide +kernel
set_option maxRecDepth 20000 in
theorem dL_states_162 : decode cL_states 162 = .ok (.if_icmp .ne 7, 3) := by decide +kernel
set_option maxRecDepth 20000 in
theorem dL_states_165 : decode cL_states 165 = .ok (.iconst 1, 1) := by decide +kernel
set_option maxRecDepth 20000 in
theorem dL_states_166 : decode cL_states 166 = .ok (.goto 4, 3) := by decide +kernel
set_option maxRecDepth 20000 in
theorem dL_states_169 : decode cL_states 169 = .ok (.iconst 0, 1) := by decide +kernel
set_option maxRecDepth 20000 in
theorem dL_states_170 : decode cL_states 170 = .ok (.iadd, 1) := by decide +kernel
set_option maxRecDepth 20000 in
theorem dL_states_171 : decode cL_states 171 = .ok (.if_icmp .ne 71, 3) := by decide +kernel
set_option maxRecDepth 20000 in
theorem dL_states_174 : decode cL_states 174 = .ok (.aload_n 0, 1) := by decide +kernel
set_option maxRecDepth 20000 in
theorem dL_states_175 : decode cL_states 175 = .ok (.iconst 4, 1) := by decide +kernel
set_option maxRecDepth 20000 in
theorem dL_states_176 : decode cL_states 176 = .ok (.invokevirtual 69, 3) := by decide +kernel
set_option maxRecDepth 20000 in
theorem dL_states_179 : decode cL_states 179 = .ok (.iload 11, 2) := by decide +kernel
set_option maxRecDepth 20000 in
theorem dL_states_181 : decode cL_states 181 = .ok (.iload 12, 2) := by decide +kernel
set_option maxRecDepth 20000 in
theorem dL_states_183 : decode cL_states 183 = .ok (.bipush (-7), 2) := by decide +kernel
set_option maxRecDepth 20000 in
theorem dL_states_185 : decode cL_states 185 = .ok (.if_icmp .ne 7, 3) := by decide +kernel
set_option maxRecDepth 20000 in
theorem dL_states_188 : decode cL_states 188 = .ok (.iconst 1, 1) := by decide +kernel
set_option maxRecDepth 20000 in
theorem dL_states_189 : decode cL_states 189 = .ok (.goto 4, 3) := by decide +kernel
set_option maxRecDepth 20000 in
theorem dL_states_192 : decode cL_states 192 = .ok (.iconst 0, 1) := by decide +kernel
set_option maxRecDepth 20000 in
theorem dL_states_193 : decode cL_states 193 = .ok (.iadd, 1) := by decide +kernel
set_option maxRecDepth 20000 in
theorem dL_states_194 : decode cL_states 194 = .ok (.if_icmp .ne 48, 3) := by decide +kernel
set_option maxRecDepth 20000 in
theorem dL_states_197 : decode cL_states 197 = .ok (.aload_n 0, 1) := by decide +kernel
set_option maxRecDepth 20000 in
theorem dL_states_198 : decode cL_states 198 = .ok (.aload 6, 2) := by decide +kernel
set_option maxRecDepth 20000 in
theorem dL_states_200 : decode cL_states 200 = .ok (.iload_n 2, 1) := by decide +kernel
set_option maxRecDepth 20000 in
theorem dL_states_201 : decode cL_states 201 = .ok (.invokestatic 80, 3) := by decide +kernel
set_option maxRecDepth 20000 in
theorem dL_states_204 : decode cL_states 204 = .ok (.ifCond .ne 38, 3) := by decide +kernel
set_option maxRecDepth 20000 in
theorem dL_states_207 : decode cL_states 207 = .ok (.iload_n 1, 1) := by decide +kernel
set_option maxRecDepth 20000 in
theorem dL_states_208 : decode cL_states 208 = .ok (.iconst 3, 1) := by decide +kernel
set_option maxRecDepth 20000 in
theorem dL_states_209 : decode cL_states 209 = .ok (.if_icmp .gt 29, 3) := by decide +kernel
set_option maxRecDepth 20000 in
theorem dL_states_212 : decode cL_states 212 = .ok (.iload 12, 2) := by decide +kernel
set_option maxRecDepth 20000 in
theorem dL_states_214 : decode cL_states 214 = .ok (.bipush (-6), 2) := by decide +kernel
set_option maxRecDepth 20000 in
theorem dL_states_216 : decode cL_states 216 = .ok (.if_icmp .ne 7, 3) := by decide +kernel
set_option maxRecDepth 20000 in
theorem dL_states_219 : decode cL_states 219 = .ok (.iconst 1, 1) := by decide +kernel
set_option maxRecDepth 20000 in
theorem dL_states_220 : decode cL_states 220 = .ok (.goto 4, 3) := by decide +kernel
set_option maxRecDepth 20000 in
theorem dL_states_223 : decode cL_states 223 = .ok (.iconst 0, 1) := by decide +kernel
set_option maxRecDepth 20000 in
theorem dL_states_224 : decode cL_states 224 = .ok (.iload 8, 2) := by decide +kernel
set_option maxRecDepth 20000 in
theorem dL_states_226 : decode cL_states 226 = .ok (.iconst 1, 1) := by decide +kernel
set_option maxRecDepth 20000 in
theorem dL_states_227 : decode cL_states 227 = .ok (.if_icmp .ne 7, 3) := by decide +kernel
set_option maxRecDepth 20000 in
theorem dL_states_230 : decode cL_states 230 = .ok (.iconst 1, 1) := by decide +kernel
set_option maxRecDepth 20000 in
theorem dL_states_231 : decode cL_states 231 = .ok (.goto 4, 3) := by decide +kernel
set_option maxRecDepth 20000 in
theorem dL_states_234 : decode cL_states 234 = .ok (.iconst 0, 1) := by decide +kernel
set_option maxRecDepth 20000 in
theorem dL_states_235 : decode cL_states 235 = .ok (.if_icmp .ne 7, 3) := by decide +kernel
set_option maxRecDepth 20000 in
theorem dL_states_238 : decode cL_states 238 = .ok (.iconst 1, 1) := by decide +kernel
set_option maxRecDepth 20000 in
theorem dL_states_239 : decode cL_states 239 = .ok (.goto 4, 3) := by decide +kernel
set_option maxRecDepth 20000 in
theorem dL_states_242 : decode cL_states 242 = .ok (.iconst 0, 1) := by decide +kernel
set_option maxRecDepth 20000 in
theorem dL_states_243 : decode cL_states 243 = .ok (.istore 14, 2) := by decide +kernel
set_option maxRecDepth 20000 in
theorem dL_states_245 : decode cL_states 245 = .ok (.iload 13, 2) := by decide +kernel
set_option maxRecDepth 20000 in
theorem dL_states_247 : decode cL_states 247 = .ok (.ifCond .eq 39, 3) := by decide +kernel
set_option maxRecDepth 20000 in
theorem dL_states_250 : decode cL_states 250 = .ok (.iload 14, 2) := by decide +kernel
set_option maxRecDepth 20000 in
theorem dL_states_252 : decode cL_states 252 = .ok (.ifCond .eq 32, 3) := by decide +kernel
set_option maxRecDepth 20000 in
theorem dL_states_255 : decode cL_states 255 = .ok (.aload_n 0, 1) := by decide +kernel
set_option maxRecDepth 20000 in
theorem dL_states_256 : decode cL_states 256 = .ok (.aload 5, 2) := by decide +kernel
set_option maxRecDepth 20000 in
theorem dL_states_258 : decode cL_states 258 = .ok (.invokestatic 76, 3) := by decide +kernel
set_option maxRecDepth 20000 in
theorem dL_states_261 : decode cL_states 261 = .ok (.ifCond .eq 23, 3) := by decide +kernel
set_option maxRecDepth 20000 in
theorem dL_states_264 : decode cL_states 264 = .ok (.iload 4, 2) := by decide +kernel
set_option maxRecDepth 20000 in
theorem dL_states_266 : decode cL_states 266 = .ok (.iconst 1, 1) := by decide +kernel
set_option maxRecDepth 20000 in
theorem dL_states_267 : decode cL_states 267 = .ok (.if_icmp .eq 13, 3) := by decide +kernel
set_option maxRecDepth 20000 in
theorem dL_states_270 : decode cL_states 270 = .ok (.aload_n 0, 1) := by decide +kernel
set_option maxRecDepth 20000 in
theorem dL_states_271 : decode cL_states 271 = .ok (.aload 6, 2) := by decide +kernel
set_option maxRecDepth 20000 in
theorem dL_states_273 : decode cL_states 273 = .ok (.iconst 3, 1) := by decide +kernel
set_option maxRecDepth 20000 in
theorem dL_states_274 : decode cL_states 274 = .ok (.invokestatic 80, 3) := by decide +kernel
set_option maxRecDepth 20000 in
theorem dL_states_277 : decode cL_states 277 = .ok (.ifCond .ne 7, 3) := by decide +kernel
set_option maxRecDepth 20000 in
theorem dL_states_280 : decode cL_states 280 = .ok (.iconst 1, 1) := by decide +kernel
set_option maxRecDepth 20000 in
theorem dL_states_281 : decode cL_states 281 = .ok (.goto 4, 3) := by decide +kernel
set_option maxRecDepth 20000 in
theorem dL_states_284 : decode cL_states 284 = .ok (.iconst 0, 1) := by decide +kernel
set_option maxRecDepth 20000 in
theorem dL_states_285 : decode cL_states 285 = .ok (.ireturn, 1) := by decide +kernel
set_option maxRecDepth 20000 in
theorem dL_states_286 : decode cL_states 286 = .ok (.iload 14, 2) := by decide +kernel
set_option maxRecDepth 20000 in
theorem dL_states_288 : decode cL_states 288 = .ok (.ifCond .eq 97, 3) := by decide +kernel
set_option maxRecDepth 20000 in
theorem dL_states_291 : decode cL_states 291 = .ok (.iload_n 1, 1) := by decide +kernel
set_option maxRecDepth 20000 in
theorem dL_states_292 : decode cL_states 292 = .ok (.ifCond .gt 32, 3) := by decide +kernel
set_option maxRecDepth 20000 in
theorem dL_states_295 : decode cL_states 295 = .ok (.iload 12, 2) := by decide +kernel
set_option maxRecDepth 20000 in
theorem dL_states_297 : decode cL_states 297 = .ok (.aload 5, 2) := by decide +kernel
set_option maxRecDepth 20000 in
theorem dL_states_299 : decode cL_states 299 = .ok (.iload 7, 2) := by decide +kernel
set_option maxRecDepth 20000 in
theorem dL_states_301 : decode cL_states 301 = .ok (.iaload, 1) := by decide +kernel
set_option maxRecDepth 20000 in
theorem dL_states_302 : decode cL_states 302 = .ok (.if_icmp .ne 83, 3) := by decide +kernel
set_option maxRecDepth 20000 in
theorem dL_states_305 : decode cL_states 305 = .ok (.aload_n 0, 1) := by decide +kernel
set_option maxRecDepth 20000 in
theorem dL_states_306 : decode cL_states 306 = .ok (.aload 5, 2) := by decide +kernel
set_option maxRecDepth 20000 in
theorem dL_states_308 : decode cL_states 308 = .ok (.invokestatic 76, 3) := by decide +kernel
set_option maxRecDepth 20000 in
theorem dL_states_311 : decode cL_states 311 = .ok (.ifCond .eq 74, 3) := by decide +kernel
set_option maxRecDepth 20000 in
theorem dL_states_314 : decode cL_states 314 = .ok (.aload_n 0, 1) := by decide +kernel
set_option maxRecDepth 20000 in
theorem dL_states_315 : decode cL_states 315 = .ok (.iload_n 2, 1) := by decide +kernel
set_option maxRecDepth 20000 in
theorem dL_states_316 : decode cL_states 316 = .ok (.iload 7, 2) := by decide +kernel
set_option maxRecDepth 20000 in
theorem dL_states_318 : decode cL_states 318 = .ok (.invokevirtual 19, 3) := by decide +kernel
set_option maxRecDepth 20000 in
theorem dL_states_321 : decode cL_states 321 = .ok (.ifCond .le 64, 3) := by decide +kernel
set_option maxRecDepth 20000 in
theorem dL_states_324 : decode cL_states 324 = .ok (.iload_n 1, 1) := by decide +kernel
set_option maxRecDepth 20000 in
theorem dL_states_325 : decode cL_states 325 = .ok (.ifCond .eq 56, 3) := by decide +kernel
set_option maxRecDepth 20000 in
theorem dL_states_328 : decode cL_states 328 = .ok (.iload_n 1, 1) := by decide +kernel
set_option maxRecDepth 20000 in
theorem dL_states_329 : decode cL_states 329 = .ok (.iconst 3, 1) := by decide +kernel
set_option maxRecDepth 20000 in
theorem dL_states_330 : decode cL_states 330 = .ok (.if_icmp .gt 51, 3) := by decide +kernel
set_option maxRecDepth 20000 in
theorem dL_states_333 : decode cL_states 333 = .ok (.iload 12, 2) := by decide +kernel
set_option maxRecDepth 20000 in
theorem dL_states_335 : decode cL_states 335 = .ok (.aload 5, 2) := by decide +kernel
set_option maxRecDepth 20000 in
theorem dL_states_337 : decode cL_states 337 = .ok (.iload 7, 2) := by decide +kernel
set_option maxRecDepth 20000 in
theorem dL_states_339 : decode cL_states 339 = .ok (.iaload, 1) := by decide +kernel
set_option maxRecDepth 20000 in
theorem dL_states_340 : decode cL_states 340 = .ok (.if_icmp .ne 45, 3) := by decide +kernel
set_option maxRecDepth 20000 in
theorem dL_states_343 : decode cL_states 343 = .ok (.aload_n 0, 1) := by decide +kernel
set_option maxRecDepth 20000 in
theorem dL_states_344 : decode cL_states 344 = .ok (.iload_n 2, 1) := by decide +kernel
set_option maxRecDepth 20000 in
theorem dL_states_345 : decode cL_states 345 = .ok (.iload 7, 2) := by decide +kernel
set_option maxRecDepth 20000 in
theorem dL_states_347 : decode cL_states 347 = .ok (.invokevirtual 19, 3) := by decide +kernel
set_option maxRecDepth 20000 in
theorem dL_states_350 : decode cL_states 350 = .ok (.iconst 2, 1) := by decide +kernel
set_option maxRecDepth 20000 in
theorem dL_states_351 : decode cL_states 351 = .ok (.if_icmp .ne 34, 3) := by decide +kernel
set_option maxRecDepth 20000 in
theorem dL_states_354 : decode cL_states 354 = .ok (.aload_n 0, 1) := by decide +kernel
set_option maxRecDepth 20000 in
theorem dL_states_355 : decode cL_states 355 = .ok (.iload 7, 2) := by decide +kernel
set_option maxRecDepth 20000 in
theorem dL_states_357 : decode cL_states 357 = .ok (.invokevirtual 10, 3) := by decide +kernel
set_option maxRecDepth 20000 in
theorem dL_states_360 : decode cL_states 360 = .ok (.iload_n 1, 1) := by decide +kernel
set_option maxRecDepth 20000 in
theorem dL_states_361 : decode cL_states 361 = .ok (.iconst 1, 1) := by decide +kernel
set_option maxRecDepth 20000 in
theorem dL_states_362 : decode cL_states 362 = .ok (.if_icmp .ne 8, 3) := by decide +kernel
set_option maxRecDepth 20000 in
theorem dL_states_365 : decode cL_states 365 = .ok (.bipush (-5), 2) := by decide +kernel
set_option maxRecDepth 20000 in
theorem dL_states_367 : decode cL_states 367 = .ok (.goto 11, 3) := by decide +kernel
set_option maxRecDepth 20000 in
theorem dL_states_370 : decode cL_states 370 = .ok (.iload_n 3, 1) := by decide +kernel
set_option maxRecDepth 20000 in
theorem dL_states_371 : decode cL_states 371 = .ok (.iconst 3, 1) := by decide +kernel
set_option maxRecDepth 20000 in
theorem dL_states_372 : decode cL_states 372 = .ok (.ishr, 1) := by decide +kernel
set_option maxRecDepth 20000 in
theorem dL_states_373 : decode cL_states 373 = .ok (.bipush 12, 2) := by decide +kernel
set_option maxRecDepth 20000 in
theorem dL_states_375 : decode cL_states 375 = .ok (.invokestatic 46, 3) := by decide +kernel
set_option maxRecDepth 20000 in
theorem dL_states_378 : decode cL_states 378 = .ok (.if_icmp .ne 7, 3) := by decide +kernel
set_option maxRecDepth 20000 in
theorem dL_states_381 : decode cL_states 381 = .ok (.iconst 1, 1) := by decide +kernel
set_option maxRecDepth 20000 in
theorem dL_states_382 : decode cL_states 382 = .ok (.goto 4, 3) := by decide +kernel
set_option maxRecDepth 20000 in
theorem dL_states_385 : decode cL_states 385 = .ok (.iconst 0, 1) := by decide +kernel
set_option maxRecDepth 20000 in
theorem dL_states_386 : decode cL_states 386 = .ok (.ireturn, 1) := by decide +kernel
set_option maxRecDepth 20000 in
theorem dL_undoes_0 : decode cL_undoes 0 = .ok (.aload_n 0, 1) := by decide +kernel
set_option maxRecDepth 20000 in
theorem dL_undoes_1 : decode cL_undoes 1 = .ok (.iload_n 1, 1) := by decide +kernel
set_option maxRecDepth 20000 in
theorem dL_undoes_2 : decode cL_undoes 2 = .ok (.iload_n 2, 1) := by decide +kernel
set_option maxRecDepth 20000 in
theorem dL_undoes_3 : decode cL_undoes 3 = .ok (.invokevirtual 33, 3) := by decide +kernel
set_option maxRecDepth 20000 in
theorem dL_undoes_6 : decode cL_undoes 6 = .ok (.istore 6, 2) := by decide +kernel
set_option maxRecDepth 20000 in
theorem dL_undoes_8 : decode cL_undoes 8 = .ok (.iload 6, 2) := by decide +kernel
set_option maxRecDepth 20000 in
theorem dL_undoes_10 : decode cL_undoes 10 = .ok (.ifCond .ge 31, 3) := by decide +kernel
set_option maxRecDepth 20000 in
theorem dL_undoes_13 : decode cL_undoes 13 = .ok (.aload_n 0, 1) := by decide +kernel
set_option maxRecDepth 20000 in
theorem dL_undoes_14 : decode cL_undoes 14 = .ok (.iload_n 1, 1) := by decide +kernel
set_option maxRecDepth 20000 in
theorem dL_undoes_15 : decode cL_undoes 15 = .ok (.iload_n 2, 1) := by decide +kernel
set_option maxRecDepth 20000 in
theorem dL_undoes_16 : decode cL_undoes 16 = .ok (.invokevirtual 84, 3) := by decide +kernel
set_option maxRecDepth 20000 in
theorem dL_undoes_19 : decode cL_undoes 19 = .ok (.bipush (-4), 2) := by decide +kernel
set_option maxRecDepth 20000 in
theorem dL_undoes_21 : decode cL_undoes 21 = .ok (.if_icmp .ne 18, 3) := by decide +kernel
set_option maxRecDepth 20000 in
theorem dL_undoes_24 : decode cL_undoes 24 = .ok (.aload_n 0, 1) := by decide +kernel
set_option maxRecDepth 20000 in
theorem dL_undoes_25 : decode cL_undoes 25 = .ok (.iload_n 1, 1) := by decide +kernel
set_option maxRecDepth 20000 in
theorem dL_undoes_26 : decode cL_undoes 26 = .ok (.iload_n 2, 1) := by decide +kernel
set_option maxRecDepth 20000 in
theorem dL_undoes_27 : decode cL_undoes 27 = .ok (.invokevirtual 87, 3) := by decide +kernel
set_option maxRecDepth 20000 in
theorem dL_undoes_30 : decode cL_undoes 30 = .ok (.bipush (-4), 2) := by decide +kernel
set_option maxRecDepth 20000 in
theorem dL_undoes_32 : decode cL_undoes 32 = .ok (.if_icmp .ne 7, 3) := by decide +kernel
set_option maxRecDepth 20000 in
theorem dL_undoes_35 : decode cL_undoes 35 = .ok (.iconst 1, 1) := by decide +kernel
set_option maxRecDepth 20000 in
theorem dL_undoes_36 : decode cL_undoes 36 = .ok (.goto 4, 3) := by decide +kernel
set_option maxRecDepth 20000 in
theorem dL_undoes_39 : decode cL_undoes 39 = .ok (.iconst 0, 1) := by decide +kernel
set_option maxRecDepth 20000 in
theorem dL_undoes_40 : decode cL_undoes 40 = .ok (.ireturn, 1) := by decide +kernel
set_option maxRecDepth 20000 in
theorem dL_undoes_41 : decode cL_undoes 41 = .ok (.bipush 16, 2) := by decide +kernel
set_option maxRecDepth 20000 in
theorem dL_undoes_43 : decode cL_undoes 43 = .ok (.newarray .int, 2) := by decide +kernel
set_option maxRecDepth 20000 in
theorem dL_undoes_45 : decode cL_undoes 45 = .ok (.astore 7, 2) := by decide +kernel
set_option maxRecDepth 20000 in
theorem dL_undoes_47 : decode cL_undoes 47 = .ok (.iconst 0, 1) := by decide +kernel
set_option maxRecDepth 20000 in
theorem dL_undoes_48 : decode cL_undoes 48 = .ok (.istore 8, 2) := by decide +kernel
set_option maxRecDepth 20000 in
theorem dL_undoes_50 : decode cL_undoes 50 = .ok (.aload_n 0, 1) := by decide +kernel
set_option maxRecDepth 20000 in
theorem dL_undoes_51 : decode cL_undoes 51 = .ok (.iload_n 1, 1) := by decide +kernel
set_option maxRecDepth 20000 in
theorem dL_undoes_52 : decode cL_undoes 52 = .ok (.iload 6, 2) := by decide +kernel
set_option maxRecDepth 20000 in
theorem dL_undoes_54 : decode cL_undoes 54 = .ok (.iconst 1, 1) := by decide +kernel
set_option maxRecDepth 20000 in
theorem dL_undoes_55 : decode cL_undoes 55 = .ok (.invokevirtual 26, 3) := by decide +kernel
set_option maxRecDepth 20000 in
theorem dL_undoes_58 : decode cL_undoes 58 = .ok (.istore 9, 2) := by decide +kernel
set_option maxRecDepth 20000 in
theorem dL_undoes_60 : decode cL_undoes 60 = .ok (.aload_n 0, 1) := by decide +kernel
set_option maxRecDepth 20000 in
theorem dL_undoes_61 : decode cL_undoes 61 = .ok (.iload_n 1, 1) := by decide +kernel
set_option maxRecDepth 20000 in
theorem dL_undoes_62 : decode cL_undoes 62 = .ok (.iload 6, 2) := by decide +kernel
set_option maxRecDepth 20000 in
theorem dL_undoes_64 : decode cL_undoes 64 = .ok (.iconst 0, 1) := by decide +kernel
set_option maxRecDepth 20000 in
theorem dL_undoes_65 : decode cL_undoes 65 = .ok (.invokevirtual 26, 3) := by decide +kernel
set_option maxRecDepth 20000 in
theorem dL_undoes_68 : decode cL_undoes 68 = .ok (.istore 10, 2) := by decide +kernel
set_option maxRecDepth 20000 in
theorem dL_undoes_70 : decode cL_undoes 70 = .ok (.iconst 0, 1) := by decide +kernel
set_option maxRecDepth 20000 in
theorem dL_undoes_71 : decode cL_undoes 71 = .ok (.istore 11, 2) := by decide +kernel
set_option maxRecDepth 20000 in
theorem dL_undoes_73 : decode cL_undoes 73 = .ok (.iload 11, 2) := by decide +kernel
set_option maxRecDepth 20000 in
theorem dL_undoes_75 : decode cL_undoes 75 = .ok (.bipush 16, 2) := by decide +kernel
set_option maxRecDepth 20000 in
theorem dL_undoes_77 : decode cL_undoes 77 = .ok (.if_icmp .ge 45, 3) := by decide +kernel
set_option maxRecDepth 20000 in
theorem dL_undoes_80 : decode cL_undoes 80 = .ok (.aload 7, 2) := by decide +kernel
set_option maxRecDepth 20000 in
theorem dL_undoes_82 : decode cL_undoes 82 = .ok (.iload 11, 2) := by decide +kernel
set_option maxRecDepth 20000 in
theorem dL_undoes_84 : decode cL_undoes 84 = .ok (.aload_n 0, 1) := by decide +kernel
set_option maxRecDepth 20000 in
theorem dL_undoes_85 : decode cL_undoes 85 = .ok (.iload_n 1, 1) := by decide +kernel
set_option maxRecDepth 20000 in
theorem dL_undoes_86 : decode cL_undoes 86 = .ok (.iload_n 2, 1) := by decide +kernel
set_option maxRecDepth 20000 in
theorem dL_undoes_87 : decode cL_undoes 87 = .ok (.iload 11, 2) := by decide +kernel
set_option maxRecDepth 20000 in
theorem dL_undoes_89 : decode cL_undoes 89 = .ok (.invokevirtual 90, 3) := by decide +kernel
set_option maxRecDepth 20000 in
theorem dL_undoes_92 : decode cL_undoes 92 = .ok (.iastore, 1) := by decide +kernel
set_option maxRecDepth 20000 in
theorem dL_undoes_93 : decode cL_undoes 93 = .ok (.iload 8, 2) := by decide +kernel
set_option maxRecDepth 20000 in
theorem dL_undoes_95 : decode cL_undoes 95 = .ok (.aload 7, 2) := by decide +kernel
set_option maxRecDepth 20000 in
theorem dL_undoes_97 : decode cL_undoes 97 = .ok (.iload 11, 2) := by decide +kernel
set_option maxRecDepth 20000 in
theorem dL_undoes_99 : decode cL_undoes 99 = .ok (.iaload, 1) := by decide +kernel
set_option maxRecDepth 20000 in
theorem dL_undoes_100 : decode cL_undoes 100 = .ok (.aload 4, 2) := by decide +kernel
set_option maxRecDepth 20000 in
theorem dL_undoes_102 : decode cL_undoes 102 = .ok (.iload 11, 2) := by decide +kernel
set_option maxRecDepth 20000 in
theorem dL_undoes_104 : decode cL_undoes 104 = .ok (.iaload, 1) := by decide +kernel
set_option maxRecDepth 20000 in
theorem dL_undoes_105 : decode cL_undoes 105 = .ok (.if_icmp .eq 7, 3) := by decide +kernel
set_option maxRecDepth 20000 in
theorem dL_undoes_108 : decode cL_undoes 108 = .ok (.iconst 1, 1) := by decide +kernel
set_option maxRecDepth 20000 in
theorem dL_undoes_109 : decode cL_undoes 109 = .ok (.goto 4, 3) := by decide +kernel
set_option maxRecDepth 20000 in
theorem dL_undoes_112 : decode cL_undoes 112 = .ok (.iconst 0, 1) := by decide +kernel
set_option maxRecDepth 20000 in
theorem dL_undoes_113 : decode cL_undoes 113 = .ok (.iadd, 1) := by decide +kernel
set_option maxRecDepth 20000 in
theorem dL_undoes_114 : decode cL_undoes 114 = .ok (.istore 8, 2) := by decide +kernel
set_option maxRecDepth 20000 in
theorem dL_undoes_116 : decode cL_undoes 116 = .ok (.iinc 11 1, 3) := by decide +kernel
set_option maxRecDepth 20000 in
theorem dL_undoes_119 : decode cL_undoes 119 = .ok (.goto (-46), 3) := by decide +kernel
set_option maxRecDepth 20000 in
theorem dL_undoes_122 : decode cL_undoes 122 = .ok (.aload_n 0, 1) := by decide +kernel
set_option maxRecDepth 20000 in
theorem dL_undoes_123 : decode cL_undoes 123 = .ok (.iload_n 1, 1) := by decide +kernel
set_option maxRecDepth 20000 in
theorem dL_undoes_124 : decode cL_undoes 124 = .ok (.iload_n 2, 1) := by decide +kernel
set_option maxRecDepth 20000 in
theorem dL_undoes_125 : decode cL_undoes 125 = .ok (.invokevirtual 84, 3) := by decide +kernel
set_option maxRecDepth 20000 in
theorem dL_undoes_128 : decode cL_undoes 128 = .ok (.iload 8, 2) := by decide +kernel
set_option maxRecDepth 20000 in
theorem dL_undoes_130 : decode cL_undoes 130 = .ok (.if_icmp .ne 77, 3) := by decide +kernel
set_option maxRecDepth 20000 in
theorem dL_undoes_133 : decode cL_undoes 133 = .ok (.aload_n 0, 1) := by decide +kernel
set_option maxRecDepth 20000 in
theorem dL_undoes_134 : decode cL_undoes 134 = .ok (.iload_n 1, 1) := by decide +kernel
set_option maxRecDepth 20000 in
theorem dL_undoes_135 : decode cL_undoes 135 = .ok (.iconst 1, 1) := by decide +kernel
set_option maxRecDepth 20000 in
theorem dL_undoes_136 : decode cL_undoes 136 = .ok (.invokevirtual 23, 3) := by decide +kernel
set_option maxRecDepth 20000 in
theorem dL_undoes_139 : decode cL_undoes 139 = .ok (.iload 6, 2) := by decide +kernel
set_option maxRecDepth 20000 in
theorem dL_undoes_141 : decode cL_undoes 141 = .ok (.iconst 1, 1) := by decide +kernel
set_option maxRecDepth 20000 in
theorem dL_undoes_142 : decode cL_undoes 142 = .ok (.iadd, 1) := by decide +kernel
set_option maxRecDepth 20000 in
theorem dL_undoes_143 : decode cL_undoes 143 = .ok (.if_icmp .ne 64, 3) := by decide +kernel
set_option maxRecDepth 20000 in
theorem dL_undoes_146 : decode cL_undoes 146 = .ok (.aload_n 0, 1) := by decide +kernel
set_option maxRecDepth 20000 in
theorem dL_undoes_147 : decode cL_undoes 147 = .ok (.iload_n 1, 1) := by decide +kernel
set_option maxRecDepth 20000 in
theorem dL_undoes_148 : decode cL_undoes 148 = .ok (.iload 6, 2) := by decide +kernel
set_option maxRecDepth 20000 in
theorem dL_undoes_150 : decode cL_undoes 150 = .ok (.iconst 0, 1) := by decide +kernel
set_option maxRecDepth 20000 in
theorem dL_undoes_151 : decode cL_undoes 151 = .ok (.invokevirtual 26, 3) := by decide +kernel
set_option maxRecDepth 20000 in
theorem dL_undoes_154 : decode cL_undoes 154 = .ok (.ifCond .ne 53, 3) := by decide +kernel
set_option maxRecDepth 20000 in
theorem dL_undoes_157 : decode cL_undoes 157 = .ok (.aload_n 0, 1) := by decide +kernel
set_option maxRecDepth 20000 in
theorem dL_undoes_158 : decode cL_undoes 158 = .ok (.iload_n 1, 1) := by decide +kernel
set_option maxRecDepth 20000 in
theorem dL_undoes_159 : decode cL_undoes 159 = .ok (.iload 6, 2) := by decide +kernel
set_option maxRecDepth 20000 in
theorem dL_undoes_161 : decode cL_undoes 161 = .ok (.iconst 1, 1) := by decide +kernel
set_option maxRecDepth 20000 in
theorem dL_undoes_162 : decode cL_undoes 162 = .ok (.invokevirtual 26, 3) := by decide +kernel
set_option maxRecDepth 20000 in
theorem dL_undoes_165 : decode cL_undoes 165 = .ok (.iload_n 3, 1) := by decide +kernel
set_option maxRecDepth 20000 in
theorem dL_undoes_166 : decode cL_undoes 166 = .ok (.iconst 1, 1) := by decide +kernel
set_option maxRecDepth 20000 in
theorem dL_undoes_167 : decode cL_undoes 167 = .ok (.if_icmp .ne 8, 3) := by decide +kernel
set_option maxRecDepth 20000 in
theorem dL_undoes_170 : decode cL_undoes 170 = .ok (.iload 9, 2) := by decide +kernel
set_option maxRecDepth 20000 in
theorem dL_undoes_172 : decode cL_undoes 172 = .ok (.goto 4, 3) := by decide +kernel
set_option maxRecDepth 20000 in
theorem dL_undoes_175 : decode cL_undoes 175 = .ok (.iconst 0, 1) := by decide +kernel
set_option maxRecDepth 20000 in
theorem dL_undoes_176 : decode cL_undoes 176 = .ok (.if_icmp .ne 31, 3) := by decide +kernel
set_option maxRecDepth 20000 in
theorem dL_undoes_179 : decode cL_undoes 179 = .ok (.aload_n 0, 1) := by decide +kernel
set_option maxRecDepth 20000 in
theorem dL_undoes_180 : decode cL_undoes 180 = .ok (.aload 5, 2) := by decide +kernel
set_option maxRecDepth 20000 in
theorem dL_undoes_182 : decode cL_undoes 182 = .ok (.iload_n 1, 1) := by decide +kernel
set_option maxRecDepth 20000 in
theorem dL_undoes_183 : decode cL_undoes 183 = .ok (.invokestatic 80, 3) := by decide +kernel
set_option maxRecDepth 20000 in
theorem dL_undoes_186 : decode cL_undoes 186 = .ok (.ifCond .ne 21, 3) := by decide +kernel
set_option maxRecDepth 20000 in
theorem dL_undoes_189 : decode cL_undoes 189 = .ok (.iload_n 3, 1) := by decide +kernel
set_option maxRecDepth 20000 in
theorem dL_undoes_190 : decode cL_undoes 190 = .ok (.ifCond .eq 13, 3) := by decide +kernel
set_option maxRecDepth 20000 in
theorem dL_undoes_193 : decode cL_undoes 193 = .ok (.aload_n 0, 1) := by decide +kernel
set_option maxRecDepth 20000 in
theorem dL_undoes_194 : decode cL_undoes 194 = .ok (.aload 5, 2) := by decide +kernel
set_option maxRecDepth 20000 in
theorem dL_undoes_196 : decode cL_undoes 196 = .ok (.iconst 3, 1) := by decide +kernel
set_option maxRecDepth 20000 in
theorem dL_undoes_197 : decode cL_undoes 197 = .ok (.invokestatic 80, 3) := by decide +kernel
set_option maxRecDepth 20000 in
theorem dL_undoes_200 : decode cL_undoes 200 = .ok (.ifCond .ne 7, 3) := by decide +kernel
set_option maxRecDepth 20000 in
theorem dL_undoes_203 : decode cL_undoes 203 = .ok (.iconst 1, 1) := by decide +kernel
set_option maxRecDepth 20000 in
theorem dL_undoes_204 : decode cL_undoes 204 = .ok (.goto 4, 3) := by decide +kernel
set_option maxRecDepth 20000 in
theorem dL_undoes_207 : decode cL_undoes 207 = .ok (.iconst 0, 1) := by decide +kernel
set_option maxRecDepth 20000 in
theorem dL_undoes_208 : decode cL_undoes 208 = .ok (.istore 11, 2) := by decide +kernel
set_option maxRecDepth 20000 in
theorem dL_undoes_210 : decode cL_undoes 210 = .ok (.iconst 0, 1) := by decide +kernel
set_option maxRecDepth 20000 in
theorem dL_undoes_211 : decode cL_undoes 211 = .ok (.istore 12, 2) := by decide +kernel
set_option maxRecDepth 20000 in
theorem dL_undoes_213 : decode cL_undoes 213 = .ok (.iload 12, 2) := by decide +kernel
set_option maxRecDepth 20000 in
theorem dL_undoes_215 : decode cL_undoes 215 = .ok (.bipush 16, 2) := by decide +kernel
set_option maxRecDepth 20000 in
theorem dL_undoes_217 : decode cL_undoes 217 = .ok (.if_icmp .ge 95, 3) := by decide +kernel
set_option maxRecDepth 20000 in
theorem dL_undoes_220 : decode cL_undoes 220 = .ok (.iload 11, 2) := by decide +kernel
set_option maxRecDepth 20000 in
theorem dL_undoes_222 : decode cL_undoes 222 = .ok (.ifCond .eq 90, 3) := by decide +kernel
set_option maxRecDepth 20000 in
theorem dL_undoes_225 : decode cL_undoes 225 = .ok (.aload_n 0, 1) := by decide +kernel
set_option maxRecDepth 20000 in
theorem dL_undoes_226 : decode cL_undoes 226 = .ok (.iload 12, 2) := by decide +kernel
set_option maxRecDepth 20000 in
theorem dL_undoes_228 : decode cL_undoes 228 = .ok (.invokevirtual 10, 3) := by decide +kernel
set_option maxRecDepth 20000 in
theorem dL_undoes_231 : decode cL_undoes 231 = .ok (.aload 7, 2) := by decide +kernel
set_option maxRecDepth 20000 in
theorem dL_undoes_233 : decode cL_undoes 233 = .ok (.iload 12, 2) := by decide +kernel
set_option maxRecDepth 20000 in
theorem dL_undoes_235 : decode cL_undoes 235 = .ok (.iaload, 1) := by decide +kernel
set_option maxRecDepth 20000 in
theorem dL_undoes_236 : decode cL_undoes 236 = .ok (.if_icmp .ne 67, 3) := by decide +kernel
set_option maxRecDepth 20000 in
theorem dL_undoes_239 : decode cL_undoes 239 = .ok (.iload 10, 2) := by decide +kernel
set_option maxRecDepth 20000 in
theorem dL_undoes_241 : decode cL_undoes 241 = .ok (.iload 12, 2) := by decide +kernel
set_option maxRecDepth 20000 in
theorem dL_undoes_243 : decode cL_undoes 243 = .ok (.ishr, 1) := by decide +kernel
set_option maxRecDepth 20000 in
theorem dL_undoes_244 : decode cL_undoes 244 = .ok (.iconst 1, 1) := by decide +kernel
set_option maxRecDepth 20000 in
theorem dL_undoes_245 : decode cL_undoes 245 = .ok (.iand, 1) := by decide +kernel
set_option maxRecDepth 20000 in
theorem dL_undoes_246 : decode cL_undoes 246 = .ok (.iconst 1, 1) := by decide +kernel
set_option maxRecDepth 20000 in
theorem dL_undoes_247 : decode cL_undoes 247 = .ok (.if_icmp .eq 16, 3) := by decide +kernel
set_option maxRecDepth 20000 in
theorem dL_undoes_250 : decode cL_undoes 250 = .ok (.aload 7, 2) := by decide +kernel
set_option maxRecDepth 20000 in
theorem dL_undoes_252 : decode cL_undoes 252 = .ok (.iload 12, 2) := by decide +kernel
set_option maxRecDepth 20000 in
theorem dL_undoes_254 : decode cL_undoes 254 = .ok (.iaload, 1) := by decide +kernel
set_option maxRecDepth 20000 in
theorem dL_undoes_255 : decode cL_undoes 255 = .ok (.aload 4, 2) := by decide +kernel
set_option maxRecDepth 20000 in
theorem dL_undoes_257 : decode cL_undoes 257 = .ok (.iload 12, 2) := by decide +kernel
set_option maxRecDepth 20000 in
theorem dL_undoes_259 : decode cL_undoes 259 = .ok (.iaload, 1) := by decide +kernel
set_option maxRecDepth 20000 in
theorem dL_undoes_260 : decode cL_undoes 260 = .ok (.if_icmp .ne 43, 3) := by decide +kernel
set_option maxRecDepth 20000 in
theorem dL_undoes_263 : decode cL_undoes 263 = .ok (.iload_n 3, 1) := by decide +kernel
set_option maxRecDepth 20000 in
theorem dL_undoes_264 : decode cL_undoes 264 = .ok (.iconst 1, 1) := by decide +kernel
set_option maxRecDepth 20000 in
theorem dL_undoes_265 : decode cL_undoes 265 = .ok (.if_icmp .eq 34, 3) := by decide +kernel
set_option maxRecDepth 20000 in
theorem dL_undoes_268 : decode cL_undoes 268 = .ok (.iload 9, 2) := by decide +kernel
set_option maxRecDepth 20000 in
theorem dL_undoes_270 : decode cL_undoes 270 = .ok (.iload 12, 2) := by decide +kernel
set_option maxRecDepth 20000 in
theorem dL_undoes_272 : decode cL_undoes 272 = .ok (.ishr, 1) := by decide +kernel
set_option maxRecDepth 20000 in
theorem dL_undoes_273 : decode cL_undoes 273 = .ok (.iconst 1, 1) := by decide +kernel
set_option maxRecDepth 20000 in
theorem dL_undoes_274 : decode cL_undoes 274 = .ok (.iand, 1) := by decide +kernel
set_option maxRecDepth 20000 in
theorem dL_undoes_275 : decode cL_undoes 275 = .ok (.iconst 1, 1) := by decide +kernel
set_option maxRecDepth 20000 in
theorem dL_undoes_276 : decode cL_undoes 276 = .ok (.if_icmp .eq 23, 3) := by decide +kernel
set_option maxRecDepth 20000 in
theorem dL_undoes_279 : decode cL_undoes 279 = .ok (.aload_n 0, 1) := by decide +kernel
set_option maxRecDepth 20000 in
theorem dL_undoes_280 : decode cL_undoes 280 = .ok (.iload_n 1, 1) := by decide +kernel
set_option maxRecDepth 20000 in
theorem dL_undoes_281 : decode cL_undoes 281 = .ok (.iload 12, 2) := by decide +kernel
set_option maxRecDepth 20000 in
theorem dL_undoes_283 : decode cL_undoes 283 = .ok (.invokevirtual 19, 3) := by decide +kernel
set_option maxRecDepth 20000 in
theorem dL_undoes_286 : decode cL_undoes 286 = .ok (.aload 5, 2) := by decide +kernel
set_option maxRecDepth 20000 in
theorem dL_undoes_288 : decode cL_undoes 288 = .ok (.bipush 16, 2) := by decide +kernel
set_option maxRecDepth 20000 in
theorem dL_undoes_290 : decode cL_undoes 290 = .ok (.iload_n 1, 1) := by decide +kernel
set_option maxRecDepth 20000 in
theorem dL_undoes_291 : decode cL_undoes 291 = .ok (.imul, 1) := by decide +kernel
set_option maxRecDepth 20000 in
theorem dL_undoes_292 : decode cL_undoes 292 = .ok (.iload 12, 2) := by decide +kernel
set_option maxRecDepth 20000 in
theorem dL_undoes_294 : decode cL_undoes 294 = .ok (.iadd, 1) := by decide +kernel
set_option maxRecDepth 20000 in
theorem dL_undoes_295 : decode cL_undoes 295 = .ok (.iaload, 1) := by decide +kernel
set_option maxRecDepth 20000 in
theorem dL_undoes_296 : decode cL_undoes 296 = .ok (.if_icmp .ne 7, 3) := by decide +kernel
set_option maxRecDepth 20000 in
theorem dL_undoes_299 : decode cL_undoes 299 = .ok (.iconst 1, 1) := by decide +kernel
set_option maxRecDepth 20000 in
theorem dL_undoes_300 : decode cL_undoes 300 = .ok (.goto 4, 3) := by decide +kernel
set_option maxRecDepth 20000 in
theorem dL_undoes_303 : decode cL_undoes 303 = .ok (.iconst 0, 1) := by decide +kernel
set_option maxRecDepth 20000 in
theorem dL_undoes_304 : decode cL_undoes 304 = .ok (.istore 11, 2) := by decide +kernel
set_option maxRecDepth 20000 in
theorem dL_undoes_306 : decode cL_undoes 306 = .ok (.iinc 12 1, 3) := by decide +kernel
set_option maxRecDepth 20000 in
theorem dL_undoes_309 : decode cL_undoes 309 = .ok (.goto (-96), 3) := by decide +kernel
set_option maxRecDepth 20000 in
theorem dL_undoes_312 : decode cL_undoes 312 = .ok (.iload 11, 2) := by decide +kernel
set_option maxRecDepth 20000 in
theorem dL_undoes_314 : decode cL_undoes 314 = .ok (.ireturn, 1) := by decide +kernel
set_option maxRecDepth 20000 in
theorem dL_closes_0 : decode cL_closes 0 = .ok (.aload_n 0, 1) := by decide +kernel
set_option maxRecDepth 20000 in
theorem dL_closes_1 : decode cL_closes 1 = .ok (.iload_n 1, 1) := by decide +kernel
set_option maxRecDepth 20000 in
theorem dL_closes_2 : decode cL_closes 2 = .ok (.iconst 0, 1) := by decide +kernel
set_option maxRecDepth 20000 in
theorem dL_closes_3 : decode cL_closes 3 = .ok (.invokevirtual 23, 3) := by decide +kernel
set_option maxRecDepth 20000 in
theorem dL_closes_6 : decode cL_closes 6 = .ok (.istore 5, 2) := by decide +kernel
set_option maxRecDepth 20000 in
theorem dL_closes_8 : decode cL_closes 8 = .ok (.iconst 0, 1) := by decide +kernel
set_option maxRecDepth 20000 in
theorem dL_closes_9 : decode cL_closes 9 = .ok (.istore 6, 2) := by decide +kernel
set_option maxRecDepth 20000 in
theorem dL_closes_11 : decode cL_closes 11 = .ok (.iconst 0, 1) := by decide +kernel
set_option maxRecDepth 20000 in
theorem dL_closes_12 : decode cL_closes 12 = .ok (.istore 7, 2) := by decide +kernel
set_option maxRecDepth 20000 in
theorem dL_closes_14 : decode cL_closes 14 = .ok (.iload 7, 2) := by decide +kernel
set_option maxRecDepth 20000 in
theorem dL_closes_16 : decode cL_closes 16 = .ok (.bipush 16, 2) := by decide +kernel
set_option maxRecDepth 20000 in
theorem dL_closes_18 : decode cL_closes 18 = .ok (.if_icmp .ge 47, 3) := by decide +kernel
set_option maxRecDepth 20000 in
theorem dL_closes_21 : decode cL_closes 21 = .ok (.iload 6, 2) := by decide +kernel
set_option maxRecDepth 20000 in
theorem dL_closes_23 : decode cL_closes 23 = .ok (.aload 4, 2) := by decide +kernel
set_option maxRecDepth 20000 in
theorem dL_closes_25 : decode cL_closes 25 = .ok (.bipush 16, 2) := by decide +kernel
set_option maxRecDepth 20000 in
theorem dL_closes_27 : decode cL_closes 27 = .ok (.iload_n 1, 1) := by decide +kernel
set_option maxRecDepth 20000 in
theorem dL_closes_28 : decode cL_closes 28 = .ok (.imul, 1) := by decide +kernel
set_option maxRecDepth 20000 in
theorem dL_closes_29 : decode cL_closes 29 = .ok (.iload 7, 2) := by decide +kernel
set_option maxRecDepth 20000 in
theorem dL_closes_31 : decode cL_closes 31 = .ok (.iadd, 1) := by decide +kernel
set_option maxRecDepth 20000 in
theorem dL_closes_32 : decode cL_closes 32 = .ok (.iaload, 1) := by decide +kernel
set_option maxRecDepth 20000 in
theorem dL_closes_33 : decode cL_closes 33 = .ok (.iconst 2, 1) := by decide +kernel
set_option maxRecDepth 20000 in
theorem dL_closes_34 : decode cL_closes 34 = .ok (.if_icmp .ne 21, 3) := by decide +kernel
set_option maxRecDepth 20000 in
theorem dL_closes_37 : decode cL_closes 37 = .ok (.aload_n 3, 1) := by decide +kernel
set_option maxRecDepth 20000 in
theorem dL_closes_38 : decode cL_closes 38 = .ok (.iload 7, 2) := by decide +kernel
set_option maxRecDepth 20000 in
theorem dL_closes_40 : decode cL_closes 40 = .ok (.iaload, 1) := by decide +kernel
set_option maxRecDepth 20000 in
theorem dL_closes_41 : decode cL_closes 41 = .ok (.aload_n 3, 1) := by decide +kernel
set_option maxRecDepth 20000 in
theorem dL_closes_42 : decode cL_closes 42 = .ok (.bipush 16, 2) := by decide +kernel
set_option maxRecDepth 20000 in
theorem dL_closes_44 : decode cL_closes 44 = .ok (.iload 7, 2) := by decide +kernel
set_option maxRecDepth 20000 in
theorem dL_closes_46 : decode cL_closes 46 = .ok (.iadd, 1) := by decide +kernel
set_option maxRecDepth 20000 in
theorem dL_closes_47 : decode cL_closes 47 = .ok (.iaload, 1) := by decide +kernel
set_option maxRecDepth 20000 in
theorem dL_closes_48 : decode cL_closes 48 = .ok (.if_icmp .eq 7, 3) := by decide +kernel
set_option maxRecDepth 20000 in
theorem dL_closes_51 : decode cL_closes 51 = .ok (.iconst 1, 1) := by decide +kernel
set_option maxRecDepth 20000 in
theorem dL_closes_52 : decode cL_closes 52 = .ok (.goto 4, 3) := by decide +kernel
set_option maxRecDepth 20000 in
theorem dL_closes_55 : decode cL_closes 55 = .ok (.iconst 0, 1) := by decide +kernel
set_option maxRecDepth 20000 in
theorem dL_closes_56 : decode cL_closes 56 = .ok (.iadd, 1) := by decide +kernel
set_option maxRecDepth 20000 in
theorem dL_closes_57 : decode cL_closes 57 = .ok (.istore 6, 2) := by decide +kernel
set_option maxRecDepth 20000 in
theorem dL_closes_59 : decode cL_closes 59 = .ok (.iinc 7 1, 3) := by decide +kernel
set_option maxRecDepth 20000 in
theorem dL_closes_62 : decode cL_closes 62 = .ok (.goto (-48), 3) := by decide +kernel
set_option maxRecDepth 20000 in
theorem dL_closes_65 : decode cL_closes 65 = .ok (.iload_n 2, 1) := by decide +kernel
set_option maxRecDepth 20000 in
theorem dL_closes_66 : decode cL_closes 66 = .ok (.ifCond .eq 11, 3) := by decide +kernel
set_option maxRecDepth 20000 in
theorem dL_closes_69 : decode cL_closes 69 = .ok (.aload_n 0, 1) := by decide +kernel
set_option maxRecDepth 20000 in
theorem dL_closes_70 : decode cL_closes 70 = .ok (.iload_n 1, 1) := by decide +kernel
set_option maxRecDepth 20000 in
theorem dL_closes_71 : decode cL_closes 71 = .ok (.invokevirtual 93, 3) := by decide +kernel
set_option maxRecDepth 20000 in
theorem dL_closes_74 : decode cL_closes 74 = .ok (.goto 8, 3) := by decide +kernel
set_option maxRecDepth 20000 in
theorem dL_closes_77 : decode cL_closes 77 = .ok (.aload_n 0, 1) := by decide +kernel
set_option maxRecDepth 20000 in
theorem dL_closes_78 : decode cL_closes 78 = .ok (.iload_n 1, 1) := by decide +kernel
set_option maxRecDepth 20000 in
theorem dL_closes_79 : decode cL_closes 79 = .ok (.invokevirtual 96, 3) := by decide +kernel
set_option maxRecDepth 20000 in
theorem dL_closes_82 : decode cL_closes 82 = .ok (.istore 7, 2) := by decide +kernel
set_option maxRecDepth 20000 in
theorem dL_closes_84 : decode cL_closes 84 = .ok (.iload 5, 2) := by decide +kernel
set_option maxRecDepth 20000 in
theorem dL_closes_86 : decode cL_closes 86 = .ok (.ifCond .ne 16, 3) := by decide +kernel
set_option maxRecDepth 20000 in
theorem dL_closes_89 : decode cL_closes 89 = .ok (.iload 7, 2) := by decide +kernel
set_option maxRecDepth 20000 in
theorem dL_closes_91 : decode cL_closes 91 = .ok (.bipush (-4), 2) := by decide +kernel
set_option maxRecDepth 20000 in
theorem dL_closes_93 : decode cL_closes 93 = .ok (.if_icmp .ne 7, 3) := by decide +kernel
set_option maxRecDepth 20000 in
theorem dL_closes_96 : decode cL_closes 96 = .ok (.iconst 1, 1) := by decide +kernel
set_option maxRecDepth 20000 in
theorem dL_closes_97 : decode cL_closes 97 = .ok (.goto 4, 3) := by decide +kernel
set_option maxRecDepth 20000 in
theorem dL_closes_100 : decode cL_closes 100 = .ok (.iconst 0, 1) := by decide +kernel
set_option maxRecDepth 20000 in
theorem dL_closes_101 : decode cL_closes 101 = .ok (.ireturn, 1) := by decide +kernel
set_option maxRecDepth 20000 in
theorem dL_closes_102 : decode cL_closes 102 = .ok (.iload 7, 2) := by decide +kernel
set_option maxRecDepth 20000 in
theorem dL_closes_104 : decode cL_closes 104 = .ok (.iload 6, 2) := by decide +kernel
set_option maxRecDepth 20000 in
theorem dL_closes_106 : decode cL_closes 106 = .ok (.if_icmp .ne 26, 3) := by decide +kernel
set_option maxRecDepth 20000 in
theorem dL_closes_109 : decode cL_closes 109 = .ok (.aload_n 0, 1) := by decide +kernel
set_option maxRecDepth 20000 in
theorem dL_closes_110 : decode cL_closes 110 = .ok (.iload_n 1, 1) := by decide +kernel
set_option maxRecDepth 20000 in
theorem dL_closes_111 : decode cL_closes 111 = .ok (.iconst 0, 1) := by decide +kernel
set_option maxRecDepth 20000 in
theorem dL_closes_112 : decode cL_closes 112 = .ok (.invokevirtual 23, 3) := by decide +kernel
set_option maxRecDepth 20000 in
theorem dL_closes_115 : decode cL_closes 115 = .ok (.ifCond .ne 17, 3) := by decide +kernel
set_option maxRecDepth 20000 in
theorem dL_closes_118 : decode cL_closes 118 = .ok (.aload_n 0, 1) := by decide +kernel
set_option maxRecDepth 20000 in
theorem dL_closes_119 : decode cL_closes 119 = .ok (.aload 4, 2) := by decide +kernel
set_option maxRecDepth 20000 in
theorem dL_closes_121 : decode cL_closes 121 = .ok (.iload_n 1, 1) := by decide +kernel
set_option maxRecDepth 20000 in
theorem dL_closes_122 : decode cL_closes 122 = .ok (.invokestatic 80, 3) := by decide +kernel
set_option maxRecDepth 20000 in
theorem dL_closes_125 : decode cL_closes 125 = .ok (.ifCond .ne 7, 3) := by decide +kernel
set_option maxRecDepth 20000 in
theorem dL_closes_128 : decode cL_closes 128 = .ok (.iconst 1, 1) := by decide +kernel
set_option maxRecDepth 20000 in
theorem dL_closes_129 : decode cL_closes 129 = .ok (.goto 4, 3) := by decide +kernel
set_option maxRecDepth 20000 in
theorem dL_closes_132 : decode cL_closes 132 = .ok (.iconst 0, 1) := by decide +kernel
set_option maxRecDepth 20000 in
theorem dL_closes_133 : decode cL_closes 133 = .ok (.istore 8, 2) := by decide +kernel
set_option maxRecDepth 20000 in
theorem dL_closes_135 : decode cL_closes 135 = .ok (.iconst 0, 1) := by decide +kernel
set_option maxRecDepth 20000 in
theorem dL_closes_136 : decode cL_closes 136 = .ok (.istore 9, 2) := by decide +kernel
set_option maxRecDepth 20000 in
theorem dL_closes_138 : decode cL_closes 138 = .ok (.iload 9, 2) := by decide +kernel
set_option maxRecDepth 20000 in
theorem dL_closes_140 : decode cL_closes 140 = .ok (.bipush 16, 2) := by decide +kernel
set_option maxRecDepth 20000 in
theorem dL_closes_142 : decode cL_closes 142 = .ok (.if_icmp .ge 72, 3) := by decide +kernel
set_option maxRecDepth 20000 in
theorem dL_closes_145 : decode cL_closes 145 = .ok (.iload 8, 2) := by decide +kernel
set_option maxRecDepth 20000 in
theorem dL_closes_147 : decode cL_closes 147 = .ok (.ifCond .eq 67, 3) := by decide +kernel
set_option maxRecDepth 20000 in
theorem dL_closes_150 : decode cL_closes 150 = .ok (.aload_n 0, 1) := by decide +kernel
set_option maxRecDepth 20000 in
theorem dL_closes_151 : decode cL_closes 151 = .ok (.iload_n 1, 1) := by decide +kernel
set_option maxRecDepth 20000 in
theorem dL_closes_152 : decode cL_closes 152 = .ok (.iload 9, 2) := by decide +kernel
set_option maxRecDepth 20000 in
theorem dL_closes_154 : decode cL_closes 154 = .ok (.invokevirtual 19, 3) := by decide +kernel
set_option maxRecDepth 20000 in
theorem dL_closes_157 : decode cL_closes 157 = .ok (.ifCond .ne 48, 3) := by decide +kernel
set_option maxRecDepth 20000 in
theorem dL_closes_160 : decode cL_closes 160 = .ok (.aload_n 0, 1) := by decide +kernel
set_option maxRecDepth 20000 in
theorem dL_closes_161 : decode cL_closes 161 = .ok (.iload 9, 2) := by decide +kernel
set_option maxRecDepth 20000 in
theorem dL_closes_163 : decode cL_closes 163 = .ok (.invokevirtual 10, 3) := by decide +kernel
set_option maxRecDepth 20000 in
theorem dL_closes_166 : decode cL_closes 166 = .ok (.iload_n 2, 1) := by decide +kernel
set_option maxRecDepth 20000 in
theorem dL_closes_167 : decode cL_closes 167 = .ok (.ifCond .ne 27, 3) := by decide +kernel
set_option maxRecDepth 20000 in
theorem dL_closes_170 : decode cL_closes 170 = .ok (.aload 4, 2) := by decide +kernel
set_option maxRecDepth 20000 in
theorem dL_closes_172 : decode cL_closes 172 = .ok (.bipush 16, 2) := by decide +kernel
set_option maxRecDepth 20000 in
theorem dL_closes_174 : decode cL_closes 174 = .ok (.iload_n 1, 1) := by decide +kernel
set_option maxRecDepth 20000 in
theorem dL_closes_175 : decode cL_closes 175 = .ok (.imul, 1) := by decide +kernel
set_option maxRecDepth 20000 in
theorem dL_closes_176 : decode cL_closes 176 = .ok (.iload 9, 2) := by decide +kernel
set_option maxRecDepth 20000 in
theorem dL_closes_178 : decode cL_closes 178 = .ok (.iadd, 1) := by decide +kernel
set_option maxRecDepth 20000 in
theorem dL_closes_179 : decode cL_closes 179 = .ok (.iaload, 1) := by decide +kernel
set_option maxRecDepth 20000 in
theorem dL_closes_180 : decode cL_closes 180 = .ok (.iconst 2, 1) := by decide +kernel
set_option maxRecDepth 20000 in
theorem dL_closes_181 : decode cL_closes 181 = .ok (.if_icmp .ne 13, 3) := by decide +kernel
set_option maxRecDepth 20000 in
theorem dL_closes_184 : decode cL_closes 184 = .ok (.aload_n 3, 1) := by decide +kernel
set_option maxRecDepth 20000 in
theorem dL_closes_185 : decode cL_closes 185 = .ok (.bipush 16, 2) := by decide +kernel
set_option maxRecDepth 20000 in
theorem dL_closes_187 : decode cL_closes 187 = .ok (.iload 9, 2) := by decide +kernel
set_option maxRecDepth 20000 in
theorem dL_closes_189 : decode cL_closes 189 = .ok (.iadd, 1) := by decide +kernel
set_option maxRecDepth 20000 in
theorem dL_closes_190 : decode cL_closes 190 = .ok (.iaload, 1) := by decide +kernel
set_option maxRecDepth 20000 in
theorem dL_closes_191 : decode cL_closes 191 = .ok (.goto 7, 3) := by decide +kernel
set_option maxRecDepth 20000 in
theorem dL_closes_194 : decode cL_closes 194 = .ok (.aload_n 3, 1) := by decide +kernel
set_option maxRecDepth 20000 in
theorem dL_closes_195 : decode cL_closes 195 = .ok (.iload 9, 2) := by decide +kernel
set_option maxRecDepth 20000 in
theorem dL_closes_197 : decode cL_closes 197 = .ok (.iaload, 1) := by decide +kernel
set_option maxRecDepth 20000 in
theorem dL_closes_198 : decode cL_closes 198 = .ok (.if_icmp .ne 7, 3) := by decide +kernel
set_option maxRecDepth 20000 in
theorem dL_closes_201 : decode cL_closes 201 = .ok (.iconst 1, 1) := by decide +kernel
set_option maxRecDepth 20000 in
theorem dL_closes_202 : decode cL_closes 202 = .ok (.goto 4, 3) := by decide +kernel
set_option maxRecDepth 20000 in
theorem dL_closes_205 : decode cL_closes 205 = .ok (.iconst 0, 1) := by decide +kernel
set_option maxRecDepth 20000 in
theorem dL_closes_206 : decode cL_closes 206 = .ok (.istore 8, 2) := by decide +kernel
set_option maxRecDepth 20000 in
theorem dL_closes_208 : decode cL_closes 208 = .ok (.iinc 9 1, 3) := by decide +kernel
set_option maxRecDepth 20000 in
theorem dL_closes_211 : decode cL_closes 211 = .ok (.goto (-73), 3) := by decide +kernel
set_option maxRecDepth 20000 in
theorem dL_closes_214 : decode cL_closes 214 = .ok (.iload 8, 2) := by decide +kernel
set_option maxRecDepth 20000 in
theorem dL_closes_216 : decode cL_closes 216 = .ok (.ireturn, 1) := by decide +kernel
set_option maxRecDepth 20000 in
theorem dL_act_0 : decode cL_act 0 = .ok (.bipush 32, 2) := by decide +kernel
set_option maxRecDepth 20000 in
theorem dL_act_2 : decode cL_act 2 = .ok (.newarray .int, 2) := by decide +kernel
set_option maxRecDepth 20000 in
theorem dL_act_4 : decode cL_act 4 = .ok (.astore 4, 2) := by decide +kernel
set_option maxRecDepth 20000 in
theorem dL_act_6 : decode cL_act 6 = .ok (.bipush 48, 2) := by decide +kernel
set_option maxRecDepth 20000 in
theorem dL_act_8 : decode cL_act 8 = .ok (.newarray .int, 2) := by decide +kernel
set_option maxRecDepth 20000 in
theorem dL_act_10 : decode cL_act 10 = .ok (.astore 5, 2) := by decide +kernel
set_option maxRecDepth 20000 in
theorem dL_act_12 : decode cL_act 12 = .ok (.iload_n 1, 1) := by decide +kernel
set_option maxRecDepth 20000 in
theorem dL_act_13 : decode cL_act 13 = .ok (.iconst 5, 1) := by decide +kernel
set_option maxRecDepth 20000 in
theorem dL_act_14 : decode cL_act 14 = .ok (.ishr, 1) := by decide +kernel
set_option maxRecDepth 20000 in
theorem dL_act_15 : decode cL_act 15 = .ok (.iconst 3, 1) := by decide +kernel
set_option maxRecDepth 20000 in
theorem dL_act_16 : decode cL_act 16 = .ok (.invokestatic 46, 3) := by decide +kernel
set_option maxRecDepth 20000 in
theorem dL_act_19 : decode cL_act 19 = .ok (.istore 6, 2) := by decide +kernel
set_option maxRecDepth 20000 in
theorem dL_act_21 : decode cL_act 21 = .ok (.iload_n 1, 1) := by decide +kernel
set_option maxRecDepth 20000 in
theorem dL_act_22 : decode cL_act 22 = .ok (.bipush 20, 2) := by decide +kernel
set_option maxRecDepth 20000 in
theorem dL_act_24 : decode cL_act 24 = .ok (.invokestatic 46, 3) := by decide +kernel
set_option maxRecDepth 20000 in
theorem dL_act_27 : decode cL_act 27 = .ok (.istore 7, 2) := by decide +kernel
set_option maxRecDepth 20000 in
theorem dL_act_29 : decode cL_act 29 = .ok (.aload_n 0, 1) := by decide +kernel
set_option maxRecDepth 20000 in
theorem dL_act_30 : decode cL_act 30 = .ok (.aload 4, 2) := by decide +kernel
set_option maxRecDepth 20000 in
theorem dL_act_32 : decode cL_act 32 = .ok (.aload 5, 2) := by decide +kernel
set_option maxRecDepth 20000 in
theorem dL_act_34 : decode cL_act 34 = .ok (.invokestatic 99, 3) := by decide +kernel
set_option maxRecDepth 20000 in
theorem dL_act_37 : decode cL_act 37 = .ok (.iload 7, 2) := by decide +kernel
set_option maxRecDepth 20000 in
theorem dL_act_39 : decode cL_act 39 = .ok (.bipush 10, 2) := by decide +kernel
set_option maxRecDepth 20000 in
theorem dL_act_41 : decode cL_act 41 = .ok (.if_icmp .ge 34, 3) := by decide +kernel
set_option maxRecDepth 20000 in
theorem dL_act_44 : decode cL_act 44 = .ok (.aload_n 0, 1) := by decide +kernel
set_option maxRecDepth 20000 in
theorem dL_act_45 : decode cL_act 45 = .ok (.iload 7, 2) := by decide +kernel
set_option maxRecDepth 20000 in
theorem dL_act_47 : decode cL_act 47 = .ok (.bipush 6, 2) := by decide +kernel
set_option maxRecDepth 20000 in
theorem dL_act_49 : decode cL_act 49 = .ok (.if_icmp .ge 8, 3) := by decide +kernel
set_option maxRecDepth 20000 in
theorem dL_act_52 : decode cL_act 52 = .ok (.iload 7, 2) := by decide +kernel
set_option maxRecDepth 20000 in
theorem dL_act_54 : decode cL_act 54 = .ok (.goto 7, 3) := by decide +kernel
set_option maxRecDepth 20000 in
theorem dL_act_57 : decode cL_act 57 = .ok (.iload 7, 2) := by decide +kernel
set_option maxRecDepth 20000 in
theorem dL_act_59 : decode cL_act 59 = .ok (.iconst 4, 1) := by decide +kernel
set_option maxRecDepth 20000 in
theorem dL_act_60 : decode cL_act 60 = .ok (.isub, 1) := by decide +kernel
set_option maxRecDepth 20000 in
theorem dL_act_61 : decode cL_act 61 = .ok (.iload 6, 2) := by decide +kernel
set_option maxRecDepth 20000 in
theorem dL_act_63 : decode cL_act 63 = .ok (.iload_n 2, 1) := by decide +kernel
set_option maxRecDepth 20000 in
theorem dL_act_64 : decode cL_act 64 = .ok (.aload_n 3, 1) := by decide +kernel
set_option maxRecDepth 20000 in
theorem dL_act_65 : decode cL_act 65 = .ok (.iconst 0, 1) := by decide +kernel
set_option maxRecDepth 20000 in
theorem dL_act_66 : decode cL_act 66 = .ok (.iaload, 1) := by decide +kernel
set_option maxRecDepth 20000 in
theorem dL_act_67 : decode cL_act 67 = .ok (.aload 4, 2) := by decide +kernel
set_option maxRecDepth 20000 in
theorem dL_act_69 : decode cL_act 69 = .ok (.aload 5, 2) := by decide +kernel
set_option maxRecDepth 20000 in
theorem dL_act_71 : decode cL_act 71 = .ok (.invokestatic 103, 3) := by decide +kernel
set_option maxRecDepth 20000 in
theorem dL_act_74 : decode cL_act 74 = .ok (.ireturn, 1) := by decide +kernel
set_option maxRecDepth 20000 in
theorem dL_act_75 : decode cL_act 75 = .ok (.iload 7, 2) := by decide +kernel
set_option maxRecDepth 20000 in
theorem dL_act_77 : decode cL_act 77 = .ok (.bipush 13, 2) := by decide +kernel
set_option maxRecDepth 20000 in
theorem dL_act_79 : decode cL_act 79 = .ok (.if_icmp .ge 84, 3) := by decide +kernel
set_option maxRecDepth 20000 in
theorem dL_act_82 : decode cL_act 82 = .ok (.aload_n 0, 1) := by decide +kernel
set_option maxRecDepth 20000 in
theorem dL_act_83 : decode cL_act 83 = .ok (.iload 6, 2) := by decide +kernel
set_option maxRecDepth 20000 in
theorem dL_act_85 : decode cL_act 85 = .ok (.iconst 1, 1) := by decide +kernel
set_option maxRecDepth 20000 in
theorem dL_act_86 : decode cL_act 86 = .ok (.invokevirtual 23, 3) := by decide +kernel
set_option maxRecDepth 20000 in
theorem dL_act_89 : decode cL_act 89 = .ok (.istore 8, 2) := by decide +kernel
set_option maxRecDepth 20000 in
theorem dL_act_91 : decode cL_act 91 = .ok (.aload_n 0, 1) := by decide +kernel
set_option maxRecDepth 20000 in
theorem dL_act_92 : decode cL_act 92 = .ok (.iload 6, 2) := by decide +kernel
set_option maxRecDepth 20000 in
theorem dL_act_94 : decode cL_act 94 = .ok (.iconst 0, 1) := by decide +kernel
set_option maxRecDepth 20000 in
theorem dL_act_95 : decode cL_act 95 = .ok (.invokevirtual 23, 3) := by decide +kernel
set_option maxRecDepth 20000 in
theorem dL_act_98 : decode cL_act 98 = .ok (.istore 9, 2) := by decide +kernel
set_option maxRecDepth 20000 in
theorem dL_act_100 : decode cL_act 100 = .ok (.aload_n 0, 1) := by decide +kernel
set_option maxRecDepth 20000 in
theorem dL_act_101 : decode cL_act 101 = .ok (.iload 6, 2) := by decide +kernel
set_option maxRecDepth 20000 in
theorem dL_act_103 : decode cL_act 103 = .ok (.iload_n 2, 1) := by decide +kernel
set_option maxRecDepth 20000 in
theorem dL_act_104 : decode cL_act 104 = .ok (.iconst 3, 1) := by decide +kernel
set_option maxRecDepth 20000 in
theorem dL_act_105 : decode cL_act 105 = .ok (.invokestatic 46, 3) := by decide +kernel
set_option maxRecDepth 20000 in
theorem dL_act_108 : decode cL_act 108 = .ok (.invokevirtual 107, 3) := by decide +kernel
set_option maxRecDepth 20000 in
theorem dL_act_111 : decode cL_act 111 = .ok (.iload 9, 2) := by decide +kernel
set_option maxRecDepth 20000 in
theorem dL_act_113 : decode cL_act 113 = .ok (.ifCond .ne 8, 3) := by decide +kernel
set_option maxRecDepth 20000 in
theorem dL_act_116 : decode cL_act 116 = .ok (.bipush (-4), 2) := by decide +kernel
set_option maxRecDepth 20000 in
theorem dL_act_118 : decode cL_act 118 = .ok (.goto 17, 3) := by decide +kernel
set_option maxRecDepth 20000 in
theorem dL_act_121 : decode cL_act 121 = .ok (.iload 8, 2) := by decide +kernel
set_option maxRecDepth 20000 in
theorem dL_act_123 : decode cL_act 123 = .ok (.bipush 12, 2) := by decide +kernel
set_option maxRecDepth 20000 in
theorem dL_act_125 : decode cL_act 125 = .ok (.if_icmp .ne 8, 3) := by decide +kernel
set_option maxRecDepth 20000 in
theorem dL_act_128 : decode cL_act 128 = .ok (.bipush (-3), 2) := by decide +kernel
set_option maxRecDepth 20000 in
theorem dL_act_130 : decode cL_act 130 = .ok (.goto 5, 3) := by decide +kernel
set_option maxRecDepth 20000 in
theorem dL_act_133 : decode cL_act 133 = .ok (.iload 8, 2) := by decide +kernel
set_option maxRecDepth 20000 in
theorem dL_act_135 : decode cL_act 135 = .ok (.if_icmp .ne 26, 3) := by decide +kernel
set_option maxRecDepth 20000 in
theorem dL_act_138 : decode cL_act 138 = .ok (.aload_n 0, 1) := by decide +kernel
set_option maxRecDepth 20000 in
theorem dL_act_139 : decode cL_act 139 = .ok (.aload 4, 2) := by decide +kernel
set_option maxRecDepth 20000 in
theorem dL_act_141 : decode cL_act 141 = .ok (.invokestatic 76, 3) := by decide +kernel
set_option maxRecDepth 20000 in
theorem dL_act_144 : decode cL_act 144 = .ok (.ifCond .eq 17, 3) := by decide +kernel
set_option maxRecDepth 20000 in
theorem dL_act_147 : decode cL_act 147 = .ok (.aload_n 0, 1) := by decide +kernel
set_option maxRecDepth 20000 in
theorem dL_act_148 : decode cL_act 148 = .ok (.aload 5, 2) := by decide +kernel
set_option maxRecDepth 20000 in
theorem dL_act_150 : decode cL_act 150 = .ok (.iconst 3, 1) := by decide +kernel
set_option maxRecDepth 20000 in
theorem dL_act_151 : decode cL_act 151 = .ok (.invokestatic 80, 3) := by decide +kernel
set_option maxRecDepth 20000 in
theorem dL_act_154 : decode cL_act 154 = .ok (.ifCond .ne 7, 3) := by decide +kernel
set_option maxRecDepth 20000 in
theorem dL_act_157 : decode cL_act 157 = .ok (.iconst 1, 1) := by decide +kernel
set_option maxRecDepth 20000 in
theorem dL_act_158 : decode cL_act 158 = .ok (.goto 4, 3) := by decide +kernel
set_option maxRecDepth 20000 in
theorem dL_act_161 : decode cL_act 161 = .ok (.iconst 0, 1) := by decide +kernel
set_option maxRecDepth 20000 in
theorem dL_act_162 : decode cL_act 162 = .ok (.ireturn, 1) := by decide +kernel
set_option maxRecDepth 20000 in
theorem dL_act_163 : decode cL_act 163 = .ok (.iload 7, 2) := by decide +kernel
set_option maxRecDepth 20000 in
theorem dL_act_165 : decode cL_act 165 = .ok (.bipush 13, 2) := by decide +kernel
set_option maxRecDepth 20000 in
theorem dL_act_167 : decode cL_act 167 = .ok (.if_icmp .ne 22, 3) := by decide +kernel
set_option maxRecDepth 20000 in
theorem dL_act_170 : decode cL_act 170 = .ok (.aload_n 0, 1) := by decide +kernel
set_option maxRecDepth 20000 in
theorem dL_act_171 : decode cL_act 171 = .ok (.iload 6, 2) := by decide +kernel
set_option maxRecDepth 20000 in
theorem dL_act_173 : decode cL_act 173 = .ok (.iload_n 2, 1) := by decide +kernel
set_option maxRecDepth 20000 in
theorem dL_act_174 : decode cL_act 174 = .ok (.iconst 3, 1) := by decide +kernel
set_option maxRecDepth 20000 in
theorem dL_act_175 : decode cL_act 175 = .ok (.invokestatic 46, 3) := by decide +kernel
set_option maxRecDepth 20000 in
theorem dL_act_178 : decode cL_act 178 = .ok (.aload_n 3, 1) := by decide +kernel
set_option maxRecDepth 20000 in
theorem dL_act_179 : decode cL_act 179 = .ok (.iconst 0, 1) := by decide +kernel
set_option maxRecDepth 20000 in
theorem dL_act_180 : decode cL_act 180 = .ok (.iaload, 1) := by decide +kernel
set_option maxRecDepth 20000 in
theorem dL_act_181 : decode cL_act 181 = .ok (.aload 4, 2) := by decide +kernel
set_option maxRecDepth 20000 in
theorem dL_act_183 : decode cL_act 183 = .ok (.aload 5, 2) := by decide +kernel
set_option maxRecDepth 20000 in
theorem dL_act_185 : decode cL_act 185 = .ok (.invokestatic 110, 3) := by decide +kernel
set_option maxRecDepth 20000 in
theorem dL_act_188 : decode cL_act 188 = .ok (.ireturn, 1) := by decide +kernel
set_option maxRecDepth 20000 in
theorem dL_act_189 : decode cL_act 189 = .ok (.iload 7, 2) := by decide +kernel
set_option maxRecDepth 20000 in
theorem dL_act_191 : decode cL_act 191 = .ok (.bipush 14, 2) := by decide +kernel
set_option maxRecDepth 20000 in
theorem dL_act_193 : decode cL_act 193 = .ok (.if_icmp .ne 101, 3) := by decide +kernel
set_option maxRecDepth 20000 in
theorem dL_act_196 : decode cL_act 196 = .ok (.aload_n 0, 1) := by decide +kernel
set_option maxRecDepth 20000 in
theorem dL_act_197 : decode cL_act 197 = .ok (.iload 6, 2) := by decide +kernel
set_option maxRecDepth 20000 in
theorem dL_act_199 : decode cL_act 199 = .ok (.iconst 1, 1) := by decide +kernel
set_option maxRecDepth 20000 in
theorem dL_act_200 : decode cL_act 200 = .ok (.invokevirtual 23, 3) := by decide +kernel
set_option maxRecDepth 20000 in
theorem dL_act_203 : decode cL_act 203 = .ok (.istore 8, 2) := by decide +kernel
set_option maxRecDepth 20000 in
theorem dL_act_205 : decode cL_act 205 = .ok (.aload_n 0, 1) := by decide +kernel
set_option maxRecDepth 20000 in
theorem dL_act_206 : decode cL_act 206 = .ok (.iload 6, 2) := by decide +kernel
set_option maxRecDepth 20000 in
theorem dL_act_208 : decode cL_act 208 = .ok (.iload_n 2, 1) := by decide +kernel
set_option maxRecDepth 20000 in
theorem dL_act_209 : decode cL_act 209 = .ok (.iconst 3, 1) := by decide +kernel
set_option maxRecDepth 20000 in
theorem dL_act_210 : decode cL_act 210 = .ok (.invokestatic 46, 3) := by decide +kernel
set_option maxRecDepth 20000 in
theorem dL_act_213 : decode cL_act 213 = .ok (.invokevirtual 33, 3) := by decide +kernel
set_option maxRecDepth 20000 in
theorem dL_act_216 : decode cL_act 216 = .ok (.istore 9, 2) := by decide +kernel
set_option maxRecDepth 20000 in
theorem dL_act_218 : decode cL_act 218 = .ok (.aload_n 0, 1) := by decide +kernel
set_option maxRecDepth 20000 in
theorem dL_act_219 : decode cL_act 219 = .ok (.iload 6, 2) := by decide +kernel
set_option maxRecDepth 20000 in
theorem dL_act_221 : decode cL_act 221 = .ok (.iload_n 2, 1) := by decide +kernel
set_option maxRecDepth 20000 in
theorem dL_act_222 : decode cL_act 222 = .ok (.iconst 3, 1) := by decide +kernel
set_option maxRecDepth 20000 in
theorem dL_act_223 : decode cL_act 223 = .ok (.invokestatic 46, 3) := by decide +kernel
set_option maxRecDepth 20000 in
theorem dL_act_226 : decode cL_act 226 = .ok (.invokevirtual 87, 3) := by decide +kernel
set_option maxRecDepth 20000 in
theorem dL_act_229 : decode cL_act 229 = .ok (.iload 9, 2) := by decide +kernel
set_option maxRecDepth 20000 in
theorem dL_act_231 : decode cL_act 231 = .ok (.ifCond .ge 8, 3) := by decide +kernel
set_option maxRecDepth 20000 in
theorem dL_act_234 : decode cL_act 234 = .ok (.bipush (-4), 2) := by decide +kernel
set_option maxRecDepth 20000 in
theorem dL_act_236 : decode cL_act 236 = .ok (.goto 8, 3) := by decide +kernel
set_option maxRecDepth 20000 in
theorem dL_act_239 : decode cL_act 239 = .ok (.iload 8, 2) := by decide +kernel
set_option maxRecDepth 20000 in
theorem dL_act_241 : decode cL_act 241 = .ok (.iload 9, 2) := by decide +kernel
set_option maxRecDepth 20000 in
theorem dL_act_243 : decode cL_act 243 = .ok (.isub, 1) := by decide +kernel
set_option maxRecDepth 20000 in
theorem dL_act_244 : decode cL_act 244 = .ok (.if_icmp .ne 48, 3) := by decide +kernel
set_option maxRecDepth 20000 in
theorem dL_act_247 : decode cL_act 247 = .ok (.aload_n 0, 1) := by decide +kernel
set_option maxRecDepth 20000 in
theorem dL_act_248 : decode cL_act 248 = .ok (.iload 6, 2) := by decide +kernel
set_option maxRecDepth 20000 in
theorem dL_act_250 : decode cL_act 250 = .ok (.iconst 1, 1) := by decide +kernel
set_option maxRecDepth 20000 in
theorem dL_act_251 : decode cL_act 251 = .ok (.invokevirtual 23, 3) := by decide +kernel
set_option maxRecDepth 20000 in
theorem dL_act_254 : decode cL_act 254 = .ok (.iload 9, 2) := by decide +kernel
set_option maxRecDepth 20000 in
theorem dL_act_256 : decode cL_act 256 = .ok (.ifCond .ge 8, 3) := by decide +kernel
set_option maxRecDepth 20000 in
theorem dL_act_259 : decode cL_act 259 = .ok (.iload 8, 2) := by decide +kernel
set_option maxRecDepth 20000 in
theorem dL_act_261 : decode cL_act 261 = .ok (.goto 5, 3) := by decide +kernel
set_option maxRecDepth 20000 in
theorem dL_act_264 : decode cL_act 264 = .ok (.iload 9, 2) := by decide +kernel
set_option maxRecDepth 20000 in
theorem dL_act_266 : decode cL_act 266 = .ok (.if_icmp .ne 26, 3) := by decide +kernel
set_option maxRecDepth 20000 in
theorem dL_act_269 : decode cL_act 269 = .ok (.aload_n 0, 1) := by decide +kernel
set_option maxRecDepth 20000 in
theorem dL_act_270 : decode cL_act 270 = .ok (.aload 4, 2) := by decide +kernel
set_option maxRecDepth 20000 in
theorem dL_act_272 : decode cL_act 272 = .ok (.invokestatic 76, 3) := by decide +kernel
set_option maxRecDepth 20000 in
theorem dL_act_275 : decode cL_act 275 = .ok (.ifCond .eq 17, 3) := by decide +kernel
set_option maxRecDepth 20000 in
theorem dL_act_278 : decode cL_act 278 = .ok (.aload_n 0, 1) := by decide +kernel
set_option maxRecDepth 20000 in
theorem dL_act_279 : decode cL_act 279 = .ok (.aload 5, 2) := by decide +kernel
set_option maxRecDepth 20000 in
theorem dL_act_281 : decode cL_act 281 = .ok (.iconst 3, 1) := by decide +kernel
set_option maxRecDepth 20000 in
theorem dL_act_282 : decode cL_act 282 = .ok (.invokestatic 80, 3) := by decide +kernel
set_option maxRecDepth 20000 in
theorem dL_act_285 : decode cL_act 285 = .ok (.ifCond .ne 7, 3) := by decide +kernel
set_option maxRecDepth 20000 in
theorem dL_act_288 : decode cL_act 288 = .ok (.iconst 1, 1) := by decide +kernel
set_option maxRecDepth 20000 in
theorem dL_act_289 : decode cL_act 289 = .ok (.goto 4, 3) := by decide +kernel
set_option maxRecDepth 20000 in
theorem dL_act_292 : decode cL_act 292 = .ok (.iconst 0, 1) := by decide +kernel
set_option maxRecDepth 20000 in
theorem dL_act_293 : decode cL_act 293 = .ok (.ireturn, 1) := by decide +kernel
set_option maxRecDepth 20000 in
theorem dL_act_294 : decode cL_act 294 = .ok (.iload 7, 2) := by decide +kernel
set_option maxRecDepth 20000 in
theorem dL_act_296 : decode cL_act 296 = .ok (.bipush 15, 2) := by decide +kernel
set_option maxRecDepth 20000 in
theorem dL_act_298 : decode cL_act 298 = .ok (.if_icmp .ne 52, 3) := by decide +kernel
set_option maxRecDepth 20000 in
theorem dL_act_301 : decode cL_act 301 = .ok (.aload_n 3, 1) := by decide +kernel
set_option maxRecDepth 20000 in
theorem dL_act_302 : decode cL_act 302 = .ok (.iconst 0, 1) := by decide +kernel
set_option maxRecDepth 20000 in
theorem dL_act_303 : decode cL_act 303 = .ok (.iaload, 1) := by decide +kernel
set_option maxRecDepth 20000 in
theorem dL_act_304 : decode cL_act 304 = .ok (.istore 8, 2) := by decide +kernel
set_option maxRecDepth 20000 in
theorem dL_act_306 : decode cL_act 306 = .ok (.aload_n 3, 1) := by decide +kernel
set_option maxRecDepth 20000 in
theorem dL_act_307 : decode cL_act 307 = .ok (.iconst 0, 1) := by decide +kernel
set_option maxRecDepth 20000 in
theorem dL_act_308 : decode cL_act 308 = .ok (.iload_n 2, 1) := by decide +kernel
set_option maxRecDepth 20000 in
theorem dL_act_309 : decode cL_act 309 = .ok (.iconst 2, 1) := by decide +kernel
set_option maxRecDepth 20000 in
theorem dL_act_310 : decode cL_act 310 = .ok (.invokestatic 46, 3) := by decide +kernel
set_option maxRecDepth 20000 in
theorem dL_act_313 : decode cL_act 313 = .ok (.iastore, 1) := by decide +kernel
set_option maxRecDepth 20000 in
theorem dL_act_314 : decode cL_act 314 = .ok (.aload_n 0, 1) := by decide +kernel
set_option maxRecDepth 20000 in
theorem dL_act_315 : decode cL_act 315 = .ok (.aload_n 3, 1) := by decide +kernel
set_option maxRecDepth 20000 in
theorem dL_act_316 : decode cL_act 316 = .ok (.iconst 0, 1) := by decide +kernel
set_option maxRecDepth 20000 in
theorem dL_act_317 : decode cL_act 317 = .ok (.iaload, 1) := by decide +kernel
set_option maxRecDepth 20000 in
theorem dL_act_318 : decode cL_act 318 = .ok (.iconst 1, 1) := by decide +kernel
set_option maxRecDepth 20000 in
theorem dL_act_319 : decode cL_act 319 = .ok (.if_icmp .ne 7, 3) := by decide +kernel
set_option maxRecDepth 20000 in
theorem dL_act_322 : decode cL_act 322 = .ok (.iconst 1, 1) := by decide +kernel
set_option maxRecDepth 20000 in
theorem dL_act_323 : decode cL_act 323 = .ok (.goto 4, 3) := by decide +kernel
set_option maxRecDepth 20000 in
theorem dL_act_326 : decode cL_act 326 = .ok (.iconst 0, 1) := by decide +kernel
set_option maxRecDepth 20000 in
theorem dL_act_327 : decode cL_act 327 = .ok (.invokevirtual 114, 3) := by decide +kernel
set_option maxRecDepth 20000 in
theorem dL_act_330 : decode cL_act 330 = .ok (.iload 8, 2) := by decide +kernel
set_option maxRecDepth 20000 in
theorem dL_act_332 : decode cL_act 332 = .ok (.if_icmp .ne 16, 3) := by decide +kernel
set_option maxRecDepth 20000 in
theorem dL_act_335 : decode cL_act 335 = .ok (.aload_n 0, 1) := by decide +kernel
set_option maxRecDepth 20000 in
theorem dL_act_336 : decode cL_act 336 = .ok (.aload 4, 2) := by decide +kernel
set_option maxRecDepth 20000 in
theorem dL_act_338 : decode cL_act 338 = .ok (.invokestatic 76, 3) := by decide +kernel
set_option maxRecDepth 20000 in
theorem dL_act_341 : decode cL_act 341 = .ok (.ifCond .eq 7, 3) := by decide +kernel
set_option maxRecDepth 20000 in
theorem dL_act_344 : decode cL_act 344 = .ok (.iconst 1, 1) := by decide +kernel
set_option maxRecDepth 20000 in
theorem dL_act_345 : decode cL_act 345 = .ok (.goto 4, 3) := by decide +kernel
set_option maxRecDepth 20000 in
theorem dL_act_348 : decode cL_act 348 = .ok (.iconst 0, 1) := by decide +kernel
set_option maxRecDepth 20000 in
theorem dL_act_349 : decode cL_act 349 = .ok (.ireturn, 1) := by decide +kernel
set_option maxRecDepth 20000 in
theorem dL_act_350 : decode cL_act 350 = .ok (.iload 7, 2) := by decide +kernel
set_option maxRecDepth 20000 in
theorem dL_act_352 : decode cL_act 352 = .ok (.bipush 16, 2) := by decide +kernel
set_option maxRecDepth 20000 in
theorem dL_act_354 : decode cL_act 354 = .ok (.if_icmp .ne 27, 3) := by decide +kernel
set_option maxRecDepth 20000 in
theorem dL_act_357 : decode cL_act 357 = .ok (.aload_n 0, 1) := by decide +kernel
set_option maxRecDepth 20000 in
theorem dL_act_358 : decode cL_act 358 = .ok (.iload 6, 2) := by decide +kernel
set_option maxRecDepth 20000 in
theorem dL_act_360 : decode cL_act 360 = .ok (.iload_n 2, 1) := by decide +kernel
set_option maxRecDepth 20000 in
theorem dL_act_361 : decode cL_act 361 = .ok (.iconst 2, 1) := by decide +kernel
set_option maxRecDepth 20000 in
theorem dL_act_362 : decode cL_act 362 = .ok (.invokestatic 46, 3) := by decide +kernel
set_option maxRecDepth 20000 in
theorem dL_act_365 : decode cL_act 365 = .ok (.ifCond .ne 7, 3) := by decide +kernel
set_option maxRecDepth 20000 in
theorem dL_act_368 : decode cL_act 368 = .ok (.iconst 1, 1) := by decide +kernel
set_option maxRecDepth 20000 in
theorem dL_act_369 : decode cL_act 369 = .ok (.goto 4, 3) := by decide +kernel
set_option maxRecDepth 20000 in
theorem dL_act_372 : decode cL_act 372 = .ok (.iconst 0, 1) := by decide +kernel
set_option maxRecDepth 20000 in
theorem dL_act_373 : decode cL_act 373 = .ok (.aload 4, 2) := by decide +kernel
set_option maxRecDepth 20000 in
theorem dL_act_375 : decode cL_act 375 = .ok (.aload 5, 2) := by decide +kernel
set_option maxRecDepth 20000 in
theorem dL_act_377 : decode cL_act 377 = .ok (.invokestatic 118, 3) := by decide +kernel
set_option maxRecDepth 20000 in
theorem dL_act_380 : decode cL_act 380 = .ok (.ireturn, 1) := by decide +kernel
set_option maxRecDepth 20000 in
theorem dL_act_381 : decode cL_act 381 = .ok (.aload_n 0, 1) := by decide +kernel
set_option maxRecDepth 20000 in
theorem dL_act_382 : decode cL_act 382 = .ok (.iconst 0, 1) := by decide +kernel
set_option maxRecDepth 20000 in
theorem dL_act_383 : decode cL_act 383 = .ok (.iconst 0, 1) := by decide +kernel
set_option maxRecDepth 20000 in
theorem dL_act_384 : decode cL_act 384 = .ok (.invokevirtual 23, 3) := by decide +kernel
set_option maxRecDepth 20000 in
theorem dL_act_387 : decode cL_act 387 = .ok (.aload_n 0, 1) := by decide +kernel
set_option maxRecDepth 20000 in
theorem dL_act_388 : decode cL_act 388 = .ok (.iconst 1, 1) := by decide +kernel
set_option maxRecDepth 20000 in
theorem dL_act_389 : decode cL_act 389 = .ok (.iconst 0, 1) := by decide +kernel
set_option maxRecDepth 20000 in
theorem dL_act_390 : decode cL_act 390 = .ok (.invokevirtual 23, 3) := by decide +kernel
set_option maxRecDepth 20000 in
theorem dL_act_393 : decode cL_act 393 = .ok (.iadd, 1) := by decide +kernel
set_option maxRecDepth 20000 in
theorem dL_act_394 : decode cL_act 394 = .ok (.aload_n 0, 1) := by decide +kernel
set_option maxRecDepth 20000 in
theorem dL_act_395 : decode cL_act 395 = .ok (.iconst 2, 1) := by decide +kernel
set_option maxRecDepth 20000 in
theorem dL_act_396 : decode cL_act 396 = .ok (.iconst 0, 1) := by decide +kernel
set_option maxRecDepth 20000 in
theorem dL_act_397 : decode cL_act 397 = .ok (.invokevirtual 23, 3) := by decide +kernel
set_option maxRecDepth 20000 in
theorem dL_act_400 : decode cL_act 400 = .ok (.iadd, 1) := by decide +kernel
set_option maxRecDepth 20000 in
theorem dL_act_401 : decode cL_act 401 = .ok (.istore 8, 2) := by decide +kernel
set_option maxRecDepth 20000 in
theorem dL_act_403 : decode cL_act 403 = .ok (.aload_n 0, 1) := by decide +kernel
set_option maxRecDepth 20000 in
theorem dL_act_404 : decode cL_act 404 = .ok (.iload 6, 2) := by decide +kernel
set_option maxRecDepth 20000 in
theorem dL_act_406 : decode cL_act 406 = .ok (.iconst 0, 1) := by decide +kernel
set_option maxRecDepth 20000 in
theorem dL_act_407 : decode cL_act 407 = .ok (.invokevirtual 23, 3) := by decide +kernel
set_option maxRecDepth 20000 in
theorem dL_act_410 : decode cL_act 410 = .ok (.iconst 1, 1) := by decide +kernel
set_option maxRecDepth 20000 in
theorem dL_act_411 : decode cL_act 411 = .ok (.if_icmp .ne 7, 3) := by decide +kernel
set_option maxRecDepth 20000 in
theorem dL_act_414 : decode cL_act 414 = .ok (.iconst 1, 1) := by decide +kernel
set_option maxRecDepth 20000 in
theorem dL_act_415 : decode cL_act 415 = .ok (.goto 4, 3) := by decide +kernel
set_option maxRecDepth 20000 in
theorem dL_act_418 : decode cL_act 418 = .ok (.iconst 0, 1) := by decide +kernel
set_option maxRecDepth 20000 in
theorem dL_act_419 : decode cL_act 419 = .ok (.istore 9, 2) := by decide +kernel
set_option maxRecDepth 20000 in
theorem dL_act_421 : decode cL_act 421 = .ok (.aload_n 0, 1) := by decide +kernel
set_option maxRecDepth 20000 in
theorem dL_act_422 : decode cL_act 422 = .ok (.iload 6, 2) := by decide +kernel
set_option maxRecDepth 20000 in
theorem dL_act_424 : decode cL_act 424 = .ok (.invokevirtual 122, 3) := by decide +kernel
set_option maxRecDepth 20000 in
theorem dL_act_427 : decode cL_act 427 = .ok (.iload 9, 2) := by decide +kernel
set_option maxRecDepth 20000 in
theorem dL_act_429 : decode cL_act 429 = .ok (.ifCond .eq 8, 3) := by decide +kernel
set_option maxRecDepth 20000 in
theorem dL_act_432 : decode cL_act 432 = .ok (.bipush (-4), 2) := by decide +kernel
set_option maxRecDepth 20000 in
theorem dL_act_434 : decode cL_act 434 = .ok (.goto 7, 3) := by decide +kernel
set_option maxRecDepth 20000 in
theorem dL_act_437 : decode cL_act 437 = .ok (.iload 8, 2) := by decide +kernel
set_option maxRecDepth 20000 in
theorem dL_act_439 : decode cL_act 439 = .ok (.iconst 1, 1) := by decide +kernel
set_option maxRecDepth 20000 in
theorem dL_act_440 : decode cL_act 440 = .ok (.iadd, 1) := by decide +kernel
set_option maxRecDepth 20000 in
theorem dL_act_441 : decode cL_act 441 = .ok (.if_icmp .ne 37, 3) := by decide +kernel
set_option maxRecDepth 20000 in
theorem dL_act_444 : decode cL_act 444 = .ok (.aload_n 0, 1) := by decide +kernel
set_option maxRecDepth 20000 in
theorem dL_act_445 : decode cL_act 445 = .ok (.iload 6, 2) := by decide +kernel
set_option maxRecDepth 20000 in
theorem dL_act_447 : decode cL_act 447 = .ok (.iconst 0, 1) := by decide +kernel
set_option maxRecDepth 20000 in
theorem dL_act_448 : decode cL_act 448 = .ok (.invokevirtual 23, 3) := by decide +kernel
set_option maxRecDepth 20000 in
theorem dL_act_451 : decode cL_act 451 = .ok (.iconst 1, 1) := by decide +kernel
set_option maxRecDepth 20000 in
theorem dL_act_452 : decode cL_act 452 = .ok (.if_icmp .ne 26, 3) := by decide +kernel
set_option maxRecDepth 20000 in
theorem dL_act_455 : decode cL_act 455 = .ok (.aload_n 0, 1) := by decide +kernel
set_option maxRecDepth 20000 in
theorem dL_act_456 : decode cL_act 456 = .ok (.aload 4, 2) := by decide +kernel
set_option maxRecDepth 20000 in
theorem dL_act_458 : decode cL_act 458 = .ok (.invokestatic 76, 3) := by decide +kernel
set_option maxRecDepth 20000 in
theorem dL_act_461 : decode cL_act 461 = .ok (.ifCond .eq 17, 3) := by decide +kernel
set_option maxRecDepth 20000 in
theorem dL_act_464 : decode cL_act 464 = .ok (.aload_n 0, 1) := by decide +kernel
set_option maxRecDepth 20000 in
theorem dL_act_465 : decode cL_act 465 = .ok (.aload 5, 2) := by decide +kernel
set_option maxRecDepth 20000 in
theorem dL_act_467 : decode cL_act 467 = .ok (.iconst 3, 1) := by decide +kernel
set_option maxRecDepth 20000 in
theorem dL_act_468 : decode cL_act 468 = .ok (.invokestatic 80, 3) := by decide +kernel
set_option maxRecDepth 20000 in
theorem dL_act_471 : decode cL_act 471 = .ok (.ifCond .ne 7, 3) := by decide +kernel
set_option maxRecDepth 20000 in
theorem dL_act_474 : decode cL_act 474 = .ok (.iconst 1, 1) := by decide +kernel
set_option maxRecDepth 20000 in
theorem dL_act_475 : decode cL_act 475 = .ok (.goto 4, 3) := by decide +kernel
set_option maxRecDepth 20000 in
theorem dL_act_478 : decode cL_act 478 = .ok (.iconst 0, 1) := by decide +kernel
set_option maxRecDepth 20000 in
theorem dL_act_479 : decode cL_act 479 = .ok (.ireturn, 1) := by decide +kernel
set_option maxRecDepth 20000 in
theorem dL_law_0 : decode cL_law 0 = .ok (.new 11, 3) := by decide +kernel
set_option maxRecDepth 20000 in
theorem dL_law_3 : decode cL_law 3 = .ok (.dup, 1) := by decide +kernel
set_option maxRecDepth 20000 in
theorem dL_law_4 : decode cL_law 4 = .ok (.invokespecial 125, 3) := by decide +kernel
set_option maxRecDepth 20000 in
theorem dL_law_7 : decode cL_law 7 = .ok (.astore_n 1, 1) := by decide +kernel
set_option maxRecDepth 20000 in
theorem dL_law_8 : decode cL_law 8 = .ok (.iconst 1, 1) := by decide +kernel
set_option maxRecDepth 20000 in
theorem dL_law_9 : decode cL_law 9 = .ok (.newarray .int, 2) := by decide +kernel
set_option maxRecDepth 20000 in
theorem dL_law_11 : decode cL_law 11 = .ok (.astore_n 2, 1) := by decide +kernel
set_option maxRecDepth 20000 in
theorem dL_law_12 : decode cL_law 12 = .ok (.aload_n 1, 1) := by decide +kernel
set_option maxRecDepth 20000 in
theorem dL_law_13 : decode cL_law 13 = .ok (.invokestatic 126, 3) := by decide +kernel
set_option maxRecDepth 20000 in
theorem dL_law_16 : decode cL_law 16 = .ok (.ifCond .ne 5, 3) := by decide +kernel
set_option maxRecDepth 20000 in
theorem dL_law_19 : decode cL_law 19 = .ok (.iconst 0, 1) := by decide +kernel
set_option maxRecDepth 20000 in
theorem dL_law_20 : decode cL_law 20 = .ok (.ireturn, 1) := by decide +kernel
set_option maxRecDepth 20000 in
theorem dL_law_21 : decode cL_law 21 = .ok (.iconst 0, 1) := by decide +kernel
set_option maxRecDepth 20000 in
theorem dL_law_22 : decode cL_law 22 = .ok (.istore_n 3, 1) := by decide +kernel
set_option maxRecDepth 20000 in
theorem dL_law_23 : decode cL_law 23 = .ok (.iload_n 3, 1) := by decide +kernel
set_option maxRecDepth 20000 in
theorem dL_law_24 : decode cL_law 24 = .ok (.bipush 50, 2) := by decide +kernel
set_option maxRecDepth 20000 in
theorem dL_law_26 : decode cL_law 26 = .ok (.if_icmp .ge 65, 3) := by decide +kernel
set_option maxRecDepth 20000 in
theorem dL_law_29 : decode cL_law 29 = .ok (.iload_n 3, 1) := by decide +kernel
set_option maxRecDepth 20000 in
theorem dL_law_30 : decode cL_law 30 = .ok (.ifCond .ne 8, 3) := by decide +kernel
set_option maxRecDepth 20000 in
theorem dL_law_33 : decode cL_law 33 = .ok (.bipush 17, 2) := by decide +kernel
set_option maxRecDepth 20000 in
theorem dL_law_35 : decode cL_law 35 = .ok (.goto 20, 3) := by decide +kernel
set_option maxRecDepth 20000 in
theorem dL_law_38 : decode cL_law 38 = .ok (.iload_n 3, 1) := by decide +kernel
set_option maxRecDepth 20000 in
theorem dL_law_39 : decode cL_law 39 = .ok (.iconst 1, 1) := by decide +kernel
set_option maxRecDepth 20000 in
theorem dL_law_40 : decode cL_law 40 = .ok (.if_icmp .ne 8, 3) := by decide +kernel
set_option maxRecDepth 20000 in
theorem dL_law_43 : decode cL_law 43 = .ok (.bipush 57, 2) := by decide +kernel
set_option maxRecDepth 20000 in
theorem dL_law_45 : decode cL_law 45 = .ok (.goto 10, 3) := by decide +kernel
set_option maxRecDepth 20000 in
theorem dL_law_48 : decode cL_law 48 = .ok (.aload_n 0, 1) := by decide +kernel
set_option maxRecDepth 20000 in
theorem dL_law_49 : decode cL_law 49 = .ok (.iconst 2, 1) := by decide +kernel
set_option maxRecDepth 20000 in
theorem dL_law_50 : decode cL_law 50 = .ok (.iload_n 3, 1) := by decide +kernel
set_option maxRecDepth 20000 in
theorem dL_law_51 : decode cL_law 51 = .ok (.imul, 1) := by decide +kernel
set_option maxRecDepth 20000 in
theorem dL_law_52 : decode cL_law 52 = .ok (.invokestatic 130, 3) := by decide +kernel
set_option maxRecDepth 20000 in
theorem dL_law_55 : decode cL_law 55 = .ok (.istore 4, 2) := by decide +kernel
set_option maxRecDepth 20000 in
theorem dL_law_57 : decode cL_law 57 = .ok (.aload_n 1, 1) := by decide +kernel
set_option maxRecDepth 20000 in
theorem dL_law_58 : decode cL_law 58 = .ok (.iload 4, 2) := by decide +kernel
set_option maxRecDepth 20000 in
theorem dL_law_60 : decode cL_law 60 = .ok (.aload_n 0, 1) := by decide +kernel
set_option maxRecDepth 20000 in
theorem dL_law_61 : decode cL_law 61 = .ok (.iconst 2, 1) := by decide +kernel
set_option maxRecDepth 20000 in
theorem dL_law_62 : decode cL_law 62 = .ok (.iload_n 3, 1) := by decide +kernel
set_option maxRecDepth 20000 in
theorem dL_law_63 : decode cL_law 63 = .ok (.imul, 1) := by decide +kernel
set_option maxRecDepth 20000 in
theorem dL_law_64 : decode cL_law 64 = .ok (.iconst 1, 1) := by decide +kernel
set_option maxRecDepth 20000 in
theorem dL_law_65 : decode cL_law 65 = .ok (.iadd, 1) := by decide +kernel
set_option maxRecDepth 20000 in
theorem dL_law_66 : decode cL_law 66 = .ok (.invokestatic 130, 3) := by decide +kernel
set_option maxRecDepth 20000 in
theorem dL_law_69 : decode cL_law 69 = .ok (.aload_n 2, 1) := by decide +kernel
set_option maxRecDepth 20000 in
theorem dL_law_70 : decode cL_law 70 = .ok (.invokestatic 134, 3) := by decide +kernel
set_option maxRecDepth 20000 in
theorem dL_law_73 : decode cL_law 73 = .ok (.ifCond .eq 10, 3) := by decide +kernel
set_option maxRecDepth 20000 in
theorem dL_law_76 : decode cL_law 76 = .ok (.aload_n 1, 1) := by decide +kernel
set_option maxRecDepth 20000 in
theorem dL_law_77 : decode cL_law 77 = .ok (.invokestatic 126, 3) := by decide +kernel
set_option maxRecDepth 20000 in
theorem dL_law_80 : decode cL_law 80 = .ok (.ifCond .ne 5, 3) := by decide +kernel
set_option maxRecDepth 20000 in
theorem dL_law_83 : decode cL_law 83 = .ok (.iconst 0, 1) := by decide +kernel
set_option maxRecDepth 20000 in
theorem dL_law_84 : decode cL_law 84 = .ok (.ireturn, 1) := by decide +kernel
set_option maxRecDepth 20000 in
theorem dL_law_85 : decode cL_law 85 = .ok (.iinc 3 1, 3) := by decide +kernel
set_option maxRecDepth 20000 in
theorem dL_law_88 : decode cL_law 88 = .ok (.goto (-65), 3) := by decide +kernel
set_option maxRecDepth 20000 in
theorem dL_law_91 : decode cL_law 91 = .ok (.iconst 1, 1) := by decide +kernel
set_option maxRecDepth 20000 in
theorem dL_law_92 : decode cL_law 92 = .ok (.ireturn, 1) := by decide +kernel
