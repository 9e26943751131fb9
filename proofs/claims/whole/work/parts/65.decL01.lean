theorem d_L_cell_0 : decode c_L_cell 0 = .ok (.iload_n 1, 1) := by decide +kernel
theorem d_L_cell_1 : decode c_L_cell 1 = .ok (.aload_n 0, 1) := by decide +kernel
theorem d_L_cell_2 : decode c_L_cell 2 = .ok (.arraylength, 1) := by decide +kernel
theorem d_L_cell_3 : decode c_L_cell 3 = .ok (.if_icmp .ge 9, 3) := by decide +kernel
theorem d_L_cell_6 : decode c_L_cell 6 = .ok (.aload_n 0, 1) := by decide +kernel
theorem d_L_cell_7 : decode c_L_cell 7 = .ok (.iload_n 1, 1) := by decide +kernel
theorem d_L_cell_8 : decode c_L_cell 8 = .ok (.iaload, 1) := by decide +kernel
theorem d_L_cell_9 : decode c_L_cell 9 = .ok (.goto 4, 3) := by decide +kernel
theorem d_L_cell_12 : decode c_L_cell 12 = .ok (.iconst 0, 1) := by decide +kernel
theorem d_L_cell_13 : decode c_L_cell 13 = .ok (.ireturn, 1) := by decide +kernel
theorem d_L_law_0 : decode code 0 = .ok (.new 7, 3) := by decide +kernel
theorem d_L_law_3 : decode code 3 = .ok (.dup, 1) := by decide +kernel
theorem d_L_law_4 : decode code 4 = .ok (.aload_n 0, 1) := by decide +kernel
theorem d_L_law_5 : decode code 5 = .ok (.iconst 0, 1) := by decide +kernel
theorem d_L_law_6 : decode code 6 = .ok (.invokestatic 9, 3) := by decide +kernel
theorem d_L_law_9 : decode code 9 = .ok (.aload_n 0, 1) := by decide +kernel
theorem d_L_law_10 : decode code 10 = .ok (.iconst 1, 1) := by decide +kernel
theorem d_L_law_11 : decode code 11 = .ok (.invokestatic 9, 3) := by decide +kernel
theorem d_L_law_14 : decode code 14 = .ok (.aload_n 0, 1) := by decide +kernel
theorem d_L_law_15 : decode code 15 = .ok (.iconst 2, 1) := by decide +kernel
theorem d_L_law_16 : decode code 16 = .ok (.invokestatic 9, 3) := by decide +kernel
theorem d_L_law_19 : decode code 19 = .ok (.invokespecial 15, 3) := by decide +kernel
theorem d_L_law_22 : decode code 22 = .ok (.astore_n 1, 1) := by decide +kernel
theorem d_L_law_23 : decode code 23 = .ok (.new 18, 3) := by decide +kernel
theorem d_L_law_26 : decode code 26 = .ok (.dup, 1) := by decide +kernel
theorem d_L_law_27 : decode code 27 = .ok (.aload_n 0, 1) := by decide +kernel
theorem d_L_law_28 : decode code 28 = .ok (.iconst 0, 1) := by decide +kernel
theorem d_L_law_29 : decode code 29 = .ok (.invokestatic 9, 3) := by decide +kernel
theorem d_L_law_32 : decode code 32 = .ok (.aload_n 0, 1) := by decide +kernel
theorem d_L_law_33 : decode code 33 = .ok (.iconst 1, 1) := by decide +kernel
theorem d_L_law_34 : decode code 34 = .ok (.invokestatic 9, 3) := by decide +kernel
theorem d_L_law_37 : decode code 37 = .ok (.aload_n 0, 1) := by decide +kernel
theorem d_L_law_38 : decode code 38 = .ok (.iconst 2, 1) := by decide +kernel
theorem d_L_law_39 : decode code 39 = .ok (.invokestatic 9, 3) := by decide +kernel
theorem d_L_law_42 : decode code 42 = .ok (.invokespecial 20, 3) := by decide +kernel
theorem d_L_law_45 : decode code 45 = .ok (.astore_n 2, 1) := by decide +kernel
theorem d_L_law_46 : decode code 46 = .ok (.iconst 3, 1) := by decide +kernel
theorem d_L_law_47 : decode code 47 = .ok (.istore_n 3, 1) := by decide +kernel
theorem d_L_law_48 : decode code 48 = .ok (.iload_n 3, 1) := by decide +kernel
theorem d_L_law_49 : decode code 49 = .ok (.aload_n 0, 1) := by decide +kernel
theorem d_L_law_50 : decode code 50 = .ok (.arraylength, 1) := by decide +kernel
theorem d_L_law_51 : decode code 51 = .ok (.iconst 5, 1) := by decide +kernel
theorem d_L_law_52 : decode code 52 = .ok (.isub, 1) := by decide +kernel
theorem d_L_law_53 : decode code 53 = .ok (.if_icmp .gt 699, 3) := by decide +kernel
theorem d_L_law_56 : decode code 56 = .ok (.aload_n 0, 1) := by decide +kernel
theorem d_L_law_57 : decode code 57 = .ok (.iload_n 3, 1) := by decide +kernel
theorem d_L_law_58 : decode code 58 = .ok (.iaload, 1) := by decide +kernel
theorem d_L_law_59 : decode code 59 = .ok (.bipush 31, 2) := by decide +kernel
theorem d_L_law_61 : decode code 61 = .ok (.iand, 1) := by decide +kernel
theorem d_L_law_62 : decode code 62 = .ok (.tableswitch 684 0 19 #[94, 147, 170, 193, 216, 239, 262, 305, 338, 381, 434, 447, 470, 493, 516, 539, 572, 605, 638, 671], 94) := by decide +kernel
