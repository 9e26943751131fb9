theorem d_Ro_send_17 : decode c_Ro_send 17 = .ok (.return_, 1) := by decide +kernel
theorem d_Ro_send_18 : decode c_Ro_send 18 = .ok (.aload_n 0, 1) := by decide +kernel
theorem d_Ro_send_19 : decode c_Ro_send 19 = .ok (.getfield 9, 3) := by decide +kernel
theorem d_Ro_send_22 : decode c_Ro_send 22 = .ok (.aload_n 0, 1) := by decide +kernel
theorem d_Ro_send_23 : decode c_Ro_send 23 = .ok (.getfield 18, 3) := by decide +kernel
theorem d_Ro_send_26 : decode c_Ro_send 26 = .ok (.iload_n 1, 1) := by decide +kernel
theorem d_Ro_send_27 : decode c_Ro_send 27 = .ok (.iconst 4, 1) := by decide +kernel
theorem d_Ro_send_28 : decode c_Ro_send 28 = .ok (.iload_n 2, 1) := by decide +kernel
theorem d_Ro_send_29 : decode c_Ro_send 29 = .ok (.imul, 1) := by decide +kernel
theorem d_Ro_send_30 : decode c_Ro_send 30 = .ok (.iadd, 1) := by decide +kernel
theorem d_Ro_send_31 : decode c_Ro_send 31 = .ok (.bipush 32, 2) := by decide +kernel
theorem d_Ro_send_33 : decode c_Ro_send 33 = .ok (.iload_n 3, 1) := by decide +kernel
theorem d_Ro_send_34 : decode c_Ro_send 34 = .ok (.imul, 1) := by decide +kernel
theorem d_Ro_send_35 : decode c_Ro_send 35 = .ok (.iadd, 1) := by decide +kernel
theorem d_Ro_send_36 : decode c_Ro_send 36 = .ok (.sipush 256, 3) := by decide +kernel
theorem d_Ro_send_39 : decode c_Ro_send 39 = .ok (.iload 4, 2) := by decide +kernel
theorem d_Ro_send_41 : decode c_Ro_send 41 = .ok (.imul, 1) := by decide +kernel
theorem d_Ro_send_42 : decode c_Ro_send 42 = .ok (.iadd, 1) := by decide +kernel
theorem d_Ro_send_43 : decode c_Ro_send 43 = .ok (.iastore, 1) := by decide +kernel
theorem d_Ro_send_44 : decode c_Ro_send 44 = .ok (.aload_n 0, 1) := by decide +kernel
theorem d_Ro_send_45 : decode c_Ro_send 45 = .ok (.getfield 15, 3) := by decide +kernel
theorem d_Ro_send_48 : decode c_Ro_send 48 = .ok (.aload_n 0, 1) := by decide +kernel
theorem d_Ro_send_49 : decode c_Ro_send 49 = .ok (.getfield 18, 3) := by decide +kernel
theorem d_Ro_send_52 : decode c_Ro_send 52 = .ok (.iload 5, 2) := by decide +kernel
theorem d_Ro_send_54 : decode c_Ro_send 54 = .ok (.iastore, 1) := by decide +kernel
theorem d_Ro_send_55 : decode c_Ro_send 55 = .ok (.aload_n 0, 1) := by decide +kernel
theorem d_Ro_send_56 : decode c_Ro_send 56 = .ok (.dup, 1) := by decide +kernel
theorem d_Ro_send_57 : decode c_Ro_send 57 = .ok (.getfield 18, 3) := by decide +kernel
theorem d_Ro_send_60 : decode c_Ro_send 60 = .ok (.iconst 1, 1) := by decide +kernel
theorem d_Ro_send_61 : decode c_Ro_send 61 = .ok (.iadd, 1) := by decide +kernel
theorem d_Ro_send_62 : decode c_Ro_send 62 = .ok (.putfield 18, 3) := by decide +kernel
theorem d_Ro_send_65 : decode c_Ro_send 65 = .ok (.return_, 1) := by decide +kernel
theorem d_Ro_remove_0 : decode c_Ro_remove 0 = .ok (.aload_n 0, 1) := by decide +kernel
theorem d_Ro_remove_1 : decode c_Ro_remove 1 = .ok (.dup, 1) := by decide +kernel
theorem d_Ro_remove_2 : decode c_Ro_remove 2 = .ok (.getfield 18, 3) := by decide +kernel
theorem d_Ro_remove_5 : decode c_Ro_remove 5 = .ok (.iconst 1, 1) := by decide +kernel
theorem d_Ro_remove_6 : decode c_Ro_remove 6 = .ok (.isub, 1) := by decide +kernel
theorem d_Ro_remove_7 : decode c_Ro_remove 7 = .ok (.putfield 18, 3) := by decide +kernel
theorem d_Ro_remove_10 : decode c_Ro_remove 10 = .ok (.aload_n 0, 1) := by decide +kernel
theorem d_Ro_remove_11 : decode c_Ro_remove 11 = .ok (.getfield 9, 3) := by decide +kernel
theorem d_Ro_remove_14 : decode c_Ro_remove 14 = .ok (.iload_n 1, 1) := by decide +kernel
theorem d_Ro_remove_15 : decode c_Ro_remove 15 = .ok (.iconst 1, 1) := by decide +kernel
theorem d_Ro_remove_16 : decode c_Ro_remove 16 = .ok (.iadd, 1) := by decide +kernel
theorem d_Ro_remove_17 : decode c_Ro_remove 17 = .ok (.aload_n 0, 1) := by decide +kernel
theorem d_Ro_remove_18 : decode c_Ro_remove 18 = .ok (.getfield 9, 3) := by decide +kernel
theorem d_Ro_remove_21 : decode c_Ro_remove 21 = .ok (.iload_n 1, 1) := by decide +kernel
theorem d_Ro_remove_22 : decode c_Ro_remove 22 = .ok (.aload_n 0, 1) := by decide +kernel
theorem d_Ro_remove_23 : decode c_Ro_remove 23 = .ok (.getfield 18, 3) := by decide +kernel
theorem d_Ro_remove_26 : decode c_Ro_remove 26 = .ok (.iload_n 1, 1) := by decide +kernel
theorem d_Ro_remove_27 : decode c_Ro_remove 27 = .ok (.isub, 1) := by decide +kernel
theorem d_Ro_remove_28 : decode c_Ro_remove 28 = .ok (.invokestatic 29, 3) := by decide +kernel
theorem d_Ro_remove_31 : decode c_Ro_remove 31 = .ok (.aload_n 0, 1) := by decide +kernel
theorem d_Ro_remove_32 : decode c_Ro_remove 32 = .ok (.getfield 15, 3) := by decide +kernel
theorem d_Ro_remove_35 : decode c_Ro_remove 35 = .ok (.iload_n 1, 1) := by decide +kernel
theorem d_Ro_remove_36 : decode c_Ro_remove 36 = .ok (.iconst 1, 1) := by decide +kernel
theorem d_Ro_remove_37 : decode c_Ro_remove 37 = .ok (.iadd, 1) := by decide +kernel
theorem d_Ro_remove_38 : decode c_Ro_remove 38 = .ok (.aload_n 0, 1) := by decide +kernel
theorem d_Ro_remove_39 : decode c_Ro_remove 39 = .ok (.getfield 15, 3) := by decide +kernel
theorem d_Ro_remove_42 : decode c_Ro_remove 42 = .ok (.iload_n 1, 1) := by decide +kernel
theorem d_Ro_remove_43 : decode c_Ro_remove 43 = .ok (.aload_n 0, 1) := by decide +kernel
theorem d_Ro_remove_44 : decode c_Ro_remove 44 = .ok (.getfield 18, 3) := by decide +kernel
theorem d_Ro_remove_47 : decode c_Ro_remove 47 = .ok (.iload_n 1, 1) := by decide +kernel
theorem d_Ro_remove_48 : decode c_Ro_remove 48 = .ok (.isub, 1) := by decide +kernel
theorem d_Ro_remove_49 : decode c_Ro_remove 49 = .ok (.invokestatic 29, 3) := by decide +kernel
theorem d_Ro_remove_52 : decode c_Ro_remove 52 = .ok (.return_, 1) := by decide +kernel
theorem d_Tr_init_0 : decode c_Tr_init 0 = .ok (.aload_n 0, 1) := by decide +kernel
theorem d_Tr_init_1 : decode c_Tr_init 1 = .ok (.invokespecial 3, 3) := by decide +kernel
theorem d_Tr_init_4 : decode c_Tr_init 4 = .ok (.aload_n 0, 1) := by decide +kernel
theorem d_Tr_init_5 : decode c_Tr_init 5 = .ok (.bipush 24, 2) := by decide +kernel
theorem d_Tr_init_7 : decode c_Tr_init 7 = .ok (.newarray .int, 2) := by decide +kernel
theorem d_Tr_init_9 : decode c_Tr_init 9 = .ok (.putfield 9, 3) := by decide +kernel
theorem d_Tr_init_12 : decode c_Tr_init 12 = .ok (.aload_n 0, 1) := by decide +kernel
theorem d_Tr_init_13 : decode c_Tr_init 13 = .ok (.bipush 24, 2) := by decide +kernel
theorem d_Tr_init_15 : decode c_Tr_init 15 = .ok (.newarray .int, 2) := by decide +kernel
theorem d_Tr_init_17 : decode c_Tr_init 17 = .ok (.putfield 15, 3) := by decide +kernel
theorem d_Tr_init_20 : decode c_Tr_init 20 = .ok (.aload_n 0, 1) := by decide +kernel
theorem d_Tr_init_21 : decode c_Tr_init 21 = .ok (.bipush 24, 2) := by decide +kernel
theorem d_Tr_init_23 : decode c_Tr_init 23 = .ok (.newarray .int, 2) := by decide +kernel
theorem d_Tr_init_25 : decode c_Tr_init 25 = .ok (.putfield 18, 3) := by decide +kernel
theorem d_Tr_init_28 : decode c_Tr_init 28 = .ok (.return_, 1) := by decide +kernel
theorem d_Tr_has_0 : decode c_Tr_has 0 = .ok (.iload_n 1, 1) := by decide +kernel
theorem d_Tr_has_1 : decode c_Tr_has 1 = .ok (.ifCond .lt 15, 3) := by decide +kernel
theorem d_Tr_has_4 : decode c_Tr_has 4 = .ok (.iload_n 1, 1) := by decide +kernel
theorem d_Tr_has_5 : decode c_Tr_has 5 = .ok (.aload_n 0, 1) := by decide +kernel
theorem d_Tr_has_6 : decode c_Tr_has 6 = .ok (.getfield 21, 3) := by decide +kernel
theorem d_Tr_has_9 : decode c_Tr_has 9 = .ok (.if_icmp .ge 7, 3) := by decide +kernel
theorem d_Tr_has_12 : decode c_Tr_has 12 = .ok (.iconst 1, 1) := by decide +kernel
theorem d_Tr_has_13 : decode c_Tr_has 13 = .ok (.goto 4, 3) := by decide +kernel
theorem d_Tr_has_16 : decode c_Tr_has 16 = .ok (.iconst 0, 1) := by decide +kernel
theorem d_Tr_has_17 : decode c_Tr_has 17 = .ok (.ireturn, 1) := by decide +kernel
theorem d_Tr_isFull_0 : decode c_Tr_isFull 0 = .ok (.aload_n 0, 1) := by decide +kernel
theorem d_Tr_isFull_1 : decode c_Tr_isFull 1 = .ok (.getfield 21, 3) := by decide +kernel
theorem d_Tr_isFull_4 : decode c_Tr_isFull 4 = .ok (.bipush 24, 2) := by decide +kernel
theorem d_Tr_isFull_6 : decode c_Tr_isFull 6 = .ok (.if_icmp .lt 7, 3) := by decide +kernel
theorem d_Tr_isFull_9 : decode c_Tr_isFull 9 = .ok (.iconst 1, 1) := by decide +kernel
theorem d_Tr_isFull_10 : decode c_Tr_isFull 10 = .ok (.goto 4, 3) := by decide +kernel
theorem d_Tr_isFull_13 : decode c_Tr_isFull 13 = .ok (.iconst 0, 1) := by decide +kernel
theorem d_Tr_isFull_14 : decode c_Tr_isFull 14 = .ok (.ireturn, 1) := by decide +kernel
theorem d_Tr_add_0 : decode c_Tr_add 0 = .ok (.aload_n 0, 1) := by decide +kernel
theorem d_Tr_add_1 : decode c_Tr_add 1 = .ok (.getfield 9, 3) := by decide +kernel
theorem d_Tr_add_4 : decode c_Tr_add 4 = .ok (.aload_n 0, 1) := by decide +kernel
theorem d_Tr_add_5 : decode c_Tr_add 5 = .ok (.getfield 21, 3) := by decide +kernel
theorem d_Tr_add_8 : decode c_Tr_add 8 = .ok (.iload_n 1, 1) := by decide +kernel
theorem d_Tr_add_9 : decode c_Tr_add 9 = .ok (.iastore, 1) := by decide +kernel
theorem d_Tr_add_10 : decode c_Tr_add 10 = .ok (.aload_n 0, 1) := by decide +kernel
theorem d_Tr_add_11 : decode c_Tr_add 11 = .ok (.getfield 15, 3) := by decide +kernel
theorem d_Tr_add_14 : decode c_Tr_add 14 = .ok (.aload_n 0, 1) := by decide +kernel
theorem d_Tr_add_15 : decode c_Tr_add 15 = .ok (.getfield 21, 3) := by decide +kernel
theorem d_Tr_add_18 : decode c_Tr_add 18 = .ok (.iload_n 2, 1) := by decide +kernel
theorem d_Tr_add_19 : decode c_Tr_add 19 = .ok (.iastore, 1) := by decide +kernel
theorem d_Tr_add_20 : decode c_Tr_add 20 = .ok (.aload_n 0, 1) := by decide +kernel
theorem d_Tr_add_21 : decode c_Tr_add 21 = .ok (.getfield 18, 3) := by decide +kernel
theorem d_Tr_add_24 : decode c_Tr_add 24 = .ok (.aload_n 0, 1) := by decide +kernel
theorem d_Tr_add_25 : decode c_Tr_add 25 = .ok (.getfield 21, 3) := by decide +kernel
theorem d_Tr_add_28 : decode c_Tr_add 28 = .ok (.iload_n 3, 1) := by decide +kernel
theorem d_Tr_add_29 : decode c_Tr_add 29 = .ok (.iastore, 1) := by decide +kernel
theorem d_Tr_add_30 : decode c_Tr_add 30 = .ok (.aload_n 0, 1) := by decide +kernel
theorem d_Tr_add_31 : decode c_Tr_add 31 = .ok (.dup, 1) := by decide +kernel
theorem d_Tr_add_32 : decode c_Tr_add 32 = .ok (.getfield 21, 3) := by decide +kernel
theorem d_Tr_add_35 : decode c_Tr_add 35 = .ok (.iconst 1, 1) := by decide +kernel
theorem d_Tr_add_36 : decode c_Tr_add 36 = .ok (.iadd, 1) := by decide +kernel
theorem d_Tr_add_37 : decode c_Tr_add 37 = .ok (.putfield 21, 3) := by decide +kernel
theorem d_Tr_add_40 : decode c_Tr_add 40 = .ok (.aload_n 0, 1) := by decide +kernel
theorem d_Tr_add_41 : decode c_Tr_add 41 = .ok (.getfield 21, 3) := by decide +kernel
theorem d_Tr_add_44 : decode c_Tr_add 44 = .ok (.iconst 1, 1) := by decide +kernel
theorem d_Tr_add_45 : decode c_Tr_add 45 = .ok (.isub, 1) := by decide +kernel
theorem d_Tr_add_46 : decode c_Tr_add 46 = .ok (.ireturn, 1) := by decide +kernel
theorem d_JI_bitCount_0 : decode c_JI_bitCount 0 = .ok (.iload_n 0, 1) := by decide +kernel
theorem d_JI_bitCount_1 : decode c_JI_bitCount 1 = .ok (.iload_n 0, 1) := by decide +kernel
theorem d_JI_bitCount_2 : decode c_JI_bitCount 2 = .ok (.iconst 1, 1) := by decide +kernel
theorem d_JI_bitCount_3 : decode c_JI_bitCount 3 = .ok (.iushr, 1) := by decide +kernel
theorem d_JI_bitCount_4 : decode c_JI_bitCount 4 = .ok (.ldc_w 265, 3) := by decide +kernel
theorem d_JI_bitCount_7 : decode c_JI_bitCount 7 = .ok (.iand, 1) := by decide +kernel
theorem d_JI_bitCount_8 : decode c_JI_bitCount 8 = .ok (.isub, 1) := by decide +kernel
theorem d_JI_bitCount_9 : decode c_JI_bitCount 9 = .ok (.istore_n 0, 1) := by decide +kernel
theorem d_JI_bitCount_10 : decode c_JI_bitCount 10 = .ok (.iload_n 0, 1) := by decide +kernel
theorem d_JI_bitCount_11 : decode c_JI_bitCount 11 = .ok (.ldc_w 266, 3) := by decide +kernel
theorem d_JI_bitCount_14 : decode c_JI_bitCount 14 = .ok (.iand, 1) := by decide +kernel
theorem d_JI_bitCount_15 : decode c_JI_bitCount 15 = .ok (.iload_n 0, 1) := by decide +kernel
theorem d_JI_bitCount_16 : decode c_JI_bitCount 16 = .ok (.iconst 2, 1) := by decide +kernel
theorem d_JI_bitCount_17 : decode c_JI_bitCount 17 = .ok (.iushr, 1) := by decide +kernel
theorem d_JI_bitCount_18 : decode c_JI_bitCount 18 = .ok (.ldc_w 266, 3) := by decide +kernel
theorem d_JI_bitCount_21 : decode c_JI_bitCount 21 = .ok (.iand, 1) := by decide +kernel
theorem d_JI_bitCount_22 : decode c_JI_bitCount 22 = .ok (.iadd, 1) := by decide +kernel
theorem d_JI_bitCount_23 : decode c_JI_bitCount 23 = .ok (.istore_n 0, 1) := by decide +kernel
theorem d_JI_bitCount_24 : decode c_JI_bitCount 24 = .ok (.iload_n 0, 1) := by decide +kernel
theorem d_JI_bitCount_25 : decode c_JI_bitCount 25 = .ok (.iload_n 0, 1) := by decide +kernel
theorem d_JI_bitCount_26 : decode c_JI_bitCount 26 = .ok (.iconst 4, 1) := by decide +kernel
theorem d_JI_bitCount_27 : decode c_JI_bitCount 27 = .ok (.iushr, 1) := by decide +kernel
theorem d_JI_bitCount_28 : decode c_JI_bitCount 28 = .ok (.iadd, 1) := by decide +kernel
theorem d_JI_bitCount_29 : decode c_JI_bitCount 29 = .ok (.ldc_w 267, 3) := by decide +kernel
theorem d_JI_bitCount_32 : decode c_JI_bitCount 32 = .ok (.iand, 1) := by decide +kernel
theorem d_JI_bitCount_33 : decode c_JI_bitCount 33 = .ok (.istore_n 0, 1) := by decide +kernel
theorem d_JI_bitCount_34 : decode c_JI_bitCount 34 = .ok (.iload_n 0, 1) := by decide +kernel
theorem d_JI_bitCount_35 : decode c_JI_bitCount 35 = .ok (.iload_n 0, 1) := by decide +kernel
theorem d_JI_bitCount_36 : decode c_JI_bitCount 36 = .ok (.bipush 8, 2) := by decide +kernel
theorem d_JI_bitCount_38 : decode c_JI_bitCount 38 = .ok (.iushr, 1) := by decide +kernel
theorem d_JI_bitCount_39 : decode c_JI_bitCount 39 = .ok (.iadd, 1) := by decide +kernel
theorem d_JI_bitCount_40 : decode c_JI_bitCount 40 = .ok (.istore_n 0, 1) := by decide +kernel
theorem d_JI_bitCount_41 : decode c_JI_bitCount 41 = .ok (.iload_n 0, 1) := by decide +kernel
theorem d_JI_bitCount_42 : decode c_JI_bitCount 42 = .ok (.iload_n 0, 1) := by decide +kernel
theorem d_JI_bitCount_43 : decode c_JI_bitCount 43 = .ok (.bipush 16, 2) := by decide +kernel
theorem d_JI_bitCount_45 : decode c_JI_bitCount 45 = .ok (.iushr, 1) := by decide +kernel
theorem d_JI_bitCount_46 : decode c_JI_bitCount 46 = .ok (.iadd, 1) := by decide +kernel
theorem d_JI_bitCount_47 : decode c_JI_bitCount 47 = .ok (.istore_n 0, 1) := by decide +kernel
theorem d_JI_bitCount_48 : decode c_JI_bitCount 48 = .ok (.iload_n 0, 1) := by decide +kernel
theorem d_JI_bitCount_49 : decode c_JI_bitCount 49 = .ok (.bipush 63, 2) := by decide +kernel
theorem d_JI_bitCount_51 : decode c_JI_bitCount 51 = .ok (.iand, 1) := by decide +kernel
theorem d_JI_bitCount_52 : decode c_JI_bitCount 52 = .ok (.ireturn, 1) := by decide +kernel
theorem d_JM_floorMod_0 : decode c_JM_floorMod 0 = .ok (.iload_n 0, 1) := by decide +kernel
theorem d_JM_floorMod_1 : decode c_JM_floorMod 1 = .ok (.iload_n 1, 1) := by decide +kernel
theorem d_JM_floorMod_2 : decode c_JM_floorMod 2 = .ok (.irem, 1) := by decide +kernel
theorem d_JM_floorMod_3 : decode c_JM_floorMod 3 = .ok (.istore_n 2, 1) := by decide +kernel
theorem d_JM_floorMod_4 : decode c_JM_floorMod 4 = .ok (.iload_n 0, 1) := by decide +kernel
theorem d_JM_floorMod_5 : decode c_JM_floorMod 5 = .ok (.iload_n 1, 1) := by decide +kernel
theorem d_JM_floorMod_6 : decode c_JM_floorMod 6 = .ok (.ixor, 1) := by decide +kernel
theorem d_JM_floorMod_7 : decode c_JM_floorMod 7 = .ok (.ifCond .ge 11, 3) := by decide +kernel
theorem d_JM_floorMod_10 : decode c_JM_floorMod 10 = .ok (.iload_n 2, 1) := by decide +kernel
theorem d_JM_floorMod_11 : decode c_JM_floorMod 11 = .ok (.ifCond .eq 7, 3) := by decide +kernel
theorem d_JM_floorMod_14 : decode c_JM_floorMod 14 = .ok (.iload_n 2, 1) := by decide +kernel
theorem d_JM_floorMod_15 : decode c_JM_floorMod 15 = .ok (.iload_n 1, 1) := by decide +kernel
theorem d_JM_floorMod_16 : decode c_JM_floorMod 16 = .ok (.iadd, 1) := by decide +kernel
theorem d_JM_floorMod_17 : decode c_JM_floorMod 17 = .ok (.ireturn, 1) := by decide +kernel
theorem d_JM_floorMod_18 : decode c_JM_floorMod 18 = .ok (.iload_n 2, 1) := by decide +kernel
theorem d_JM_floorMod_19 : decode c_JM_floorMod 19 = .ok (.ireturn, 1) := by decide +kernel
theorem d_JM_max_0 : decode c_JM_max 0 = .ok (.iload_n 0, 1) := by decide +kernel
theorem d_JM_max_1 : decode c_JM_max 1 = .ok (.iload_n 1, 1) := by decide +kernel
theorem d_JM_max_2 : decode c_JM_max 2 = .ok (.if_icmp .lt 7, 3) := by decide +kernel
theorem d_JM_max_5 : decode c_JM_max 5 = .ok (.iload_n 0, 1) := by decide +kernel
theorem d_JM_max_6 : decode c_JM_max 6 = .ok (.goto 4, 3) := by decide +kernel
theorem d_JM_max_9 : decode c_JM_max 9 = .ok (.iload_n 1, 1) := by decide +kernel
theorem d_JM_max_10 : decode c_JM_max 10 = .ok (.ireturn, 1) := by decide +kernel
theorem d_JM_min_0 : decode c_JM_min 0 = .ok (.iload_n 0, 1) := by decide +kernel
theorem d_JM_min_1 : decode c_JM_min 1 = .ok (.iload_n 1, 1) := by decide +kernel
theorem d_JM_min_2 : decode c_JM_min 2 = .ok (.if_icmp .gt 7, 3) := by decide +kernel
theorem d_JM_min_5 : decode c_JM_min 5 = .ok (.iload_n 0, 1) := by decide +kernel
theorem d_JM_min_6 : decode c_JM_min 6 = .ok (.goto 4, 3) := by decide +kernel
theorem d_JM_min_9 : decode c_JM_min 9 = .ok (.iload_n 1, 1) := by decide +kernel
theorem d_JM_min_10 : decode c_JM_min 10 = .ok (.ireturn, 1) := by decide +kernel
