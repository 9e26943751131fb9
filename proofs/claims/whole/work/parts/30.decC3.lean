theorem d_T_getNewView_34 : decode c_T_getNewView 34 = .ok (.invokevirtual 236, 3) := by decide +kernel
theorem d_T_getNewView_37 : decode c_T_getNewView 37 = .ok (.aload 5, 2) := by decide +kernel
theorem d_T_getNewView_39 : decode c_T_getNewView 39 = .ok (.aload_n 0, 1) := by decide +kernel
theorem d_T_getNewView_40 : decode c_T_getNewView 40 = .ok (.getfield 13, 3) := by decide +kernel
theorem d_T_getNewView_43 : decode c_T_getNewView 43 = .ok (.invokevirtual 183, 3) := by decide +kernel
theorem d_T_getNewView_46 : decode c_T_getNewView 46 = .ok (.istore 6, 2) := by decide +kernel
theorem d_T_getNewView_48 : decode c_T_getNewView 48 = .ok (.iload 6, 2) := by decide +kernel
theorem d_T_getNewView_50 : decode c_T_getNewView 50 = .ok (.aload 5, 2) := by decide +kernel
theorem d_T_getNewView_52 : decode c_T_getNewView 52 = .ok (.getfield 104, 3) := by decide +kernel
theorem d_T_getNewView_55 : decode c_T_getNewView 55 = .ok (.if_icmp .le 10, 3) := by decide +kernel
theorem d_T_getNewView_58 : decode c_T_getNewView 58 = .ok (.aload 5, 2) := by decide +kernel
theorem d_T_getNewView_60 : decode c_T_getNewView 60 = .ok (.iload 6, 2) := by decide +kernel
theorem d_T_getNewView_62 : decode c_T_getNewView 62 = .ok (.invokevirtual 121, 3) := by decide +kernel
theorem d_T_getNewView_65 : decode c_T_getNewView 65 = .ok (.return_, 1) := by decide +kernel
theorem d_Bl_init_0 : decode c_Bl_init 0 = .ok (.aload_n 0, 1) := by decide +kernel
theorem d_Bl_init_1 : decode c_Bl_init 1 = .ok (.invokespecial 3, 3) := by decide +kernel
theorem d_Bl_init_4 : decode c_Bl_init 4 = .ok (.aload_n 0, 1) := by decide +kernel
theorem d_Bl_init_5 : decode c_Bl_init 5 = .ok (.bipush 40, 2) := by decide +kernel
theorem d_Bl_init_7 : decode c_Bl_init 7 = .ok (.newarray .int, 2) := by decide +kernel
theorem d_Bl_init_9 : decode c_Bl_init 9 = .ok (.putfield 9, 3) := by decide +kernel
theorem d_Bl_init_12 : decode c_Bl_init 12 = .ok (.aload_n 0, 1) := by decide +kernel
theorem d_Bl_init_13 : decode c_Bl_init 13 = .ok (.bipush 40, 2) := by decide +kernel
theorem d_Bl_init_15 : decode c_Bl_init 15 = .ok (.newarray .int, 2) := by decide +kernel
theorem d_Bl_init_17 : decode c_Bl_init 17 = .ok (.putfield 15, 3) := by decide +kernel
theorem d_Bl_init_20 : decode c_Bl_init 20 = .ok (.aload_n 0, 1) := by decide +kernel
theorem d_Bl_init_21 : decode c_Bl_init 21 = .ok (.bipush 40, 2) := by decide +kernel
theorem d_Bl_init_23 : decode c_Bl_init 23 = .ok (.newarray .int, 2) := by decide +kernel
theorem d_Bl_init_25 : decode c_Bl_init 25 = .ok (.putfield 18, 3) := by decide +kernel
theorem d_Bl_init_28 : decode c_Bl_init 28 = .ok (.aload_n 0, 1) := by decide +kernel
theorem d_Bl_init_29 : decode c_Bl_init 29 = .ok (.bipush 40, 2) := by decide +kernel
theorem d_Bl_init_31 : decode c_Bl_init 31 = .ok (.newarray .int, 2) := by decide +kernel
theorem d_Bl_init_33 : decode c_Bl_init 33 = .ok (.putfield 21, 3) := by decide +kernel
theorem d_Bl_init_36 : decode c_Bl_init 36 = .ok (.aload_n 0, 1) := by decide +kernel
theorem d_Bl_init_37 : decode c_Bl_init 37 = .ok (.bipush 40, 2) := by decide +kernel
theorem d_Bl_init_39 : decode c_Bl_init 39 = .ok (.newarray .int, 2) := by decide +kernel
theorem d_Bl_init_41 : decode c_Bl_init 41 = .ok (.putfield 24, 3) := by decide +kernel
theorem d_Bl_init_44 : decode c_Bl_init 44 = .ok (.aload_n 0, 1) := by decide +kernel
theorem d_Bl_init_45 : decode c_Bl_init 45 = .ok (.bipush 40, 2) := by decide +kernel
theorem d_Bl_init_47 : decode c_Bl_init 47 = .ok (.newarray .long, 2) := by decide +kernel
theorem d_Bl_init_49 : decode c_Bl_init 49 = .ok (.putfield 27, 3) := by decide +kernel
theorem d_Bl_init_52 : decode c_Bl_init 52 = .ok (.aload_n 0, 1) := by decide +kernel
theorem d_Bl_init_53 : decode c_Bl_init 53 = .ok (.iconst 1, 1) := by decide +kernel
theorem d_Bl_init_54 : decode c_Bl_init 54 = .ok (.putfield 31, 3) := by decide +kernel
theorem d_Bl_init_57 : decode c_Bl_init 57 = .ok (.aload_n 0, 1) := by decide +kernel
theorem d_Bl_init_58 : decode c_Bl_init 58 = .ok (.getfield 27, 3) := by decide +kernel
theorem d_Bl_init_61 : decode c_Bl_init 61 = .ok (.iconst 0, 1) := by decide +kernel
theorem d_Bl_init_62 : decode c_Bl_init 62 = .ok (.lconst 1, 1) := by decide +kernel
theorem d_Bl_init_63 : decode c_Bl_init 63 = .ok (.lastore, 1) := by decide +kernel
theorem d_Bl_init_64 : decode c_Bl_init 64 = .ok (.return_, 1) := by decide +kernel
theorem d_Bl_has_0 : decode c_Bl_has 0 = .ok (.iload_n 1, 1) := by decide +kernel
theorem d_Bl_has_1 : decode c_Bl_has 1 = .ok (.ifCond .lt 15, 3) := by decide +kernel
theorem d_Bl_has_4 : decode c_Bl_has 4 = .ok (.iload_n 1, 1) := by decide +kernel
theorem d_Bl_has_5 : decode c_Bl_has 5 = .ok (.aload_n 0, 1) := by decide +kernel
theorem d_Bl_has_6 : decode c_Bl_has 6 = .ok (.getfield 31, 3) := by decide +kernel
theorem d_Bl_has_9 : decode c_Bl_has 9 = .ok (.if_icmp .ge 7, 3) := by decide +kernel
theorem d_Bl_has_12 : decode c_Bl_has 12 = .ok (.iconst 1, 1) := by decide +kernel
theorem d_Bl_has_13 : decode c_Bl_has 13 = .ok (.goto 4, 3) := by decide +kernel
theorem d_Bl_has_16 : decode c_Bl_has 16 = .ok (.iconst 0, 1) := by decide +kernel
theorem d_Bl_has_17 : decode c_Bl_has 17 = .ok (.ireturn, 1) := by decide +kernel
theorem d_Bl_isFull_0 : decode c_Bl_isFull 0 = .ok (.aload_n 0, 1) := by decide +kernel
theorem d_Bl_isFull_1 : decode c_Bl_isFull 1 = .ok (.getfield 31, 3) := by decide +kernel
theorem d_Bl_isFull_4 : decode c_Bl_isFull 4 = .ok (.bipush 40, 2) := by decide +kernel
theorem d_Bl_isFull_6 : decode c_Bl_isFull 6 = .ok (.if_icmp .lt 7, 3) := by decide +kernel
theorem d_Bl_isFull_9 : decode c_Bl_isFull 9 = .ok (.iconst 1, 1) := by decide +kernel
theorem d_Bl_isFull_10 : decode c_Bl_isFull 10 = .ok (.goto 4, 3) := by decide +kernel
theorem d_Bl_isFull_13 : decode c_Bl_isFull 13 = .ok (.iconst 0, 1) := by decide +kernel
theorem d_Bl_isFull_14 : decode c_Bl_isFull 14 = .ok (.ireturn, 1) := by decide +kernel
theorem d_Bl_add_0 : decode c_Bl_add 0 = .ok (.aload_n 0, 1) := by decide +kernel
theorem d_Bl_add_1 : decode c_Bl_add 1 = .ok (.getfield 9, 3) := by decide +kernel
theorem d_Bl_add_4 : decode c_Bl_add 4 = .ok (.aload_n 0, 1) := by decide +kernel
theorem d_Bl_add_5 : decode c_Bl_add 5 = .ok (.getfield 31, 3) := by decide +kernel
theorem d_Bl_add_8 : decode c_Bl_add 8 = .ok (.iload_n 2, 1) := by decide +kernel
theorem d_Bl_add_9 : decode c_Bl_add 9 = .ok (.iastore, 1) := by decide +kernel
theorem d_Bl_add_10 : decode c_Bl_add 10 = .ok (.aload_n 0, 1) := by decide +kernel
theorem d_Bl_add_11 : decode c_Bl_add 11 = .ok (.getfield 15, 3) := by decide +kernel
theorem d_Bl_add_14 : decode c_Bl_add 14 = .ok (.aload_n 0, 1) := by decide +kernel
theorem d_Bl_add_15 : decode c_Bl_add 15 = .ok (.getfield 31, 3) := by decide +kernel
theorem d_Bl_add_18 : decode c_Bl_add 18 = .ok (.iload_n 1, 1) := by decide +kernel
theorem d_Bl_add_19 : decode c_Bl_add 19 = .ok (.iastore, 1) := by decide +kernel
theorem d_Bl_add_20 : decode c_Bl_add 20 = .ok (.aload_n 0, 1) := by decide +kernel
theorem d_Bl_add_21 : decode c_Bl_add 21 = .ok (.getfield 18, 3) := by decide +kernel
theorem d_Bl_add_24 : decode c_Bl_add 24 = .ok (.aload_n 0, 1) := by decide +kernel
theorem d_Bl_add_25 : decode c_Bl_add 25 = .ok (.getfield 31, 3) := by decide +kernel
theorem d_Bl_add_28 : decode c_Bl_add 28 = .ok (.iload_n 3, 1) := by decide +kernel
theorem d_Bl_add_29 : decode c_Bl_add 29 = .ok (.iastore, 1) := by decide +kernel
theorem d_Bl_add_30 : decode c_Bl_add 30 = .ok (.aload_n 0, 1) := by decide +kernel
theorem d_Bl_add_31 : decode c_Bl_add 31 = .ok (.getfield 24, 3) := by decide +kernel
theorem d_Bl_add_34 : decode c_Bl_add 34 = .ok (.aload_n 0, 1) := by decide +kernel
theorem d_Bl_add_35 : decode c_Bl_add 35 = .ok (.getfield 31, 3) := by decide +kernel
theorem d_Bl_add_38 : decode c_Bl_add 38 = .ok (.aload_n 0, 1) := by decide +kernel
theorem d_Bl_add_39 : decode c_Bl_add 39 = .ok (.getfield 24, 3) := by decide +kernel
theorem d_Bl_add_42 : decode c_Bl_add 42 = .ok (.iload_n 1, 1) := by decide +kernel
theorem d_Bl_add_43 : decode c_Bl_add 43 = .ok (.iaload, 1) := by decide +kernel
theorem d_Bl_add_44 : decode c_Bl_add 44 = .ok (.iload_n 3, 1) := by decide +kernel
theorem d_Bl_add_45 : decode c_Bl_add 45 = .ok (.ior, 1) := by decide +kernel
theorem d_Bl_add_46 : decode c_Bl_add 46 = .ok (.iastore, 1) := by decide +kernel
theorem d_Bl_add_47 : decode c_Bl_add 47 = .ok (.aload_n 0, 1) := by decide +kernel
theorem d_Bl_add_48 : decode c_Bl_add 48 = .ok (.getfield 27, 3) := by decide +kernel
theorem d_Bl_add_51 : decode c_Bl_add 51 = .ok (.aload_n 0, 1) := by decide +kernel
theorem d_Bl_add_52 : decode c_Bl_add 52 = .ok (.getfield 31, 3) := by decide +kernel
theorem d_Bl_add_55 : decode c_Bl_add 55 = .ok (.aload_n 0, 1) := by decide +kernel
theorem d_Bl_add_56 : decode c_Bl_add 56 = .ok (.getfield 27, 3) := by decide +kernel
theorem d_Bl_add_59 : decode c_Bl_add 59 = .ok (.iload_n 1, 1) := by decide +kernel
theorem d_Bl_add_60 : decode c_Bl_add 60 = .ok (.laload, 1) := by decide +kernel
theorem d_Bl_add_61 : decode c_Bl_add 61 = .ok (.lconst 1, 1) := by decide +kernel
theorem d_Bl_add_62 : decode c_Bl_add 62 = .ok (.aload_n 0, 1) := by decide +kernel
theorem d_Bl_add_63 : decode c_Bl_add 63 = .ok (.getfield 31, 3) := by decide +kernel
theorem d_Bl_add_66 : decode c_Bl_add 66 = .ok (.lshl, 1) := by decide +kernel
theorem d_Bl_add_67 : decode c_Bl_add 67 = .ok (.lor, 1) := by decide +kernel
theorem d_Bl_add_68 : decode c_Bl_add 68 = .ok (.lastore, 1) := by decide +kernel
theorem d_Bl_add_69 : decode c_Bl_add 69 = .ok (.aload_n 0, 1) := by decide +kernel
theorem d_Bl_add_70 : decode c_Bl_add 70 = .ok (.dup, 1) := by decide +kernel
theorem d_Bl_add_71 : decode c_Bl_add 71 = .ok (.getfield 31, 3) := by decide +kernel
theorem d_Bl_add_74 : decode c_Bl_add 74 = .ok (.iconst 1, 1) := by decide +kernel
theorem d_Bl_add_75 : decode c_Bl_add 75 = .ok (.iadd, 1) := by decide +kernel
theorem d_Bl_add_76 : decode c_Bl_add 76 = .ok (.putfield 31, 3) := by decide +kernel
theorem d_Bl_add_79 : decode c_Bl_add 79 = .ok (.aload_n 0, 1) := by decide +kernel
theorem d_Bl_add_80 : decode c_Bl_add 80 = .ok (.getfield 31, 3) := by decide +kernel
theorem d_Bl_add_83 : decode c_Bl_add 83 = .ok (.iconst 1, 1) := by decide +kernel
theorem d_Bl_add_84 : decode c_Bl_add 84 = .ok (.isub, 1) := by decide +kernel
theorem d_Bl_add_85 : decode c_Bl_add 85 = .ok (.ireturn, 1) := by decide +kernel
theorem d_Bl_inChain_0 : decode c_Bl_inChain 0 = .ok (.aload_n 0, 1) := by decide +kernel
theorem d_Bl_inChain_1 : decode c_Bl_inChain 1 = .ok (.getfield 27, 3) := by decide +kernel
theorem d_Bl_inChain_4 : decode c_Bl_inChain 4 = .ok (.iload_n 2, 1) := by decide +kernel
theorem d_Bl_inChain_5 : decode c_Bl_inChain 5 = .ok (.laload, 1) := by decide +kernel
theorem d_Bl_inChain_6 : decode c_Bl_inChain 6 = .ok (.iload_n 1, 1) := by decide +kernel
theorem d_Bl_inChain_7 : decode c_Bl_inChain 7 = .ok (.lushr, 1) := by decide +kernel
theorem d_Bl_inChain_8 : decode c_Bl_inChain 8 = .ok (.lconst 1, 1) := by decide +kernel
theorem d_Bl_inChain_9 : decode c_Bl_inChain 9 = .ok (.land, 1) := by decide +kernel
theorem d_Bl_inChain_10 : decode c_Bl_inChain 10 = .ok (.lconst 0, 1) := by decide +kernel
theorem d_Bl_inChain_11 : decode c_Bl_inChain 11 = .ok (.lcmp, 1) := by decide +kernel
theorem d_Bl_inChain_12 : decode c_Bl_inChain 12 = .ok (.ifCond .eq 7, 3) := by decide +kernel
theorem d_Bl_inChain_15 : decode c_Bl_inChain 15 = .ok (.iconst 1, 1) := by decide +kernel
theorem d_Bl_inChain_16 : decode c_Bl_inChain 16 = .ok (.goto 4, 3) := by decide +kernel
theorem d_Bl_inChain_19 : decode c_Bl_inChain 19 = .ok (.iconst 0, 1) := by decide +kernel
theorem d_Bl_inChain_20 : decode c_Bl_inChain 20 = .ok (.ireturn, 1) := by decide +kernel
theorem d_Bl_later_0 : decode c_Bl_later 0 = .ok (.aload_n 0, 1) := by decide +kernel
theorem d_Bl_later_1 : decode c_Bl_later 1 = .ok (.getfield 9, 3) := by decide +kernel
theorem d_Bl_later_4 : decode c_Bl_later 4 = .ok (.iload_n 2, 1) := by decide +kernel
theorem d_Bl_later_5 : decode c_Bl_later 5 = .ok (.iaload, 1) := by decide +kernel
theorem d_Bl_later_6 : decode c_Bl_later 6 = .ok (.aload_n 0, 1) := by decide +kernel
theorem d_Bl_later_7 : decode c_Bl_later 7 = .ok (.getfield 9, 3) := by decide +kernel
theorem d_Bl_later_10 : decode c_Bl_later 10 = .ok (.iload_n 1, 1) := by decide +kernel
theorem d_Bl_later_11 : decode c_Bl_later 11 = .ok (.iaload, 1) := by decide +kernel
theorem d_Bl_later_12 : decode c_Bl_later 12 = .ok (.if_icmp .le 7, 3) := by decide +kernel
theorem d_Bl_later_15 : decode c_Bl_later 15 = .ok (.iload_n 2, 1) := by decide +kernel
theorem d_Bl_later_16 : decode c_Bl_later 16 = .ok (.goto 4, 3) := by decide +kernel
theorem d_Bl_later_19 : decode c_Bl_later 19 = .ok (.iload_n 1, 1) := by decide +kernel
theorem d_Bl_later_20 : decode c_Bl_later 20 = .ok (.ireturn, 1) := by decide +kernel
theorem d_Bl_followsAtOnce_0 : decode c_Bl_followsAtOnce 0 = .ok (.aload_n 0, 1) := by decide +kernel
theorem d_Bl_followsAtOnce_1 : decode c_Bl_followsAtOnce 1 = .ok (.getfield 9, 3) := by decide +kernel
theorem d_Bl_followsAtOnce_4 : decode c_Bl_followsAtOnce 4 = .ok (.iload_n 1, 1) := by decide +kernel
theorem d_Bl_followsAtOnce_5 : decode c_Bl_followsAtOnce 5 = .ok (.iaload, 1) := by decide +kernel
theorem d_Bl_followsAtOnce_6 : decode c_Bl_followsAtOnce 6 = .ok (.aload_n 0, 1) := by decide +kernel
theorem d_Bl_followsAtOnce_7 : decode c_Bl_followsAtOnce 7 = .ok (.getfield 9, 3) := by decide +kernel
theorem d_Bl_followsAtOnce_10 : decode c_Bl_followsAtOnce 10 = .ok (.aload_n 0, 1) := by decide +kernel
theorem d_Bl_followsAtOnce_11 : decode c_Bl_followsAtOnce 11 = .ok (.getfield 15, 3) := by decide +kernel
theorem d_Bl_followsAtOnce_14 : decode c_Bl_followsAtOnce 14 = .ok (.iload_n 1, 1) := by decide +kernel
theorem d_Bl_followsAtOnce_15 : decode c_Bl_followsAtOnce 15 = .ok (.iaload, 1) := by decide +kernel
theorem d_Bl_followsAtOnce_16 : decode c_Bl_followsAtOnce 16 = .ok (.iaload, 1) := by decide +kernel
theorem d_Bl_followsAtOnce_17 : decode c_Bl_followsAtOnce 17 = .ok (.iconst 1, 1) := by decide +kernel
theorem d_Bl_followsAtOnce_18 : decode c_Bl_followsAtOnce 18 = .ok (.iadd, 1) := by decide +kernel
theorem d_Bl_followsAtOnce_19 : decode c_Bl_followsAtOnce 19 = .ok (.if_icmp .ne 7, 3) := by decide +kernel
theorem d_Bl_followsAtOnce_22 : decode c_Bl_followsAtOnce 22 = .ok (.iconst 1, 1) := by decide +kernel
theorem d_Bl_followsAtOnce_23 : decode c_Bl_followsAtOnce 23 = .ok (.goto 4, 3) := by decide +kernel
theorem d_Bl_followsAtOnce_26 : decode c_Bl_followsAtOnce 26 = .ok (.iconst 0, 1) := by decide +kernel
theorem d_Bl_followsAtOnce_27 : decode c_Bl_followsAtOnce 27 = .ok (.ireturn, 1) := by decide +kernel
theorem d_Bl_atPlace_0 : decode c_Bl_atPlace 0 = .ok (.iconst 0, 1) := by decide +kernel
theorem d_Bl_atPlace_1 : decode c_Bl_atPlace 1 = .ok (.istore_n 3, 1) := by decide +kernel
theorem d_Bl_atPlace_2 : decode c_Bl_atPlace 2 = .ok (.iconst 0, 1) := by decide +kernel
theorem d_Bl_atPlace_3 : decode c_Bl_atPlace 3 = .ok (.istore 4, 2) := by decide +kernel
theorem d_Bl_atPlace_5 : decode c_Bl_atPlace 5 = .ok (.iload 4, 2) := by decide +kernel
theorem d_Bl_atPlace_7 : decode c_Bl_atPlace 7 = .ok (.iload_n 1, 1) := by decide +kernel
theorem d_Bl_atPlace_8 : decode c_Bl_atPlace 8 = .ok (.if_icmp .gt 30, 3) := by decide +kernel
theorem d_Bl_atPlace_11 : decode c_Bl_atPlace 11 = .ok (.aload_n 0, 1) := by decide +kernel
theorem d_Bl_atPlace_12 : decode c_Bl_atPlace 12 = .ok (.iload 4, 2) := by decide +kernel
theorem d_Bl_atPlace_14 : decode c_Bl_atPlace 14 = .ok (.iload_n 1, 1) := by decide +kernel
theorem d_Bl_atPlace_15 : decode c_Bl_atPlace 15 = .ok (.invokevirtual 35, 3) := by decide +kernel
theorem d_Bl_atPlace_18 : decode c_Bl_atPlace 18 = .ok (.ifCond .eq 14, 3) := by decide +kernel
theorem d_Bl_atPlace_21 : decode c_Bl_atPlace 21 = .ok (.iload_n 3, 1) := by decide +kernel
theorem d_Bl_atPlace_22 : decode c_Bl_atPlace 22 = .ok (.iload_n 2, 1) := by decide +kernel
theorem d_Bl_atPlace_23 : decode c_Bl_atPlace 23 = .ok (.if_icmp .ne 6, 3) := by decide +kernel
theorem d_Bl_atPlace_26 : decode c_Bl_atPlace 26 = .ok (.iload 4, 2) := by decide +kernel
theorem d_Bl_atPlace_28 : decode c_Bl_atPlace 28 = .ok (.ireturn, 1) := by decide +kernel
theorem d_Bl_atPlace_29 : decode c_Bl_atPlace 29 = .ok (.iinc 3 1, 3) := by decide +kernel
theorem d_Bl_atPlace_32 : decode c_Bl_atPlace 32 = .ok (.iinc 4 1, 3) := by decide +kernel
theorem d_Bl_atPlace_35 : decode c_Bl_atPlace 35 = .ok (.goto (-30), 3) := by decide +kernel
theorem d_Bl_atPlace_38 : decode c_Bl_atPlace 38 = .ok (.iconst (-1), 1) := by decide +kernel
theorem d_Bl_atPlace_39 : decode c_Bl_atPlace 39 = .ok (.ireturn, 1) := by decide +kernel
theorem d_Le_init_0 : decode c_Le_init 0 = .ok (.aload_n 0, 1) := by decide +kernel
theorem d_Le_init_1 : decode c_Le_init 1 = .ok (.invokespecial 3, 3) := by decide +kernel
theorem d_Le_init_4 : decode c_Le_init 4 = .ok (.aload_n 0, 1) := by decide +kernel
theorem d_Le_init_5 : decode c_Le_init 5 = .ok (.iconst 4, 1) := by decide +kernel
theorem d_Le_init_6 : decode c_Le_init 6 = .ok (.newarray .int, 2) := by decide +kernel
theorem d_Le_init_8 : decode c_Le_init 8 = .ok (.putfield 9, 3) := by decide +kernel
theorem d_Le_init_11 : decode c_Le_init 11 = .ok (.aload_n 0, 1) := by decide +kernel
theorem d_Le_init_12 : decode c_Le_init 12 = .ok (.bipush 24, 2) := by decide +kernel
theorem d_Le_init_14 : decode c_Le_init 14 = .ok (.newarray .int, 2) := by decide +kernel
theorem d_Le_init_16 : decode c_Le_init 16 = .ok (.putfield 15, 3) := by decide +kernel
theorem d_Le_init_19 : decode c_Le_init 19 = .ok (.return_, 1) := by decide +kernel
theorem d_Le_replay_0 : decode c_Le_replay 0 = .ok (.iconst 0, 1) := by decide +kernel
theorem d_Le_replay_1 : decode c_Le_replay 1 = .ok (.istore 4, 2) := by decide +kernel
theorem d_Le_replay_3 : decode c_Le_replay 3 = .ok (.iload 4, 2) := by decide +kernel
theorem d_Le_replay_5 : decode c_Le_replay 5 = .ok (.iconst 4, 1) := by decide +kernel
theorem d_Le_replay_6 : decode c_Le_replay 6 = .ok (.if_icmp .ge 18, 3) := by decide +kernel
theorem d_Le_replay_9 : decode c_Le_replay 9 = .ok (.aload_n 0, 1) := by decide +kernel
theorem d_Le_replay_10 : decode c_Le_replay 10 = .ok (.getfield 9, 3) := by decide +kernel
theorem d_Le_replay_13 : decode c_Le_replay 13 = .ok (.iload 4, 2) := by decide +kernel
theorem d_Le_replay_15 : decode c_Le_replay 15 = .ok (.bipush 100, 2) := by decide +kernel
theorem d_Le_replay_17 : decode c_Le_replay 17 = .ok (.iastore, 1) := by decide +kernel
theorem d_Le_replay_18 : decode c_Le_replay 18 = .ok (.iinc 4 1, 3) := by decide +kernel
theorem d_Le_replay_21 : decode c_Le_replay 21 = .ok (.goto (-18), 3) := by decide +kernel
theorem d_Le_replay_24 : decode c_Le_replay 24 = .ok (.iconst 0, 1) := by decide +kernel
theorem d_Le_replay_25 : decode c_Le_replay 25 = .ok (.istore 4, 2) := by decide +kernel
theorem d_Le_replay_27 : decode c_Le_replay 27 = .ok (.iload 4, 2) := by decide +kernel
theorem d_Le_replay_29 : decode c_Le_replay 29 = .ok (.bipush 24, 2) := by decide +kernel
theorem d_Le_replay_31 : decode c_Le_replay 31 = .ok (.if_icmp .ge 17, 3) := by decide +kernel
theorem d_Le_replay_34 : decode c_Le_replay 34 = .ok (.aload_n 0, 1) := by decide +kernel
theorem d_Le_replay_35 : decode c_Le_replay 35 = .ok (.getfield 15, 3) := by decide +kernel
theorem d_Le_replay_38 : decode c_Le_replay 38 = .ok (.iload 4, 2) := by decide +kernel
theorem d_Le_replay_40 : decode c_Le_replay 40 = .ok (.iconst 0, 1) := by decide +kernel
theorem d_Le_replay_41 : decode c_Le_replay 41 = .ok (.iastore, 1) := by decide +kernel
theorem d_Le_replay_42 : decode c_Le_replay 42 = .ok (.iinc 4 1, 3) := by decide +kernel
theorem d_Le_replay_45 : decode c_Le_replay 45 = .ok (.goto (-18), 3) := by decide +kernel
theorem d_Le_replay_48 : decode c_Le_replay 48 = .ok (.iconst 0, 1) := by decide +kernel
theorem d_Le_replay_49 : decode c_Le_replay 49 = .ok (.istore 4, 2) := by decide +kernel
theorem d_Le_replay_51 : decode c_Le_replay 51 = .ok (.iload 4, 2) := by decide +kernel
theorem d_Le_replay_53 : decode c_Le_replay 53 = .ok (.iload_n 1, 1) := by decide +kernel
theorem d_Le_replay_54 : decode c_Le_replay 54 = .ok (.if_icmp .gt 31, 3) := by decide +kernel
theorem d_Le_replay_57 : decode c_Le_replay 57 = .ok (.aload_n 2, 1) := by decide +kernel
theorem d_Le_replay_58 : decode c_Le_replay 58 = .ok (.iload 4, 2) := by decide +kernel
theorem d_Le_replay_60 : decode c_Le_replay 60 = .ok (.iload_n 1, 1) := by decide +kernel
theorem d_Le_replay_61 : decode c_Le_replay 61 = .ok (.invokevirtual 18, 3) := by decide +kernel
theorem d_Le_replay_64 : decode c_Le_replay 64 = .ok (.ifCond .eq 15, 3) := by decide +kernel
theorem d_Le_replay_67 : decode c_Le_replay 67 = .ok (.aload_n 0, 1) := by decide +kernel
theorem d_Le_replay_68 : decode c_Le_replay 68 = .ok (.aload_n 2, 1) := by decide +kernel
theorem d_Le_replay_69 : decode c_Le_replay 69 = .ok (.getfield 24, 3) := by decide +kernel
theorem d_Le_replay_72 : decode c_Le_replay 72 = .ok (.iload 4, 2) := by decide +kernel
theorem d_Le_replay_74 : decode c_Le_replay 74 = .ok (.iaload, 1) := by decide +kernel
theorem d_Le_replay_75 : decode c_Le_replay 75 = .ok (.aload_n 3, 1) := by decide +kernel
theorem d_Le_replay_76 : decode c_Le_replay 76 = .ok (.invokevirtual 27, 3) := by decide +kernel
theorem d_Le_replay_79 : decode c_Le_replay 79 = .ok (.iinc 4 1, 3) := by decide +kernel
theorem d_Le_replay_82 : decode c_Le_replay 82 = .ok (.goto (-31), 3) := by decide +kernel
theorem d_Le_replay_85 : decode c_Le_replay 85 = .ok (.return_, 1) := by decide +kernel
theorem d_Le_settle_0 : decode c_Le_settle 0 = .ok (.iconst 0, 1) := by decide +kernel
theorem d_Le_settle_1 : decode c_Le_settle 1 = .ok (.istore_n 3, 1) := by decide +kernel
theorem d_Le_settle_2 : decode c_Le_settle 2 = .ok (.iload_n 3, 1) := by decide +kernel
theorem d_Le_settle_3 : decode c_Le_settle 3 = .ok (.aload_n 2, 1) := by decide +kernel
theorem d_Le_settle_4 : decode c_Le_settle 4 = .ok (.getfield 31, 3) := by decide +kernel
theorem d_Le_settle_7 : decode c_Le_settle 7 = .ok (.if_icmp .ge 62, 3) := by decide +kernel
theorem d_Le_settle_10 : decode c_Le_settle 10 = .ok (.iload_n 1, 1) := by decide +kernel
theorem d_Le_settle_11 : decode c_Le_settle 11 = .ok (.iload_n 3, 1) := by decide +kernel
theorem d_Le_settle_12 : decode c_Le_settle 12 = .ok (.invokestatic 37, 3) := by decide +kernel
theorem d_Le_settle_15 : decode c_Le_settle 15 = .ok (.ifCond .eq 48, 3) := by decide +kernel
theorem d_Le_settle_18 : decode c_Le_settle 18 = .ok (.aload_n 0, 1) := by decide +kernel
theorem d_Le_settle_19 : decode c_Le_settle 19 = .ok (.getfield 15, 3) := by decide +kernel
theorem d_Le_settle_22 : decode c_Le_settle 22 = .ok (.iload_n 3, 1) := by decide +kernel
theorem d_Le_settle_23 : decode c_Le_settle 23 = .ok (.iaload, 1) := by decide +kernel
theorem d_Le_settle_24 : decode c_Le_settle 24 = .ok (.ifCond .ne 39, 3) := by decide +kernel
theorem d_Le_settle_27 : decode c_Le_settle 27 = .ok (.aload_n 0, 1) := by decide +kernel
theorem d_Le_settle_28 : decode c_Le_settle 28 = .ok (.getfield 15, 3) := by decide +kernel
theorem d_Le_settle_31 : decode c_Le_settle 31 = .ok (.iload_n 3, 1) := by decide +kernel
theorem d_Le_settle_32 : decode c_Le_settle 32 = .ok (.aload_n 0, 1) := by decide +kernel
theorem d_Le_settle_33 : decode c_Le_settle 33 = .ok (.aload_n 2, 1) := by decide +kernel
theorem d_Le_settle_34 : decode c_Le_settle 34 = .ok (.getfield 40, 3) := by decide +kernel
theorem d_Le_settle_37 : decode c_Le_settle 37 = .ok (.iload_n 3, 1) := by decide +kernel
theorem d_Le_settle_38 : decode c_Le_settle 38 = .ok (.iaload, 1) := by decide +kernel
theorem d_Le_settle_39 : decode c_Le_settle 39 = .ok (.aload_n 2, 1) := by decide +kernel
theorem d_Le_settle_40 : decode c_Le_settle 40 = .ok (.getfield 43, 3) := by decide +kernel
theorem d_Le_settle_43 : decode c_Le_settle 43 = .ok (.iload_n 3, 1) := by decide +kernel
theorem d_Le_settle_44 : decode c_Le_settle 44 = .ok (.iaload, 1) := by decide +kernel
theorem d_Le_settle_45 : decode c_Le_settle 45 = .ok (.aload_n 2, 1) := by decide +kernel
theorem d_Le_settle_46 : decode c_Le_settle 46 = .ok (.getfield 46, 3) := by decide +kernel
theorem d_Le_settle_49 : decode c_Le_settle 49 = .ok (.iload_n 3, 1) := by decide +kernel
theorem d_Le_settle_50 : decode c_Le_settle 50 = .ok (.iaload, 1) := by decide +kernel
theorem d_Le_settle_51 : decode c_Le_settle 51 = .ok (.invokevirtual 49, 3) := by decide +kernel
theorem d_Le_settle_54 : decode c_Le_settle 54 = .ok (.ifCond .eq 7, 3) := by decide +kernel
theorem d_Le_settle_57 : decode c_Le_settle 57 = .ok (.iconst 1, 1) := by decide +kernel
theorem d_Le_settle_58 : decode c_Le_settle 58 = .ok (.goto 4, 3) := by decide +kernel
theorem d_Le_settle_61 : decode c_Le_settle 61 = .ok (.iconst 2, 1) := by decide +kernel
theorem d_Le_settle_62 : decode c_Le_settle 62 = .ok (.iastore, 1) := by decide +kernel
theorem d_Le_settle_63 : decode c_Le_settle 63 = .ok (.iinc 3 1, 3) := by decide +kernel
theorem d_Le_settle_66 : decode c_Le_settle 66 = .ok (.goto (-64), 3) := by decide +kernel
theorem d_Le_settle_69 : decode c_Le_settle 69 = .ok (.return_, 1) := by decide +kernel
theorem d_Le_pay_0 : decode c_Le_pay 0 = .ok (.aload_n 0, 1) := by decide +kernel
theorem d_Le_pay_1 : decode c_Le_pay 1 = .ok (.getfield 9, 3) := by decide +kernel
theorem d_Le_pay_4 : decode c_Le_pay 4 = .ok (.iload_n 1, 1) := by decide +kernel
theorem d_Le_pay_5 : decode c_Le_pay 5 = .ok (.iaload, 1) := by decide +kernel
theorem d_Le_pay_6 : decode c_Le_pay 6 = .ok (.iload_n 3, 1) := by decide +kernel
theorem d_Le_pay_7 : decode c_Le_pay 7 = .ok (.if_icmp .ge 5, 3) := by decide +kernel
theorem d_Le_pay_10 : decode c_Le_pay 10 = .ok (.iconst 0, 1) := by decide +kernel
theorem d_Le_pay_11 : decode c_Le_pay 11 = .ok (.ireturn, 1) := by decide +kernel
theorem d_Le_pay_12 : decode c_Le_pay 12 = .ok (.aload_n 0, 1) := by decide +kernel
theorem d_Le_pay_13 : decode c_Le_pay 13 = .ok (.getfield 9, 3) := by decide +kernel
theorem d_Le_pay_16 : decode c_Le_pay 16 = .ok (.iload_n 1, 1) := by decide +kernel
theorem d_Le_pay_17 : decode c_Le_pay 17 = .ok (.dup2, 1) := by decide +kernel
theorem d_Le_pay_18 : decode c_Le_pay 18 = .ok (.iaload, 1) := by decide +kernel
theorem d_Le_pay_19 : decode c_Le_pay 19 = .ok (.iload_n 3, 1) := by decide +kernel
theorem d_Le_pay_20 : decode c_Le_pay 20 = .ok (.isub, 1) := by decide +kernel
theorem d_Le_pay_21 : decode c_Le_pay 21 = .ok (.iastore, 1) := by decide +kernel
theorem d_Le_pay_22 : decode c_Le_pay 22 = .ok (.aload_n 0, 1) := by decide +kernel
theorem d_Le_pay_23 : decode c_Le_pay 23 = .ok (.getfield 9, 3) := by decide +kernel
theorem d_Le_pay_26 : decode c_Le_pay 26 = .ok (.iload_n 2, 1) := by decide +kernel
theorem d_Le_pay_27 : decode c_Le_pay 27 = .ok (.dup2, 1) := by decide +kernel
theorem d_Le_pay_28 : decode c_Le_pay 28 = .ok (.iaload, 1) := by decide +kernel
theorem d_Le_pay_29 : decode c_Le_pay 29 = .ok (.iload_n 3, 1) := by decide +kernel
theorem d_Le_pay_30 : decode c_Le_pay 30 = .ok (.iadd, 1) := by decide +kernel
theorem d_Le_pay_31 : decode c_Le_pay 31 = .ok (.iastore, 1) := by decide +kernel
theorem d_Le_pay_32 : decode c_Le_pay 32 = .ok (.iconst 1, 1) := by decide +kernel
theorem d_Le_pay_33 : decode c_Le_pay 33 = .ok (.ireturn, 1) := by decide +kernel
theorem d_Rp_init_0 : decode c_Rp_init 0 = .ok (.aload_n 0, 1) := by decide +kernel
theorem d_Rp_init_1 : decode c_Rp_init 1 = .ok (.invokespecial 3, 3) := by decide +kernel
theorem d_Rp_init_4 : decode c_Rp_init 4 = .ok (.aload_n 0, 1) := by decide +kernel
theorem d_Rp_init_5 : decode c_Rp_init 5 = .ok (.iconst 1, 1) := by decide +kernel
theorem d_Rp_init_6 : decode c_Rp_init 6 = .ok (.putfield 9, 3) := by decide +kernel
theorem d_Rp_init_9 : decode c_Rp_init 9 = .ok (.aload_n 0, 1) := by decide +kernel
theorem d_Rp_init_10 : decode c_Rp_init 10 = .ok (.iconst 2, 1) := by decide +kernel
theorem d_Rp_init_11 : decode c_Rp_init 11 = .ok (.putfield 15, 3) := by decide +kernel
theorem d_Rp_init_14 : decode c_Rp_init 14 = .ok (.aload_n 0, 1) := by decide +kernel
theorem d_Rp_init_15 : decode c_Rp_init 15 = .ok (.bipush 40, 2) := by decide +kernel
theorem d_Rp_init_17 : decode c_Rp_init 17 = .ok (.newarray .int, 2) := by decide +kernel
theorem d_Rp_init_19 : decode c_Rp_init 19 = .ok (.putfield 18, 3) := by decide +kernel
theorem d_Rp_init_22 : decode c_Rp_init 22 = .ok (.aload_n 0, 1) := by decide +kernel
theorem d_Rp_init_23 : decode c_Rp_init 23 = .ok (.iload_n 1, 1) := by decide +kernel
theorem d_Rp_init_24 : decode c_Rp_init 24 = .ok (.newarray .int, 2) := by decide +kernel
theorem d_Rp_init_26 : decode c_Rp_init 26 = .ok (.putfield 22, 3) := by decide +kernel
theorem d_Rp_init_29 : decode c_Rp_init 29 = .ok (.return_, 1) := by decide +kernel
theorem d_Rp_enter_0 : decode c_Rp_enter 0 = .ok (.aload_n 0, 1) := by decide +kernel
theorem d_Rp_enter_1 : decode c_Rp_enter 1 = .ok (.iload_n 1, 1) := by decide +kernel
theorem d_Rp_enter_2 : decode c_Rp_enter 2 = .ok (.putfield 9, 3) := by decide +kernel
theorem d_Rp_enter_5 : decode c_Rp_enter 5 = .ok (.aload_n 0, 1) := by decide +kernel
theorem d_Rp_enter_6 : decode c_Rp_enter 6 = .ok (.iconst 0, 1) := by decide +kernel
theorem d_Rp_enter_7 : decode c_Rp_enter 7 = .ok (.putfield 25, 3) := by decide +kernel
theorem d_Rp_enter_10 : decode c_Rp_enter 10 = .ok (.return_, 1) := by decide +kernel
theorem d_Rp_see_0 : decode c_Rp_see 0 = .ok (.aload_n 2, 1) := by decide +kernel
theorem d_Rp_see_1 : decode c_Rp_see 1 = .ok (.getfield 28, 3) := by decide +kernel
theorem d_Rp_see_4 : decode c_Rp_see 4 = .ok (.iload_n 1, 1) := by decide +kernel
theorem d_Rp_see_5 : decode c_Rp_see 5 = .ok (.iaload, 1) := by decide +kernel
theorem d_Rp_see_6 : decode c_Rp_see 6 = .ok (.istore_n 3, 1) := by decide +kernel
theorem d_Rp_see_7 : decode c_Rp_see 7 = .ok (.aload_n 0, 1) := by decide +kernel
theorem d_Rp_see_8 : decode c_Rp_see 8 = .ok (.aload_n 2, 1) := by decide +kernel
theorem d_Rp_see_9 : decode c_Rp_see 9 = .ok (.aload_n 0, 1) := by decide +kernel
theorem d_Rp_see_10 : decode c_Rp_see 10 = .ok (.getfield 33, 3) := by decide +kernel
theorem d_Rp_see_13 : decode c_Rp_see 13 = .ok (.iload_n 1, 1) := by decide +kernel
theorem d_Rp_see_14 : decode c_Rp_see 14 = .ok (.invokevirtual 36, 3) := by decide +kernel
theorem d_Rp_see_17 : decode c_Rp_see 17 = .ok (.putfield 33, 3) := by decide +kernel
theorem d_Rp_see_20 : decode c_Rp_see 20 = .ok (.aload_n 0, 1) := by decide +kernel
theorem d_Rp_see_21 : decode c_Rp_see 21 = .ok (.aload_n 2, 1) := by decide +kernel
theorem d_Rp_see_22 : decode c_Rp_see 22 = .ok (.aload_n 0, 1) := by decide +kernel
theorem d_Rp_see_23 : decode c_Rp_see 23 = .ok (.getfield 40, 3) := by decide +kernel
theorem d_Rp_see_26 : decode c_Rp_see 26 = .ok (.iload_n 3, 1) := by decide +kernel
theorem d_Rp_see_27 : decode c_Rp_see 27 = .ok (.invokevirtual 36, 3) := by decide +kernel
theorem d_Rp_see_30 : decode c_Rp_see 30 = .ok (.putfield 40, 3) := by decide +kernel
theorem d_Rp_see_33 : decode c_Rp_see 33 = .ok (.aload_n 2, 1) := by decide +kernel
theorem d_Rp_see_34 : decode c_Rp_see 34 = .ok (.iload_n 1, 1) := by decide +kernel
theorem d_Rp_see_35 : decode c_Rp_see 35 = .ok (.invokevirtual 43, 3) := by decide +kernel
theorem d_Rp_see_38 : decode c_Rp_see 38 = .ok (.ifCond .eq 29, 3) := by decide +kernel
theorem d_Rp_see_41 : decode c_Rp_see 41 = .ok (.aload_n 2, 1) := by decide +kernel
theorem d_Rp_see_42 : decode c_Rp_see 42 = .ok (.iload_n 3, 1) := by decide +kernel
theorem d_Rp_see_43 : decode c_Rp_see 43 = .ok (.invokevirtual 43, 3) := by decide +kernel
theorem d_Rp_see_46 : decode c_Rp_see 46 = .ok (.ifCond .eq 21, 3) := by decide +kernel
theorem d_Rp_see_49 : decode c_Rp_see 49 = .ok (.aload_n 0, 1) := by decide +kernel
theorem d_Rp_see_50 : decode c_Rp_see 50 = .ok (.aload_n 2, 1) := by decide +kernel
theorem d_Rp_see_51 : decode c_Rp_see 51 = .ok (.aload_n 0, 1) := by decide +kernel
theorem d_Rp_see_52 : decode c_Rp_see 52 = .ok (.getfield 47, 3) := by decide +kernel
theorem d_Rp_see_55 : decode c_Rp_see 55 = .ok (.aload_n 2, 1) := by decide +kernel
theorem d_Rp_see_56 : decode c_Rp_see 56 = .ok (.getfield 28, 3) := by decide +kernel
theorem d_Rp_see_59 : decode c_Rp_see 59 = .ok (.iload_n 3, 1) := by decide +kernel
theorem d_Rp_see_60 : decode c_Rp_see 60 = .ok (.iaload, 1) := by decide +kernel
theorem d_Rp_see_61 : decode c_Rp_see 61 = .ok (.invokevirtual 36, 3) := by decide +kernel
theorem d_Rp_see_64 : decode c_Rp_see 64 = .ok (.putfield 47, 3) := by decide +kernel
theorem d_Rp_see_67 : decode c_Rp_see 67 = .ok (.aload_n 2, 1) := by decide +kernel
theorem d_Rp_see_68 : decode c_Rp_see 68 = .ok (.getfield 50, 3) := by decide +kernel
theorem d_Rp_see_71 : decode c_Rp_see 71 = .ok (.iload_n 1, 1) := by decide +kernel
theorem d_Rp_see_72 : decode c_Rp_see 72 = .ok (.iaload, 1) := by decide +kernel
theorem d_Rp_see_73 : decode c_Rp_see 73 = .ok (.aload_n 0, 1) := by decide +kernel
theorem d_Rp_see_74 : decode c_Rp_see 74 = .ok (.getfield 9, 3) := by decide +kernel
theorem d_Rp_see_77 : decode c_Rp_see 77 = .ok (.if_icmp .lt 20, 3) := by decide +kernel
theorem d_Rp_see_80 : decode c_Rp_see 80 = .ok (.aload_n 0, 1) := by decide +kernel
theorem d_Rp_see_81 : decode c_Rp_see 81 = .ok (.aload_n 2, 1) := by decide +kernel
theorem d_Rp_see_82 : decode c_Rp_see 82 = .ok (.getfield 50, 3) := by decide +kernel
theorem d_Rp_see_85 : decode c_Rp_see 85 = .ok (.iload_n 1, 1) := by decide +kernel
theorem d_Rp_see_86 : decode c_Rp_see 86 = .ok (.iaload, 1) := by decide +kernel
theorem d_Rp_see_87 : decode c_Rp_see 87 = .ok (.iconst 1, 1) := by decide +kernel
theorem d_Rp_see_88 : decode c_Rp_see 88 = .ok (.iadd, 1) := by decide +kernel
theorem d_Rp_see_89 : decode c_Rp_see 89 = .ok (.invokevirtual 53, 3) := by decide +kernel
theorem d_Rp_see_92 : decode c_Rp_see 92 = .ok (.aload_n 0, 1) := by decide +kernel
theorem d_Rp_see_93 : decode c_Rp_see 93 = .ok (.iconst 2, 1) := by decide +kernel
theorem d_Rp_see_94 : decode c_Rp_see 94 = .ok (.putfield 15, 3) := by decide +kernel
theorem d_Rp_see_97 : decode c_Rp_see 97 = .ok (.return_, 1) := by decide +kernel
theorem d_Rp_push_0 : decode c_Rp_push 0 = .ok (.iconst 0, 1) := by decide +kernel
theorem d_Rp_push_1 : decode c_Rp_push 1 = .ok (.istore_n 2, 1) := by decide +kernel
theorem d_Rp_push_2 : decode c_Rp_push 2 = .ok (.iconst 0, 1) := by decide +kernel
theorem d_Rp_push_3 : decode c_Rp_push 3 = .ok (.istore_n 3, 1) := by decide +kernel
theorem d_Rp_push_4 : decode c_Rp_push 4 = .ok (.iload_n 3, 1) := by decide +kernel
theorem d_Rp_push_5 : decode c_Rp_push 5 = .ok (.aload_n 0, 1) := by decide +kernel
theorem d_Rp_push_6 : decode c_Rp_push 6 = .ok (.getfield 22, 3) := by decide +kernel
theorem d_Rp_push_9 : decode c_Rp_push 9 = .ok (.arraylength, 1) := by decide +kernel
theorem d_Rp_push_10 : decode c_Rp_push 10 = .ok (.if_icmp .ge 40, 3) := by decide +kernel
theorem d_Rp_push_13 : decode c_Rp_push 13 = .ok (.aload_n 0, 1) := by decide +kernel
theorem d_Rp_push_14 : decode c_Rp_push 14 = .ok (.getfield 22, 3) := by decide +kernel
theorem d_Rp_push_17 : decode c_Rp_push 17 = .ok (.iload_n 3, 1) := by decide +kernel
theorem d_Rp_push_18 : decode c_Rp_push 18 = .ok (.iaload, 1) := by decide +kernel
theorem d_Rp_push_19 : decode c_Rp_push 19 = .ok (.iload_n 2, 1) := by decide +kernel
theorem d_Rp_push_20 : decode c_Rp_push 20 = .ok (.if_icmp .le 24, 3) := by decide +kernel
theorem d_Rp_push_23 : decode c_Rp_push 23 = .ok (.aload_n 0, 1) := by decide +kernel
theorem d_Rp_push_24 : decode c_Rp_push 24 = .ok (.aload_n 0, 1) := by decide +kernel
theorem d_Rp_push_25 : decode c_Rp_push 25 = .ok (.getfield 22, 3) := by decide +kernel
theorem d_Rp_push_28 : decode c_Rp_push 28 = .ok (.iload_n 3, 1) := by decide +kernel
theorem d_Rp_push_29 : decode c_Rp_push 29 = .ok (.iaload, 1) := by decide +kernel
theorem d_Rp_push_30 : decode c_Rp_push 30 = .ok (.invokevirtual 57, 3) := by decide +kernel
theorem d_Rp_push_33 : decode c_Rp_push 33 = .ok (.iload_n 1, 1) := by decide +kernel
theorem d_Rp_push_34 : decode c_Rp_push 34 = .ok (.if_icmp .lt 10, 3) := by decide +kernel
theorem d_Rp_push_37 : decode c_Rp_push 37 = .ok (.aload_n 0, 1) := by decide +kernel
theorem d_Rp_push_38 : decode c_Rp_push 38 = .ok (.getfield 22, 3) := by decide +kernel
theorem d_Rp_push_41 : decode c_Rp_push 41 = .ok (.iload_n 3, 1) := by decide +kernel
theorem d_Rp_push_42 : decode c_Rp_push 42 = .ok (.iaload, 1) := by decide +kernel
theorem d_Rp_push_43 : decode c_Rp_push 43 = .ok (.istore_n 2, 1) := by decide +kernel
theorem d_Rp_push_44 : decode c_Rp_push 44 = .ok (.iinc 3 1, 3) := by decide +kernel
theorem d_Rp_push_47 : decode c_Rp_push 47 = .ok (.goto (-43), 3) := by decide +kernel
theorem d_Rp_push_50 : decode c_Rp_push 50 = .ok (.iload_n 2, 1) := by decide +kernel
theorem d_Rp_push_51 : decode c_Rp_push 51 = .ok (.ireturn, 1) := by decide +kernel
theorem d_Rp_countFrom_0 : decode c_Rp_countFrom 0 = .ok (.iconst 0, 1) := by decide +kernel
theorem d_Rp_countFrom_1 : decode c_Rp_countFrom 1 = .ok (.istore_n 2, 1) := by decide +kernel
theorem d_Rp_countFrom_2 : decode c_Rp_countFrom 2 = .ok (.iconst 0, 1) := by decide +kernel
theorem d_Rp_countFrom_3 : decode c_Rp_countFrom 3 = .ok (.istore_n 3, 1) := by decide +kernel
theorem d_Rp_countFrom_4 : decode c_Rp_countFrom 4 = .ok (.iload_n 3, 1) := by decide +kernel
theorem d_Rp_countFrom_5 : decode c_Rp_countFrom 5 = .ok (.aload_n 0, 1) := by decide +kernel
theorem d_Rp_countFrom_6 : decode c_Rp_countFrom 6 = .ok (.getfield 22, 3) := by decide +kernel
theorem d_Rp_countFrom_9 : decode c_Rp_countFrom 9 = .ok (.arraylength, 1) := by decide +kernel
theorem d_Rp_countFrom_10 : decode c_Rp_countFrom 10 = .ok (.if_icmp .ge 22, 3) := by decide +kernel
theorem d_Rp_countFrom_13 : decode c_Rp_countFrom 13 = .ok (.aload_n 0, 1) := by decide +kernel
theorem d_Rp_countFrom_14 : decode c_Rp_countFrom 14 = .ok (.getfield 22, 3) := by decide +kernel
theorem d_Rp_countFrom_17 : decode c_Rp_countFrom 17 = .ok (.iload_n 3, 1) := by decide +kernel
theorem d_Rp_countFrom_18 : decode c_Rp_countFrom 18 = .ok (.iaload, 1) := by decide +kernel
theorem d_Rp_countFrom_19 : decode c_Rp_countFrom 19 = .ok (.iload_n 1, 1) := by decide +kernel
theorem d_Rp_countFrom_20 : decode c_Rp_countFrom 20 = .ok (.if_icmp .lt 6, 3) := by decide +kernel
theorem d_Rp_countFrom_23 : decode c_Rp_countFrom 23 = .ok (.iinc 2 1, 3) := by decide +kernel
theorem d_Rp_countFrom_26 : decode c_Rp_countFrom 26 = .ok (.iinc 3 1, 3) := by decide +kernel
theorem d_Rp_countFrom_29 : decode c_Rp_countFrom 29 = .ok (.goto (-25), 3) := by decide +kernel
theorem d_Rp_countFrom_32 : decode c_Rp_countFrom 32 = .ok (.iload_n 2, 1) := by decide +kernel
theorem d_Rp_countFrom_33 : decode c_Rp_countFrom 33 = .ok (.ireturn, 1) := by decide +kernel
theorem d_Ro_init_0 : decode c_Ro_init 0 = .ok (.aload_n 0, 1) := by decide +kernel
theorem d_Ro_init_1 : decode c_Ro_init 1 = .ok (.invokespecial 3, 3) := by decide +kernel
theorem d_Ro_init_4 : decode c_Ro_init 4 = .ok (.aload_n 0, 1) := by decide +kernel
theorem d_Ro_init_5 : decode c_Ro_init 5 = .ok (.bipush 40, 2) := by decide +kernel
theorem d_Ro_init_7 : decode c_Ro_init 7 = .ok (.newarray .int, 2) := by decide +kernel
theorem d_Ro_init_9 : decode c_Ro_init 9 = .ok (.putfield 9, 3) := by decide +kernel
theorem d_Ro_init_12 : decode c_Ro_init 12 = .ok (.aload_n 0, 1) := by decide +kernel
theorem d_Ro_init_13 : decode c_Ro_init 13 = .ok (.bipush 40, 2) := by decide +kernel
theorem d_Ro_init_15 : decode c_Ro_init 15 = .ok (.newarray .int, 2) := by decide +kernel
theorem d_Ro_init_17 : decode c_Ro_init 17 = .ok (.putfield 15, 3) := by decide +kernel
theorem d_Ro_init_20 : decode c_Ro_init 20 = .ok (.return_, 1) := by decide +kernel
theorem d_Ro_kind_0 : decode c_Ro_kind 0 = .ok (.iload_n 0, 1) := by decide +kernel
theorem d_Ro_kind_1 : decode c_Ro_kind 1 = .ok (.iconst 3, 1) := by decide +kernel
theorem d_Ro_kind_2 : decode c_Ro_kind 2 = .ok (.iand, 1) := by decide +kernel
theorem d_Ro_kind_3 : decode c_Ro_kind 3 = .ok (.ireturn, 1) := by decide +kernel
theorem d_Ro_receiver_0 : decode c_Ro_receiver 0 = .ok (.iload_n 0, 1) := by decide +kernel
theorem d_Ro_receiver_1 : decode c_Ro_receiver 1 = .ok (.iconst 2, 1) := by decide +kernel
theorem d_Ro_receiver_2 : decode c_Ro_receiver 2 = .ok (.ishr, 1) := by decide +kernel
theorem d_Ro_receiver_3 : decode c_Ro_receiver 3 = .ok (.bipush 7, 2) := by decide +kernel
theorem d_Ro_receiver_5 : decode c_Ro_receiver 5 = .ok (.iand, 1) := by decide +kernel
theorem d_Ro_receiver_6 : decode c_Ro_receiver 6 = .ok (.ireturn, 1) := by decide +kernel
theorem d_Ro_sender_0 : decode c_Ro_sender 0 = .ok (.iload_n 0, 1) := by decide +kernel
theorem d_Ro_sender_1 : decode c_Ro_sender 1 = .ok (.iconst 5, 1) := by decide +kernel
theorem d_Ro_sender_2 : decode c_Ro_sender 2 = .ok (.ishr, 1) := by decide +kernel
theorem d_Ro_sender_3 : decode c_Ro_sender 3 = .ok (.bipush 7, 2) := by decide +kernel
theorem d_Ro_sender_5 : decode c_Ro_sender 5 = .ok (.iand, 1) := by decide +kernel
theorem d_Ro_sender_6 : decode c_Ro_sender 6 = .ok (.ireturn, 1) := by decide +kernel
theorem d_Ro_subject_0 : decode c_Ro_subject 0 = .ok (.iload_n 0, 1) := by decide +kernel
theorem d_Ro_subject_1 : decode c_Ro_subject 1 = .ok (.bipush 8, 2) := by decide +kernel
theorem d_Ro_subject_3 : decode c_Ro_subject 3 = .ok (.ishr, 1) := by decide +kernel
theorem d_Ro_subject_4 : decode c_Ro_subject 4 = .ok (.ireturn, 1) := by decide +kernel
theorem d_Ro_hasPlace_0 : decode c_Ro_hasPlace 0 = .ok (.iload_n 1, 1) := by decide +kernel
theorem d_Ro_hasPlace_1 : decode c_Ro_hasPlace 1 = .ok (.ifCond .lt 15, 3) := by decide +kernel
theorem d_Ro_hasPlace_4 : decode c_Ro_hasPlace 4 = .ok (.iload_n 1, 1) := by decide +kernel
theorem d_Ro_hasPlace_5 : decode c_Ro_hasPlace 5 = .ok (.aload_n 0, 1) := by decide +kernel
theorem d_Ro_hasPlace_6 : decode c_Ro_hasPlace 6 = .ok (.getfield 18, 3) := by decide +kernel
theorem d_Ro_hasPlace_9 : decode c_Ro_hasPlace 9 = .ok (.if_icmp .ge 7, 3) := by decide +kernel
theorem d_Ro_hasPlace_12 : decode c_Ro_hasPlace 12 = .ok (.iconst 1, 1) := by decide +kernel
theorem d_Ro_hasPlace_13 : decode c_Ro_hasPlace 13 = .ok (.goto 4, 3) := by decide +kernel
theorem d_Ro_hasPlace_16 : decode c_Ro_hasPlace 16 = .ok (.iconst 0, 1) := by decide +kernel
theorem d_Ro_hasPlace_17 : decode c_Ro_hasPlace 17 = .ok (.ireturn, 1) := by decide +kernel
theorem d_Ro_isFull_0 : decode c_Ro_isFull 0 = .ok (.aload_n 0, 1) := by decide +kernel
theorem d_Ro_isFull_1 : decode c_Ro_isFull 1 = .ok (.getfield 18, 3) := by decide +kernel
theorem d_Ro_isFull_4 : decode c_Ro_isFull 4 = .ok (.bipush 40, 2) := by decide +kernel
theorem d_Ro_isFull_6 : decode c_Ro_isFull 6 = .ok (.if_icmp .lt 7, 3) := by decide +kernel
theorem d_Ro_isFull_9 : decode c_Ro_isFull 9 = .ok (.iconst 1, 1) := by decide +kernel
theorem d_Ro_isFull_10 : decode c_Ro_isFull 10 = .ok (.goto 4, 3) := by decide +kernel
theorem d_Ro_isFull_13 : decode c_Ro_isFull 13 = .ok (.iconst 0, 1) := by decide +kernel
theorem d_Ro_isFull_14 : decode c_Ro_isFull 14 = .ok (.ireturn, 1) := by decide +kernel
theorem d_Ro_send_0 : decode c_Ro_send 0 = .ok (.aload_n 0, 1) := by decide +kernel
theorem d_Ro_send_1 : decode c_Ro_send 1 = .ok (.invokevirtual 22, 3) := by decide +kernel
theorem d_Ro_send_4 : decode c_Ro_send 4 = .ok (.ifCond .eq 14, 3) := by decide +kernel
theorem d_Ro_send_7 : decode c_Ro_send 7 = .ok (.aload_n 0, 1) := by decide +kernel
theorem d_Ro_send_8 : decode c_Ro_send 8 = .ok (.dup, 1) := by decide +kernel
theorem d_Ro_send_9 : decode c_Ro_send 9 = .ok (.getfield 26, 3) := by decide +kernel
theorem d_Ro_send_12 : decode c_Ro_send 12 = .ok (.iconst 1, 1) := by decide +kernel
theorem d_Ro_send_13 : decode c_Ro_send 13 = .ok (.iadd, 1) := by decide +kernel
theorem d_Ro_send_14 : decode c_Ro_send 14 = .ok (.putfield 26, 3) := by decide +kernel
