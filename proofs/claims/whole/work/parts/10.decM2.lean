theorem d_M_push_0 : decode c_M_push 0 = .ok (.iconst 0, 1) := by decide +kernel
theorem d_M_push_1 : decode c_M_push 1 = .ok (.istore_n 2, 1) := by decide +kernel
theorem d_M_push_2 : decode c_M_push 2 = .ok (.iconst 0, 1) := by decide +kernel
theorem d_M_push_3 : decode c_M_push 3 = .ok (.istore_n 3, 1) := by decide +kernel
theorem d_M_push_4 : decode c_M_push 4 = .ok (.iload_n 3, 1) := by decide +kernel
theorem d_M_push_5 : decode c_M_push 5 = .ok (.aload_n 0, 1) := by decide +kernel
theorem d_M_push_6 : decode c_M_push 6 = .ok (.getfield 90, 3) := by decide +kernel
theorem d_M_push_9 : decode c_M_push 9 = .ok (.if_icmp .ge 85, 3) := by decide +kernel
theorem d_M_push_12 : decode c_M_push 12 = .ok (.aload_n 0, 1) := by decide +kernel
theorem d_M_push_13 : decode c_M_push 13 = .ok (.getfield 75, 3) := by decide +kernel
theorem d_M_push_16 : decode c_M_push 16 = .ok (.bipush 7, 2) := by decide +kernel
theorem d_M_push_18 : decode c_M_push 18 = .ok (.iload_n 1, 1) := by decide +kernel
theorem d_M_push_19 : decode c_M_push 19 = .ok (.imul, 1) := by decide +kernel
theorem d_M_push_20 : decode c_M_push 20 = .ok (.iload_n 3, 1) := by decide +kernel
theorem d_M_push_21 : decode c_M_push 21 = .ok (.iadd, 1) := by decide +kernel
theorem d_M_push_22 : decode c_M_push 22 = .ok (.iaload, 1) := by decide +kernel
theorem d_M_push_23 : decode c_M_push 23 = .ok (.istore 4, 2) := by decide +kernel
theorem d_M_push_25 : decode c_M_push 25 = .ok (.iconst 0, 1) := by decide +kernel
theorem d_M_push_26 : decode c_M_push 26 = .ok (.istore 5, 2) := by decide +kernel
theorem d_M_push_28 : decode c_M_push 28 = .ok (.iconst 0, 1) := by decide +kernel
theorem d_M_push_29 : decode c_M_push 29 = .ok (.istore 6, 2) := by decide +kernel
theorem d_M_push_31 : decode c_M_push 31 = .ok (.iload 6, 2) := by decide +kernel
theorem d_M_push_33 : decode c_M_push 33 = .ok (.aload_n 0, 1) := by decide +kernel
theorem d_M_push_34 : decode c_M_push 34 = .ok (.getfield 90, 3) := by decide +kernel
theorem d_M_push_37 : decode c_M_push 37 = .ok (.if_icmp .ge 29, 3) := by decide +kernel
theorem d_M_push_40 : decode c_M_push 40 = .ok (.aload_n 0, 1) := by decide +kernel
theorem d_M_push_41 : decode c_M_push 41 = .ok (.getfield 75, 3) := by decide +kernel
theorem d_M_push_44 : decode c_M_push 44 = .ok (.bipush 7, 2) := by decide +kernel
theorem d_M_push_46 : decode c_M_push 46 = .ok (.iload_n 1, 1) := by decide +kernel
theorem d_M_push_47 : decode c_M_push 47 = .ok (.imul, 1) := by decide +kernel
theorem d_M_push_48 : decode c_M_push 48 = .ok (.iload 6, 2) := by decide +kernel
theorem d_M_push_50 : decode c_M_push 50 = .ok (.iadd, 1) := by decide +kernel
theorem d_M_push_51 : decode c_M_push 51 = .ok (.iaload, 1) := by decide +kernel
theorem d_M_push_52 : decode c_M_push 52 = .ok (.iload 4, 2) := by decide +kernel
theorem d_M_push_54 : decode c_M_push 54 = .ok (.if_icmp .lt 6, 3) := by decide +kernel
theorem d_M_push_57 : decode c_M_push 57 = .ok (.iinc 5 1, 3) := by decide +kernel
theorem d_M_push_60 : decode c_M_push 60 = .ok (.iinc 6 1, 3) := by decide +kernel
theorem d_M_push_63 : decode c_M_push 63 = .ok (.goto (-32), 3) := by decide +kernel
theorem d_M_push_66 : decode c_M_push 66 = .ok (.iload 5, 2) := by decide +kernel
theorem d_M_push_68 : decode c_M_push 68 = .ok (.iconst 2, 1) := by decide +kernel
theorem d_M_push_69 : decode c_M_push 69 = .ok (.aload_n 0, 1) := by decide +kernel
theorem d_M_push_70 : decode c_M_push 70 = .ok (.getfield 87, 3) := by decide +kernel
theorem d_M_push_73 : decode c_M_push 73 = .ok (.imul, 1) := by decide +kernel
theorem d_M_push_74 : decode c_M_push 74 = .ok (.iconst 1, 1) := by decide +kernel
theorem d_M_push_75 : decode c_M_push 75 = .ok (.iadd, 1) := by decide +kernel
theorem d_M_push_76 : decode c_M_push 76 = .ok (.if_icmp .lt 12, 3) := by decide +kernel
theorem d_M_push_79 : decode c_M_push 79 = .ok (.iload 4, 2) := by decide +kernel
theorem d_M_push_81 : decode c_M_push 81 = .ok (.iload_n 2, 1) := by decide +kernel
theorem d_M_push_82 : decode c_M_push 82 = .ok (.if_icmp .le 6, 3) := by decide +kernel
theorem d_M_push_85 : decode c_M_push 85 = .ok (.iload 4, 2) := by decide +kernel
theorem d_M_push_87 : decode c_M_push 87 = .ok (.istore_n 2, 1) := by decide +kernel
theorem d_M_push_88 : decode c_M_push 88 = .ok (.iinc 3 1, 3) := by decide +kernel
theorem d_M_push_91 : decode c_M_push 91 = .ok (.goto (-87), 3) := by decide +kernel
theorem d_M_push_94 : decode c_M_push 94 = .ok (.iload_n 2, 1) := by decide +kernel
theorem d_M_push_95 : decode c_M_push 95 = .ok (.ireturn, 1) := by decide +kernel
theorem d_M_send_0 : decode c_M_send 0 = .ok (.aload_n 0, 1) := by decide +kernel
theorem d_M_send_1 : decode c_M_send 1 = .ok (.getfield 107, 3) := by decide +kernel
theorem d_M_send_4 : decode c_M_send 4 = .ok (.bipush 40, 2) := by decide +kernel
theorem d_M_send_6 : decode c_M_send 6 = .ok (.if_icmp .lt 14, 3) := by decide +kernel
theorem d_M_send_9 : decode c_M_send 9 = .ok (.aload_n 0, 1) := by decide +kernel
theorem d_M_send_10 : decode c_M_send 10 = .ok (.dup, 1) := by decide +kernel
theorem d_M_send_11 : decode c_M_send 11 = .ok (.getfield 110, 3) := by decide +kernel
theorem d_M_send_14 : decode c_M_send 14 = .ok (.iconst 1, 1) := by decide +kernel
theorem d_M_send_15 : decode c_M_send 15 = .ok (.iadd, 1) := by decide +kernel
theorem d_M_send_16 : decode c_M_send 16 = .ok (.putfield 110, 3) := by decide +kernel
theorem d_M_send_19 : decode c_M_send 19 = .ok (.return_, 1) := by decide +kernel
theorem d_M_send_20 : decode c_M_send 20 = .ok (.aload_n 0, 1) := by decide +kernel
theorem d_M_send_21 : decode c_M_send 21 = .ok (.getfield 38, 3) := by decide +kernel
theorem d_M_send_24 : decode c_M_send 24 = .ok (.aload_n 0, 1) := by decide +kernel
theorem d_M_send_25 : decode c_M_send 25 = .ok (.getfield 107, 3) := by decide +kernel
theorem d_M_send_28 : decode c_M_send 28 = .ok (.iload_n 1, 1) := by decide +kernel
theorem d_M_send_29 : decode c_M_send 29 = .ok (.iastore, 1) := by decide +kernel
theorem d_M_send_30 : decode c_M_send 30 = .ok (.aload_n 0, 1) := by decide +kernel
theorem d_M_send_31 : decode c_M_send 31 = .ok (.getfield 44, 3) := by decide +kernel
theorem d_M_send_34 : decode c_M_send 34 = .ok (.aload_n 0, 1) := by decide +kernel
theorem d_M_send_35 : decode c_M_send 35 = .ok (.getfield 107, 3) := by decide +kernel
theorem d_M_send_38 : decode c_M_send 38 = .ok (.iload_n 2, 1) := by decide +kernel
theorem d_M_send_39 : decode c_M_send 39 = .ok (.iastore, 1) := by decide +kernel
theorem d_M_send_40 : decode c_M_send 40 = .ok (.aload_n 0, 1) := by decide +kernel
theorem d_M_send_41 : decode c_M_send 41 = .ok (.getfield 41, 3) := by decide +kernel
theorem d_M_send_44 : decode c_M_send 44 = .ok (.aload_n 0, 1) := by decide +kernel
theorem d_M_send_45 : decode c_M_send 45 = .ok (.getfield 107, 3) := by decide +kernel
theorem d_M_send_48 : decode c_M_send 48 = .ok (.iload_n 3, 1) := by decide +kernel
theorem d_M_send_49 : decode c_M_send 49 = .ok (.iastore, 1) := by decide +kernel
theorem d_M_send_50 : decode c_M_send 50 = .ok (.aload_n 0, 1) := by decide +kernel
theorem d_M_send_51 : decode c_M_send 51 = .ok (.getfield 47, 3) := by decide +kernel
theorem d_M_send_54 : decode c_M_send 54 = .ok (.aload_n 0, 1) := by decide +kernel
theorem d_M_send_55 : decode c_M_send 55 = .ok (.getfield 107, 3) := by decide +kernel
theorem d_M_send_58 : decode c_M_send 58 = .ok (.iload 4, 2) := by decide +kernel
theorem d_M_send_60 : decode c_M_send 60 = .ok (.iastore, 1) := by decide +kernel
theorem d_M_send_61 : decode c_M_send 61 = .ok (.aload_n 0, 1) := by decide +kernel
theorem d_M_send_62 : decode c_M_send 62 = .ok (.getfield 50, 3) := by decide +kernel
theorem d_M_send_65 : decode c_M_send 65 = .ok (.aload_n 0, 1) := by decide +kernel
theorem d_M_send_66 : decode c_M_send 66 = .ok (.getfield 107, 3) := by decide +kernel
theorem d_M_send_69 : decode c_M_send 69 = .ok (.iload 5, 2) := by decide +kernel
theorem d_M_send_71 : decode c_M_send 71 = .ok (.iastore, 1) := by decide +kernel
theorem d_M_send_72 : decode c_M_send 72 = .ok (.aload_n 0, 1) := by decide +kernel
theorem d_M_send_73 : decode c_M_send 73 = .ok (.dup, 1) := by decide +kernel
theorem d_M_send_74 : decode c_M_send 74 = .ok (.getfield 107, 3) := by decide +kernel
theorem d_M_send_77 : decode c_M_send 77 = .ok (.iconst 1, 1) := by decide +kernel
theorem d_M_send_78 : decode c_M_send 78 = .ok (.iadd, 1) := by decide +kernel
theorem d_M_send_79 : decode c_M_send 79 = .ok (.putfield 107, 3) := by decide +kernel
theorem d_M_send_82 : decode c_M_send 82 = .ok (.return_, 1) := by decide +kernel
theorem d_M_enter_0 : decode c_M_enter 0 = .ok (.aload_n 0, 1) := by decide +kernel
theorem d_M_enter_1 : decode c_M_enter 1 = .ok (.getfield 53, 3) := by decide +kernel
theorem d_M_enter_4 : decode c_M_enter 4 = .ok (.iload_n 1, 1) := by decide +kernel
theorem d_M_enter_5 : decode c_M_enter 5 = .ok (.iload_n 2, 1) := by decide +kernel
theorem d_M_enter_6 : decode c_M_enter 6 = .ok (.iastore, 1) := by decide +kernel
theorem d_M_enter_7 : decode c_M_enter 7 = .ok (.aload_n 0, 1) := by decide +kernel
theorem d_M_enter_8 : decode c_M_enter 8 = .ok (.getfield 56, 3) := by decide +kernel
theorem d_M_enter_11 : decode c_M_enter 11 = .ok (.iload_n 1, 1) := by decide +kernel
theorem d_M_enter_12 : decode c_M_enter 12 = .ok (.iconst 0, 1) := by decide +kernel
theorem d_M_enter_13 : decode c_M_enter 13 = .ok (.iastore, 1) := by decide +kernel
theorem d_M_enter_14 : decode c_M_enter 14 = .ok (.return_, 1) := by decide +kernel
theorem d_M_see_0 : decode c_M_see 0 = .ok (.aload_n 0, 1) := by decide +kernel
theorem d_M_see_1 : decode c_M_see 1 = .ok (.getfield 68, 3) := by decide +kernel
theorem d_M_see_4 : decode c_M_see 4 = .ok (.bipush 40, 2) := by decide +kernel
theorem d_M_see_6 : decode c_M_see 6 = .ok (.iload_n 1, 1) := by decide +kernel
theorem d_M_see_7 : decode c_M_see 7 = .ok (.imul, 1) := by decide +kernel
theorem d_M_see_8 : decode c_M_see 8 = .ok (.iload_n 2, 1) := by decide +kernel
theorem d_M_see_9 : decode c_M_see 9 = .ok (.iadd, 1) := by decide +kernel
theorem d_M_see_10 : decode c_M_see 10 = .ok (.iconst 1, 1) := by decide +kernel
theorem d_M_see_11 : decode c_M_see 11 = .ok (.bastore, 1) := by decide +kernel
theorem d_M_see_12 : decode c_M_see 12 = .ok (.aload_n 0, 1) := by decide +kernel
theorem d_M_see_13 : decode c_M_see 13 = .ok (.getfield 26, 3) := by decide +kernel
theorem d_M_see_16 : decode c_M_see 16 = .ok (.iload_n 2, 1) := by decide +kernel
theorem d_M_see_17 : decode c_M_see 17 = .ok (.iaload, 1) := by decide +kernel
theorem d_M_see_18 : decode c_M_see 18 = .ok (.aload_n 0, 1) := by decide +kernel
theorem d_M_see_19 : decode c_M_see 19 = .ok (.getfield 53, 3) := by decide +kernel
theorem d_M_see_22 : decode c_M_see 22 = .ok (.iload_n 1, 1) := by decide +kernel
theorem d_M_see_23 : decode c_M_see 23 = .ok (.iaload, 1) := by decide +kernel
theorem d_M_see_24 : decode c_M_see 24 = .ok (.if_icmp .ge 4, 3) := by decide +kernel
theorem d_M_see_27 : decode c_M_see 27 = .ok (.return_, 1) := by decide +kernel
theorem d_M_see_28 : decode c_M_see 28 = .ok (.aload_n 0, 1) := by decide +kernel
theorem d_M_see_29 : decode c_M_see 29 = .ok (.iload_n 1, 1) := by decide +kernel
theorem d_M_see_30 : decode c_M_see 30 = .ok (.aload_n 0, 1) := by decide +kernel
theorem d_M_see_31 : decode c_M_see 31 = .ok (.getfield 26, 3) := by decide +kernel
theorem d_M_see_34 : decode c_M_see 34 = .ok (.iload_n 2, 1) := by decide +kernel
theorem d_M_see_35 : decode c_M_see 35 = .ok (.iaload, 1) := by decide +kernel
theorem d_M_see_36 : decode c_M_see 36 = .ok (.iconst 1, 1) := by decide +kernel
theorem d_M_see_37 : decode c_M_see 37 = .ok (.iadd, 1) := by decide +kernel
theorem d_M_see_38 : decode c_M_see 38 = .ok (.invokevirtual 113, 3) := by decide +kernel
theorem d_M_see_41 : decode c_M_see 41 = .ok (.aload_n 0, 1) := by decide +kernel
theorem d_M_see_42 : decode c_M_see 42 = .ok (.getfield 59, 3) := by decide +kernel
theorem d_M_see_45 : decode c_M_see 45 = .ok (.iload_n 1, 1) := by decide +kernel
theorem d_M_see_46 : decode c_M_see 46 = .ok (.iconst 2, 1) := by decide +kernel
theorem d_M_see_47 : decode c_M_see 47 = .ok (.iastore, 1) := by decide +kernel
theorem d_M_see_48 : decode c_M_see 48 = .ok (.return_, 1) := by decide +kernel
theorem d_M_getProposal_0 : decode c_M_getProposal 0 = .ok (.aload_n 0, 1) := by decide +kernel
theorem d_M_getProposal_1 : decode c_M_getProposal 1 = .ok (.getfield 26, 3) := by decide +kernel
theorem d_M_getProposal_4 : decode c_M_getProposal 4 = .ok (.iload_n 2, 1) := by decide +kernel
theorem d_M_getProposal_5 : decode c_M_getProposal 5 = .ok (.iaload, 1) := by decide +kernel
theorem d_M_getProposal_6 : decode c_M_getProposal 6 = .ok (.istore_n 3, 1) := by decide +kernel
theorem d_M_getProposal_7 : decode c_M_getProposal 7 = .ok (.aload_n 0, 1) := by decide +kernel
theorem d_M_getProposal_8 : decode c_M_getProposal 8 = .ok (.getfield 29, 3) := by decide +kernel
theorem d_M_getProposal_11 : decode c_M_getProposal 11 = .ok (.iload_n 2, 1) := by decide +kernel
theorem d_M_getProposal_12 : decode c_M_getProposal 12 = .ok (.iaload, 1) := by decide +kernel
theorem d_M_getProposal_13 : decode c_M_getProposal 13 = .ok (.istore 4, 2) := by decide +kernel
theorem d_M_getProposal_15 : decode c_M_getProposal 15 = .ok (.aload_n 0, 1) := by decide +kernel
theorem d_M_getProposal_16 : decode c_M_getProposal 16 = .ok (.iload_n 1, 1) := by decide +kernel
theorem d_M_getProposal_17 : decode c_M_getProposal 17 = .ok (.iload 4, 2) := by decide +kernel
theorem d_M_getProposal_19 : decode c_M_getProposal 19 = .ok (.invokevirtual 117, 3) := by decide +kernel
theorem d_M_getProposal_22 : decode c_M_getProposal 22 = .ok (.aload_n 0, 1) := by decide +kernel
theorem d_M_getProposal_23 : decode c_M_getProposal 23 = .ok (.getfield 53, 3) := by decide +kernel
theorem d_M_getProposal_26 : decode c_M_getProposal 26 = .ok (.iload_n 1, 1) := by decide +kernel
theorem d_M_getProposal_27 : decode c_M_getProposal 27 = .ok (.iaload, 1) := by decide +kernel
theorem d_M_getProposal_28 : decode c_M_getProposal 28 = .ok (.iload_n 3, 1) := by decide +kernel
theorem d_M_getProposal_29 : decode c_M_getProposal 29 = .ok (.if_icmp .ge 9, 3) := by decide +kernel
theorem d_M_getProposal_32 : decode c_M_getProposal 32 = .ok (.aload_n 0, 1) := by decide +kernel
theorem d_M_getProposal_33 : decode c_M_getProposal 33 = .ok (.iload_n 1, 1) := by decide +kernel
theorem d_M_getProposal_34 : decode c_M_getProposal 34 = .ok (.iload_n 3, 1) := by decide +kernel
theorem d_M_getProposal_35 : decode c_M_getProposal 35 = .ok (.invokevirtual 113, 3) := by decide +kernel
theorem d_M_getProposal_38 : decode c_M_getProposal 38 = .ok (.aload_n 0, 1) := by decide +kernel
theorem d_M_getProposal_39 : decode c_M_getProposal 39 = .ok (.iload_n 1, 1) := by decide +kernel
theorem d_M_getProposal_40 : decode c_M_getProposal 40 = .ok (.invokevirtual 120, 3) := by decide +kernel
theorem d_M_getProposal_43 : decode c_M_getProposal 43 = .ok (.istore 5, 2) := by decide +kernel
theorem d_M_getProposal_45 : decode c_M_getProposal 45 = .ok (.aload_n 0, 1) := by decide +kernel
theorem d_M_getProposal_46 : decode c_M_getProposal 46 = .ok (.getfield 53, 3) := by decide +kernel
theorem d_M_getProposal_49 : decode c_M_getProposal 49 = .ok (.iload_n 1, 1) := by decide +kernel
theorem d_M_getProposal_50 : decode c_M_getProposal 50 = .ok (.iaload, 1) := by decide +kernel
theorem d_M_getProposal_51 : decode c_M_getProposal 51 = .ok (.iload_n 3, 1) := by decide +kernel
theorem d_M_getProposal_52 : decode c_M_getProposal 52 = .ok (.if_icmp .ne 40, 3) := by decide +kernel
theorem d_M_getProposal_55 : decode c_M_getProposal 55 = .ok (.aload_n 0, 1) := by decide +kernel
theorem d_M_getProposal_56 : decode c_M_getProposal 56 = .ok (.getfield 62, 3) := by decide +kernel
theorem d_M_getProposal_59 : decode c_M_getProposal 59 = .ok (.iload_n 1, 1) := by decide +kernel
theorem d_M_getProposal_60 : decode c_M_getProposal 60 = .ok (.iaload, 1) := by decide +kernel
theorem d_M_getProposal_61 : decode c_M_getProposal 61 = .ok (.iload_n 3, 1) := by decide +kernel
theorem d_M_getProposal_62 : decode c_M_getProposal 62 = .ok (.if_icmp .ge 30, 3) := by decide +kernel
theorem d_M_getProposal_65 : decode c_M_getProposal 65 = .ok (.aload_n 0, 1) := by decide +kernel
theorem d_M_getProposal_66 : decode c_M_getProposal 66 = .ok (.iload 5, 2) := by decide +kernel
theorem d_M_getProposal_68 : decode c_M_getProposal 68 = .ok (.iload_n 2, 1) := by decide +kernel
theorem d_M_getProposal_69 : decode c_M_getProposal 69 = .ok (.invokevirtual 123, 3) := by decide +kernel
theorem d_M_getProposal_72 : decode c_M_getProposal 72 = .ok (.ifCond .ne 21, 3) := by decide +kernel
theorem d_M_getProposal_75 : decode c_M_getProposal 75 = .ok (.aload_n 0, 1) := by decide +kernel
theorem d_M_getProposal_76 : decode c_M_getProposal 76 = .ok (.getfield 26, 3) := by decide +kernel
theorem d_M_getProposal_79 : decode c_M_getProposal 79 = .ok (.iload 4, 2) := by decide +kernel
theorem d_M_getProposal_81 : decode c_M_getProposal 81 = .ok (.iaload, 1) := by decide +kernel
theorem d_M_getProposal_82 : decode c_M_getProposal 82 = .ok (.aload_n 0, 1) := by decide +kernel
theorem d_M_getProposal_83 : decode c_M_getProposal 83 = .ok (.getfield 26, 3) := by decide +kernel
theorem d_M_getProposal_86 : decode c_M_getProposal 86 = .ok (.iload 5, 2) := by decide +kernel
theorem d_M_getProposal_88 : decode c_M_getProposal 88 = .ok (.iaload, 1) := by decide +kernel
theorem d_M_getProposal_89 : decode c_M_getProposal 89 = .ok (.if_icmp .gt 4, 3) := by decide +kernel
theorem d_M_getProposal_92 : decode c_M_getProposal 92 = .ok (.return_, 1) := by decide +kernel
theorem d_M_getProposal_93 : decode c_M_getProposal 93 = .ok (.aload_n 0, 1) := by decide +kernel
theorem d_M_getProposal_94 : decode c_M_getProposal 94 = .ok (.getfield 62, 3) := by decide +kernel
theorem d_M_getProposal_97 : decode c_M_getProposal 97 = .ok (.iload_n 1, 1) := by decide +kernel
theorem d_M_getProposal_98 : decode c_M_getProposal 98 = .ok (.iload_n 3, 1) := by decide +kernel
theorem d_M_getProposal_99 : decode c_M_getProposal 99 = .ok (.iastore, 1) := by decide +kernel
theorem d_M_getProposal_100 : decode c_M_getProposal 100 = .ok (.aload_n 0, 1) := by decide +kernel
theorem d_M_getProposal_101 : decode c_M_getProposal 101 = .ok (.getfield 35, 3) := by decide +kernel
theorem d_M_getProposal_104 : decode c_M_getProposal 104 = .ok (.iload_n 2, 1) := by decide +kernel
theorem d_M_getProposal_105 : decode c_M_getProposal 105 = .ok (.dup2, 1) := by decide +kernel
theorem d_M_getProposal_106 : decode c_M_getProposal 106 = .ok (.iaload, 1) := by decide +kernel
theorem d_M_getProposal_107 : decode c_M_getProposal 107 = .ok (.iconst 1, 1) := by decide +kernel
theorem d_M_getProposal_108 : decode c_M_getProposal 108 = .ok (.iload_n 1, 1) := by decide +kernel
theorem d_M_getProposal_109 : decode c_M_getProposal 109 = .ok (.ishl, 1) := by decide +kernel
theorem d_M_getProposal_110 : decode c_M_getProposal 110 = .ok (.ior, 1) := by decide +kernel
theorem d_M_getProposal_111 : decode c_M_getProposal 111 = .ok (.iastore, 1) := by decide +kernel
theorem d_M_getProposal_112 : decode c_M_getProposal 112 = .ok (.aload_n 0, 1) := by decide +kernel
theorem d_M_getProposal_113 : decode c_M_getProposal 113 = .ok (.iload_n 3, 1) := by decide +kernel
theorem d_M_getProposal_114 : decode c_M_getProposal 114 = .ok (.iconst 1, 1) := by decide +kernel
theorem d_M_getProposal_115 : decode c_M_getProposal 115 = .ok (.iadd, 1) := by decide +kernel
theorem d_M_getProposal_116 : decode c_M_getProposal 116 = .ok (.invokevirtual 127, 3) := by decide +kernel
theorem d_M_getProposal_119 : decode c_M_getProposal 119 = .ok (.istore 6, 2) := by decide +kernel
theorem d_M_getProposal_121 : decode c_M_getProposal 121 = .ok (.aload_n 0, 1) := by decide +kernel
theorem d_M_getProposal_122 : decode c_M_getProposal 122 = .ok (.iconst 1, 1) := by decide +kernel
theorem d_M_getProposal_123 : decode c_M_getProposal 123 = .ok (.iload_n 1, 1) := by decide +kernel
theorem d_M_getProposal_124 : decode c_M_getProposal 124 = .ok (.iload 6, 2) := by decide +kernel
theorem d_M_getProposal_126 : decode c_M_getProposal 126 = .ok (.iload_n 2, 1) := by decide +kernel
theorem d_M_getProposal_127 : decode c_M_getProposal 127 = .ok (.iconst 0, 1) := by decide +kernel
theorem d_M_getProposal_128 : decode c_M_getProposal 128 = .ok (.invokevirtual 130, 3) := by decide +kernel
theorem d_M_getProposal_131 : decode c_M_getProposal 131 = .ok (.return_, 1) := by decide +kernel
theorem d_M_getVote_0 : decode c_M_getVote 0 = .ok (.aload_n 0, 1) := by decide +kernel
theorem d_M_getVote_1 : decode c_M_getVote 1 = .ok (.getfield 72, 3) := by decide +kernel
theorem d_M_getVote_4 : decode c_M_getVote 4 = .ok (.bipush 40, 2) := by decide +kernel
theorem d_M_getVote_6 : decode c_M_getVote 6 = .ok (.iload_n 1, 1) := by decide +kernel
theorem d_M_getVote_7 : decode c_M_getVote 7 = .ok (.imul, 1) := by decide +kernel
theorem d_M_getVote_8 : decode c_M_getVote 8 = .ok (.iload_n 3, 1) := by decide +kernel
theorem d_M_getVote_9 : decode c_M_getVote 9 = .ok (.iadd, 1) := by decide +kernel
theorem d_M_getVote_10 : decode c_M_getVote 10 = .ok (.dup2, 1) := by decide +kernel
theorem d_M_getVote_11 : decode c_M_getVote 11 = .ok (.iaload, 1) := by decide +kernel
theorem d_M_getVote_12 : decode c_M_getVote 12 = .ok (.iconst 1, 1) := by decide +kernel
theorem d_M_getVote_13 : decode c_M_getVote 13 = .ok (.iload_n 2, 1) := by decide +kernel
theorem d_M_getVote_14 : decode c_M_getVote 14 = .ok (.ishl, 1) := by decide +kernel
theorem d_M_getVote_15 : decode c_M_getVote 15 = .ok (.ior, 1) := by decide +kernel
theorem d_M_getVote_16 : decode c_M_getVote 16 = .ok (.iastore, 1) := by decide +kernel
theorem d_M_getVote_17 : decode c_M_getVote 17 = .ok (.aload_n 0, 1) := by decide +kernel
theorem d_M_getVote_18 : decode c_M_getVote 18 = .ok (.getfield 72, 3) := by decide +kernel
theorem d_M_getVote_21 : decode c_M_getVote 21 = .ok (.bipush 40, 2) := by decide +kernel
theorem d_M_getVote_23 : decode c_M_getVote 23 = .ok (.iload_n 1, 1) := by decide +kernel
theorem d_M_getVote_24 : decode c_M_getVote 24 = .ok (.imul, 1) := by decide +kernel
theorem d_M_getVote_25 : decode c_M_getVote 25 = .ok (.iload_n 3, 1) := by decide +kernel
theorem d_M_getVote_26 : decode c_M_getVote 26 = .ok (.iadd, 1) := by decide +kernel
theorem d_M_getVote_27 : decode c_M_getVote 27 = .ok (.iaload, 1) := by decide +kernel
theorem d_M_getVote_28 : decode c_M_getVote 28 = .ok (.invokestatic 103, 3) := by decide +kernel
theorem d_M_getVote_31 : decode c_M_getVote 31 = .ok (.iconst 2, 1) := by decide +kernel
theorem d_M_getVote_32 : decode c_M_getVote 32 = .ok (.aload_n 0, 1) := by decide +kernel
theorem d_M_getVote_33 : decode c_M_getVote 33 = .ok (.getfield 87, 3) := by decide +kernel
theorem d_M_getVote_36 : decode c_M_getVote 36 = .ok (.imul, 1) := by decide +kernel
theorem d_M_getVote_37 : decode c_M_getVote 37 = .ok (.iconst 1, 1) := by decide +kernel
theorem d_M_getVote_38 : decode c_M_getVote 38 = .ok (.iadd, 1) := by decide +kernel
theorem d_M_getVote_39 : decode c_M_getVote 39 = .ok (.if_icmp .lt 9, 3) := by decide +kernel
theorem d_M_getVote_42 : decode c_M_getVote 42 = .ok (.aload_n 0, 1) := by decide +kernel
theorem d_M_getVote_43 : decode c_M_getVote 43 = .ok (.iload_n 1, 1) := by decide +kernel
theorem d_M_getVote_44 : decode c_M_getVote 44 = .ok (.iload_n 3, 1) := by decide +kernel
theorem d_M_getVote_45 : decode c_M_getVote 45 = .ok (.invokevirtual 117, 3) := by decide +kernel
theorem d_M_getVote_48 : decode c_M_getVote 48 = .ok (.return_, 1) := by decide +kernel
theorem d_M_getNewView_0 : decode c_M_getNewView 0 = .ok (.aload_n 0, 1) := by decide +kernel
theorem d_M_getNewView_1 : decode c_M_getNewView 1 = .ok (.iload_n 1, 1) := by decide +kernel
theorem d_M_getNewView_2 : decode c_M_getNewView 2 = .ok (.iload_n 3, 1) := by decide +kernel
theorem d_M_getNewView_3 : decode c_M_getNewView 3 = .ok (.invokevirtual 117, 3) := by decide +kernel
theorem d_M_getNewView_6 : decode c_M_getNewView 6 = .ok (.aload_n 0, 1) := by decide +kernel
theorem d_M_getNewView_7 : decode c_M_getNewView 7 = .ok (.getfield 75, 3) := by decide +kernel
theorem d_M_getNewView_10 : decode c_M_getNewView 10 = .ok (.bipush 7, 2) := by decide +kernel
theorem d_M_getNewView_12 : decode c_M_getNewView 12 = .ok (.iload_n 1, 1) := by decide +kernel
theorem d_M_getNewView_13 : decode c_M_getNewView 13 = .ok (.imul, 1) := by decide +kernel
theorem d_M_getNewView_14 : decode c_M_getNewView 14 = .ok (.iload_n 2, 1) := by decide +kernel
theorem d_M_getNewView_15 : decode c_M_getNewView 15 = .ok (.iadd, 1) := by decide +kernel
theorem d_M_getNewView_16 : decode c_M_getNewView 16 = .ok (.iaload, 1) := by decide +kernel
theorem d_M_getNewView_17 : decode c_M_getNewView 17 = .ok (.iload 4, 2) := by decide +kernel
theorem d_M_getNewView_19 : decode c_M_getNewView 19 = .ok (.if_icmp .ge 16, 3) := by decide +kernel
theorem d_M_getNewView_22 : decode c_M_getNewView 22 = .ok (.aload_n 0, 1) := by decide +kernel
theorem d_M_getNewView_23 : decode c_M_getNewView 23 = .ok (.getfield 75, 3) := by decide +kernel
theorem d_M_getNewView_26 : decode c_M_getNewView 26 = .ok (.bipush 7, 2) := by decide +kernel
theorem d_M_getNewView_28 : decode c_M_getNewView 28 = .ok (.iload_n 1, 1) := by decide +kernel
theorem d_M_getNewView_29 : decode c_M_getNewView 29 = .ok (.imul, 1) := by decide +kernel
theorem d_M_getNewView_30 : decode c_M_getNewView 30 = .ok (.iload_n 2, 1) := by decide +kernel
theorem d_M_getNewView_31 : decode c_M_getNewView 31 = .ok (.iadd, 1) := by decide +kernel
theorem d_M_getNewView_32 : decode c_M_getNewView 32 = .ok (.iload 4, 2) := by decide +kernel
theorem d_M_getNewView_34 : decode c_M_getNewView 34 = .ok (.iastore, 1) := by decide +kernel
theorem d_M_getNewView_35 : decode c_M_getNewView 35 = .ok (.aload_n 0, 1) := by decide +kernel
theorem d_M_getNewView_36 : decode c_M_getNewView 36 = .ok (.iload_n 1, 1) := by decide +kernel
theorem d_M_getNewView_37 : decode c_M_getNewView 37 = .ok (.invokevirtual 134, 3) := by decide +kernel
theorem d_M_getNewView_40 : decode c_M_getNewView 40 = .ok (.istore 5, 2) := by decide +kernel
theorem d_M_getNewView_42 : decode c_M_getNewView 42 = .ok (.iload 5, 2) := by decide +kernel
theorem d_M_getNewView_44 : decode c_M_getNewView 44 = .ok (.aload_n 0, 1) := by decide +kernel
theorem d_M_getNewView_45 : decode c_M_getNewView 45 = .ok (.getfield 53, 3) := by decide +kernel
theorem d_M_getNewView_48 : decode c_M_getNewView 48 = .ok (.iload_n 1, 1) := by decide +kernel
theorem d_M_getNewView_49 : decode c_M_getNewView 49 = .ok (.iaload, 1) := by decide +kernel
theorem d_M_getNewView_50 : decode c_M_getNewView 50 = .ok (.if_icmp .le 10, 3) := by decide +kernel
theorem d_M_getNewView_53 : decode c_M_getNewView 53 = .ok (.aload_n 0, 1) := by decide +kernel
theorem d_M_getNewView_54 : decode c_M_getNewView 54 = .ok (.iload_n 1, 1) := by decide +kernel
theorem d_M_getNewView_55 : decode c_M_getNewView 55 = .ok (.iload 5, 2) := by decide +kernel
theorem d_M_getNewView_57 : decode c_M_getNewView 57 = .ok (.invokevirtual 113, 3) := by decide +kernel
theorem d_M_getNewView_60 : decode c_M_getNewView 60 = .ok (.return_, 1) := by decide +kernel
theorem d_M_takeOut_0 : decode c_M_takeOut 0 = .ok (.aload_n 0, 1) := by decide +kernel
theorem d_M_takeOut_1 : decode c_M_takeOut 1 = .ok (.dup, 1) := by decide +kernel
theorem d_M_takeOut_2 : decode c_M_takeOut 2 = .ok (.getfield 107, 3) := by decide +kernel
theorem d_M_takeOut_5 : decode c_M_takeOut 5 = .ok (.iconst 1, 1) := by decide +kernel
theorem d_M_takeOut_6 : decode c_M_takeOut 6 = .ok (.isub, 1) := by decide +kernel
theorem d_M_takeOut_7 : decode c_M_takeOut 7 = .ok (.putfield 107, 3) := by decide +kernel
theorem d_M_takeOut_10 : decode c_M_takeOut 10 = .ok (.iload_n 1, 1) := by decide +kernel
theorem d_M_takeOut_11 : decode c_M_takeOut 11 = .ok (.istore_n 2, 1) := by decide +kernel
theorem d_M_takeOut_12 : decode c_M_takeOut 12 = .ok (.iload_n 2, 1) := by decide +kernel
theorem d_M_takeOut_13 : decode c_M_takeOut 13 = .ok (.aload_n 0, 1) := by decide +kernel
theorem d_M_takeOut_14 : decode c_M_takeOut 14 = .ok (.getfield 107, 3) := by decide +kernel
theorem d_M_takeOut_17 : decode c_M_takeOut 17 = .ok (.if_icmp .ge 79, 3) := by decide +kernel
theorem d_M_takeOut_20 : decode c_M_takeOut 20 = .ok (.aload_n 0, 1) := by decide +kernel
theorem d_M_takeOut_21 : decode c_M_takeOut 21 = .ok (.getfield 38, 3) := by decide +kernel
theorem d_M_takeOut_24 : decode c_M_takeOut 24 = .ok (.iload_n 2, 1) := by decide +kernel
theorem d_M_takeOut_25 : decode c_M_takeOut 25 = .ok (.aload_n 0, 1) := by decide +kernel
theorem d_M_takeOut_26 : decode c_M_takeOut 26 = .ok (.getfield 38, 3) := by decide +kernel
theorem d_M_takeOut_29 : decode c_M_takeOut 29 = .ok (.iload_n 2, 1) := by decide +kernel
theorem d_M_takeOut_30 : decode c_M_takeOut 30 = .ok (.iconst 1, 1) := by decide +kernel
theorem d_M_takeOut_31 : decode c_M_takeOut 31 = .ok (.iadd, 1) := by decide +kernel
theorem d_M_takeOut_32 : decode c_M_takeOut 32 = .ok (.iaload, 1) := by decide +kernel
theorem d_M_takeOut_33 : decode c_M_takeOut 33 = .ok (.iastore, 1) := by decide +kernel
theorem d_M_takeOut_34 : decode c_M_takeOut 34 = .ok (.aload_n 0, 1) := by decide +kernel
theorem d_M_takeOut_35 : decode c_M_takeOut 35 = .ok (.getfield 44, 3) := by decide +kernel
theorem d_M_takeOut_38 : decode c_M_takeOut 38 = .ok (.iload_n 2, 1) := by decide +kernel
theorem d_M_takeOut_39 : decode c_M_takeOut 39 = .ok (.aload_n 0, 1) := by decide +kernel
theorem d_M_takeOut_40 : decode c_M_takeOut 40 = .ok (.getfield 44, 3) := by decide +kernel
theorem d_M_takeOut_43 : decode c_M_takeOut 43 = .ok (.iload_n 2, 1) := by decide +kernel
theorem d_M_takeOut_44 : decode c_M_takeOut 44 = .ok (.iconst 1, 1) := by decide +kernel
theorem d_M_takeOut_45 : decode c_M_takeOut 45 = .ok (.iadd, 1) := by decide +kernel
theorem d_M_takeOut_46 : decode c_M_takeOut 46 = .ok (.iaload, 1) := by decide +kernel
theorem d_M_takeOut_47 : decode c_M_takeOut 47 = .ok (.iastore, 1) := by decide +kernel
theorem d_M_takeOut_48 : decode c_M_takeOut 48 = .ok (.aload_n 0, 1) := by decide +kernel
theorem d_M_takeOut_49 : decode c_M_takeOut 49 = .ok (.getfield 41, 3) := by decide +kernel
theorem d_M_takeOut_52 : decode c_M_takeOut 52 = .ok (.iload_n 2, 1) := by decide +kernel
theorem d_M_takeOut_53 : decode c_M_takeOut 53 = .ok (.aload_n 0, 1) := by decide +kernel
theorem d_M_takeOut_54 : decode c_M_takeOut 54 = .ok (.getfield 41, 3) := by decide +kernel
theorem d_M_takeOut_57 : decode c_M_takeOut 57 = .ok (.iload_n 2, 1) := by decide +kernel
theorem d_M_takeOut_58 : decode c_M_takeOut 58 = .ok (.iconst 1, 1) := by decide +kernel
theorem d_M_takeOut_59 : decode c_M_takeOut 59 = .ok (.iadd, 1) := by decide +kernel
theorem d_M_takeOut_60 : decode c_M_takeOut 60 = .ok (.iaload, 1) := by decide +kernel
theorem d_M_takeOut_61 : decode c_M_takeOut 61 = .ok (.iastore, 1) := by decide +kernel
theorem d_M_takeOut_62 : decode c_M_takeOut 62 = .ok (.aload_n 0, 1) := by decide +kernel
theorem d_M_takeOut_63 : decode c_M_takeOut 63 = .ok (.getfield 47, 3) := by decide +kernel
theorem d_M_takeOut_66 : decode c_M_takeOut 66 = .ok (.iload_n 2, 1) := by decide +kernel
theorem d_M_takeOut_67 : decode c_M_takeOut 67 = .ok (.aload_n 0, 1) := by decide +kernel
theorem d_M_takeOut_68 : decode c_M_takeOut 68 = .ok (.getfield 47, 3) := by decide +kernel
theorem d_M_takeOut_71 : decode c_M_takeOut 71 = .ok (.iload_n 2, 1) := by decide +kernel
theorem d_M_takeOut_72 : decode c_M_takeOut 72 = .ok (.iconst 1, 1) := by decide +kernel
theorem d_M_takeOut_73 : decode c_M_takeOut 73 = .ok (.iadd, 1) := by decide +kernel
theorem d_M_takeOut_74 : decode c_M_takeOut 74 = .ok (.iaload, 1) := by decide +kernel
theorem d_M_takeOut_75 : decode c_M_takeOut 75 = .ok (.iastore, 1) := by decide +kernel
theorem d_M_takeOut_76 : decode c_M_takeOut 76 = .ok (.aload_n 0, 1) := by decide +kernel
theorem d_M_takeOut_77 : decode c_M_takeOut 77 = .ok (.getfield 50, 3) := by decide +kernel
theorem d_M_takeOut_80 : decode c_M_takeOut 80 = .ok (.iload_n 2, 1) := by decide +kernel
theorem d_M_takeOut_81 : decode c_M_takeOut 81 = .ok (.aload_n 0, 1) := by decide +kernel
theorem d_M_takeOut_82 : decode c_M_takeOut 82 = .ok (.getfield 50, 3) := by decide +kernel
theorem d_M_takeOut_85 : decode c_M_takeOut 85 = .ok (.iload_n 2, 1) := by decide +kernel
theorem d_M_takeOut_86 : decode c_M_takeOut 86 = .ok (.iconst 1, 1) := by decide +kernel
theorem d_M_takeOut_87 : decode c_M_takeOut 87 = .ok (.iadd, 1) := by decide +kernel
theorem d_M_takeOut_88 : decode c_M_takeOut 88 = .ok (.iaload, 1) := by decide +kernel
theorem d_M_takeOut_89 : decode c_M_takeOut 89 = .ok (.iastore, 1) := by decide +kernel
theorem d_M_takeOut_90 : decode c_M_takeOut 90 = .ok (.iinc 2 1, 3) := by decide +kernel
theorem d_M_takeOut_93 : decode c_M_takeOut 93 = .ok (.goto (-81), 3) := by decide +kernel
theorem d_M_takeOut_96 : decode c_M_takeOut 96 = .ok (.return_, 1) := by decide +kernel
theorem d_M_submit_0 : decode c_M_submit 0 = .ok (.iload_n 1, 1) := by decide +kernel
theorem d_M_submit_1 : decode c_M_submit 1 = .ok (.iconst 1, 1) := by decide +kernel
theorem d_M_submit_2 : decode c_M_submit 2 = .ok (.aload_n 0, 1) := by decide +kernel
theorem d_M_submit_3 : decode c_M_submit 3 = .ok (.getfield 90, 3) := by decide +kernel
theorem d_M_submit_6 : decode c_M_submit 6 = .ok (.ishl, 1) := by decide +kernel
theorem d_M_submit_7 : decode c_M_submit 7 = .ok (.iconst 1, 1) := by decide +kernel
theorem d_M_submit_8 : decode c_M_submit 8 = .ok (.isub, 1) := by decide +kernel
theorem d_M_submit_9 : decode c_M_submit 9 = .ok (.iconst (-1), 1) := by decide +kernel
theorem d_M_submit_10 : decode c_M_submit 10 = .ok (.ixor, 1) := by decide +kernel
theorem d_M_submit_11 : decode c_M_submit 11 = .ok (.iand, 1) := by decide +kernel
theorem d_M_submit_12 : decode c_M_submit 12 = .ok (.ifCond .ne 26, 3) := by decide +kernel
theorem d_M_submit_15 : decode c_M_submit 15 = .ok (.iload_n 2, 1) := by decide +kernel
theorem d_M_submit_16 : decode c_M_submit 16 = .ok (.ifCond .lt 22, 3) := by decide +kernel
theorem d_M_submit_19 : decode c_M_submit 19 = .ok (.iload_n 2, 1) := by decide +kernel
theorem d_M_submit_20 : decode c_M_submit 20 = .ok (.iconst 3, 1) := by decide +kernel
theorem d_M_submit_21 : decode c_M_submit 21 = .ok (.if_icmp .gt 17, 3) := by decide +kernel
theorem d_M_submit_24 : decode c_M_submit 24 = .ok (.iload_n 3, 1) := by decide +kernel
theorem d_M_submit_25 : decode c_M_submit 25 = .ok (.ifCond .lt 13, 3) := by decide +kernel
theorem d_M_submit_28 : decode c_M_submit 28 = .ok (.iload_n 3, 1) := by decide +kernel
theorem d_M_submit_29 : decode c_M_submit 29 = .ok (.iconst 3, 1) := by decide +kernel
theorem d_M_submit_30 : decode c_M_submit 30 = .ok (.if_icmp .gt 8, 3) := by decide +kernel
theorem d_M_submit_33 : decode c_M_submit 33 = .ok (.iload_n 2, 1) := by decide +kernel
theorem d_M_submit_34 : decode c_M_submit 34 = .ok (.iload_n 3, 1) := by decide +kernel
theorem d_M_submit_35 : decode c_M_submit 35 = .ok (.if_icmp .ne 5, 3) := by decide +kernel
theorem d_M_submit_38 : decode c_M_submit 38 = .ok (.iconst (-1), 1) := by decide +kernel
theorem d_M_submit_39 : decode c_M_submit 39 = .ok (.ireturn, 1) := by decide +kernel
theorem d_M_submit_40 : decode c_M_submit 40 = .ok (.iload 4, 2) := by decide +kernel
theorem d_M_submit_42 : decode c_M_submit 42 = .ok (.iconst 1, 1) := by decide +kernel
theorem d_M_submit_43 : decode c_M_submit 43 = .ok (.if_icmp .lt 20, 3) := by decide +kernel
theorem d_M_submit_46 : decode c_M_submit 46 = .ok (.iload 4, 2) := by decide +kernel
theorem d_M_submit_48 : decode c_M_submit 48 = .ok (.sipush 1000, 3) := by decide +kernel
theorem d_M_submit_51 : decode c_M_submit 51 = .ok (.if_icmp .gt 12, 3) := by decide +kernel
theorem d_M_submit_54 : decode c_M_submit 54 = .ok (.aload_n 0, 1) := by decide +kernel
theorem d_M_submit_55 : decode c_M_submit 55 = .ok (.getfield 137, 3) := by decide +kernel
theorem d_M_submit_58 : decode c_M_submit 58 = .ok (.bipush 24, 2) := by decide +kernel
theorem d_M_submit_60 : decode c_M_submit 60 = .ok (.if_icmp .lt 5, 3) := by decide +kernel
theorem d_M_submit_63 : decode c_M_submit 63 = .ok (.iconst (-1), 1) := by decide +kernel
theorem d_M_submit_64 : decode c_M_submit 64 = .ok (.ireturn, 1) := by decide +kernel
theorem d_M_submit_65 : decode c_M_submit 65 = .ok (.aload_n 0, 1) := by decide +kernel
theorem d_M_submit_66 : decode c_M_submit 66 = .ok (.getfield 7, 3) := by decide +kernel
theorem d_M_submit_69 : decode c_M_submit 69 = .ok (.aload_n 0, 1) := by decide +kernel
theorem d_M_submit_70 : decode c_M_submit 70 = .ok (.getfield 137, 3) := by decide +kernel
theorem d_M_submit_73 : decode c_M_submit 73 = .ok (.iload_n 1, 1) := by decide +kernel
theorem d_M_submit_74 : decode c_M_submit 74 = .ok (.iastore, 1) := by decide +kernel
theorem d_M_submit_75 : decode c_M_submit 75 = .ok (.aload_n 0, 1) := by decide +kernel
theorem d_M_submit_76 : decode c_M_submit 76 = .ok (.getfield 13, 3) := by decide +kernel
theorem d_M_submit_79 : decode c_M_submit 79 = .ok (.aload_n 0, 1) := by decide +kernel
theorem d_M_submit_80 : decode c_M_submit 80 = .ok (.getfield 137, 3) := by decide +kernel
theorem d_M_submit_83 : decode c_M_submit 83 = .ok (.iload_n 2, 1) := by decide +kernel
theorem d_M_submit_84 : decode c_M_submit 84 = .ok (.iastore, 1) := by decide +kernel
theorem d_M_submit_85 : decode c_M_submit 85 = .ok (.aload_n 0, 1) := by decide +kernel
theorem d_M_submit_86 : decode c_M_submit 86 = .ok (.getfield 16, 3) := by decide +kernel
theorem d_M_submit_89 : decode c_M_submit 89 = .ok (.aload_n 0, 1) := by decide +kernel
theorem d_M_submit_90 : decode c_M_submit 90 = .ok (.getfield 137, 3) := by decide +kernel
theorem d_M_submit_93 : decode c_M_submit 93 = .ok (.iload_n 3, 1) := by decide +kernel
theorem d_M_submit_94 : decode c_M_submit 94 = .ok (.iastore, 1) := by decide +kernel
theorem d_M_submit_95 : decode c_M_submit 95 = .ok (.aload_n 0, 1) := by decide +kernel
theorem d_M_submit_96 : decode c_M_submit 96 = .ok (.getfield 19, 3) := by decide +kernel
theorem d_M_submit_99 : decode c_M_submit 99 = .ok (.aload_n 0, 1) := by decide +kernel
theorem d_M_submit_100 : decode c_M_submit 100 = .ok (.getfield 137, 3) := by decide +kernel
theorem d_M_submit_103 : decode c_M_submit 103 = .ok (.iload 4, 2) := by decide +kernel
theorem d_M_submit_105 : decode c_M_submit 105 = .ok (.iastore, 1) := by decide +kernel
theorem d_M_submit_106 : decode c_M_submit 106 = .ok (.aload_n 0, 1) := by decide +kernel
theorem d_M_submit_107 : decode c_M_submit 107 = .ok (.dup, 1) := by decide +kernel
theorem d_M_submit_108 : decode c_M_submit 108 = .ok (.getfield 137, 3) := by decide +kernel
theorem d_M_submit_111 : decode c_M_submit 111 = .ok (.iconst 1, 1) := by decide +kernel
theorem d_M_submit_112 : decode c_M_submit 112 = .ok (.iadd, 1) := by decide +kernel
theorem d_M_submit_113 : decode c_M_submit 113 = .ok (.putfield 137, 3) := by decide +kernel
theorem d_M_submit_116 : decode c_M_submit 116 = .ok (.aload_n 0, 1) := by decide +kernel
theorem d_M_submit_117 : decode c_M_submit 117 = .ok (.getfield 137, 3) := by decide +kernel
theorem d_M_submit_120 : decode c_M_submit 120 = .ok (.iconst 1, 1) := by decide +kernel
theorem d_M_submit_121 : decode c_M_submit 121 = .ok (.isub, 1) := by decide +kernel
theorem d_M_submit_122 : decode c_M_submit 122 = .ok (.ireturn, 1) := by decide +kernel
theorem d_M_newBlock_0 : decode c_M_newBlock 0 = .ok (.aload_n 0, 1) := by decide +kernel
theorem d_M_newBlock_1 : decode c_M_newBlock 1 = .ok (.getfield 26, 3) := by decide +kernel
theorem d_M_newBlock_4 : decode c_M_newBlock 4 = .ok (.aload_n 0, 1) := by decide +kernel
theorem d_M_newBlock_5 : decode c_M_newBlock 5 = .ok (.getfield 22, 3) := by decide +kernel
theorem d_M_newBlock_8 : decode c_M_newBlock 8 = .ok (.iload_n 1, 1) := by decide +kernel
theorem d_M_newBlock_9 : decode c_M_newBlock 9 = .ok (.iastore, 1) := by decide +kernel
theorem d_M_newBlock_10 : decode c_M_newBlock 10 = .ok (.aload_n 0, 1) := by decide +kernel
