theorem d_T_init_0 : decode c_T_init 0 = .ok (.aload_n 0, 1) := by decide +kernel
theorem d_T_init_1 : decode c_T_init 1 = .ok (.invokespecial 1, 3) := by decide +kernel
theorem d_T_init_4 : decode c_T_init 4 = .ok (.iload_n 1, 1) := by decide +kernel
theorem d_T_init_5 : decode c_T_init 5 = .ok (.iconst 2, 1) := by decide +kernel
theorem d_T_init_6 : decode c_T_init 6 = .ok (.if_icmp .ne 7, 3) := by decide +kernel
theorem d_T_init_9 : decode c_T_init 9 = .ok (.iconst 2, 1) := by decide +kernel
theorem d_T_init_10 : decode c_T_init 10 = .ok (.goto 4, 3) := by decide +kernel
theorem d_T_init_13 : decode c_T_init 13 = .ok (.iconst 1, 1) := by decide +kernel
theorem d_T_init_14 : decode c_T_init 14 = .ok (.istore 4, 2) := by decide +kernel
theorem d_T_init_16 : decode c_T_init 16 = .ok (.aload_n 0, 1) := by decide +kernel
theorem d_T_init_17 : decode c_T_init 17 = .ok (.iconst 3, 1) := by decide +kernel
theorem d_T_init_18 : decode c_T_init 18 = .ok (.iload 4, 2) := by decide +kernel
theorem d_T_init_20 : decode c_T_init 20 = .ok (.imul, 1) := by decide +kernel
theorem d_T_init_21 : decode c_T_init 21 = .ok (.iconst 1, 1) := by decide +kernel
theorem d_T_init_22 : decode c_T_init 22 = .ok (.iadd, 1) := by decide +kernel
theorem d_T_init_23 : decode c_T_init 23 = .ok (.putfield 7, 3) := by decide +kernel
theorem d_T_init_26 : decode c_T_init 26 = .ok (.aload_n 0, 1) := by decide +kernel
theorem d_T_init_27 : decode c_T_init 27 = .ok (.iconst 2, 1) := by decide +kernel
theorem d_T_init_28 : decode c_T_init 28 = .ok (.iload 4, 2) := by decide +kernel
theorem d_T_init_30 : decode c_T_init 30 = .ok (.imul, 1) := by decide +kernel
theorem d_T_init_31 : decode c_T_init 31 = .ok (.iconst 1, 1) := by decide +kernel
theorem d_T_init_32 : decode c_T_init 32 = .ok (.iadd, 1) := by decide +kernel
theorem d_T_init_33 : decode c_T_init 33 = .ok (.putfield 13, 3) := by decide +kernel
theorem d_T_init_36 : decode c_T_init 36 = .ok (.aload_n 0, 1) := by decide +kernel
theorem d_T_init_37 : decode c_T_init 37 = .ok (.iload_n 3, 1) := by decide +kernel
theorem d_T_init_38 : decode c_T_init 38 = .ok (.iconst 4, 1) := by decide +kernel
theorem d_T_init_39 : decode c_T_init 39 = .ok (.invokestatic 16, 3) := by decide +kernel
theorem d_T_init_42 : decode c_T_init 42 = .ok (.bipush 9, 2) := by decide +kernel
theorem d_T_init_44 : decode c_T_init 44 = .ok (.invokestatic 22, 3) := by decide +kernel
theorem d_T_init_47 : decode c_T_init 47 = .ok (.putfield 25, 3) := by decide +kernel
theorem d_T_init_50 : decode c_T_init 50 = .ok (.aload_n 0, 1) := by decide +kernel
theorem d_T_init_51 : decode c_T_init 51 = .ok (.iload_n 2, 1) := by decide +kernel
theorem d_T_init_52 : decode c_T_init 52 = .ok (.iconst 1, 1) := by decide +kernel
theorem d_T_init_53 : decode c_T_init 53 = .ok (.aload_n 0, 1) := by decide +kernel
theorem d_T_init_54 : decode c_T_init 54 = .ok (.getfield 7, 3) := by decide +kernel
theorem d_T_init_57 : decode c_T_init 57 = .ok (.ishl, 1) := by decide +kernel
theorem d_T_init_58 : decode c_T_init 58 = .ok (.iconst 1, 1) := by decide +kernel
theorem d_T_init_59 : decode c_T_init 59 = .ok (.isub, 1) := by decide +kernel
theorem d_T_init_60 : decode c_T_init 60 = .ok (.iand, 1) := by decide +kernel
theorem d_T_init_61 : decode c_T_init 61 = .ok (.iload 4, 2) := by decide +kernel
theorem d_T_init_63 : decode c_T_init 63 = .ok (.invokestatic 28, 3) := by decide +kernel
theorem d_T_init_66 : decode c_T_init 66 = .ok (.putfield 31, 3) := by decide +kernel
theorem d_T_init_69 : decode c_T_init 69 = .ok (.aload_n 0, 1) := by decide +kernel
theorem d_T_init_70 : decode c_T_init 70 = .ok (.aload_n 0, 1) := by decide +kernel
theorem d_T_init_71 : decode c_T_init 71 = .ok (.getfield 7, 3) := by decide +kernel
theorem d_T_init_74 : decode c_T_init 74 = .ok (.anewarray 34, 3) := by decide +kernel
theorem d_T_init_77 : decode c_T_init 77 = .ok (.putfield 36, 3) := by decide +kernel
theorem d_T_init_80 : decode c_T_init 80 = .ok (.iconst 0, 1) := by decide +kernel
theorem d_T_init_81 : decode c_T_init 81 = .ok (.istore 5, 2) := by decide +kernel
theorem d_T_init_83 : decode c_T_init 83 = .ok (.iload 5, 2) := by decide +kernel
theorem d_T_init_85 : decode c_T_init 85 = .ok (.aload_n 0, 1) := by decide +kernel
theorem d_T_init_86 : decode c_T_init 86 = .ok (.getfield 7, 3) := by decide +kernel
theorem d_T_init_89 : decode c_T_init 89 = .ok (.if_icmp .ge 27, 3) := by decide +kernel
theorem d_T_init_92 : decode c_T_init 92 = .ok (.aload_n 0, 1) := by decide +kernel
theorem d_T_init_93 : decode c_T_init 93 = .ok (.getfield 36, 3) := by decide +kernel
theorem d_T_init_96 : decode c_T_init 96 = .ok (.iload 5, 2) := by decide +kernel
theorem d_T_init_98 : decode c_T_init 98 = .ok (.new 34, 3) := by decide +kernel
theorem d_T_init_101 : decode c_T_init 101 = .ok (.dup, 1) := by decide +kernel
theorem d_T_init_102 : decode c_T_init 102 = .ok (.aload_n 0, 1) := by decide +kernel
theorem d_T_init_103 : decode c_T_init 103 = .ok (.getfield 7, 3) := by decide +kernel
theorem d_T_init_106 : decode c_T_init 106 = .ok (.invokespecial 40, 3) := by decide +kernel
theorem d_T_init_109 : decode c_T_init 109 = .ok (.aastore, 1) := by decide +kernel
theorem d_T_init_110 : decode c_T_init 110 = .ok (.iinc 5 1, 3) := by decide +kernel
theorem d_T_init_113 : decode c_T_init 113 = .ok (.goto (-30), 3) := by decide +kernel
theorem d_T_init_116 : decode c_T_init 116 = .ok (.aload_n 0, 1) := by decide +kernel
theorem d_T_init_117 : decode c_T_init 117 = .ok (.new 43, 3) := by decide +kernel
theorem d_T_init_120 : decode c_T_init 120 = .ok (.dup, 1) := by decide +kernel
theorem d_T_init_121 : decode c_T_init 121 = .ok (.invokespecial 45, 3) := by decide +kernel
theorem d_T_init_124 : decode c_T_init 124 = .ok (.putfield 46, 3) := by decide +kernel
theorem d_T_init_127 : decode c_T_init 127 = .ok (.aload_n 0, 1) := by decide +kernel
theorem d_T_init_128 : decode c_T_init 128 = .ok (.new 50, 3) := by decide +kernel
theorem d_T_init_131 : decode c_T_init 131 = .ok (.dup, 1) := by decide +kernel
theorem d_T_init_132 : decode c_T_init 132 = .ok (.invokespecial 52, 3) := by decide +kernel
theorem d_T_init_135 : decode c_T_init 135 = .ok (.putfield 53, 3) := by decide +kernel
theorem d_T_init_138 : decode c_T_init 138 = .ok (.aload_n 0, 1) := by decide +kernel
theorem d_T_init_139 : decode c_T_init 139 = .ok (.new 57, 3) := by decide +kernel
theorem d_T_init_142 : decode c_T_init 142 = .ok (.dup, 1) := by decide +kernel
theorem d_T_init_143 : decode c_T_init 143 = .ok (.invokespecial 59, 3) := by decide +kernel
theorem d_T_init_146 : decode c_T_init 146 = .ok (.putfield 60, 3) := by decide +kernel
theorem d_T_init_149 : decode c_T_init 149 = .ok (.aload_n 0, 1) := by decide +kernel
theorem d_T_init_150 : decode c_T_init 150 = .ok (.new 64, 3) := by decide +kernel
theorem d_T_init_153 : decode c_T_init 153 = .ok (.dup, 1) := by decide +kernel
theorem d_T_init_154 : decode c_T_init 154 = .ok (.invokespecial 66, 3) := by decide +kernel
theorem d_T_init_157 : decode c_T_init 157 = .ok (.putfield 67, 3) := by decide +kernel
theorem d_T_init_160 : decode c_T_init 160 = .ok (.return_, 1) := by decide +kernel
theorem d_T_submit_0 : decode c_T_submit 0 = .ok (.iload_n 1, 1) := by decide +kernel
theorem d_T_submit_1 : decode c_T_submit 1 = .ok (.aload_n 0, 1) := by decide +kernel
theorem d_T_submit_2 : decode c_T_submit 2 = .ok (.getfield 7, 3) := by decide +kernel
theorem d_T_submit_5 : decode c_T_submit 5 = .ok (.iushr, 1) := by decide +kernel
theorem d_T_submit_6 : decode c_T_submit 6 = .ok (.ifCond .eq 7, 3) := by decide +kernel
theorem d_T_submit_9 : decode c_T_submit 9 = .ok (.iconst 1, 1) := by decide +kernel
theorem d_T_submit_10 : decode c_T_submit 10 = .ok (.goto 4, 3) := by decide +kernel
theorem d_T_submit_13 : decode c_T_submit 13 = .ok (.iconst 0, 1) := by decide +kernel
theorem d_T_submit_14 : decode c_T_submit 14 = .ok (.istore 5, 2) := by decide +kernel
theorem d_T_submit_16 : decode c_T_submit 16 = .ok (.iload_n 2, 1) := by decide +kernel
theorem d_T_submit_17 : decode c_T_submit 17 = .ok (.invokestatic 71, 3) := by decide +kernel
theorem d_T_submit_20 : decode c_T_submit 20 = .ok (.ifCond .eq 15, 3) := by decide +kernel
theorem d_T_submit_23 : decode c_T_submit 23 = .ok (.iload_n 3, 1) := by decide +kernel
theorem d_T_submit_24 : decode c_T_submit 24 = .ok (.invokestatic 71, 3) := by decide +kernel
theorem d_T_submit_27 : decode c_T_submit 27 = .ok (.ifCond .eq 8, 3) := by decide +kernel
theorem d_T_submit_30 : decode c_T_submit 30 = .ok (.iload_n 2, 1) := by decide +kernel
theorem d_T_submit_31 : decode c_T_submit 31 = .ok (.iload_n 3, 1) := by decide +kernel
theorem d_T_submit_32 : decode c_T_submit 32 = .ok (.if_icmp .ne 7, 3) := by decide +kernel
theorem d_T_submit_35 : decode c_T_submit 35 = .ok (.iconst 1, 1) := by decide +kernel
theorem d_T_submit_36 : decode c_T_submit 36 = .ok (.goto 4, 3) := by decide +kernel
theorem d_T_submit_39 : decode c_T_submit 39 = .ok (.iconst 0, 1) := by decide +kernel
theorem d_T_submit_40 : decode c_T_submit 40 = .ok (.istore 6, 2) := by decide +kernel
theorem d_T_submit_42 : decode c_T_submit 42 = .ok (.iload 4, 2) := by decide +kernel
theorem d_T_submit_44 : decode c_T_submit 44 = .ok (.iconst 1, 1) := by decide +kernel
theorem d_T_submit_45 : decode c_T_submit 45 = .ok (.if_icmp .lt 11, 3) := by decide +kernel
theorem d_T_submit_48 : decode c_T_submit 48 = .ok (.iload 4, 2) := by decide +kernel
theorem d_T_submit_50 : decode c_T_submit 50 = .ok (.sipush 1000, 3) := by decide +kernel
theorem d_T_submit_53 : decode c_T_submit 53 = .ok (.if_icmp .le 7, 3) := by decide +kernel
theorem d_T_submit_56 : decode c_T_submit 56 = .ok (.iconst 1, 1) := by decide +kernel
theorem d_T_submit_57 : decode c_T_submit 57 = .ok (.goto 4, 3) := by decide +kernel
theorem d_T_submit_60 : decode c_T_submit 60 = .ok (.iconst 0, 1) := by decide +kernel
theorem d_T_submit_61 : decode c_T_submit 61 = .ok (.istore 7, 2) := by decide +kernel
theorem d_T_submit_63 : decode c_T_submit 63 = .ok (.iload 5, 2) := by decide +kernel
theorem d_T_submit_65 : decode c_T_submit 65 = .ok (.ifCond .ne 23, 3) := by decide +kernel
theorem d_T_submit_68 : decode c_T_submit 68 = .ok (.iload 6, 2) := by decide +kernel
theorem d_T_submit_70 : decode c_T_submit 70 = .ok (.ifCond .ne 18, 3) := by decide +kernel
theorem d_T_submit_73 : decode c_T_submit 73 = .ok (.iload 7, 2) := by decide +kernel
theorem d_T_submit_75 : decode c_T_submit 75 = .ok (.ifCond .ne 13, 3) := by decide +kernel
theorem d_T_submit_78 : decode c_T_submit 78 = .ok (.aload_n 0, 1) := by decide +kernel
theorem d_T_submit_79 : decode c_T_submit 79 = .ok (.getfield 46, 3) := by decide +kernel
theorem d_T_submit_82 : decode c_T_submit 82 = .ok (.invokevirtual 75, 3) := by decide +kernel
theorem d_T_submit_85 : decode c_T_submit 85 = .ok (.ifCond .eq 5, 3) := by decide +kernel
theorem d_T_submit_88 : decode c_T_submit 88 = .ok (.iconst (-1), 1) := by decide +kernel
theorem d_T_submit_89 : decode c_T_submit 89 = .ok (.ireturn, 1) := by decide +kernel
theorem d_T_submit_90 : decode c_T_submit 90 = .ok (.aload_n 0, 1) := by decide +kernel
theorem d_T_submit_91 : decode c_T_submit 91 = .ok (.getfield 46, 3) := by decide +kernel
theorem d_T_submit_94 : decode c_T_submit 94 = .ok (.iload_n 2, 1) := by decide +kernel
theorem d_T_submit_95 : decode c_T_submit 95 = .ok (.iload_n 3, 1) := by decide +kernel
theorem d_T_submit_96 : decode c_T_submit 96 = .ok (.iload 4, 2) := by decide +kernel
theorem d_T_submit_98 : decode c_T_submit 98 = .ok (.invokevirtual 79, 3) := by decide +kernel
theorem d_T_submit_101 : decode c_T_submit 101 = .ok (.istore 8, 2) := by decide +kernel
theorem d_T_submit_103 : decode c_T_submit 103 = .ok (.iconst 0, 1) := by decide +kernel
theorem d_T_submit_104 : decode c_T_submit 104 = .ok (.istore 9, 2) := by decide +kernel
theorem d_T_submit_106 : decode c_T_submit 106 = .ok (.iload 9, 2) := by decide +kernel
theorem d_T_submit_108 : decode c_T_submit 108 = .ok (.aload_n 0, 1) := by decide +kernel
theorem d_T_submit_109 : decode c_T_submit 109 = .ok (.getfield 7, 3) := by decide +kernel
theorem d_T_submit_112 : decode c_T_submit 112 = .ok (.if_icmp .ge 37, 3) := by decide +kernel
theorem d_T_submit_115 : decode c_T_submit 115 = .ok (.iload_n 1, 1) := by decide +kernel
theorem d_T_submit_116 : decode c_T_submit 116 = .ok (.iload 9, 2) := by decide +kernel
theorem d_T_submit_118 : decode c_T_submit 118 = .ok (.invokestatic 83, 3) := by decide +kernel
theorem d_T_submit_121 : decode c_T_submit 121 = .ok (.ifCond .eq 22, 3) := by decide +kernel
theorem d_T_submit_124 : decode c_T_submit 124 = .ok (.aload_n 0, 1) := by decide +kernel
theorem d_T_submit_125 : decode c_T_submit 125 = .ok (.getfield 36, 3) := by decide +kernel
theorem d_T_submit_128 : decode c_T_submit 128 = .ok (.iload 9, 2) := by decide +kernel
theorem d_T_submit_130 : decode c_T_submit 130 = .ok (.aaload, 1) := by decide +kernel
theorem d_T_submit_131 : decode c_T_submit 131 = .ok (.dup, 1) := by decide +kernel
theorem d_T_submit_132 : decode c_T_submit 132 = .ok (.getfield 87, 3) := by decide +kernel
theorem d_T_submit_135 : decode c_T_submit 135 = .ok (.iconst 1, 1) := by decide +kernel
theorem d_T_submit_136 : decode c_T_submit 136 = .ok (.iload 8, 2) := by decide +kernel
theorem d_T_submit_138 : decode c_T_submit 138 = .ok (.ishl, 1) := by decide +kernel
theorem d_T_submit_139 : decode c_T_submit 139 = .ok (.ior, 1) := by decide +kernel
theorem d_T_submit_140 : decode c_T_submit 140 = .ok (.putfield 87, 3) := by decide +kernel
theorem d_T_submit_143 : decode c_T_submit 143 = .ok (.iinc 9 1, 3) := by decide +kernel
theorem d_T_submit_146 : decode c_T_submit 146 = .ok (.goto (-40), 3) := by decide +kernel
theorem d_T_submit_149 : decode c_T_submit 149 = .ok (.iload 8, 2) := by decide +kernel
theorem d_T_submit_151 : decode c_T_submit 151 = .ok (.ireturn, 1) := by decide +kernel
theorem d_T_lead_0 : decode c_T_lead 0 = .ok (.aload_n 0, 1) := by decide +kernel
theorem d_T_lead_1 : decode c_T_lead 1 = .ok (.iload_n 1, 1) := by decide +kernel
theorem d_T_lead_2 : decode c_T_lead 2 = .ok (.invokevirtual 90, 3) := by decide +kernel
theorem d_T_lead_5 : decode c_T_lead 5 = .ok (.ifCond .eq 21, 3) := by decide +kernel
theorem d_T_lead_8 : decode c_T_lead 8 = .ok (.aload_n 0, 1) := by decide +kernel
theorem d_T_lead_9 : decode c_T_lead 9 = .ok (.iload_n 1, 1) := by decide +kernel
theorem d_T_lead_10 : decode c_T_lead 10 = .ok (.invokevirtual 93, 3) := by decide +kernel
theorem d_T_lead_13 : decode c_T_lead 13 = .ok (.ifCond .eq 13, 3) := by decide +kernel
theorem d_T_lead_16 : decode c_T_lead 16 = .ok (.aload_n 0, 1) := by decide +kernel
theorem d_T_lead_17 : decode c_T_lead 17 = .ok (.getfield 53, 3) := by decide +kernel
theorem d_T_lead_20 : decode c_T_lead 20 = .ok (.invokevirtual 96, 3) := by decide +kernel
theorem d_T_lead_23 : decode c_T_lead 23 = .ok (.ifCond .eq 5, 3) := by decide +kernel
theorem d_T_lead_26 : decode c_T_lead 26 = .ok (.iconst (-1), 1) := by decide +kernel
theorem d_T_lead_27 : decode c_T_lead 27 = .ok (.ireturn, 1) := by decide +kernel
theorem d_T_lead_28 : decode c_T_lead 28 = .ok (.aload_n 0, 1) := by decide +kernel
theorem d_T_lead_29 : decode c_T_lead 29 = .ok (.getfield 36, 3) := by decide +kernel
theorem d_T_lead_32 : decode c_T_lead 32 = .ok (.iload_n 1, 1) := by decide +kernel
theorem d_T_lead_33 : decode c_T_lead 33 = .ok (.aaload, 1) := by decide +kernel
theorem d_T_lead_34 : decode c_T_lead 34 = .ok (.astore_n 2, 1) := by decide +kernel
theorem d_T_lead_35 : decode c_T_lead 35 = .ok (.aload_n 2, 1) := by decide +kernel
theorem d_T_lead_36 : decode c_T_lead 36 = .ok (.getfield 87, 3) := by decide +kernel
theorem d_T_lead_39 : decode c_T_lead 39 = .ok (.aload_n 0, 1) := by decide +kernel
theorem d_T_lead_40 : decode c_T_lead 40 = .ok (.getfield 53, 3) := by decide +kernel
theorem d_T_lead_43 : decode c_T_lead 43 = .ok (.getfield 97, 3) := by decide +kernel
theorem d_T_lead_46 : decode c_T_lead 46 = .ok (.aload_n 2, 1) := by decide +kernel
theorem d_T_lead_47 : decode c_T_lead 47 = .ok (.getfield 101, 3) := by decide +kernel
theorem d_T_lead_50 : decode c_T_lead 50 = .ok (.iaload, 1) := by decide +kernel
theorem d_T_lead_51 : decode c_T_lead 51 = .ok (.iconst (-1), 1) := by decide +kernel
theorem d_T_lead_52 : decode c_T_lead 52 = .ok (.ixor, 1) := by decide +kernel
theorem d_T_lead_53 : decode c_T_lead 53 = .ok (.iand, 1) := by decide +kernel
theorem d_T_lead_54 : decode c_T_lead 54 = .ok (.istore_n 3, 1) := by decide +kernel
theorem d_T_lead_55 : decode c_T_lead 55 = .ok (.aload_n 0, 1) := by decide +kernel
theorem d_T_lead_56 : decode c_T_lead 56 = .ok (.getfield 53, 3) := by decide +kernel
theorem d_T_lead_59 : decode c_T_lead 59 = .ok (.aload_n 2, 1) := by decide +kernel
theorem d_T_lead_60 : decode c_T_lead 60 = .ok (.getfield 101, 3) := by decide +kernel
theorem d_T_lead_63 : decode c_T_lead 63 = .ok (.aload_n 2, 1) := by decide +kernel
theorem d_T_lead_64 : decode c_T_lead 64 = .ok (.getfield 104, 3) := by decide +kernel
theorem d_T_lead_67 : decode c_T_lead 67 = .ok (.iload_n 3, 1) := by decide +kernel
theorem d_T_lead_68 : decode c_T_lead 68 = .ok (.iconst 2, 1) := by decide +kernel
theorem d_T_lead_69 : decode c_T_lead 69 = .ok (.invokestatic 28, 3) := by decide +kernel
theorem d_T_lead_72 : decode c_T_lead 72 = .ok (.invokevirtual 107, 3) := by decide +kernel
theorem d_T_lead_75 : decode c_T_lead 75 = .ok (.istore 4, 2) := by decide +kernel
theorem d_T_lead_77 : decode c_T_lead 77 = .ok (.aload_n 2, 1) := by decide +kernel
theorem d_T_lead_78 : decode c_T_lead 78 = .ok (.aload_n 2, 1) := by decide +kernel
theorem d_T_lead_79 : decode c_T_lead 79 = .ok (.getfield 104, 3) := by decide +kernel
theorem d_T_lead_82 : decode c_T_lead 82 = .ok (.putfield 108, 3) := by decide +kernel
theorem d_T_lead_85 : decode c_T_lead 85 = .ok (.iconst 0, 1) := by decide +kernel
theorem d_T_lead_86 : decode c_T_lead 86 = .ok (.istore 5, 2) := by decide +kernel
theorem d_T_lead_88 : decode c_T_lead 88 = .ok (.iload 5, 2) := by decide +kernel
theorem d_T_lead_90 : decode c_T_lead 90 = .ok (.aload_n 0, 1) := by decide +kernel
theorem d_T_lead_91 : decode c_T_lead 91 = .ok (.getfield 7, 3) := by decide +kernel
theorem d_T_lead_94 : decode c_T_lead 94 = .ok (.if_icmp .ge 23, 3) := by decide +kernel
theorem d_T_lead_97 : decode c_T_lead 97 = .ok (.aload_n 0, 1) := by decide +kernel
theorem d_T_lead_98 : decode c_T_lead 98 = .ok (.getfield 60, 3) := by decide +kernel
theorem d_T_lead_101 : decode c_T_lead 101 = .ok (.iconst 0, 1) := by decide +kernel
theorem d_T_lead_102 : decode c_T_lead 102 = .ok (.iload 5, 2) := by decide +kernel
theorem d_T_lead_104 : decode c_T_lead 104 = .ok (.iconst 0, 1) := by decide +kernel
theorem d_T_lead_105 : decode c_T_lead 105 = .ok (.iload 4, 2) := by decide +kernel
theorem d_T_lead_107 : decode c_T_lead 107 = .ok (.iconst 0, 1) := by decide +kernel
theorem d_T_lead_108 : decode c_T_lead 108 = .ok (.invokevirtual 111, 3) := by decide +kernel
theorem d_T_lead_111 : decode c_T_lead 111 = .ok (.iinc 5 1, 3) := by decide +kernel
theorem d_T_lead_114 : decode c_T_lead 114 = .ok (.goto (-26), 3) := by decide +kernel
theorem d_T_lead_117 : decode c_T_lead 117 = .ok (.iload 4, 2) := by decide +kernel
theorem d_T_lead_119 : decode c_T_lead 119 = .ok (.ireturn, 1) := by decide +kernel
theorem d_T_tick_0 : decode c_T_tick 0 = .ok (.aload_n 0, 1) := by decide +kernel
theorem d_T_tick_1 : decode c_T_tick 1 = .ok (.iload_n 1, 1) := by decide +kernel
theorem d_T_tick_2 : decode c_T_tick 2 = .ok (.invokevirtual 90, 3) := by decide +kernel
theorem d_T_tick_5 : decode c_T_tick 5 = .ok (.ifCond .ne 5, 3) := by decide +kernel
theorem d_T_tick_8 : decode c_T_tick 8 = .ok (.iconst (-1), 1) := by decide +kernel
theorem d_T_tick_9 : decode c_T_tick 9 = .ok (.ireturn, 1) := by decide +kernel
theorem d_T_tick_10 : decode c_T_tick 10 = .ok (.aload_n 0, 1) := by decide +kernel
theorem d_T_tick_11 : decode c_T_tick 11 = .ok (.getfield 36, 3) := by decide +kernel
theorem d_T_tick_14 : decode c_T_tick 14 = .ok (.iload_n 1, 1) := by decide +kernel
theorem d_T_tick_15 : decode c_T_tick 15 = .ok (.aaload, 1) := by decide +kernel
theorem d_T_tick_16 : decode c_T_tick 16 = .ok (.astore_n 2, 1) := by decide +kernel
theorem d_T_tick_17 : decode c_T_tick 17 = .ok (.aload_n 2, 1) := by decide +kernel
theorem d_T_tick_18 : decode c_T_tick 18 = .ok (.dup, 1) := by decide +kernel
theorem d_T_tick_19 : decode c_T_tick 19 = .ok (.getfield 115, 3) := by decide +kernel
theorem d_T_tick_22 : decode c_T_tick 22 = .ok (.iconst 1, 1) := by decide +kernel
theorem d_T_tick_23 : decode c_T_tick 23 = .ok (.iadd, 1) := by decide +kernel
theorem d_T_tick_24 : decode c_T_tick 24 = .ok (.putfield 115, 3) := by decide +kernel
theorem d_T_tick_27 : decode c_T_tick 27 = .ok (.aload_n 2, 1) := by decide +kernel
theorem d_T_tick_28 : decode c_T_tick 28 = .ok (.getfield 115, 3) := by decide +kernel
theorem d_T_tick_31 : decode c_T_tick 31 = .ok (.aload_n 2, 1) := by decide +kernel
theorem d_T_tick_32 : decode c_T_tick 32 = .ok (.getfield 118, 3) := by decide +kernel
theorem d_T_tick_35 : decode c_T_tick 35 = .ok (.if_icmp .ne 53, 3) := by decide +kernel
theorem d_T_tick_38 : decode c_T_tick 38 = .ok (.aload_n 2, 1) := by decide +kernel
theorem d_T_tick_39 : decode c_T_tick 39 = .ok (.aload_n 2, 1) := by decide +kernel
theorem d_T_tick_40 : decode c_T_tick 40 = .ok (.getfield 104, 3) := by decide +kernel
theorem d_T_tick_43 : decode c_T_tick 43 = .ok (.iconst 1, 1) := by decide +kernel
theorem d_T_tick_44 : decode c_T_tick 44 = .ok (.iadd, 1) := by decide +kernel
theorem d_T_tick_45 : decode c_T_tick 45 = .ok (.invokevirtual 121, 3) := by decide +kernel
theorem d_T_tick_48 : decode c_T_tick 48 = .ok (.aload_n 2, 1) := by decide +kernel
theorem d_T_tick_49 : decode c_T_tick 49 = .ok (.iconst 2, 1) := by decide +kernel
theorem d_T_tick_50 : decode c_T_tick 50 = .ok (.aload_n 2, 1) := by decide +kernel
theorem d_T_tick_51 : decode c_T_tick 51 = .ok (.getfield 118, 3) := by decide +kernel
theorem d_T_tick_54 : decode c_T_tick 54 = .ok (.imul, 1) := by decide +kernel
theorem d_T_tick_55 : decode c_T_tick 55 = .ok (.bipush 32, 2) := by decide +kernel
theorem d_T_tick_57 : decode c_T_tick 57 = .ok (.invokestatic 22, 3) := by decide +kernel
theorem d_T_tick_60 : decode c_T_tick 60 = .ok (.putfield 118, 3) := by decide +kernel
theorem d_T_tick_63 : decode c_T_tick 63 = .ok (.aload_n 0, 1) := by decide +kernel
theorem d_T_tick_64 : decode c_T_tick 64 = .ok (.getfield 60, 3) := by decide +kernel
theorem d_T_tick_67 : decode c_T_tick 67 = .ok (.iconst 2, 1) := by decide +kernel
theorem d_T_tick_68 : decode c_T_tick 68 = .ok (.aload_n 0, 1) := by decide +kernel
theorem d_T_tick_69 : decode c_T_tick 69 = .ok (.aload_n 2, 1) := by decide +kernel
theorem d_T_tick_70 : decode c_T_tick 70 = .ok (.getfield 104, 3) := by decide +kernel
theorem d_T_tick_73 : decode c_T_tick 73 = .ok (.invokevirtual 124, 3) := by decide +kernel
theorem d_T_tick_76 : decode c_T_tick 76 = .ok (.iload_n 1, 1) := by decide +kernel
theorem d_T_tick_77 : decode c_T_tick 77 = .ok (.aload_n 2, 1) := by decide +kernel
theorem d_T_tick_78 : decode c_T_tick 78 = .ok (.getfield 101, 3) := by decide +kernel
theorem d_T_tick_81 : decode c_T_tick 81 = .ok (.aload_n 2, 1) := by decide +kernel
theorem d_T_tick_82 : decode c_T_tick 82 = .ok (.getfield 104, 3) := by decide +kernel
theorem d_T_tick_85 : decode c_T_tick 85 = .ok (.invokevirtual 111, 3) := by decide +kernel
theorem d_T_tick_88 : decode c_T_tick 88 = .ok (.aload_n 2, 1) := by decide +kernel
theorem d_T_tick_89 : decode c_T_tick 89 = .ok (.getfield 104, 3) := by decide +kernel
theorem d_T_tick_92 : decode c_T_tick 92 = .ok (.ireturn, 1) := by decide +kernel
theorem d_T_deliver_0 : decode c_T_deliver 0 = .ok (.aload_n 0, 1) := by decide +kernel
theorem d_T_deliver_1 : decode c_T_deliver 1 = .ok (.getfield 60, 3) := by decide +kernel
theorem d_T_deliver_4 : decode c_T_deliver 4 = .ok (.iload_n 1, 1) := by decide +kernel
theorem d_T_deliver_5 : decode c_T_deliver 5 = .ok (.invokevirtual 128, 3) := by decide +kernel
theorem d_T_deliver_8 : decode c_T_deliver 8 = .ok (.ifCond .ne 5, 3) := by decide +kernel
theorem d_T_deliver_11 : decode c_T_deliver 11 = .ok (.iconst (-1), 1) := by decide +kernel
theorem d_T_deliver_12 : decode c_T_deliver 12 = .ok (.ireturn, 1) := by decide +kernel
theorem d_T_deliver_13 : decode c_T_deliver 13 = .ok (.aload_n 0, 1) := by decide +kernel
theorem d_T_deliver_14 : decode c_T_deliver 14 = .ok (.iload_n 1, 1) := by decide +kernel
theorem d_T_deliver_15 : decode c_T_deliver 15 = .ok (.invokevirtual 131, 3) := by decide +kernel
theorem d_T_deliver_18 : decode c_T_deliver 18 = .ok (.ifCond .eq 7, 3) := by decide +kernel
theorem d_T_deliver_21 : decode c_T_deliver 21 = .ok (.iconst 1, 1) := by decide +kernel
theorem d_T_deliver_22 : decode c_T_deliver 22 = .ok (.goto 4, 3) := by decide +kernel
theorem d_T_deliver_25 : decode c_T_deliver 25 = .ok (.iconst 0, 1) := by decide +kernel
theorem d_T_deliver_26 : decode c_T_deliver 26 = .ok (.ireturn, 1) := by decide +kernel
theorem d_T_flow_0 : decode c_T_flow 0 = .ok (.iload_n 1, 1) := by decide +kernel
theorem d_T_flow_1 : decode c_T_flow 1 = .ok (.ifCond .lt 9, 3) := by decide +kernel
theorem d_T_flow_4 : decode c_T_flow 4 = .ok (.iload_n 1, 1) := by decide +kernel
theorem d_T_flow_5 : decode c_T_flow 5 = .ok (.bipush 40, 2) := by decide +kernel
theorem d_T_flow_7 : decode c_T_flow 7 = .ok (.if_icmp .le 5, 3) := by decide +kernel
theorem d_T_flow_10 : decode c_T_flow 10 = .ok (.iconst (-1), 1) := by decide +kernel
theorem d_T_flow_11 : decode c_T_flow 11 = .ok (.ireturn, 1) := by decide +kernel
theorem d_T_flow_12 : decode c_T_flow 12 = .ok (.iconst 0, 1) := by decide +kernel
theorem d_T_flow_13 : decode c_T_flow 13 = .ok (.istore_n 2, 1) := by decide +kernel
theorem d_T_flow_14 : decode c_T_flow 14 = .ok (.iload_n 2, 1) := by decide +kernel
theorem d_T_flow_15 : decode c_T_flow 15 = .ok (.iload_n 1, 1) := by decide +kernel
theorem d_T_flow_16 : decode c_T_flow 16 = .ok (.if_icmp .ge 26, 3) := by decide +kernel
theorem d_T_flow_19 : decode c_T_flow 19 = .ok (.aload_n 0, 1) := by decide +kernel
theorem d_T_flow_20 : decode c_T_flow 20 = .ok (.getfield 60, 3) := by decide +kernel
theorem d_T_flow_23 : decode c_T_flow 23 = .ok (.iconst 0, 1) := by decide +kernel
theorem d_T_flow_24 : decode c_T_flow 24 = .ok (.invokevirtual 128, 3) := by decide +kernel
theorem d_T_flow_27 : decode c_T_flow 27 = .ok (.ifCond .eq 15, 3) := by decide +kernel
theorem d_T_flow_30 : decode c_T_flow 30 = .ok (.aload_n 0, 1) := by decide +kernel
theorem d_T_flow_31 : decode c_T_flow 31 = .ok (.iconst 0, 1) := by decide +kernel
theorem d_T_flow_32 : decode c_T_flow 32 = .ok (.invokevirtual 131, 3) := by decide +kernel
theorem d_T_flow_35 : decode c_T_flow 35 = .ok (.pop, 1) := by decide +kernel
theorem d_T_flow_36 : decode c_T_flow 36 = .ok (.iinc 2 1, 3) := by decide +kernel
theorem d_T_flow_39 : decode c_T_flow 39 = .ok (.goto (-25), 3) := by decide +kernel
theorem d_T_flow_42 : decode c_T_flow 42 = .ok (.iload_n 2, 1) := by decide +kernel
theorem d_T_flow_43 : decode c_T_flow 43 = .ok (.ireturn, 1) := by decide +kernel
theorem d_T_drop_0 : decode c_T_drop 0 = .ok (.aload_n 0, 1) := by decide +kernel
theorem d_T_drop_1 : decode c_T_drop 1 = .ok (.getfield 60, 3) := by decide +kernel
theorem d_T_drop_4 : decode c_T_drop 4 = .ok (.iload_n 1, 1) := by decide +kernel
theorem d_T_drop_5 : decode c_T_drop 5 = .ok (.invokevirtual 128, 3) := by decide +kernel
theorem d_T_drop_8 : decode c_T_drop 8 = .ok (.ifCond .ne 5, 3) := by decide +kernel
theorem d_T_drop_11 : decode c_T_drop 11 = .ok (.iconst 0, 1) := by decide +kernel
theorem d_T_drop_12 : decode c_T_drop 12 = .ok (.ireturn, 1) := by decide +kernel
theorem d_T_drop_13 : decode c_T_drop 13 = .ok (.aload_n 0, 1) := by decide +kernel
theorem d_T_drop_14 : decode c_T_drop 14 = .ok (.getfield 60, 3) := by decide +kernel
theorem d_T_drop_17 : decode c_T_drop 17 = .ok (.iload_n 1, 1) := by decide +kernel
theorem d_T_drop_18 : decode c_T_drop 18 = .ok (.invokevirtual 134, 3) := by decide +kernel
theorem d_T_drop_21 : decode c_T_drop 21 = .ok (.iconst 1, 1) := by decide +kernel
theorem d_T_drop_22 : decode c_T_drop 22 = .ok (.ireturn, 1) := by decide +kernel
theorem d_T_forge_0 : decode c_T_forge 0 = .ok (.aload_n 0, 1) := by decide +kernel
theorem d_T_forge_1 : decode c_T_forge 1 = .ok (.iload_n 1, 1) := by decide +kernel
theorem d_T_forge_2 : decode c_T_forge 2 = .ok (.invokevirtual 137, 3) := by decide +kernel
theorem d_T_forge_5 : decode c_T_forge 5 = .ok (.ifCond .eq 23, 3) := by decide +kernel
theorem d_T_forge_8 : decode c_T_forge 8 = .ok (.iload_n 2, 1) := by decide +kernel
theorem d_T_forge_9 : decode c_T_forge 9 = .ok (.aload_n 0, 1) := by decide +kernel
theorem d_T_forge_10 : decode c_T_forge 10 = .ok (.getfield 53, 3) := by decide +kernel
theorem d_T_forge_13 : decode c_T_forge 13 = .ok (.getfield 140, 3) := by decide +kernel
theorem d_T_forge_16 : decode c_T_forge 16 = .ok (.iload_n 1, 1) := by decide +kernel
theorem d_T_forge_17 : decode c_T_forge 17 = .ok (.iaload, 1) := by decide +kernel
theorem d_T_forge_18 : decode c_T_forge 18 = .ok (.if_icmp .le 10, 3) := by decide +kernel
theorem d_T_forge_21 : decode c_T_forge 21 = .ok (.iload_n 2, 1) := by decide +kernel
theorem d_T_forge_22 : decode c_T_forge 22 = .ok (.sipush 9999, 3) := by decide +kernel
theorem d_T_forge_25 : decode c_T_forge 25 = .ok (.if_icmp .le 5, 3) := by decide +kernel
theorem d_T_forge_28 : decode c_T_forge 28 = .ok (.iconst (-1), 1) := by decide +kernel
theorem d_T_forge_29 : decode c_T_forge 29 = .ok (.ireturn, 1) := by decide +kernel
theorem d_T_forge_30 : decode c_T_forge 30 = .ok (.iload_n 3, 1) := by decide +kernel
theorem d_T_forge_31 : decode c_T_forge 31 = .ok (.aload_n 0, 1) := by decide +kernel
theorem d_T_forge_32 : decode c_T_forge 32 = .ok (.getfield 46, 3) := by decide +kernel
theorem d_T_forge_35 : decode c_T_forge 35 = .ok (.getfield 143, 3) := by decide +kernel
theorem d_T_forge_38 : decode c_T_forge 38 = .ok (.iushr, 1) := by decide +kernel
theorem d_T_forge_39 : decode c_T_forge 39 = .ok (.ifCond .eq 7, 3) := by decide +kernel
theorem d_T_forge_42 : decode c_T_forge 42 = .ok (.iconst 1, 1) := by decide +kernel
theorem d_T_forge_43 : decode c_T_forge 43 = .ok (.goto 4, 3) := by decide +kernel
theorem d_T_forge_46 : decode c_T_forge 46 = .ok (.iconst 0, 1) := by decide +kernel
theorem d_T_forge_47 : decode c_T_forge 47 = .ok (.istore 4, 2) := by decide +kernel
theorem d_T_forge_49 : decode c_T_forge 49 = .ok (.aload_n 0, 1) := by decide +kernel
theorem d_T_forge_50 : decode c_T_forge 50 = .ok (.aload_n 0, 1) := by decide +kernel
theorem d_T_forge_51 : decode c_T_forge 51 = .ok (.iload_n 2, 1) := by decide +kernel
theorem d_T_forge_52 : decode c_T_forge 52 = .ok (.invokevirtual 124, 3) := by decide +kernel
theorem d_T_forge_55 : decode c_T_forge 55 = .ok (.invokevirtual 146, 3) := by decide +kernel
theorem d_T_forge_58 : decode c_T_forge 58 = .ok (.ifCond .eq 18, 3) := by decide +kernel
theorem d_T_forge_61 : decode c_T_forge 61 = .ok (.iload 4, 2) := by decide +kernel
theorem d_T_forge_63 : decode c_T_forge 63 = .ok (.ifCond .ne 13, 3) := by decide +kernel
theorem d_T_forge_66 : decode c_T_forge 66 = .ok (.aload_n 0, 1) := by decide +kernel
theorem d_T_forge_67 : decode c_T_forge 67 = .ok (.getfield 53, 3) := by decide +kernel
theorem d_T_forge_70 : decode c_T_forge 70 = .ok (.invokevirtual 96, 3) := by decide +kernel
theorem d_T_forge_73 : decode c_T_forge 73 = .ok (.ifCond .eq 5, 3) := by decide +kernel
theorem d_T_forge_76 : decode c_T_forge 76 = .ok (.iconst (-1), 1) := by decide +kernel
theorem d_T_forge_77 : decode c_T_forge 77 = .ok (.ireturn, 1) := by decide +kernel
theorem d_T_forge_78 : decode c_T_forge 78 = .ok (.aload_n 0, 1) := by decide +kernel
theorem d_T_forge_79 : decode c_T_forge 79 = .ok (.getfield 53, 3) := by decide +kernel
theorem d_T_forge_82 : decode c_T_forge 82 = .ok (.iload_n 1, 1) := by decide +kernel
theorem d_T_forge_83 : decode c_T_forge 83 = .ok (.iload_n 2, 1) := by decide +kernel
theorem d_T_forge_84 : decode c_T_forge 84 = .ok (.iload_n 3, 1) := by decide +kernel
theorem d_T_forge_85 : decode c_T_forge 85 = .ok (.invokevirtual 107, 3) := by decide +kernel
theorem d_T_forge_88 : decode c_T_forge 88 = .ok (.ireturn, 1) := by decide +kernel
theorem d_T_offer_0 : decode c_T_offer 0 = .ok (.aload_n 0, 1) := by decide +kernel
theorem d_T_offer_1 : decode c_T_offer 1 = .ok (.getfield 31, 3) := by decide +kernel
theorem d_T_offer_4 : decode c_T_offer 4 = .ok (.ifCond .eq 12, 3) := by decide +kernel
theorem d_T_offer_7 : decode c_T_offer 7 = .ok (.aload_n 0, 1) := by decide +kernel
theorem d_T_offer_8 : decode c_T_offer 8 = .ok (.iload_n 1, 1) := by decide +kernel
theorem d_T_offer_9 : decode c_T_offer 9 = .ok (.iload_n 2, 1) := by decide +kernel
theorem d_T_offer_10 : decode c_T_offer 10 = .ok (.invokevirtual 149, 3) := by decide +kernel
theorem d_T_offer_13 : decode c_T_offer 13 = .ok (.ifCond .ne 5, 3) := by decide +kernel
theorem d_T_offer_16 : decode c_T_offer 16 = .ok (.iconst 0, 1) := by decide +kernel
theorem d_T_offer_17 : decode c_T_offer 17 = .ok (.ireturn, 1) := by decide +kernel
theorem d_T_offer_18 : decode c_T_offer 18 = .ok (.aload_n 0, 1) := by decide +kernel
theorem d_T_offer_19 : decode c_T_offer 19 = .ok (.getfield 60, 3) := by decide +kernel
theorem d_T_offer_22 : decode c_T_offer 22 = .ok (.iconst 0, 1) := by decide +kernel
theorem d_T_offer_23 : decode c_T_offer 23 = .ok (.iload_n 2, 1) := by decide +kernel
theorem d_T_offer_24 : decode c_T_offer 24 = .ok (.iconst 0, 1) := by decide +kernel
theorem d_T_offer_25 : decode c_T_offer 25 = .ok (.iload_n 1, 1) := by decide +kernel
theorem d_T_offer_26 : decode c_T_offer 26 = .ok (.iconst 0, 1) := by decide +kernel
theorem d_T_offer_27 : decode c_T_offer 27 = .ok (.invokevirtual 111, 3) := by decide +kernel
theorem d_T_offer_30 : decode c_T_offer 30 = .ok (.iconst 1, 1) := by decide +kernel
theorem d_T_offer_31 : decode c_T_offer 31 = .ok (.ireturn, 1) := by decide +kernel
theorem d_T_vote_0 : decode c_T_vote 0 = .ok (.aload_n 0, 1) := by decide +kernel
theorem d_T_vote_1 : decode c_T_vote 1 = .ok (.iload_n 1, 1) := by decide +kernel
theorem d_T_vote_2 : decode c_T_vote 2 = .ok (.invokevirtual 146, 3) := by decide +kernel
theorem d_T_vote_5 : decode c_T_vote 5 = .ok (.ifCond .eq 12, 3) := by decide +kernel
theorem d_T_vote_8 : decode c_T_vote 8 = .ok (.aload_n 0, 1) := by decide +kernel
theorem d_T_vote_9 : decode c_T_vote 9 = .ok (.iload_n 2, 1) := by decide +kernel
theorem d_T_vote_10 : decode c_T_vote 10 = .ok (.iload_n 3, 1) := by decide +kernel
theorem d_T_vote_11 : decode c_T_vote 11 = .ok (.invokevirtual 149, 3) := by decide +kernel
theorem d_T_vote_14 : decode c_T_vote 14 = .ok (.ifCond .ne 5, 3) := by decide +kernel
theorem d_T_vote_17 : decode c_T_vote 17 = .ok (.iconst 0, 1) := by decide +kernel
theorem d_T_vote_18 : decode c_T_vote 18 = .ok (.ireturn, 1) := by decide +kernel
theorem d_T_vote_19 : decode c_T_vote 19 = .ok (.aload_n 0, 1) := by decide +kernel
theorem d_T_vote_20 : decode c_T_vote 20 = .ok (.getfield 60, 3) := by decide +kernel
theorem d_T_vote_23 : decode c_T_vote 23 = .ok (.iconst 1, 1) := by decide +kernel
theorem d_T_vote_24 : decode c_T_vote 24 = .ok (.iload_n 3, 1) := by decide +kernel
theorem d_T_vote_25 : decode c_T_vote 25 = .ok (.iload_n 1, 1) := by decide +kernel
theorem d_T_vote_26 : decode c_T_vote 26 = .ok (.iload_n 2, 1) := by decide +kernel
theorem d_T_vote_27 : decode c_T_vote 27 = .ok (.iconst 0, 1) := by decide +kernel
theorem d_T_vote_28 : decode c_T_vote 28 = .ok (.invokevirtual 111, 3) := by decide +kernel
theorem d_T_vote_31 : decode c_T_vote 31 = .ok (.iconst 1, 1) := by decide +kernel
theorem d_T_vote_32 : decode c_T_vote 32 = .ok (.ireturn, 1) := by decide +kernel
theorem d_T_claim_0 : decode c_T_claim 0 = .ok (.aload_n 0, 1) := by decide +kernel
theorem d_T_claim_1 : decode c_T_claim 1 = .ok (.iload_n 1, 1) := by decide +kernel
theorem d_T_claim_2 : decode c_T_claim 2 = .ok (.invokevirtual 146, 3) := by decide +kernel
theorem d_T_claim_5 : decode c_T_claim 5 = .ok (.ifCond .eq 35, 3) := by decide +kernel
theorem d_T_claim_8 : decode c_T_claim 8 = .ok (.iload_n 2, 1) := by decide +kernel
theorem d_T_claim_9 : decode c_T_claim 9 = .ok (.iconst 1, 1) := by decide +kernel
theorem d_T_claim_10 : decode c_T_claim 10 = .ok (.if_icmp .lt 30, 3) := by decide +kernel
theorem d_T_claim_13 : decode c_T_claim 13 = .ok (.aload_n 0, 1) := by decide +kernel
theorem d_T_claim_14 : decode c_T_claim 14 = .ok (.iload_n 3, 1) := by decide +kernel
theorem d_T_claim_15 : decode c_T_claim 15 = .ok (.invokevirtual 137, 3) := by decide +kernel
theorem d_T_claim_18 : decode c_T_claim 18 = .ok (.ifCond .eq 22, 3) := by decide +kernel
theorem d_T_claim_21 : decode c_T_claim 21 = .ok (.aload_n 0, 1) := by decide +kernel
theorem d_T_claim_22 : decode c_T_claim 22 = .ok (.iload 4, 2) := by decide +kernel
theorem d_T_claim_24 : decode c_T_claim 24 = .ok (.invokevirtual 152, 3) := by decide +kernel
theorem d_T_claim_27 : decode c_T_claim 27 = .ok (.ifCond .eq 13, 3) := by decide +kernel
theorem d_T_claim_30 : decode c_T_claim 30 = .ok (.aload_n 0, 1) := by decide +kernel
theorem d_T_claim_31 : decode c_T_claim 31 = .ok (.getfield 60, 3) := by decide +kernel
theorem d_T_claim_34 : decode c_T_claim 34 = .ok (.invokevirtual 155, 3) := by decide +kernel
theorem d_T_claim_37 : decode c_T_claim 37 = .ok (.ifCond .eq 5, 3) := by decide +kernel
theorem d_T_claim_40 : decode c_T_claim 40 = .ok (.iconst 0, 1) := by decide +kernel
theorem d_T_claim_41 : decode c_T_claim 41 = .ok (.ireturn, 1) := by decide +kernel
theorem d_T_claim_42 : decode c_T_claim 42 = .ok (.aload_n 0, 1) := by decide +kernel
theorem d_T_claim_43 : decode c_T_claim 43 = .ok (.getfield 60, 3) := by decide +kernel
theorem d_T_claim_46 : decode c_T_claim 46 = .ok (.iconst 2, 1) := by decide +kernel
theorem d_T_claim_47 : decode c_T_claim 47 = .ok (.iload 4, 2) := by decide +kernel
theorem d_T_claim_49 : decode c_T_claim 49 = .ok (.iload_n 1, 1) := by decide +kernel
theorem d_T_claim_50 : decode c_T_claim 50 = .ok (.iload_n 3, 1) := by decide +kernel
theorem d_T_claim_51 : decode c_T_claim 51 = .ok (.iload_n 2, 1) := by decide +kernel
theorem d_T_claim_52 : decode c_T_claim 52 = .ok (.invokevirtual 111, 3) := by decide +kernel
theorem d_T_claim_55 : decode c_T_claim 55 = .ok (.iconst 1, 1) := by decide +kernel
theorem d_T_claim_56 : decode c_T_claim 56 = .ok (.ireturn, 1) := by decide +kernel
theorem d_T_waiting_0 : decode c_T_waiting 0 = .ok (.aload_n 0, 1) := by decide +kernel
theorem d_T_waiting_1 : decode c_T_waiting 1 = .ok (.getfield 60, 3) := by decide +kernel
theorem d_T_waiting_4 : decode c_T_waiting 4 = .ok (.getfield 156, 3) := by decide +kernel
theorem d_T_waiting_7 : decode c_T_waiting 7 = .ok (.ireturn, 1) := by decide +kernel
theorem d_T_message_0 : decode c_T_message 0 = .ok (.aload_n 0, 1) := by decide +kernel
theorem d_T_message_1 : decode c_T_message 1 = .ok (.getfield 60, 3) := by decide +kernel
theorem d_T_message_4 : decode c_T_message 4 = .ok (.iload_n 1, 1) := by decide +kernel
theorem d_T_message_5 : decode c_T_message 5 = .ok (.invokevirtual 128, 3) := by decide +kernel
theorem d_T_message_8 : decode c_T_message 8 = .ok (.ifCond .eq 15, 3) := by decide +kernel
theorem d_T_message_11 : decode c_T_message 11 = .ok (.aload_n 0, 1) := by decide +kernel
theorem d_T_message_12 : decode c_T_message 12 = .ok (.getfield 60, 3) := by decide +kernel
theorem d_T_message_15 : decode c_T_message 15 = .ok (.getfield 159, 3) := by decide +kernel
theorem d_T_message_18 : decode c_T_message 18 = .ok (.iload_n 1, 1) := by decide +kernel
theorem d_T_message_19 : decode c_T_message 19 = .ok (.iaload, 1) := by decide +kernel
theorem d_T_message_20 : decode c_T_message 20 = .ok (.goto 4, 3) := by decide +kernel
theorem d_T_message_23 : decode c_T_message 23 = .ok (.iconst (-1), 1) := by decide +kernel
theorem d_T_message_24 : decode c_T_message 24 = .ok (.ireturn, 1) := by decide +kernel
theorem d_T_block_0 : decode c_T_block 0 = .ok (.aload_n 0, 1) := by decide +kernel
theorem d_T_block_1 : decode c_T_block 1 = .ok (.getfield 53, 3) := by decide +kernel
theorem d_T_block_4 : decode c_T_block 4 = .ok (.iload_n 1, 1) := by decide +kernel
theorem d_T_block_5 : decode c_T_block 5 = .ok (.invokevirtual 162, 3) := by decide +kernel
theorem d_T_block_8 : decode c_T_block 8 = .ok (.ifCond .eq 28, 3) := by decide +kernel
theorem d_T_block_11 : decode c_T_block 11 = .ok (.bipush 64, 2) := by decide +kernel
theorem d_T_block_13 : decode c_T_block 13 = .ok (.aload_n 0, 1) := by decide +kernel
theorem d_T_block_14 : decode c_T_block 14 = .ok (.getfield 53, 3) := by decide +kernel
theorem d_T_block_17 : decode c_T_block 17 = .ok (.getfield 140, 3) := by decide +kernel
theorem d_T_block_20 : decode c_T_block 20 = .ok (.iload_n 1, 1) := by decide +kernel
theorem d_T_block_21 : decode c_T_block 21 = .ok (.iaload, 1) := by decide +kernel
theorem d_T_block_22 : decode c_T_block 22 = .ok (.imul, 1) := by decide +kernel
theorem d_T_block_23 : decode c_T_block 23 = .ok (.aload_n 0, 1) := by decide +kernel
theorem d_T_block_24 : decode c_T_block 24 = .ok (.getfield 53, 3) := by decide +kernel
theorem d_T_block_27 : decode c_T_block 27 = .ok (.getfield 165, 3) := by decide +kernel
theorem d_T_block_30 : decode c_T_block 30 = .ok (.iload_n 1, 1) := by decide +kernel
theorem d_T_block_31 : decode c_T_block 31 = .ok (.iaload, 1) := by decide +kernel
theorem d_T_block_32 : decode c_T_block 32 = .ok (.iadd, 1) := by decide +kernel
theorem d_T_block_33 : decode c_T_block 33 = .ok (.goto 4, 3) := by decide +kernel
theorem d_T_block_36 : decode c_T_block 36 = .ok (.iconst (-1), 1) := by decide +kernel
theorem d_T_block_37 : decode c_T_block 37 = .ok (.ireturn, 1) := by decide +kernel
theorem d_T_payload_0 : decode c_T_payload 0 = .ok (.aload_n 0, 1) := by decide +kernel
theorem d_T_payload_1 : decode c_T_payload 1 = .ok (.getfield 53, 3) := by decide +kernel
theorem d_T_payload_4 : decode c_T_payload 4 = .ok (.iload_n 1, 1) := by decide +kernel
theorem d_T_payload_5 : decode c_T_payload 5 = .ok (.invokevirtual 162, 3) := by decide +kernel
theorem d_T_payload_8 : decode c_T_payload 8 = .ok (.ifCond .eq 15, 3) := by decide +kernel
theorem d_T_payload_11 : decode c_T_payload 11 = .ok (.aload_n 0, 1) := by decide +kernel
theorem d_T_payload_12 : decode c_T_payload 12 = .ok (.getfield 53, 3) := by decide +kernel
theorem d_T_payload_15 : decode c_T_payload 15 = .ok (.getfield 168, 3) := by decide +kernel
theorem d_T_payload_18 : decode c_T_payload 18 = .ok (.iload_n 1, 1) := by decide +kernel
theorem d_T_payload_19 : decode c_T_payload 19 = .ok (.iaload, 1) := by decide +kernel
theorem d_T_payload_20 : decode c_T_payload 20 = .ok (.goto 4, 3) := by decide +kernel
theorem d_T_payload_23 : decode c_T_payload 23 = .ok (.iconst (-1), 1) := by decide +kernel
theorem d_T_payload_24 : decode c_T_payload 24 = .ok (.ireturn, 1) := by decide +kernel
