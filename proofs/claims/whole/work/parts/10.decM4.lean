theorem d_M_vote_48 : decode c_M_vote 48 = .ok (.iconst 1, 1) := by decide +kernel
theorem d_M_vote_49 : decode c_M_vote 49 = .ok (.ireturn, 1) := by decide +kernel
theorem d_M_claim_0 : decode c_M_claim 0 = .ok (.aload_n 0, 1) := by decide +kernel
theorem d_M_claim_1 : decode c_M_claim 1 = .ok (.iload_n 1, 1) := by decide +kernel
theorem d_M_claim_2 : decode c_M_claim 2 = .ok (.invokevirtual 154, 3) := by decide +kernel
theorem d_M_claim_5 : decode c_M_claim 5 = .ok (.ifCond .eq 42, 3) := by decide +kernel
theorem d_M_claim_8 : decode c_M_claim 8 = .ok (.iload_n 2, 1) := by decide +kernel
theorem d_M_claim_9 : decode c_M_claim 9 = .ok (.iconst 1, 1) := by decide +kernel
theorem d_M_claim_10 : decode c_M_claim 10 = .ok (.if_icmp .lt 37, 3) := by decide +kernel
theorem d_M_claim_13 : decode c_M_claim 13 = .ok (.aload_n 0, 1) := by decide +kernel
theorem d_M_claim_14 : decode c_M_claim 14 = .ok (.iload_n 3, 1) := by decide +kernel
theorem d_M_claim_15 : decode c_M_claim 15 = .ok (.invokevirtual 171, 3) := by decide +kernel
theorem d_M_claim_18 : decode c_M_claim 18 = .ok (.ifCond .eq 29, 3) := by decide +kernel
theorem d_M_claim_21 : decode c_M_claim 21 = .ok (.aload_n 0, 1) := by decide +kernel
theorem d_M_claim_22 : decode c_M_claim 22 = .ok (.iload_n 3, 1) := by decide +kernel
theorem d_M_claim_23 : decode c_M_claim 23 = .ok (.invokevirtual 174, 3) := by decide +kernel
theorem d_M_claim_26 : decode c_M_claim 26 = .ok (.ifCond .eq 21, 3) := by decide +kernel
theorem d_M_claim_29 : decode c_M_claim 29 = .ok (.aload_n 0, 1) := by decide +kernel
theorem d_M_claim_30 : decode c_M_claim 30 = .ok (.iload 4, 2) := by decide +kernel
theorem d_M_claim_32 : decode c_M_claim 32 = .ok (.invokevirtual 99, 3) := by decide +kernel
theorem d_M_claim_35 : decode c_M_claim 35 = .ok (.ifCond .eq 12, 3) := by decide +kernel
theorem d_M_claim_38 : decode c_M_claim 38 = .ok (.aload_n 0, 1) := by decide +kernel
theorem d_M_claim_39 : decode c_M_claim 39 = .ok (.getfield 107, 3) := by decide +kernel
theorem d_M_claim_42 : decode c_M_claim 42 = .ok (.bipush 40, 2) := by decide +kernel
theorem d_M_claim_44 : decode c_M_claim 44 = .ok (.if_icmp .lt 5, 3) := by decide +kernel
theorem d_M_claim_47 : decode c_M_claim 47 = .ok (.iconst 0, 1) := by decide +kernel
theorem d_M_claim_48 : decode c_M_claim 48 = .ok (.ireturn, 1) := by decide +kernel
theorem d_M_claim_49 : decode c_M_claim 49 = .ok (.aload_n 0, 1) := by decide +kernel
theorem d_M_claim_50 : decode c_M_claim 50 = .ok (.iconst 2, 1) := by decide +kernel
theorem d_M_claim_51 : decode c_M_claim 51 = .ok (.iload_n 1, 1) := by decide +kernel
theorem d_M_claim_52 : decode c_M_claim 52 = .ok (.iload 4, 2) := by decide +kernel
theorem d_M_claim_54 : decode c_M_claim 54 = .ok (.iload_n 3, 1) := by decide +kernel
theorem d_M_claim_55 : decode c_M_claim 55 = .ok (.iload_n 2, 1) := by decide +kernel
theorem d_M_claim_56 : decode c_M_claim 56 = .ok (.invokevirtual 130, 3) := by decide +kernel
theorem d_M_claim_59 : decode c_M_claim 59 = .ok (.iconst 1, 1) := by decide +kernel
theorem d_M_claim_60 : decode c_M_claim 60 = .ok (.ireturn, 1) := by decide +kernel
theorem d_M_waiting_0 : decode c_M_waiting 0 = .ok (.aload_n 0, 1) := by decide +kernel
theorem d_M_waiting_1 : decode c_M_waiting 1 = .ok (.getfield 107, 3) := by decide +kernel
theorem d_M_waiting_4 : decode c_M_waiting 4 = .ok (.ireturn, 1) := by decide +kernel
theorem d_M_message_0 : decode c_M_message 0 = .ok (.iload_n 1, 1) := by decide +kernel
theorem d_M_message_1 : decode c_M_message 1 = .ok (.ifCond .lt 11, 3) := by decide +kernel
theorem d_M_message_4 : decode c_M_message 4 = .ok (.iload_n 1, 1) := by decide +kernel
theorem d_M_message_5 : decode c_M_message 5 = .ok (.aload_n 0, 1) := by decide +kernel
theorem d_M_message_6 : decode c_M_message 6 = .ok (.getfield 107, 3) := by decide +kernel
theorem d_M_message_9 : decode c_M_message 9 = .ok (.if_icmp .lt 7, 3) := by decide +kernel
theorem d_M_message_12 : decode c_M_message 12 = .ok (.iconst (-1), 1) := by decide +kernel
theorem d_M_message_13 : decode c_M_message 13 = .ok (.goto 39, 3) := by decide +kernel
theorem d_M_message_16 : decode c_M_message 16 = .ok (.aload_n 0, 1) := by decide +kernel
theorem d_M_message_17 : decode c_M_message 17 = .ok (.getfield 38, 3) := by decide +kernel
theorem d_M_message_20 : decode c_M_message 20 = .ok (.iload_n 1, 1) := by decide +kernel
theorem d_M_message_21 : decode c_M_message 21 = .ok (.iaload, 1) := by decide +kernel
theorem d_M_message_22 : decode c_M_message 22 = .ok (.iconst 4, 1) := by decide +kernel
theorem d_M_message_23 : decode c_M_message 23 = .ok (.aload_n 0, 1) := by decide +kernel
theorem d_M_message_24 : decode c_M_message 24 = .ok (.getfield 41, 3) := by decide +kernel
theorem d_M_message_27 : decode c_M_message 27 = .ok (.iload_n 1, 1) := by decide +kernel
theorem d_M_message_28 : decode c_M_message 28 = .ok (.iaload, 1) := by decide +kernel
theorem d_M_message_29 : decode c_M_message 29 = .ok (.imul, 1) := by decide +kernel
theorem d_M_message_30 : decode c_M_message 30 = .ok (.iadd, 1) := by decide +kernel
theorem d_M_message_31 : decode c_M_message 31 = .ok (.bipush 32, 2) := by decide +kernel
theorem d_M_message_33 : decode c_M_message 33 = .ok (.aload_n 0, 1) := by decide +kernel
theorem d_M_message_34 : decode c_M_message 34 = .ok (.getfield 44, 3) := by decide +kernel
theorem d_M_message_37 : decode c_M_message 37 = .ok (.iload_n 1, 1) := by decide +kernel
theorem d_M_message_38 : decode c_M_message 38 = .ok (.iaload, 1) := by decide +kernel
theorem d_M_message_39 : decode c_M_message 39 = .ok (.imul, 1) := by decide +kernel
theorem d_M_message_40 : decode c_M_message 40 = .ok (.iadd, 1) := by decide +kernel
theorem d_M_message_41 : decode c_M_message 41 = .ok (.sipush 256, 3) := by decide +kernel
theorem d_M_message_44 : decode c_M_message 44 = .ok (.aload_n 0, 1) := by decide +kernel
theorem d_M_message_45 : decode c_M_message 45 = .ok (.getfield 47, 3) := by decide +kernel
theorem d_M_message_48 : decode c_M_message 48 = .ok (.iload_n 1, 1) := by decide +kernel
theorem d_M_message_49 : decode c_M_message 49 = .ok (.iaload, 1) := by decide +kernel
theorem d_M_message_50 : decode c_M_message 50 = .ok (.imul, 1) := by decide +kernel
theorem d_M_message_51 : decode c_M_message 51 = .ok (.iadd, 1) := by decide +kernel
theorem d_M_message_52 : decode c_M_message 52 = .ok (.ireturn, 1) := by decide +kernel
theorem d_M_block_0 : decode c_M_block 0 = .ok (.aload_n 0, 1) := by decide +kernel
theorem d_M_block_1 : decode c_M_block 1 = .ok (.iload_n 1, 1) := by decide +kernel
theorem d_M_block_2 : decode c_M_block 2 = .ok (.invokevirtual 171, 3) := by decide +kernel
theorem d_M_block_5 : decode c_M_block 5 = .ok (.ifCond .eq 22, 3) := by decide +kernel
theorem d_M_block_8 : decode c_M_block 8 = .ok (.bipush 64, 2) := by decide +kernel
theorem d_M_block_10 : decode c_M_block 10 = .ok (.aload_n 0, 1) := by decide +kernel
theorem d_M_block_11 : decode c_M_block 11 = .ok (.getfield 26, 3) := by decide +kernel
theorem d_M_block_14 : decode c_M_block 14 = .ok (.iload_n 1, 1) := by decide +kernel
theorem d_M_block_15 : decode c_M_block 15 = .ok (.iaload, 1) := by decide +kernel
theorem d_M_block_16 : decode c_M_block 16 = .ok (.imul, 1) := by decide +kernel
theorem d_M_block_17 : decode c_M_block 17 = .ok (.aload_n 0, 1) := by decide +kernel
theorem d_M_block_18 : decode c_M_block 18 = .ok (.getfield 29, 3) := by decide +kernel
theorem d_M_block_21 : decode c_M_block 21 = .ok (.iload_n 1, 1) := by decide +kernel
theorem d_M_block_22 : decode c_M_block 22 = .ok (.iaload, 1) := by decide +kernel
theorem d_M_block_23 : decode c_M_block 23 = .ok (.iadd, 1) := by decide +kernel
theorem d_M_block_24 : decode c_M_block 24 = .ok (.goto 4, 3) := by decide +kernel
theorem d_M_block_27 : decode c_M_block 27 = .ok (.iconst (-1), 1) := by decide +kernel
theorem d_M_block_28 : decode c_M_block 28 = .ok (.ireturn, 1) := by decide +kernel
theorem d_M_payload_0 : decode c_M_payload 0 = .ok (.aload_n 0, 1) := by decide +kernel
theorem d_M_payload_1 : decode c_M_payload 1 = .ok (.iload_n 1, 1) := by decide +kernel
theorem d_M_payload_2 : decode c_M_payload 2 = .ok (.invokevirtual 171, 3) := by decide +kernel
theorem d_M_payload_5 : decode c_M_payload 5 = .ok (.ifCond .eq 12, 3) := by decide +kernel
theorem d_M_payload_8 : decode c_M_payload 8 = .ok (.aload_n 0, 1) := by decide +kernel
theorem d_M_payload_9 : decode c_M_payload 9 = .ok (.getfield 32, 3) := by decide +kernel
theorem d_M_payload_12 : decode c_M_payload 12 = .ok (.iload_n 1, 1) := by decide +kernel
theorem d_M_payload_13 : decode c_M_payload 13 = .ok (.iaload, 1) := by decide +kernel
theorem d_M_payload_14 : decode c_M_payload 14 = .ok (.goto 4, 3) := by decide +kernel
theorem d_M_payload_17 : decode c_M_payload 17 = .ok (.iconst (-1), 1) := by decide +kernel
theorem d_M_payload_18 : decode c_M_payload 18 = .ok (.ireturn, 1) := by decide +kernel
theorem d_M_votes_0 : decode c_M_votes 0 = .ok (.aload_n 0, 1) := by decide +kernel
theorem d_M_votes_1 : decode c_M_votes 1 = .ok (.iload_n 1, 1) := by decide +kernel
theorem d_M_votes_2 : decode c_M_votes 2 = .ok (.invokevirtual 171, 3) := by decide +kernel
theorem d_M_votes_5 : decode c_M_votes 5 = .ok (.ifCond .eq 12, 3) := by decide +kernel
theorem d_M_votes_8 : decode c_M_votes 8 = .ok (.aload_n 0, 1) := by decide +kernel
theorem d_M_votes_9 : decode c_M_votes 9 = .ok (.getfield 35, 3) := by decide +kernel
theorem d_M_votes_12 : decode c_M_votes 12 = .ok (.iload_n 1, 1) := by decide +kernel
theorem d_M_votes_13 : decode c_M_votes 13 = .ok (.iaload, 1) := by decide +kernel
theorem d_M_votes_14 : decode c_M_votes 14 = .ok (.goto 4, 3) := by decide +kernel
theorem d_M_votes_17 : decode c_M_votes 17 = .ok (.iconst (-1), 1) := by decide +kernel
theorem d_M_votes_18 : decode c_M_votes 18 = .ok (.ireturn, 1) := by decide +kernel
theorem d_M_state_0 : decode c_M_state 0 = .ok (.aload_n 0, 1) := by decide +kernel
theorem d_M_state_1 : decode c_M_state 1 = .ok (.iload_n 1, 1) := by decide +kernel
theorem d_M_state_2 : decode c_M_state 2 = .ok (.invokevirtual 140, 3) := by decide +kernel
theorem d_M_state_5 : decode c_M_state 5 = .ok (.ifCond .ne 5, 3) := by decide +kernel
theorem d_M_state_8 : decode c_M_state 8 = .ok (.iconst (-1), 1) := by decide +kernel
theorem d_M_state_9 : decode c_M_state 9 = .ok (.ireturn, 1) := by decide +kernel
theorem d_M_state_10 : decode c_M_state 10 = .ok (.iload_n 2, 1) := by decide +kernel
theorem d_M_state_11 : decode c_M_state 11 = .ok (.tableswitch 108 0 8 #[49, 56, 63, 70, 77, 84, 90, 96, 102], 49) := by decide +kernel
theorem d_M_state_60 : decode c_M_state 60 = .ok (.aload_n 0, 1) := by decide +kernel
theorem d_M_state_61 : decode c_M_state 61 = .ok (.getfield 53, 3) := by decide +kernel
theorem d_M_state_64 : decode c_M_state 64 = .ok (.iload_n 1, 1) := by decide +kernel
theorem d_M_state_65 : decode c_M_state 65 = .ok (.iaload, 1) := by decide +kernel
theorem d_M_state_66 : decode c_M_state 66 = .ok (.ireturn, 1) := by decide +kernel
theorem d_M_state_67 : decode c_M_state 67 = .ok (.aload_n 0, 1) := by decide +kernel
theorem d_M_state_68 : decode c_M_state 68 = .ok (.getfield 56, 3) := by decide +kernel
theorem d_M_state_71 : decode c_M_state 71 = .ok (.iload_n 1, 1) := by decide +kernel
theorem d_M_state_72 : decode c_M_state 72 = .ok (.iaload, 1) := by decide +kernel
theorem d_M_state_73 : decode c_M_state 73 = .ok (.ireturn, 1) := by decide +kernel
theorem d_M_state_74 : decode c_M_state 74 = .ok (.aload_n 0, 1) := by decide +kernel
theorem d_M_state_75 : decode c_M_state 75 = .ok (.getfield 59, 3) := by decide +kernel
theorem d_M_state_78 : decode c_M_state 78 = .ok (.iload_n 1, 1) := by decide +kernel
theorem d_M_state_79 : decode c_M_state 79 = .ok (.iaload, 1) := by decide +kernel
theorem d_M_state_80 : decode c_M_state 80 = .ok (.ireturn, 1) := by decide +kernel
theorem d_M_state_81 : decode c_M_state 81 = .ok (.aload_n 0, 1) := by decide +kernel
theorem d_M_state_82 : decode c_M_state 82 = .ok (.getfield 62, 3) := by decide +kernel
theorem d_M_state_85 : decode c_M_state 85 = .ok (.iload_n 1, 1) := by decide +kernel
theorem d_M_state_86 : decode c_M_state 86 = .ok (.iaload, 1) := by decide +kernel
theorem d_M_state_87 : decode c_M_state 87 = .ok (.ireturn, 1) := by decide +kernel
theorem d_M_state_88 : decode c_M_state 88 = .ok (.aload_n 0, 1) := by decide +kernel
theorem d_M_state_89 : decode c_M_state 89 = .ok (.getfield 65, 3) := by decide +kernel
theorem d_M_state_92 : decode c_M_state 92 = .ok (.iload_n 1, 1) := by decide +kernel
theorem d_M_state_93 : decode c_M_state 93 = .ok (.iaload, 1) := by decide +kernel
theorem d_M_state_94 : decode c_M_state 94 = .ok (.ireturn, 1) := by decide +kernel
theorem d_M_state_95 : decode c_M_state 95 = .ok (.aload_n 0, 1) := by decide +kernel
theorem d_M_state_96 : decode c_M_state 96 = .ok (.iload_n 1, 1) := by decide +kernel
theorem d_M_state_97 : decode c_M_state 97 = .ok (.invokevirtual 143, 3) := by decide +kernel
theorem d_M_state_100 : decode c_M_state 100 = .ok (.ireturn, 1) := by decide +kernel
theorem d_M_state_101 : decode c_M_state 101 = .ok (.aload_n 0, 1) := by decide +kernel
theorem d_M_state_102 : decode c_M_state 102 = .ok (.iload_n 1, 1) := by decide +kernel
theorem d_M_state_103 : decode c_M_state 103 = .ok (.invokevirtual 120, 3) := by decide +kernel
theorem d_M_state_106 : decode c_M_state 106 = .ok (.ireturn, 1) := by decide +kernel
theorem d_M_state_107 : decode c_M_state 107 = .ok (.aload_n 0, 1) := by decide +kernel
theorem d_M_state_108 : decode c_M_state 108 = .ok (.iload_n 1, 1) := by decide +kernel
theorem d_M_state_109 : decode c_M_state 109 = .ok (.invokevirtual 177, 3) := by decide +kernel
theorem d_M_state_112 : decode c_M_state 112 = .ok (.ireturn, 1) := by decide +kernel
theorem d_M_state_113 : decode c_M_state 113 = .ok (.aload_n 0, 1) := by decide +kernel
theorem d_M_state_114 : decode c_M_state 114 = .ok (.iload_n 1, 1) := by decide +kernel
theorem d_M_state_115 : decode c_M_state 115 = .ok (.invokevirtual 134, 3) := by decide +kernel
theorem d_M_state_118 : decode c_M_state 118 = .ok (.ireturn, 1) := by decide +kernel
theorem d_M_state_119 : decode c_M_state 119 = .ok (.iconst (-1), 1) := by decide +kernel
theorem d_M_state_120 : decode c_M_state 120 = .ok (.ireturn, 1) := by decide +kernel
theorem d_M_layOut_0 : decode c_M_layOut 0 = .ok (.iconst 1, 1) := by decide +kernel
theorem d_M_layOut_1 : decode c_M_layOut 1 = .ok (.istore_n 2, 1) := by decide +kernel
theorem d_M_layOut_2 : decode c_M_layOut 2 = .ok (.aload_n 0, 1) := by decide +kernel
theorem d_M_layOut_3 : decode c_M_layOut 3 = .ok (.iload_n 1, 1) := by decide +kernel
theorem d_M_layOut_4 : decode c_M_layOut 4 = .ok (.invokevirtual 177, 3) := by decide +kernel
theorem d_M_layOut_7 : decode c_M_layOut 7 = .ok (.istore_n 3, 1) := by decide +kernel
theorem d_M_layOut_8 : decode c_M_layOut 8 = .ok (.iload_n 3, 1) := by decide +kernel
theorem d_M_layOut_9 : decode c_M_layOut 9 = .ok (.istore 4, 2) := by decide +kernel
theorem d_M_layOut_11 : decode c_M_layOut 11 = .ok (.iconst 0, 1) := by decide +kernel
theorem d_M_layOut_12 : decode c_M_layOut 12 = .ok (.istore 5, 2) := by decide +kernel
theorem d_M_layOut_14 : decode c_M_layOut 14 = .ok (.iload 5, 2) := by decide +kernel
theorem d_M_layOut_16 : decode c_M_layOut 16 = .ok (.bipush 40, 2) := by decide +kernel
theorem d_M_layOut_18 : decode c_M_layOut 18 = .ok (.if_icmp .ge 26, 3) := by decide +kernel
theorem d_M_layOut_21 : decode c_M_layOut 21 = .ok (.iload 4, 2) := by decide +kernel
theorem d_M_layOut_23 : decode c_M_layOut 23 = .ok (.ifCond .eq 21, 3) := by decide +kernel
theorem d_M_layOut_26 : decode c_M_layOut 26 = .ok (.aload_n 0, 1) := by decide +kernel
theorem d_M_layOut_27 : decode c_M_layOut 27 = .ok (.getfield 29, 3) := by decide +kernel
theorem d_M_layOut_30 : decode c_M_layOut 30 = .ok (.iload 4, 2) := by decide +kernel
theorem d_M_layOut_32 : decode c_M_layOut 32 = .ok (.iaload, 1) := by decide +kernel
theorem d_M_layOut_33 : decode c_M_layOut 33 = .ok (.istore 4, 2) := by decide +kernel
theorem d_M_layOut_35 : decode c_M_layOut 35 = .ok (.iinc 2 1, 3) := by decide +kernel
theorem d_M_layOut_38 : decode c_M_layOut 38 = .ok (.iinc 5 1, 3) := by decide +kernel
theorem d_M_layOut_41 : decode c_M_layOut 41 = .ok (.goto (-27), 3) := by decide +kernel
theorem d_M_layOut_44 : decode c_M_layOut 44 = .ok (.iload_n 3, 1) := by decide +kernel
theorem d_M_layOut_45 : decode c_M_layOut 45 = .ok (.istore 4, 2) := by decide +kernel
theorem d_M_layOut_47 : decode c_M_layOut 47 = .ok (.iload_n 2, 1) := by decide +kernel
theorem d_M_layOut_48 : decode c_M_layOut 48 = .ok (.iconst 1, 1) := by decide +kernel
theorem d_M_layOut_49 : decode c_M_layOut 49 = .ok (.isub, 1) := by decide +kernel
theorem d_M_layOut_50 : decode c_M_layOut 50 = .ok (.istore 5, 2) := by decide +kernel
theorem d_M_layOut_52 : decode c_M_layOut 52 = .ok (.iload 5, 2) := by decide +kernel
theorem d_M_layOut_54 : decode c_M_layOut 54 = .ok (.ifCond .lt 27, 3) := by decide +kernel
theorem d_M_layOut_57 : decode c_M_layOut 57 = .ok (.aload_n 0, 1) := by decide +kernel
theorem d_M_layOut_58 : decode c_M_layOut 58 = .ok (.getfield 78, 3) := by decide +kernel
theorem d_M_layOut_61 : decode c_M_layOut 61 = .ok (.iload 5, 2) := by decide +kernel
theorem d_M_layOut_63 : decode c_M_layOut 63 = .ok (.iload 4, 2) := by decide +kernel
theorem d_M_layOut_65 : decode c_M_layOut 65 = .ok (.iastore, 1) := by decide +kernel
theorem d_M_layOut_66 : decode c_M_layOut 66 = .ok (.aload_n 0, 1) := by decide +kernel
theorem d_M_layOut_67 : decode c_M_layOut 67 = .ok (.getfield 29, 3) := by decide +kernel
theorem d_M_layOut_70 : decode c_M_layOut 70 = .ok (.iload 4, 2) := by decide +kernel
theorem d_M_layOut_72 : decode c_M_layOut 72 = .ok (.iaload, 1) := by decide +kernel
theorem d_M_layOut_73 : decode c_M_layOut 73 = .ok (.istore 4, 2) := by decide +kernel
theorem d_M_layOut_75 : decode c_M_layOut 75 = .ok (.iinc 5 (-1), 3) := by decide +kernel
theorem d_M_layOut_78 : decode c_M_layOut 78 = .ok (.goto (-26), 3) := by decide +kernel
theorem d_M_layOut_81 : decode c_M_layOut 81 = .ok (.iload_n 2, 1) := by decide +kernel
theorem d_M_layOut_82 : decode c_M_layOut 82 = .ok (.ireturn, 1) := by decide +kernel
theorem d_M_committed_0 : decode c_M_committed 0 = .ok (.aload_n 0, 1) := by decide +kernel
theorem d_M_committed_1 : decode c_M_committed 1 = .ok (.iload_n 1, 1) := by decide +kernel
theorem d_M_committed_2 : decode c_M_committed 2 = .ok (.invokevirtual 140, 3) := by decide +kernel
theorem d_M_committed_5 : decode c_M_committed 5 = .ok (.ifCond .eq 7, 3) := by decide +kernel
theorem d_M_committed_8 : decode c_M_committed 8 = .ok (.iload_n 2, 1) := by decide +kernel
theorem d_M_committed_9 : decode c_M_committed 9 = .ok (.ifCond .ge 5, 3) := by decide +kernel
theorem d_M_committed_12 : decode c_M_committed 12 = .ok (.iconst (-1), 1) := by decide +kernel
theorem d_M_committed_13 : decode c_M_committed 13 = .ok (.ireturn, 1) := by decide +kernel
theorem d_M_committed_14 : decode c_M_committed 14 = .ok (.aload_n 0, 1) := by decide +kernel
theorem d_M_committed_15 : decode c_M_committed 15 = .ok (.iload_n 1, 1) := by decide +kernel
theorem d_M_committed_16 : decode c_M_committed 16 = .ok (.invokevirtual 180, 3) := by decide +kernel
theorem d_M_committed_19 : decode c_M_committed 19 = .ok (.istore_n 3, 1) := by decide +kernel
theorem d_M_committed_20 : decode c_M_committed 20 = .ok (.iload_n 2, 1) := by decide +kernel
theorem d_M_committed_21 : decode c_M_committed 21 = .ok (.iload_n 3, 1) := by decide +kernel
theorem d_M_committed_22 : decode c_M_committed 22 = .ok (.if_icmp .ge 12, 3) := by decide +kernel
theorem d_M_committed_25 : decode c_M_committed 25 = .ok (.aload_n 0, 1) := by decide +kernel
theorem d_M_committed_26 : decode c_M_committed 26 = .ok (.getfield 78, 3) := by decide +kernel
theorem d_M_committed_29 : decode c_M_committed 29 = .ok (.iload_n 2, 1) := by decide +kernel
theorem d_M_committed_30 : decode c_M_committed 30 = .ok (.iaload, 1) := by decide +kernel
theorem d_M_committed_31 : decode c_M_committed 31 = .ok (.goto 4, 3) := by decide +kernel
theorem d_M_committed_34 : decode c_M_committed 34 = .ok (.iconst (-1), 1) := by decide +kernel
theorem d_M_committed_35 : decode c_M_committed 35 = .ok (.ireturn, 1) := by decide +kernel
theorem d_M_goThrough_0 : decode c_M_goThrough 0 = .ok (.iconst 0, 1) := by decide +kernel
theorem d_M_goThrough_1 : decode c_M_goThrough 1 = .ok (.istore_n 2, 1) := by decide +kernel
theorem d_M_goThrough_2 : decode c_M_goThrough 2 = .ok (.iload_n 2, 1) := by decide +kernel
theorem d_M_goThrough_3 : decode c_M_goThrough 3 = .ok (.iconst 4, 1) := by decide +kernel
theorem d_M_goThrough_4 : decode c_M_goThrough 4 = .ok (.if_icmp .ge 17, 3) := by decide +kernel
theorem d_M_goThrough_7 : decode c_M_goThrough 7 = .ok (.aload_n 0, 1) := by decide +kernel
theorem d_M_goThrough_8 : decode c_M_goThrough 8 = .ok (.getfield 81, 3) := by decide +kernel
theorem d_M_goThrough_11 : decode c_M_goThrough 11 = .ok (.iload_n 2, 1) := by decide +kernel
theorem d_M_goThrough_12 : decode c_M_goThrough 12 = .ok (.bipush 100, 2) := by decide +kernel
theorem d_M_goThrough_14 : decode c_M_goThrough 14 = .ok (.iastore, 1) := by decide +kernel
theorem d_M_goThrough_15 : decode c_M_goThrough 15 = .ok (.iinc 2 1, 3) := by decide +kernel
theorem d_M_goThrough_18 : decode c_M_goThrough 18 = .ok (.goto (-16), 3) := by decide +kernel
theorem d_M_goThrough_21 : decode c_M_goThrough 21 = .ok (.iconst 0, 1) := by decide +kernel
theorem d_M_goThrough_22 : decode c_M_goThrough 22 = .ok (.istore_n 2, 1) := by decide +kernel
theorem d_M_goThrough_23 : decode c_M_goThrough 23 = .ok (.iload_n 2, 1) := by decide +kernel
theorem d_M_goThrough_24 : decode c_M_goThrough 24 = .ok (.bipush 24, 2) := by decide +kernel
theorem d_M_goThrough_26 : decode c_M_goThrough 26 = .ok (.if_icmp .ge 16, 3) := by decide +kernel
theorem d_M_goThrough_29 : decode c_M_goThrough 29 = .ok (.aload_n 0, 1) := by decide +kernel
theorem d_M_goThrough_30 : decode c_M_goThrough 30 = .ok (.getfield 84, 3) := by decide +kernel
theorem d_M_goThrough_33 : decode c_M_goThrough 33 = .ok (.iload_n 2, 1) := by decide +kernel
theorem d_M_goThrough_34 : decode c_M_goThrough 34 = .ok (.iconst 0, 1) := by decide +kernel
theorem d_M_goThrough_35 : decode c_M_goThrough 35 = .ok (.iastore, 1) := by decide +kernel
theorem d_M_goThrough_36 : decode c_M_goThrough 36 = .ok (.iinc 2 1, 3) := by decide +kernel
theorem d_M_goThrough_39 : decode c_M_goThrough 39 = .ok (.goto (-16), 3) := by decide +kernel
theorem d_M_goThrough_42 : decode c_M_goThrough 42 = .ok (.aload_n 0, 1) := by decide +kernel
theorem d_M_goThrough_43 : decode c_M_goThrough 43 = .ok (.iload_n 1, 1) := by decide +kernel
theorem d_M_goThrough_44 : decode c_M_goThrough 44 = .ok (.invokevirtual 180, 3) := by decide +kernel
theorem d_M_goThrough_47 : decode c_M_goThrough 47 = .ok (.istore_n 2, 1) := by decide +kernel
theorem d_M_goThrough_48 : decode c_M_goThrough 48 = .ok (.iconst 0, 1) := by decide +kernel
theorem d_M_goThrough_49 : decode c_M_goThrough 49 = .ok (.istore_n 3, 1) := by decide +kernel
theorem d_M_goThrough_50 : decode c_M_goThrough 50 = .ok (.iload_n 3, 1) := by decide +kernel
theorem d_M_goThrough_51 : decode c_M_goThrough 51 = .ok (.iload_n 2, 1) := by decide +kernel
theorem d_M_goThrough_52 : decode c_M_goThrough 52 = .ok (.if_icmp .ge 148, 3) := by decide +kernel
theorem d_M_goThrough_55 : decode c_M_goThrough 55 = .ok (.iconst 0, 1) := by decide +kernel
theorem d_M_goThrough_56 : decode c_M_goThrough 56 = .ok (.istore 4, 2) := by decide +kernel
theorem d_M_goThrough_58 : decode c_M_goThrough 58 = .ok (.iload 4, 2) := by decide +kernel
theorem d_M_goThrough_60 : decode c_M_goThrough 60 = .ok (.aload_n 0, 1) := by decide +kernel
theorem d_M_goThrough_61 : decode c_M_goThrough 61 = .ok (.getfield 137, 3) := by decide +kernel
theorem d_M_goThrough_64 : decode c_M_goThrough 64 = .ok (.if_icmp .ge 130, 3) := by decide +kernel
theorem d_M_goThrough_67 : decode c_M_goThrough 67 = .ok (.aload_n 0, 1) := by decide +kernel
theorem d_M_goThrough_68 : decode c_M_goThrough 68 = .ok (.getfield 32, 3) := by decide +kernel
theorem d_M_goThrough_71 : decode c_M_goThrough 71 = .ok (.aload_n 0, 1) := by decide +kernel
theorem d_M_goThrough_72 : decode c_M_goThrough 72 = .ok (.getfield 78, 3) := by decide +kernel
theorem d_M_goThrough_75 : decode c_M_goThrough 75 = .ok (.iload_n 3, 1) := by decide +kernel
theorem d_M_goThrough_76 : decode c_M_goThrough 76 = .ok (.iaload, 1) := by decide +kernel
theorem d_M_goThrough_77 : decode c_M_goThrough 77 = .ok (.iaload, 1) := by decide +kernel
theorem d_M_goThrough_78 : decode c_M_goThrough 78 = .ok (.iload 4, 2) := by decide +kernel
theorem d_M_goThrough_80 : decode c_M_goThrough 80 = .ok (.ishr, 1) := by decide +kernel
theorem d_M_goThrough_81 : decode c_M_goThrough 81 = .ok (.iconst 1, 1) := by decide +kernel
theorem d_M_goThrough_82 : decode c_M_goThrough 82 = .ok (.iand, 1) := by decide +kernel
theorem d_M_goThrough_83 : decode c_M_goThrough 83 = .ok (.ifCond .eq 105, 3) := by decide +kernel
theorem d_M_goThrough_86 : decode c_M_goThrough 86 = .ok (.aload_n 0, 1) := by decide +kernel
theorem d_M_goThrough_87 : decode c_M_goThrough 87 = .ok (.getfield 84, 3) := by decide +kernel
theorem d_M_goThrough_90 : decode c_M_goThrough 90 = .ok (.iload 4, 2) := by decide +kernel
theorem d_M_goThrough_92 : decode c_M_goThrough 92 = .ok (.iaload, 1) := by decide +kernel
theorem d_M_goThrough_93 : decode c_M_goThrough 93 = .ok (.ifCond .eq 6, 3) := by decide +kernel
theorem d_M_goThrough_96 : decode c_M_goThrough 96 = .ok (.goto 92, 3) := by decide +kernel
theorem d_M_goThrough_99 : decode c_M_goThrough 99 = .ok (.aload_n 0, 1) := by decide +kernel
theorem d_M_goThrough_100 : decode c_M_goThrough 100 = .ok (.getfield 84, 3) := by decide +kernel
theorem d_M_goThrough_103 : decode c_M_goThrough 103 = .ok (.iload 4, 2) := by decide +kernel
theorem d_M_goThrough_105 : decode c_M_goThrough 105 = .ok (.aload_n 0, 1) := by decide +kernel
theorem d_M_goThrough_106 : decode c_M_goThrough 106 = .ok (.getfield 81, 3) := by decide +kernel
theorem d_M_goThrough_109 : decode c_M_goThrough 109 = .ok (.aload_n 0, 1) := by decide +kernel
theorem d_M_goThrough_110 : decode c_M_goThrough 110 = .ok (.getfield 13, 3) := by decide +kernel
theorem d_M_goThrough_113 : decode c_M_goThrough 113 = .ok (.iload 4, 2) := by decide +kernel
theorem d_M_goThrough_115 : decode c_M_goThrough 115 = .ok (.iaload, 1) := by decide +kernel
theorem d_M_goThrough_116 : decode c_M_goThrough 116 = .ok (.iaload, 1) := by decide +kernel
theorem d_M_goThrough_117 : decode c_M_goThrough 117 = .ok (.aload_n 0, 1) := by decide +kernel
theorem d_M_goThrough_118 : decode c_M_goThrough 118 = .ok (.getfield 19, 3) := by decide +kernel
theorem d_M_goThrough_121 : decode c_M_goThrough 121 = .ok (.iload 4, 2) := by decide +kernel
theorem d_M_goThrough_123 : decode c_M_goThrough 123 = .ok (.iaload, 1) := by decide +kernel
theorem d_M_goThrough_124 : decode c_M_goThrough 124 = .ok (.if_icmp .lt 7, 3) := by decide +kernel
theorem d_M_goThrough_127 : decode c_M_goThrough 127 = .ok (.iconst 1, 1) := by decide +kernel
theorem d_M_goThrough_128 : decode c_M_goThrough 128 = .ok (.goto 4, 3) := by decide +kernel
theorem d_M_goThrough_131 : decode c_M_goThrough 131 = .ok (.iconst 2, 1) := by decide +kernel
theorem d_M_goThrough_132 : decode c_M_goThrough 132 = .ok (.iastore, 1) := by decide +kernel
theorem d_M_goThrough_133 : decode c_M_goThrough 133 = .ok (.aload_n 0, 1) := by decide +kernel
theorem d_M_goThrough_134 : decode c_M_goThrough 134 = .ok (.getfield 84, 3) := by decide +kernel
theorem d_M_goThrough_137 : decode c_M_goThrough 137 = .ok (.iload 4, 2) := by decide +kernel
theorem d_M_goThrough_139 : decode c_M_goThrough 139 = .ok (.iaload, 1) := by decide +kernel
theorem d_M_goThrough_140 : decode c_M_goThrough 140 = .ok (.iconst 1, 1) := by decide +kernel
theorem d_M_goThrough_141 : decode c_M_goThrough 141 = .ok (.if_icmp .ne 47, 3) := by decide +kernel
theorem d_M_goThrough_144 : decode c_M_goThrough 144 = .ok (.aload_n 0, 1) := by decide +kernel
theorem d_M_goThrough_145 : decode c_M_goThrough 145 = .ok (.getfield 81, 3) := by decide +kernel
theorem d_M_goThrough_148 : decode c_M_goThrough 148 = .ok (.aload_n 0, 1) := by decide +kernel
theorem d_M_goThrough_149 : decode c_M_goThrough 149 = .ok (.getfield 13, 3) := by decide +kernel
theorem d_M_goThrough_152 : decode c_M_goThrough 152 = .ok (.iload 4, 2) := by decide +kernel
theorem d_M_goThrough_154 : decode c_M_goThrough 154 = .ok (.iaload, 1) := by decide +kernel
theorem d_M_goThrough_155 : decode c_M_goThrough 155 = .ok (.dup2, 1) := by decide +kernel
theorem d_M_goThrough_156 : decode c_M_goThrough 156 = .ok (.iaload, 1) := by decide +kernel
theorem d_M_goThrough_157 : decode c_M_goThrough 157 = .ok (.aload_n 0, 1) := by decide +kernel
theorem d_M_goThrough_158 : decode c_M_goThrough 158 = .ok (.getfield 19, 3) := by decide +kernel
theorem d_M_goThrough_161 : decode c_M_goThrough 161 = .ok (.iload 4, 2) := by decide +kernel
theorem d_M_goThrough_163 : decode c_M_goThrough 163 = .ok (.iaload, 1) := by decide +kernel
theorem d_M_goThrough_164 : decode c_M_goThrough 164 = .ok (.isub, 1) := by decide +kernel
theorem d_M_goThrough_165 : decode c_M_goThrough 165 = .ok (.iastore, 1) := by decide +kernel
theorem d_M_goThrough_166 : decode c_M_goThrough 166 = .ok (.aload_n 0, 1) := by decide +kernel
theorem d_M_goThrough_167 : decode c_M_goThrough 167 = .ok (.getfield 81, 3) := by decide +kernel
theorem d_M_goThrough_170 : decode c_M_goThrough 170 = .ok (.aload_n 0, 1) := by decide +kernel
theorem d_M_goThrough_171 : decode c_M_goThrough 171 = .ok (.getfield 16, 3) := by decide +kernel
theorem d_M_goThrough_174 : decode c_M_goThrough 174 = .ok (.iload 4, 2) := by decide +kernel
theorem d_M_goThrough_176 : decode c_M_goThrough 176 = .ok (.iaload, 1) := by decide +kernel
theorem d_M_goThrough_177 : decode c_M_goThrough 177 = .ok (.dup2, 1) := by decide +kernel
theorem d_M_goThrough_178 : decode c_M_goThrough 178 = .ok (.iaload, 1) := by decide +kernel
theorem d_M_goThrough_179 : decode c_M_goThrough 179 = .ok (.aload_n 0, 1) := by decide +kernel
theorem d_M_goThrough_180 : decode c_M_goThrough 180 = .ok (.getfield 19, 3) := by decide +kernel
theorem d_M_goThrough_183 : decode c_M_goThrough 183 = .ok (.iload 4, 2) := by decide +kernel
theorem d_M_goThrough_185 : decode c_M_goThrough 185 = .ok (.iaload, 1) := by decide +kernel
theorem d_M_goThrough_186 : decode c_M_goThrough 186 = .ok (.iadd, 1) := by decide +kernel
theorem d_M_goThrough_187 : decode c_M_goThrough 187 = .ok (.iastore, 1) := by decide +kernel
theorem d_M_goThrough_188 : decode c_M_goThrough 188 = .ok (.iinc 4 1, 3) := by decide +kernel
theorem d_M_goThrough_191 : decode c_M_goThrough 191 = .ok (.goto (-133), 3) := by decide +kernel
theorem d_M_goThrough_194 : decode c_M_goThrough 194 = .ok (.iinc 3 1, 3) := by decide +kernel
theorem d_M_goThrough_197 : decode c_M_goThrough 197 = .ok (.goto (-147), 3) := by decide +kernel
theorem d_M_goThrough_200 : decode c_M_goThrough 200 = .ok (.return_, 1) := by decide +kernel
theorem d_M_balance_0 : decode c_M_balance 0 = .ok (.aload_n 0, 1) := by decide +kernel
theorem d_M_balance_1 : decode c_M_balance 1 = .ok (.iload_n 1, 1) := by decide +kernel
theorem d_M_balance_2 : decode c_M_balance 2 = .ok (.invokevirtual 140, 3) := by decide +kernel
theorem d_M_balance_5 : decode c_M_balance 5 = .ok (.ifCond .eq 12, 3) := by decide +kernel
theorem d_M_balance_8 : decode c_M_balance 8 = .ok (.iload_n 2, 1) := by decide +kernel
theorem d_M_balance_9 : decode c_M_balance 9 = .ok (.ifCond .lt 8, 3) := by decide +kernel
theorem d_M_balance_12 : decode c_M_balance 12 = .ok (.iload_n 2, 1) := by decide +kernel
theorem d_M_balance_13 : decode c_M_balance 13 = .ok (.iconst 3, 1) := by decide +kernel
theorem d_M_balance_14 : decode c_M_balance 14 = .ok (.if_icmp .le 5, 3) := by decide +kernel
theorem d_M_balance_17 : decode c_M_balance 17 = .ok (.iconst (-1), 1) := by decide +kernel
theorem d_M_balance_18 : decode c_M_balance 18 = .ok (.ireturn, 1) := by decide +kernel
theorem d_M_balance_19 : decode c_M_balance 19 = .ok (.aload_n 0, 1) := by decide +kernel
theorem d_M_balance_20 : decode c_M_balance 20 = .ok (.iload_n 1, 1) := by decide +kernel
theorem d_M_balance_21 : decode c_M_balance 21 = .ok (.invokevirtual 183, 3) := by decide +kernel
theorem d_M_balance_24 : decode c_M_balance 24 = .ok (.aload_n 0, 1) := by decide +kernel
theorem d_M_balance_25 : decode c_M_balance 25 = .ok (.getfield 81, 3) := by decide +kernel
theorem d_M_balance_28 : decode c_M_balance 28 = .ok (.iload_n 2, 1) := by decide +kernel
theorem d_M_balance_29 : decode c_M_balance 29 = .ok (.iaload, 1) := by decide +kernel
theorem d_M_balance_30 : decode c_M_balance 30 = .ok (.ireturn, 1) := by decide +kernel
theorem d_M_outcome_0 : decode c_M_outcome 0 = .ok (.aload_n 0, 1) := by decide +kernel
theorem d_M_outcome_1 : decode c_M_outcome 1 = .ok (.iload_n 1, 1) := by decide +kernel
theorem d_M_outcome_2 : decode c_M_outcome 2 = .ok (.invokevirtual 140, 3) := by decide +kernel
theorem d_M_outcome_5 : decode c_M_outcome 5 = .ok (.ifCond .eq 15, 3) := by decide +kernel
theorem d_M_outcome_8 : decode c_M_outcome 8 = .ok (.iload_n 2, 1) := by decide +kernel
theorem d_M_outcome_9 : decode c_M_outcome 9 = .ok (.ifCond .lt 11, 3) := by decide +kernel
theorem d_M_outcome_12 : decode c_M_outcome 12 = .ok (.iload_n 2, 1) := by decide +kernel
theorem d_M_outcome_13 : decode c_M_outcome 13 = .ok (.aload_n 0, 1) := by decide +kernel
theorem d_M_outcome_14 : decode c_M_outcome 14 = .ok (.getfield 137, 3) := by decide +kernel
theorem d_M_outcome_17 : decode c_M_outcome 17 = .ok (.if_icmp .lt 5, 3) := by decide +kernel
theorem d_M_outcome_20 : decode c_M_outcome 20 = .ok (.iconst (-1), 1) := by decide +kernel
theorem d_M_outcome_21 : decode c_M_outcome 21 = .ok (.ireturn, 1) := by decide +kernel
theorem d_M_outcome_22 : decode c_M_outcome 22 = .ok (.aload_n 0, 1) := by decide +kernel
theorem d_M_outcome_23 : decode c_M_outcome 23 = .ok (.iload_n 1, 1) := by decide +kernel
theorem d_M_outcome_24 : decode c_M_outcome 24 = .ok (.invokevirtual 183, 3) := by decide +kernel
theorem d_M_outcome_27 : decode c_M_outcome 27 = .ok (.aload_n 0, 1) := by decide +kernel
theorem d_M_outcome_28 : decode c_M_outcome 28 = .ok (.getfield 84, 3) := by decide +kernel
theorem d_M_outcome_31 : decode c_M_outcome 31 = .ok (.iload_n 2, 1) := by decide +kernel
theorem d_M_outcome_32 : decode c_M_outcome 32 = .ok (.iaload, 1) := by decide +kernel
theorem d_M_outcome_33 : decode c_M_outcome 33 = .ok (.ireturn, 1) := by decide +kernel
theorem d_M_lost_0 : decode c_M_lost 0 = .ok (.aload_n 0, 1) := by decide +kernel
theorem d_M_lost_1 : decode c_M_lost 1 = .ok (.getfield 110, 3) := by decide +kernel
theorem d_M_lost_4 : decode c_M_lost 4 = .ok (.ireturn, 1) := by decide +kernel
