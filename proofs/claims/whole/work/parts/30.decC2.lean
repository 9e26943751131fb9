theorem d_T_votes_0 : decode c_T_votes 0 = .ok (.aload_n 0, 1) := by decide +kernel
theorem d_T_votes_1 : decode c_T_votes 1 = .ok (.getfield 53, 3) := by decide +kernel
theorem d_T_votes_4 : decode c_T_votes 4 = .ok (.iload_n 1, 1) := by decide +kernel
theorem d_T_votes_5 : decode c_T_votes 5 = .ok (.invokevirtual 162, 3) := by decide +kernel
theorem d_T_votes_8 : decode c_T_votes 8 = .ok (.ifCond .eq 15, 3) := by decide +kernel
theorem d_T_votes_11 : decode c_T_votes 11 = .ok (.aload_n 0, 1) := by decide +kernel
theorem d_T_votes_12 : decode c_T_votes 12 = .ok (.getfield 53, 3) := by decide +kernel
theorem d_T_votes_15 : decode c_T_votes 15 = .ok (.getfield 171, 3) := by decide +kernel
theorem d_T_votes_18 : decode c_T_votes 18 = .ok (.iload_n 1, 1) := by decide +kernel
theorem d_T_votes_19 : decode c_T_votes 19 = .ok (.iaload, 1) := by decide +kernel
theorem d_T_votes_20 : decode c_T_votes 20 = .ok (.goto 4, 3) := by decide +kernel
theorem d_T_votes_23 : decode c_T_votes 23 = .ok (.iconst (-1), 1) := by decide +kernel
theorem d_T_votes_24 : decode c_T_votes 24 = .ok (.ireturn, 1) := by decide +kernel
theorem d_T_state_0 : decode c_T_state 0 = .ok (.aload_n 0, 1) := by decide +kernel
theorem d_T_state_1 : decode c_T_state 1 = .ok (.iload_n 1, 1) := by decide +kernel
theorem d_T_state_2 : decode c_T_state 2 = .ok (.invokevirtual 90, 3) := by decide +kernel
theorem d_T_state_5 : decode c_T_state 5 = .ok (.ifCond .ne 5, 3) := by decide +kernel
theorem d_T_state_8 : decode c_T_state 8 = .ok (.iconst (-1), 1) := by decide +kernel
theorem d_T_state_9 : decode c_T_state 9 = .ok (.ireturn, 1) := by decide +kernel
theorem d_T_state_10 : decode c_T_state 10 = .ok (.aload_n 0, 1) := by decide +kernel
theorem d_T_state_11 : decode c_T_state 11 = .ok (.getfield 36, 3) := by decide +kernel
theorem d_T_state_14 : decode c_T_state 14 = .ok (.iload_n 1, 1) := by decide +kernel
theorem d_T_state_15 : decode c_T_state 15 = .ok (.aaload, 1) := by decide +kernel
theorem d_T_state_16 : decode c_T_state 16 = .ok (.astore_n 3, 1) := by decide +kernel
theorem d_T_state_17 : decode c_T_state 17 = .ok (.iload_n 2, 1) := by decide +kernel
theorem d_T_state_18 : decode c_T_state 18 = .ok (.tableswitch 99 0 8 #[50, 55, 60, 65, 70, 75, 80, 85, 90], 50) := by decide +kernel
theorem d_T_state_68 : decode c_T_state 68 = .ok (.aload_n 3, 1) := by decide +kernel
theorem d_T_state_69 : decode c_T_state 69 = .ok (.getfield 104, 3) := by decide +kernel
theorem d_T_state_72 : decode c_T_state 72 = .ok (.ireturn, 1) := by decide +kernel
theorem d_T_state_73 : decode c_T_state 73 = .ok (.aload_n 3, 1) := by decide +kernel
theorem d_T_state_74 : decode c_T_state 74 = .ok (.getfield 115, 3) := by decide +kernel
theorem d_T_state_77 : decode c_T_state 77 = .ok (.ireturn, 1) := by decide +kernel
theorem d_T_state_78 : decode c_T_state 78 = .ok (.aload_n 3, 1) := by decide +kernel
theorem d_T_state_79 : decode c_T_state 79 = .ok (.getfield 118, 3) := by decide +kernel
theorem d_T_state_82 : decode c_T_state 82 = .ok (.ireturn, 1) := by decide +kernel
theorem d_T_state_83 : decode c_T_state 83 = .ok (.aload_n 3, 1) := by decide +kernel
theorem d_T_state_84 : decode c_T_state 84 = .ok (.getfield 174, 3) := by decide +kernel
theorem d_T_state_87 : decode c_T_state 87 = .ok (.ireturn, 1) := by decide +kernel
theorem d_T_state_88 : decode c_T_state 88 = .ok (.aload_n 3, 1) := by decide +kernel
theorem d_T_state_89 : decode c_T_state 89 = .ok (.getfield 108, 3) := by decide +kernel
theorem d_T_state_92 : decode c_T_state 92 = .ok (.ireturn, 1) := by decide +kernel
theorem d_T_state_93 : decode c_T_state 93 = .ok (.aload_n 3, 1) := by decide +kernel
theorem d_T_state_94 : decode c_T_state 94 = .ok (.getfield 101, 3) := by decide +kernel
theorem d_T_state_97 : decode c_T_state 97 = .ok (.ireturn, 1) := by decide +kernel
theorem d_T_state_98 : decode c_T_state 98 = .ok (.aload_n 3, 1) := by decide +kernel
theorem d_T_state_99 : decode c_T_state 99 = .ok (.getfield 177, 3) := by decide +kernel
theorem d_T_state_102 : decode c_T_state 102 = .ok (.ireturn, 1) := by decide +kernel
theorem d_T_state_103 : decode c_T_state 103 = .ok (.aload_n 3, 1) := by decide +kernel
theorem d_T_state_104 : decode c_T_state 104 = .ok (.getfield 180, 3) := by decide +kernel
theorem d_T_state_107 : decode c_T_state 107 = .ok (.ireturn, 1) := by decide +kernel
theorem d_T_state_108 : decode c_T_state 108 = .ok (.aload_n 3, 1) := by decide +kernel
theorem d_T_state_109 : decode c_T_state 109 = .ok (.aload_n 0, 1) := by decide +kernel
theorem d_T_state_110 : decode c_T_state 110 = .ok (.getfield 13, 3) := by decide +kernel
theorem d_T_state_113 : decode c_T_state 113 = .ok (.invokevirtual 183, 3) := by decide +kernel
theorem d_T_state_116 : decode c_T_state 116 = .ok (.ireturn, 1) := by decide +kernel
theorem d_T_state_117 : decode c_T_state 117 = .ok (.iconst (-1), 1) := by decide +kernel
theorem d_T_state_118 : decode c_T_state 118 = .ok (.ireturn, 1) := by decide +kernel
theorem d_T_committed_0 : decode c_T_committed 0 = .ok (.aload_n 0, 1) := by decide +kernel
theorem d_T_committed_1 : decode c_T_committed 1 = .ok (.iload_n 1, 1) := by decide +kernel
theorem d_T_committed_2 : decode c_T_committed 2 = .ok (.invokevirtual 90, 3) := by decide +kernel
theorem d_T_committed_5 : decode c_T_committed 5 = .ok (.ifCond .eq 7, 3) := by decide +kernel
theorem d_T_committed_8 : decode c_T_committed 8 = .ok (.iload_n 2, 1) := by decide +kernel
theorem d_T_committed_9 : decode c_T_committed 9 = .ok (.ifCond .ge 5, 3) := by decide +kernel
theorem d_T_committed_12 : decode c_T_committed 12 = .ok (.iconst (-1), 1) := by decide +kernel
theorem d_T_committed_13 : decode c_T_committed 13 = .ok (.ireturn, 1) := by decide +kernel
theorem d_T_committed_14 : decode c_T_committed 14 = .ok (.aload_n 0, 1) := by decide +kernel
theorem d_T_committed_15 : decode c_T_committed 15 = .ok (.getfield 53, 3) := by decide +kernel
theorem d_T_committed_18 : decode c_T_committed 18 = .ok (.aload_n 0, 1) := by decide +kernel
theorem d_T_committed_19 : decode c_T_committed 19 = .ok (.getfield 36, 3) := by decide +kernel
theorem d_T_committed_22 : decode c_T_committed 22 = .ok (.iload_n 1, 1) := by decide +kernel
theorem d_T_committed_23 : decode c_T_committed 23 = .ok (.aaload, 1) := by decide +kernel
theorem d_T_committed_24 : decode c_T_committed 24 = .ok (.getfield 180, 3) := by decide +kernel
theorem d_T_committed_27 : decode c_T_committed 27 = .ok (.iload_n 2, 1) := by decide +kernel
theorem d_T_committed_28 : decode c_T_committed 28 = .ok (.invokevirtual 186, 3) := by decide +kernel
theorem d_T_committed_31 : decode c_T_committed 31 = .ok (.ireturn, 1) := by decide +kernel
theorem d_T_balance_0 : decode c_T_balance 0 = .ok (.aload_n 0, 1) := by decide +kernel
theorem d_T_balance_1 : decode c_T_balance 1 = .ok (.iload_n 1, 1) := by decide +kernel
theorem d_T_balance_2 : decode c_T_balance 2 = .ok (.invokevirtual 90, 3) := by decide +kernel
theorem d_T_balance_5 : decode c_T_balance 5 = .ok (.ifCond .eq 10, 3) := by decide +kernel
theorem d_T_balance_8 : decode c_T_balance 8 = .ok (.iload_n 2, 1) := by decide +kernel
theorem d_T_balance_9 : decode c_T_balance 9 = .ok (.invokestatic 71, 3) := by decide +kernel
theorem d_T_balance_12 : decode c_T_balance 12 = .ok (.ifCond .ne 5, 3) := by decide +kernel
theorem d_T_balance_15 : decode c_T_balance 15 = .ok (.iconst (-1), 1) := by decide +kernel
theorem d_T_balance_16 : decode c_T_balance 16 = .ok (.ireturn, 1) := by decide +kernel
theorem d_T_balance_17 : decode c_T_balance 17 = .ok (.aload_n 0, 1) := by decide +kernel
theorem d_T_balance_18 : decode c_T_balance 18 = .ok (.getfield 67, 3) := by decide +kernel
theorem d_T_balance_21 : decode c_T_balance 21 = .ok (.aload_n 0, 1) := by decide +kernel
theorem d_T_balance_22 : decode c_T_balance 22 = .ok (.getfield 36, 3) := by decide +kernel
theorem d_T_balance_25 : decode c_T_balance 25 = .ok (.iload_n 1, 1) := by decide +kernel
theorem d_T_balance_26 : decode c_T_balance 26 = .ok (.aaload, 1) := by decide +kernel
theorem d_T_balance_27 : decode c_T_balance 27 = .ok (.getfield 180, 3) := by decide +kernel
theorem d_T_balance_30 : decode c_T_balance 30 = .ok (.aload_n 0, 1) := by decide +kernel
theorem d_T_balance_31 : decode c_T_balance 31 = .ok (.getfield 53, 3) := by decide +kernel
theorem d_T_balance_34 : decode c_T_balance 34 = .ok (.aload_n 0, 1) := by decide +kernel
theorem d_T_balance_35 : decode c_T_balance 35 = .ok (.getfield 46, 3) := by decide +kernel
theorem d_T_balance_38 : decode c_T_balance 38 = .ok (.invokevirtual 189, 3) := by decide +kernel
theorem d_T_balance_41 : decode c_T_balance 41 = .ok (.aload_n 0, 1) := by decide +kernel
theorem d_T_balance_42 : decode c_T_balance 42 = .ok (.getfield 67, 3) := by decide +kernel
theorem d_T_balance_45 : decode c_T_balance 45 = .ok (.getfield 193, 3) := by decide +kernel
theorem d_T_balance_48 : decode c_T_balance 48 = .ok (.iload_n 2, 1) := by decide +kernel
theorem d_T_balance_49 : decode c_T_balance 49 = .ok (.iaload, 1) := by decide +kernel
theorem d_T_balance_50 : decode c_T_balance 50 = .ok (.ireturn, 1) := by decide +kernel
theorem d_T_outcome_0 : decode c_T_outcome 0 = .ok (.aload_n 0, 1) := by decide +kernel
theorem d_T_outcome_1 : decode c_T_outcome 1 = .ok (.iload_n 1, 1) := by decide +kernel
theorem d_T_outcome_2 : decode c_T_outcome 2 = .ok (.invokevirtual 90, 3) := by decide +kernel
theorem d_T_outcome_5 : decode c_T_outcome 5 = .ok (.ifCond .eq 14, 3) := by decide +kernel
theorem d_T_outcome_8 : decode c_T_outcome 8 = .ok (.aload_n 0, 1) := by decide +kernel
theorem d_T_outcome_9 : decode c_T_outcome 9 = .ok (.getfield 46, 3) := by decide +kernel
theorem d_T_outcome_12 : decode c_T_outcome 12 = .ok (.iload_n 2, 1) := by decide +kernel
theorem d_T_outcome_13 : decode c_T_outcome 13 = .ok (.invokevirtual 196, 3) := by decide +kernel
theorem d_T_outcome_16 : decode c_T_outcome 16 = .ok (.ifCond .ne 5, 3) := by decide +kernel
theorem d_T_outcome_19 : decode c_T_outcome 19 = .ok (.iconst (-1), 1) := by decide +kernel
theorem d_T_outcome_20 : decode c_T_outcome 20 = .ok (.ireturn, 1) := by decide +kernel
theorem d_T_outcome_21 : decode c_T_outcome 21 = .ok (.aload_n 0, 1) := by decide +kernel
theorem d_T_outcome_22 : decode c_T_outcome 22 = .ok (.getfield 67, 3) := by decide +kernel
theorem d_T_outcome_25 : decode c_T_outcome 25 = .ok (.aload_n 0, 1) := by decide +kernel
theorem d_T_outcome_26 : decode c_T_outcome 26 = .ok (.getfield 36, 3) := by decide +kernel
theorem d_T_outcome_29 : decode c_T_outcome 29 = .ok (.iload_n 1, 1) := by decide +kernel
theorem d_T_outcome_30 : decode c_T_outcome 30 = .ok (.aaload, 1) := by decide +kernel
theorem d_T_outcome_31 : decode c_T_outcome 31 = .ok (.getfield 180, 3) := by decide +kernel
theorem d_T_outcome_34 : decode c_T_outcome 34 = .ok (.aload_n 0, 1) := by decide +kernel
theorem d_T_outcome_35 : decode c_T_outcome 35 = .ok (.getfield 53, 3) := by decide +kernel
theorem d_T_outcome_38 : decode c_T_outcome 38 = .ok (.aload_n 0, 1) := by decide +kernel
theorem d_T_outcome_39 : decode c_T_outcome 39 = .ok (.getfield 46, 3) := by decide +kernel
theorem d_T_outcome_42 : decode c_T_outcome 42 = .ok (.invokevirtual 189, 3) := by decide +kernel
theorem d_T_outcome_45 : decode c_T_outcome 45 = .ok (.aload_n 0, 1) := by decide +kernel
theorem d_T_outcome_46 : decode c_T_outcome 46 = .ok (.getfield 67, 3) := by decide +kernel
theorem d_T_outcome_49 : decode c_T_outcome 49 = .ok (.getfield 197, 3) := by decide +kernel
theorem d_T_outcome_52 : decode c_T_outcome 52 = .ok (.iload_n 2, 1) := by decide +kernel
theorem d_T_outcome_53 : decode c_T_outcome 53 = .ok (.iaload, 1) := by decide +kernel
theorem d_T_outcome_54 : decode c_T_outcome 54 = .ok (.ireturn, 1) := by decide +kernel
theorem d_T_lost_0 : decode c_T_lost 0 = .ok (.aload_n 0, 1) := by decide +kernel
theorem d_T_lost_1 : decode c_T_lost 1 = .ok (.getfield 60, 3) := by decide +kernel
theorem d_T_lost_4 : decode c_T_lost 4 = .ok (.getfield 200, 3) := by decide +kernel
theorem d_T_lost_7 : decode c_T_lost 7 = .ok (.ireturn, 1) := by decide +kernel
theorem d_T_hasMember_0 : decode c_T_hasMember 0 = .ok (.iload_n 0, 1) := by decide +kernel
theorem d_T_hasMember_1 : decode c_T_hasMember 1 = .ok (.iload_n 1, 1) := by decide +kernel
theorem d_T_hasMember_2 : decode c_T_hasMember 2 = .ok (.iushr, 1) := by decide +kernel
theorem d_T_hasMember_3 : decode c_T_hasMember 3 = .ok (.iconst 1, 1) := by decide +kernel
theorem d_T_hasMember_4 : decode c_T_hasMember 4 = .ok (.iand, 1) := by decide +kernel
theorem d_T_hasMember_5 : decode c_T_hasMember 5 = .ok (.ifCond .eq 7, 3) := by decide +kernel
theorem d_T_hasMember_8 : decode c_T_hasMember 8 = .ok (.iconst 1, 1) := by decide +kernel
theorem d_T_hasMember_9 : decode c_T_hasMember 9 = .ok (.goto 4, 3) := by decide +kernel
theorem d_T_hasMember_12 : decode c_T_hasMember 12 = .ok (.iconst 0, 1) := by decide +kernel
theorem d_T_hasMember_13 : decode c_T_hasMember 13 = .ok (.ireturn, 1) := by decide +kernel
theorem d_T_leastMembers_0 : decode c_T_leastMembers 0 = .ok (.iload_n 0, 1) := by decide +kernel
theorem d_T_leastMembers_1 : decode c_T_leastMembers 1 = .ok (.istore_n 2, 1) := by decide +kernel
theorem d_T_leastMembers_2 : decode c_T_leastMembers 2 = .ok (.iconst 0, 1) := by decide +kernel
theorem d_T_leastMembers_3 : decode c_T_leastMembers 3 = .ok (.istore_n 3, 1) := by decide +kernel
theorem d_T_leastMembers_4 : decode c_T_leastMembers 4 = .ok (.iload_n 3, 1) := by decide +kernel
theorem d_T_leastMembers_5 : decode c_T_leastMembers 5 = .ok (.iload_n 1, 1) := by decide +kernel
theorem d_T_leastMembers_6 : decode c_T_leastMembers 6 = .ok (.if_icmp .ge 15, 3) := by decide +kernel
theorem d_T_leastMembers_9 : decode c_T_leastMembers 9 = .ok (.iload_n 2, 1) := by decide +kernel
theorem d_T_leastMembers_10 : decode c_T_leastMembers 10 = .ok (.iload_n 2, 1) := by decide +kernel
theorem d_T_leastMembers_11 : decode c_T_leastMembers 11 = .ok (.iconst 1, 1) := by decide +kernel
theorem d_T_leastMembers_12 : decode c_T_leastMembers 12 = .ok (.isub, 1) := by decide +kernel
theorem d_T_leastMembers_13 : decode c_T_leastMembers 13 = .ok (.iand, 1) := by decide +kernel
theorem d_T_leastMembers_14 : decode c_T_leastMembers 14 = .ok (.istore_n 2, 1) := by decide +kernel
theorem d_T_leastMembers_15 : decode c_T_leastMembers 15 = .ok (.iinc 3 1, 3) := by decide +kernel
theorem d_T_leastMembers_18 : decode c_T_leastMembers 18 = .ok (.goto (-14), 3) := by decide +kernel
theorem d_T_leastMembers_21 : decode c_T_leastMembers 21 = .ok (.iload_n 0, 1) := by decide +kernel
theorem d_T_leastMembers_22 : decode c_T_leastMembers 22 = .ok (.iload_n 2, 1) := by decide +kernel
theorem d_T_leastMembers_23 : decode c_T_leastMembers 23 = .ok (.iconst (-1), 1) := by decide +kernel
theorem d_T_leastMembers_24 : decode c_T_leastMembers 24 = .ok (.ixor, 1) := by decide +kernel
theorem d_T_leastMembers_25 : decode c_T_leastMembers 25 = .ok (.iand, 1) := by decide +kernel
theorem d_T_leastMembers_26 : decode c_T_leastMembers 26 = .ok (.ireturn, 1) := by decide +kernel
theorem d_T_isAccount_0 : decode c_T_isAccount 0 = .ok (.iload_n 0, 1) := by decide +kernel
theorem d_T_isAccount_1 : decode c_T_isAccount 1 = .ok (.ifCond .lt 12, 3) := by decide +kernel
theorem d_T_isAccount_4 : decode c_T_isAccount 4 = .ok (.iload_n 0, 1) := by decide +kernel
theorem d_T_isAccount_5 : decode c_T_isAccount 5 = .ok (.iconst 4, 1) := by decide +kernel
theorem d_T_isAccount_6 : decode c_T_isAccount 6 = .ok (.if_icmp .ge 7, 3) := by decide +kernel
theorem d_T_isAccount_9 : decode c_T_isAccount 9 = .ok (.iconst 1, 1) := by decide +kernel
theorem d_T_isAccount_10 : decode c_T_isAccount 10 = .ok (.goto 4, 3) := by decide +kernel
theorem d_T_isAccount_13 : decode c_T_isAccount 13 = .ok (.iconst 0, 1) := by decide +kernel
theorem d_T_isAccount_14 : decode c_T_isAccount 14 = .ok (.ireturn, 1) := by decide +kernel
theorem d_T_isReplica_0 : decode c_T_isReplica 0 = .ok (.iload_n 1, 1) := by decide +kernel
theorem d_T_isReplica_1 : decode c_T_isReplica 1 = .ok (.ifCond .lt 15, 3) := by decide +kernel
theorem d_T_isReplica_4 : decode c_T_isReplica 4 = .ok (.iload_n 1, 1) := by decide +kernel
theorem d_T_isReplica_5 : decode c_T_isReplica 5 = .ok (.aload_n 0, 1) := by decide +kernel
theorem d_T_isReplica_6 : decode c_T_isReplica 6 = .ok (.getfield 7, 3) := by decide +kernel
theorem d_T_isReplica_9 : decode c_T_isReplica 9 = .ok (.if_icmp .ge 7, 3) := by decide +kernel
theorem d_T_isReplica_12 : decode c_T_isReplica 12 = .ok (.iconst 1, 1) := by decide +kernel
theorem d_T_isReplica_13 : decode c_T_isReplica 13 = .ok (.goto 4, 3) := by decide +kernel
theorem d_T_isReplica_16 : decode c_T_isReplica 16 = .ok (.iconst 0, 1) := by decide +kernel
theorem d_T_isReplica_17 : decode c_T_isReplica 17 = .ok (.ireturn, 1) := by decide +kernel
theorem d_T_isCorrupt_0 : decode c_T_isCorrupt 0 = .ok (.aload_n 0, 1) := by decide +kernel
theorem d_T_isCorrupt_1 : decode c_T_isCorrupt 1 = .ok (.iload_n 1, 1) := by decide +kernel
theorem d_T_isCorrupt_2 : decode c_T_isCorrupt 2 = .ok (.invokevirtual 152, 3) := by decide +kernel
theorem d_T_isCorrupt_5 : decode c_T_isCorrupt 5 = .ok (.ifCond .eq 18, 3) := by decide +kernel
theorem d_T_isCorrupt_8 : decode c_T_isCorrupt 8 = .ok (.aload_n 0, 1) := by decide +kernel
theorem d_T_isCorrupt_9 : decode c_T_isCorrupt 9 = .ok (.getfield 31, 3) := by decide +kernel
theorem d_T_isCorrupt_12 : decode c_T_isCorrupt 12 = .ok (.iload_n 1, 1) := by decide +kernel
theorem d_T_isCorrupt_13 : decode c_T_isCorrupt 13 = .ok (.invokestatic 83, 3) := by decide +kernel
theorem d_T_isCorrupt_16 : decode c_T_isCorrupt 16 = .ok (.ifCond .eq 7, 3) := by decide +kernel
theorem d_T_isCorrupt_19 : decode c_T_isCorrupt 19 = .ok (.iconst 1, 1) := by decide +kernel
theorem d_T_isCorrupt_20 : decode c_T_isCorrupt 20 = .ok (.goto 4, 3) := by decide +kernel
theorem d_T_isCorrupt_23 : decode c_T_isCorrupt 23 = .ok (.iconst 0, 1) := by decide +kernel
theorem d_T_isCorrupt_24 : decode c_T_isCorrupt 24 = .ok (.ireturn, 1) := by decide +kernel
theorem d_T_isCorrect_0 : decode c_T_isCorrect 0 = .ok (.aload_n 0, 1) := by decide +kernel
theorem d_T_isCorrect_1 : decode c_T_isCorrect 1 = .ok (.iload_n 1, 1) := by decide +kernel
theorem d_T_isCorrect_2 : decode c_T_isCorrect 2 = .ok (.invokevirtual 152, 3) := by decide +kernel
theorem d_T_isCorrect_5 : decode c_T_isCorrect 5 = .ok (.ifCond .eq 18, 3) := by decide +kernel
theorem d_T_isCorrect_8 : decode c_T_isCorrect 8 = .ok (.aload_n 0, 1) := by decide +kernel
theorem d_T_isCorrect_9 : decode c_T_isCorrect 9 = .ok (.getfield 31, 3) := by decide +kernel
theorem d_T_isCorrect_12 : decode c_T_isCorrect 12 = .ok (.iload_n 1, 1) := by decide +kernel
theorem d_T_isCorrect_13 : decode c_T_isCorrect 13 = .ok (.invokestatic 83, 3) := by decide +kernel
theorem d_T_isCorrect_16 : decode c_T_isCorrect 16 = .ok (.ifCond .ne 7, 3) := by decide +kernel
theorem d_T_isCorrect_19 : decode c_T_isCorrect 19 = .ok (.iconst 1, 1) := by decide +kernel
theorem d_T_isCorrect_20 : decode c_T_isCorrect 20 = .ok (.goto 4, 3) := by decide +kernel
theorem d_T_isCorrect_23 : decode c_T_isCorrect 23 = .ok (.iconst 0, 1) := by decide +kernel
theorem d_T_isCorrect_24 : decode c_T_isCorrect 24 = .ok (.ireturn, 1) := by decide +kernel
theorem d_T_leaderOf_0 : decode c_T_leaderOf 0 = .ok (.iload_n 1, 1) := by decide +kernel
theorem d_T_leaderOf_1 : decode c_T_leaderOf 1 = .ok (.iconst 1, 1) := by decide +kernel
theorem d_T_leaderOf_2 : decode c_T_leaderOf 2 = .ok (.isub, 1) := by decide +kernel
theorem d_T_leaderOf_3 : decode c_T_leaderOf 3 = .ok (.aload_n 0, 1) := by decide +kernel
theorem d_T_leaderOf_4 : decode c_T_leaderOf 4 = .ok (.getfield 25, 3) := by decide +kernel
theorem d_T_leaderOf_7 : decode c_T_leaderOf 7 = .ok (.idiv, 1) := by decide +kernel
theorem d_T_leaderOf_8 : decode c_T_leaderOf 8 = .ok (.aload_n 0, 1) := by decide +kernel
theorem d_T_leaderOf_9 : decode c_T_leaderOf 9 = .ok (.getfield 7, 3) := by decide +kernel
theorem d_T_leaderOf_12 : decode c_T_leaderOf 12 = .ok (.invokestatic 203, 3) := by decide +kernel
theorem d_T_leaderOf_15 : decode c_T_leaderOf 15 = .ok (.ireturn, 1) := by decide +kernel
theorem d_T_mayPropose_0 : decode c_T_mayPropose 0 = .ok (.aload_n 0, 1) := by decide +kernel
theorem d_T_mayPropose_1 : decode c_T_mayPropose 1 = .ok (.getfield 36, 3) := by decide +kernel
theorem d_T_mayPropose_4 : decode c_T_mayPropose 4 = .ok (.iload_n 1, 1) := by decide +kernel
theorem d_T_mayPropose_5 : decode c_T_mayPropose 5 = .ok (.aaload, 1) := by decide +kernel
theorem d_T_mayPropose_6 : decode c_T_mayPropose 6 = .ok (.astore_n 2, 1) := by decide +kernel
theorem d_T_mayPropose_7 : decode c_T_mayPropose 7 = .ok (.aload_n 2, 1) := by decide +kernel
theorem d_T_mayPropose_8 : decode c_T_mayPropose 8 = .ok (.getfield 104, 3) := by decide +kernel
theorem d_T_mayPropose_11 : decode c_T_mayPropose 11 = .ok (.istore_n 3, 1) := by decide +kernel
theorem d_T_mayPropose_12 : decode c_T_mayPropose 12 = .ok (.aload_n 0, 1) := by decide +kernel
theorem d_T_mayPropose_13 : decode c_T_mayPropose 13 = .ok (.iload_n 3, 1) := by decide +kernel
theorem d_T_mayPropose_14 : decode c_T_mayPropose 14 = .ok (.invokevirtual 124, 3) := by decide +kernel
theorem d_T_mayPropose_17 : decode c_T_mayPropose 17 = .ok (.iload_n 1, 1) := by decide +kernel
theorem d_T_mayPropose_18 : decode c_T_mayPropose 18 = .ok (.if_icmp .ne 11, 3) := by decide +kernel
theorem d_T_mayPropose_21 : decode c_T_mayPropose 21 = .ok (.aload_n 2, 1) := by decide +kernel
theorem d_T_mayPropose_22 : decode c_T_mayPropose 22 = .ok (.getfield 108, 3) := by decide +kernel
theorem d_T_mayPropose_25 : decode c_T_mayPropose 25 = .ok (.iload_n 3, 1) := by decide +kernel
theorem d_T_mayPropose_26 : decode c_T_mayPropose 26 = .ok (.if_icmp .ne 5, 3) := by decide +kernel
theorem d_T_mayPropose_29 : decode c_T_mayPropose 29 = .ok (.iconst 0, 1) := by decide +kernel
theorem d_T_mayPropose_30 : decode c_T_mayPropose 30 = .ok (.ireturn, 1) := by decide +kernel
theorem d_T_mayPropose_31 : decode c_T_mayPropose 31 = .ok (.iload_n 3, 1) := by decide +kernel
theorem d_T_mayPropose_32 : decode c_T_mayPropose 32 = .ok (.iconst 1, 1) := by decide +kernel
theorem d_T_mayPropose_33 : decode c_T_mayPropose 33 = .ok (.if_icmp .eq 33, 3) := by decide +kernel
theorem d_T_mayPropose_36 : decode c_T_mayPropose 36 = .ok (.aload_n 0, 1) := by decide +kernel
theorem d_T_mayPropose_37 : decode c_T_mayPropose 37 = .ok (.getfield 53, 3) := by decide +kernel
theorem d_T_mayPropose_40 : decode c_T_mayPropose 40 = .ok (.getfield 140, 3) := by decide +kernel
theorem d_T_mayPropose_43 : decode c_T_mayPropose 43 = .ok (.aload_n 2, 1) := by decide +kernel
theorem d_T_mayPropose_44 : decode c_T_mayPropose 44 = .ok (.getfield 101, 3) := by decide +kernel
theorem d_T_mayPropose_47 : decode c_T_mayPropose 47 = .ok (.iaload, 1) := by decide +kernel
theorem d_T_mayPropose_48 : decode c_T_mayPropose 48 = .ok (.iload_n 3, 1) := by decide +kernel
theorem d_T_mayPropose_49 : decode c_T_mayPropose 49 = .ok (.iconst 1, 1) := by decide +kernel
theorem d_T_mayPropose_50 : decode c_T_mayPropose 50 = .ok (.isub, 1) := by decide +kernel
theorem d_T_mayPropose_51 : decode c_T_mayPropose 51 = .ok (.if_icmp .eq 15, 3) := by decide +kernel
theorem d_T_mayPropose_54 : decode c_T_mayPropose 54 = .ok (.aload_n 2, 1) := by decide +kernel
theorem d_T_mayPropose_55 : decode c_T_mayPropose 55 = .ok (.aload_n 0, 1) := by decide +kernel
theorem d_T_mayPropose_56 : decode c_T_mayPropose 56 = .ok (.getfield 13, 3) := by decide +kernel
theorem d_T_mayPropose_59 : decode c_T_mayPropose 59 = .ok (.invokevirtual 183, 3) := by decide +kernel
theorem d_T_mayPropose_62 : decode c_T_mayPropose 62 = .ok (.iload_n 3, 1) := by decide +kernel
theorem d_T_mayPropose_63 : decode c_T_mayPropose 63 = .ok (.if_icmp .lt 7, 3) := by decide +kernel
theorem d_T_mayPropose_66 : decode c_T_mayPropose 66 = .ok (.iconst 1, 1) := by decide +kernel
theorem d_T_mayPropose_67 : decode c_T_mayPropose 67 = .ok (.goto 4, 3) := by decide +kernel
theorem d_T_mayPropose_70 : decode c_T_mayPropose 70 = .ok (.iconst 0, 1) := by decide +kernel
theorem d_T_mayPropose_71 : decode c_T_mayPropose 71 = .ok (.ireturn, 1) := by decide +kernel
theorem d_T_maySend_0 : decode c_T_maySend 0 = .ok (.iload_n 1, 1) := by decide +kernel
theorem d_T_maySend_1 : decode c_T_maySend 1 = .ok (.ifCond .eq 36, 3) := by decide +kernel
theorem d_T_maySend_4 : decode c_T_maySend 4 = .ok (.aload_n 0, 1) := by decide +kernel
theorem d_T_maySend_5 : decode c_T_maySend 5 = .ok (.getfield 53, 3) := by decide +kernel
theorem d_T_maySend_8 : decode c_T_maySend 8 = .ok (.iload_n 1, 1) := by decide +kernel
theorem d_T_maySend_9 : decode c_T_maySend 9 = .ok (.invokevirtual 162, 3) := by decide +kernel
theorem d_T_maySend_12 : decode c_T_maySend 12 = .ok (.ifCond .eq 25, 3) := by decide +kernel
theorem d_T_maySend_15 : decode c_T_maySend 15 = .ok (.aload_n 0, 1) := by decide +kernel
theorem d_T_maySend_16 : decode c_T_maySend 16 = .ok (.iload_n 2, 1) := by decide +kernel
theorem d_T_maySend_17 : decode c_T_maySend 17 = .ok (.invokevirtual 152, 3) := by decide +kernel
theorem d_T_maySend_20 : decode c_T_maySend 20 = .ok (.ifCond .eq 17, 3) := by decide +kernel
theorem d_T_maySend_23 : decode c_T_maySend 23 = .ok (.aload_n 0, 1) := by decide +kernel
theorem d_T_maySend_24 : decode c_T_maySend 24 = .ok (.getfield 60, 3) := by decide +kernel
theorem d_T_maySend_27 : decode c_T_maySend 27 = .ok (.invokevirtual 155, 3) := by decide +kernel
theorem d_T_maySend_30 : decode c_T_maySend 30 = .ok (.ifCond .ne 7, 3) := by decide +kernel
theorem d_T_maySend_33 : decode c_T_maySend 33 = .ok (.iconst 1, 1) := by decide +kernel
theorem d_T_maySend_34 : decode c_T_maySend 34 = .ok (.goto 4, 3) := by decide +kernel
theorem d_T_maySend_37 : decode c_T_maySend 37 = .ok (.iconst 0, 1) := by decide +kernel
theorem d_T_maySend_38 : decode c_T_maySend 38 = .ok (.ireturn, 1) := by decide +kernel
theorem d_T_hasCertificate_0 : decode c_T_hasCertificate 0 = .ok (.aload_n 0, 1) := by decide +kernel
theorem d_T_hasCertificate_1 : decode c_T_hasCertificate 1 = .ok (.getfield 53, 3) := by decide +kernel
theorem d_T_hasCertificate_4 : decode c_T_hasCertificate 4 = .ok (.iload_n 1, 1) := by decide +kernel
theorem d_T_hasCertificate_5 : decode c_T_hasCertificate 5 = .ok (.invokevirtual 162, 3) := by decide +kernel
theorem d_T_hasCertificate_8 : decode c_T_hasCertificate 8 = .ok (.ifCond .ne 5, 3) := by decide +kernel
theorem d_T_hasCertificate_11 : decode c_T_hasCertificate 11 = .ok (.iconst 0, 1) := by decide +kernel
theorem d_T_hasCertificate_12 : decode c_T_hasCertificate 12 = .ok (.ireturn, 1) := by decide +kernel
theorem d_T_hasCertificate_13 : decode c_T_hasCertificate 13 = .ok (.iload_n 1, 1) := by decide +kernel
theorem d_T_hasCertificate_14 : decode c_T_hasCertificate 14 = .ok (.ifCond .eq 27, 3) := by decide +kernel
theorem d_T_hasCertificate_17 : decode c_T_hasCertificate 17 = .ok (.aload_n 0, 1) := by decide +kernel
theorem d_T_hasCertificate_18 : decode c_T_hasCertificate 18 = .ok (.getfield 53, 3) := by decide +kernel
theorem d_T_hasCertificate_21 : decode c_T_hasCertificate 21 = .ok (.getfield 171, 3) := by decide +kernel
theorem d_T_hasCertificate_24 : decode c_T_hasCertificate 24 = .ok (.iload_n 1, 1) := by decide +kernel
theorem d_T_hasCertificate_25 : decode c_T_hasCertificate 25 = .ok (.iaload, 1) := by decide +kernel
theorem d_T_hasCertificate_26 : decode c_T_hasCertificate 26 = .ok (.aload_n 0, 1) := by decide +kernel
theorem d_T_hasCertificate_27 : decode c_T_hasCertificate 27 = .ok (.getfield 31, 3) := by decide +kernel
theorem d_T_hasCertificate_30 : decode c_T_hasCertificate 30 = .ok (.ior, 1) := by decide +kernel
theorem d_T_hasCertificate_31 : decode c_T_hasCertificate 31 = .ok (.invokestatic 206, 3) := by decide +kernel
theorem d_T_hasCertificate_34 : decode c_T_hasCertificate 34 = .ok (.aload_n 0, 1) := by decide +kernel
theorem d_T_hasCertificate_35 : decode c_T_hasCertificate 35 = .ok (.getfield 13, 3) := by decide +kernel
theorem d_T_hasCertificate_38 : decode c_T_hasCertificate 38 = .ok (.if_icmp .lt 7, 3) := by decide +kernel
theorem d_T_hasCertificate_41 : decode c_T_hasCertificate 41 = .ok (.iconst 1, 1) := by decide +kernel
theorem d_T_hasCertificate_42 : decode c_T_hasCertificate 42 = .ok (.goto 4, 3) := by decide +kernel
theorem d_T_hasCertificate_45 : decode c_T_hasCertificate 45 = .ok (.iconst 0, 1) := by decide +kernel
theorem d_T_hasCertificate_46 : decode c_T_hasCertificate 46 = .ok (.ireturn, 1) := by decide +kernel
theorem d_T_handOver_0 : decode c_T_handOver 0 = .ok (.aload_n 0, 1) := by decide +kernel
theorem d_T_handOver_1 : decode c_T_handOver 1 = .ok (.getfield 60, 3) := by decide +kernel
theorem d_T_handOver_4 : decode c_T_handOver 4 = .ok (.getfield 159, 3) := by decide +kernel
theorem d_T_handOver_7 : decode c_T_handOver 7 = .ok (.iload_n 1, 1) := by decide +kernel
theorem d_T_handOver_8 : decode c_T_handOver 8 = .ok (.iaload, 1) := by decide +kernel
theorem d_T_handOver_9 : decode c_T_handOver 9 = .ok (.istore_n 2, 1) := by decide +kernel
theorem d_T_handOver_10 : decode c_T_handOver 10 = .ok (.aload_n 0, 1) := by decide +kernel
theorem d_T_handOver_11 : decode c_T_handOver 11 = .ok (.getfield 60, 3) := by decide +kernel
theorem d_T_handOver_14 : decode c_T_handOver 14 = .ok (.getfield 211, 3) := by decide +kernel
theorem d_T_handOver_17 : decode c_T_handOver 17 = .ok (.iload_n 1, 1) := by decide +kernel
theorem d_T_handOver_18 : decode c_T_handOver 18 = .ok (.iaload, 1) := by decide +kernel
theorem d_T_handOver_19 : decode c_T_handOver 19 = .ok (.istore_n 3, 1) := by decide +kernel
theorem d_T_handOver_20 : decode c_T_handOver 20 = .ok (.aload_n 0, 1) := by decide +kernel
theorem d_T_handOver_21 : decode c_T_handOver 21 = .ok (.getfield 60, 3) := by decide +kernel
theorem d_T_handOver_24 : decode c_T_handOver 24 = .ok (.iload_n 1, 1) := by decide +kernel
theorem d_T_handOver_25 : decode c_T_handOver 25 = .ok (.invokevirtual 134, 3) := by decide +kernel
theorem d_T_handOver_28 : decode c_T_handOver 28 = .ok (.iload_n 2, 1) := by decide +kernel
theorem d_T_handOver_29 : decode c_T_handOver 29 = .ok (.invokestatic 212, 3) := by decide +kernel
theorem d_T_handOver_32 : decode c_T_handOver 32 = .ok (.istore 4, 2) := by decide +kernel
theorem d_T_handOver_34 : decode c_T_handOver 34 = .ok (.aload_n 0, 1) := by decide +kernel
theorem d_T_handOver_35 : decode c_T_handOver 35 = .ok (.iload 4, 2) := by decide +kernel
theorem d_T_handOver_37 : decode c_T_handOver 37 = .ok (.invokevirtual 90, 3) := by decide +kernel
theorem d_T_handOver_40 : decode c_T_handOver 40 = .ok (.ifCond .ne 5, 3) := by decide +kernel
theorem d_T_handOver_43 : decode c_T_handOver 43 = .ok (.iconst 0, 1) := by decide +kernel
theorem d_T_handOver_44 : decode c_T_handOver 44 = .ok (.ireturn, 1) := by decide +kernel
theorem d_T_handOver_45 : decode c_T_handOver 45 = .ok (.iload_n 2, 1) := by decide +kernel
theorem d_T_handOver_46 : decode c_T_handOver 46 = .ok (.invokestatic 215, 3) := by decide +kernel
theorem d_T_handOver_49 : decode c_T_handOver 49 = .ok (.istore 5, 2) := by decide +kernel
theorem d_T_handOver_51 : decode c_T_handOver 51 = .ok (.iload_n 2, 1) := by decide +kernel
theorem d_T_handOver_52 : decode c_T_handOver 52 = .ok (.invokestatic 218, 3) := by decide +kernel
theorem d_T_handOver_55 : decode c_T_handOver 55 = .ok (.lookupswitch 51 #[(0, 25), (1, 36)], 25) := by decide +kernel
theorem d_T_handOver_80 : decode c_T_handOver 80 = .ok (.aload_n 0, 1) := by decide +kernel
theorem d_T_handOver_81 : decode c_T_handOver 81 = .ok (.iload 4, 2) := by decide +kernel
theorem d_T_handOver_83 : decode c_T_handOver 83 = .ok (.iload 5, 2) := by decide +kernel
theorem d_T_handOver_85 : decode c_T_handOver 85 = .ok (.invokevirtual 221, 3) := by decide +kernel
theorem d_T_handOver_88 : decode c_T_handOver 88 = .ok (.goto 31, 3) := by decide +kernel
theorem d_T_handOver_91 : decode c_T_handOver 91 = .ok (.aload_n 0, 1) := by decide +kernel
theorem d_T_handOver_92 : decode c_T_handOver 92 = .ok (.iload 4, 2) := by decide +kernel
theorem d_T_handOver_94 : decode c_T_handOver 94 = .ok (.iload_n 2, 1) := by decide +kernel
theorem d_T_handOver_95 : decode c_T_handOver 95 = .ok (.invokestatic 225, 3) := by decide +kernel
theorem d_T_handOver_98 : decode c_T_handOver 98 = .ok (.iload 5, 2) := by decide +kernel
theorem d_T_handOver_100 : decode c_T_handOver 100 = .ok (.invokevirtual 228, 3) := by decide +kernel
theorem d_T_handOver_103 : decode c_T_handOver 103 = .ok (.goto 16, 3) := by decide +kernel
theorem d_T_handOver_106 : decode c_T_handOver 106 = .ok (.aload_n 0, 1) := by decide +kernel
theorem d_T_handOver_107 : decode c_T_handOver 107 = .ok (.iload 4, 2) := by decide +kernel
theorem d_T_handOver_109 : decode c_T_handOver 109 = .ok (.iload_n 2, 1) := by decide +kernel
theorem d_T_handOver_110 : decode c_T_handOver 110 = .ok (.invokestatic 225, 3) := by decide +kernel
theorem d_T_handOver_113 : decode c_T_handOver 113 = .ok (.iload_n 3, 1) := by decide +kernel
theorem d_T_handOver_114 : decode c_T_handOver 114 = .ok (.iload 5, 2) := by decide +kernel
theorem d_T_handOver_116 : decode c_T_handOver 116 = .ok (.invokevirtual 232, 3) := by decide +kernel
theorem d_T_handOver_119 : decode c_T_handOver 119 = .ok (.iconst 1, 1) := by decide +kernel
theorem d_T_handOver_120 : decode c_T_handOver 120 = .ok (.ireturn, 1) := by decide +kernel
theorem d_T_getProposal_0 : decode c_T_getProposal 0 = .ok (.aload_n 0, 1) := by decide +kernel
theorem d_T_getProposal_1 : decode c_T_getProposal 1 = .ok (.getfield 36, 3) := by decide +kernel
theorem d_T_getProposal_4 : decode c_T_getProposal 4 = .ok (.iload_n 1, 1) := by decide +kernel
theorem d_T_getProposal_5 : decode c_T_getProposal 5 = .ok (.aaload, 1) := by decide +kernel
theorem d_T_getProposal_6 : decode c_T_getProposal 6 = .ok (.astore_n 3, 1) := by decide +kernel
theorem d_T_getProposal_7 : decode c_T_getProposal 7 = .ok (.aload_n 0, 1) := by decide +kernel
theorem d_T_getProposal_8 : decode c_T_getProposal 8 = .ok (.getfield 53, 3) := by decide +kernel
theorem d_T_getProposal_11 : decode c_T_getProposal 11 = .ok (.getfield 140, 3) := by decide +kernel
theorem d_T_getProposal_14 : decode c_T_getProposal 14 = .ok (.iload_n 2, 1) := by decide +kernel
theorem d_T_getProposal_15 : decode c_T_getProposal 15 = .ok (.iaload, 1) := by decide +kernel
theorem d_T_getProposal_16 : decode c_T_getProposal 16 = .ok (.istore 4, 2) := by decide +kernel
theorem d_T_getProposal_18 : decode c_T_getProposal 18 = .ok (.aload_n 3, 1) := by decide +kernel
theorem d_T_getProposal_19 : decode c_T_getProposal 19 = .ok (.aload_n 0, 1) := by decide +kernel
theorem d_T_getProposal_20 : decode c_T_getProposal 20 = .ok (.getfield 53, 3) := by decide +kernel
theorem d_T_getProposal_23 : decode c_T_getProposal 23 = .ok (.getfield 165, 3) := by decide +kernel
theorem d_T_getProposal_26 : decode c_T_getProposal 26 = .ok (.iload_n 2, 1) := by decide +kernel
theorem d_T_getProposal_27 : decode c_T_getProposal 27 = .ok (.iaload, 1) := by decide +kernel
theorem d_T_getProposal_28 : decode c_T_getProposal 28 = .ok (.aload_n 0, 1) := by decide +kernel
theorem d_T_getProposal_29 : decode c_T_getProposal 29 = .ok (.getfield 53, 3) := by decide +kernel
theorem d_T_getProposal_32 : decode c_T_getProposal 32 = .ok (.invokevirtual 236, 3) := by decide +kernel
theorem d_T_getProposal_35 : decode c_T_getProposal 35 = .ok (.aload_n 3, 1) := by decide +kernel
theorem d_T_getProposal_36 : decode c_T_getProposal 36 = .ok (.getfield 104, 3) := by decide +kernel
theorem d_T_getProposal_39 : decode c_T_getProposal 39 = .ok (.iload 4, 2) := by decide +kernel
theorem d_T_getProposal_41 : decode c_T_getProposal 41 = .ok (.if_icmp .ge 9, 3) := by decide +kernel
theorem d_T_getProposal_44 : decode c_T_getProposal 44 = .ok (.aload_n 3, 1) := by decide +kernel
theorem d_T_getProposal_45 : decode c_T_getProposal 45 = .ok (.iload 4, 2) := by decide +kernel
theorem d_T_getProposal_47 : decode c_T_getProposal 47 = .ok (.invokevirtual 121, 3) := by decide +kernel
theorem d_T_getProposal_50 : decode c_T_getProposal 50 = .ok (.aload_n 3, 1) := by decide +kernel
theorem d_T_getProposal_51 : decode c_T_getProposal 51 = .ok (.getfield 104, 3) := by decide +kernel
theorem d_T_getProposal_54 : decode c_T_getProposal 54 = .ok (.iload 4, 2) := by decide +kernel
theorem d_T_getProposal_56 : decode c_T_getProposal 56 = .ok (.if_icmp .ne 64, 3) := by decide +kernel
theorem d_T_getProposal_59 : decode c_T_getProposal 59 = .ok (.aload_n 3, 1) := by decide +kernel
theorem d_T_getProposal_60 : decode c_T_getProposal 60 = .ok (.getfield 174, 3) := by decide +kernel
theorem d_T_getProposal_63 : decode c_T_getProposal 63 = .ok (.iload 4, 2) := by decide +kernel
theorem d_T_getProposal_65 : decode c_T_getProposal 65 = .ok (.if_icmp .ge 55, 3) := by decide +kernel
theorem d_T_getProposal_68 : decode c_T_getProposal 68 = .ok (.aload_n 0, 1) := by decide +kernel
theorem d_T_getProposal_69 : decode c_T_getProposal 69 = .ok (.aload_n 3, 1) := by decide +kernel
theorem d_T_getProposal_70 : decode c_T_getProposal 70 = .ok (.getfield 177, 3) := by decide +kernel
theorem d_T_getProposal_73 : decode c_T_getProposal 73 = .ok (.iload_n 2, 1) := by decide +kernel
theorem d_T_getProposal_74 : decode c_T_getProposal 74 = .ok (.invokevirtual 240, 3) := by decide +kernel
theorem d_T_getProposal_77 : decode c_T_getProposal 77 = .ok (.ifCond .eq 43, 3) := by decide +kernel
theorem d_T_getProposal_80 : decode c_T_getProposal 80 = .ok (.aload_n 3, 1) := by decide +kernel
theorem d_T_getProposal_81 : decode c_T_getProposal 81 = .ok (.iload 4, 2) := by decide +kernel
theorem d_T_getProposal_83 : decode c_T_getProposal 83 = .ok (.putfield 174, 3) := by decide +kernel
theorem d_T_getProposal_86 : decode c_T_getProposal 86 = .ok (.aload_n 0, 1) := by decide +kernel
theorem d_T_getProposal_87 : decode c_T_getProposal 87 = .ok (.getfield 53, 3) := by decide +kernel
theorem d_T_getProposal_90 : decode c_T_getProposal 90 = .ok (.getfield 171, 3) := by decide +kernel
theorem d_T_getProposal_93 : decode c_T_getProposal 93 = .ok (.iload_n 2, 1) := by decide +kernel
theorem d_T_getProposal_94 : decode c_T_getProposal 94 = .ok (.dup2, 1) := by decide +kernel
theorem d_T_getProposal_95 : decode c_T_getProposal 95 = .ok (.iaload, 1) := by decide +kernel
theorem d_T_getProposal_96 : decode c_T_getProposal 96 = .ok (.iconst 1, 1) := by decide +kernel
theorem d_T_getProposal_97 : decode c_T_getProposal 97 = .ok (.iload_n 1, 1) := by decide +kernel
theorem d_T_getProposal_98 : decode c_T_getProposal 98 = .ok (.ishl, 1) := by decide +kernel
theorem d_T_getProposal_99 : decode c_T_getProposal 99 = .ok (.ior, 1) := by decide +kernel
theorem d_T_getProposal_100 : decode c_T_getProposal 100 = .ok (.iastore, 1) := by decide +kernel
theorem d_T_getProposal_101 : decode c_T_getProposal 101 = .ok (.aload_n 0, 1) := by decide +kernel
theorem d_T_getProposal_102 : decode c_T_getProposal 102 = .ok (.getfield 60, 3) := by decide +kernel
theorem d_T_getProposal_105 : decode c_T_getProposal 105 = .ok (.iconst 1, 1) := by decide +kernel
theorem d_T_getProposal_106 : decode c_T_getProposal 106 = .ok (.aload_n 0, 1) := by decide +kernel
theorem d_T_getProposal_107 : decode c_T_getProposal 107 = .ok (.iload 4, 2) := by decide +kernel
theorem d_T_getProposal_109 : decode c_T_getProposal 109 = .ok (.iconst 1, 1) := by decide +kernel
theorem d_T_getProposal_110 : decode c_T_getProposal 110 = .ok (.iadd, 1) := by decide +kernel
theorem d_T_getProposal_111 : decode c_T_getProposal 111 = .ok (.invokevirtual 124, 3) := by decide +kernel
theorem d_T_getProposal_114 : decode c_T_getProposal 114 = .ok (.iload_n 1, 1) := by decide +kernel
theorem d_T_getProposal_115 : decode c_T_getProposal 115 = .ok (.iload_n 2, 1) := by decide +kernel
theorem d_T_getProposal_116 : decode c_T_getProposal 116 = .ok (.iconst 0, 1) := by decide +kernel
theorem d_T_getProposal_117 : decode c_T_getProposal 117 = .ok (.invokevirtual 111, 3) := by decide +kernel
theorem d_T_getProposal_120 : decode c_T_getProposal 120 = .ok (.return_, 1) := by decide +kernel
theorem d_T_isSafe_0 : decode c_T_isSafe 0 = .ok (.aload_n 0, 1) := by decide +kernel
theorem d_T_isSafe_1 : decode c_T_isSafe 1 = .ok (.getfield 53, 3) := by decide +kernel
theorem d_T_isSafe_4 : decode c_T_isSafe 4 = .ok (.iload_n 1, 1) := by decide +kernel
theorem d_T_isSafe_5 : decode c_T_isSafe 5 = .ok (.iload_n 2, 1) := by decide +kernel
theorem d_T_isSafe_6 : decode c_T_isSafe 6 = .ok (.invokevirtual 243, 3) := by decide +kernel
theorem d_T_isSafe_9 : decode c_T_isSafe 9 = .ok (.ifCond .ne 32, 3) := by decide +kernel
theorem d_T_isSafe_12 : decode c_T_isSafe 12 = .ok (.aload_n 0, 1) := by decide +kernel
theorem d_T_isSafe_13 : decode c_T_isSafe 13 = .ok (.getfield 53, 3) := by decide +kernel
theorem d_T_isSafe_16 : decode c_T_isSafe 16 = .ok (.getfield 140, 3) := by decide +kernel
theorem d_T_isSafe_19 : decode c_T_isSafe 19 = .ok (.aload_n 0, 1) := by decide +kernel
theorem d_T_isSafe_20 : decode c_T_isSafe 20 = .ok (.getfield 53, 3) := by decide +kernel
theorem d_T_isSafe_23 : decode c_T_isSafe 23 = .ok (.getfield 165, 3) := by decide +kernel
theorem d_T_isSafe_26 : decode c_T_isSafe 26 = .ok (.iload_n 2, 1) := by decide +kernel
theorem d_T_isSafe_27 : decode c_T_isSafe 27 = .ok (.iaload, 1) := by decide +kernel
theorem d_T_isSafe_28 : decode c_T_isSafe 28 = .ok (.iaload, 1) := by decide +kernel
theorem d_T_isSafe_29 : decode c_T_isSafe 29 = .ok (.aload_n 0, 1) := by decide +kernel
theorem d_T_isSafe_30 : decode c_T_isSafe 30 = .ok (.getfield 53, 3) := by decide +kernel
theorem d_T_isSafe_33 : decode c_T_isSafe 33 = .ok (.getfield 140, 3) := by decide +kernel
theorem d_T_isSafe_36 : decode c_T_isSafe 36 = .ok (.iload_n 1, 1) := by decide +kernel
theorem d_T_isSafe_37 : decode c_T_isSafe 37 = .ok (.iaload, 1) := by decide +kernel
theorem d_T_isSafe_38 : decode c_T_isSafe 38 = .ok (.if_icmp .le 7, 3) := by decide +kernel
theorem d_T_isSafe_41 : decode c_T_isSafe 41 = .ok (.iconst 1, 1) := by decide +kernel
theorem d_T_isSafe_42 : decode c_T_isSafe 42 = .ok (.goto 4, 3) := by decide +kernel
theorem d_T_isSafe_45 : decode c_T_isSafe 45 = .ok (.iconst 0, 1) := by decide +kernel
theorem d_T_isSafe_46 : decode c_T_isSafe 46 = .ok (.ireturn, 1) := by decide +kernel
theorem d_T_getVote_0 : decode c_T_getVote 0 = .ok (.aload_n 0, 1) := by decide +kernel
theorem d_T_getVote_1 : decode c_T_getVote 1 = .ok (.getfield 36, 3) := by decide +kernel
theorem d_T_getVote_4 : decode c_T_getVote 4 = .ok (.iload_n 1, 1) := by decide +kernel
theorem d_T_getVote_5 : decode c_T_getVote 5 = .ok (.aaload, 1) := by decide +kernel
theorem d_T_getVote_6 : decode c_T_getVote 6 = .ok (.astore 4, 2) := by decide +kernel
theorem d_T_getVote_8 : decode c_T_getVote 8 = .ok (.aload 4, 2) := by decide +kernel
theorem d_T_getVote_10 : decode c_T_getVote 10 = .ok (.getfield 246, 3) := by decide +kernel
theorem d_T_getVote_13 : decode c_T_getVote 13 = .ok (.iload_n 3, 1) := by decide +kernel
theorem d_T_getVote_14 : decode c_T_getVote 14 = .ok (.dup2, 1) := by decide +kernel
theorem d_T_getVote_15 : decode c_T_getVote 15 = .ok (.iaload, 1) := by decide +kernel
theorem d_T_getVote_16 : decode c_T_getVote 16 = .ok (.iconst 1, 1) := by decide +kernel
theorem d_T_getVote_17 : decode c_T_getVote 17 = .ok (.iload_n 2, 1) := by decide +kernel
theorem d_T_getVote_18 : decode c_T_getVote 18 = .ok (.ishl, 1) := by decide +kernel
theorem d_T_getVote_19 : decode c_T_getVote 19 = .ok (.ior, 1) := by decide +kernel
theorem d_T_getVote_20 : decode c_T_getVote 20 = .ok (.iastore, 1) := by decide +kernel
theorem d_T_getVote_21 : decode c_T_getVote 21 = .ok (.aload 4, 2) := by decide +kernel
theorem d_T_getVote_23 : decode c_T_getVote 23 = .ok (.getfield 246, 3) := by decide +kernel
theorem d_T_getVote_26 : decode c_T_getVote 26 = .ok (.iload_n 3, 1) := by decide +kernel
theorem d_T_getVote_27 : decode c_T_getVote 27 = .ok (.iaload, 1) := by decide +kernel
theorem d_T_getVote_28 : decode c_T_getVote 28 = .ok (.invokestatic 206, 3) := by decide +kernel
theorem d_T_getVote_31 : decode c_T_getVote 31 = .ok (.aload_n 0, 1) := by decide +kernel
theorem d_T_getVote_32 : decode c_T_getVote 32 = .ok (.getfield 13, 3) := by decide +kernel
theorem d_T_getVote_35 : decode c_T_getVote 35 = .ok (.if_icmp .lt 13, 3) := by decide +kernel
theorem d_T_getVote_38 : decode c_T_getVote 38 = .ok (.aload 4, 2) := by decide +kernel
theorem d_T_getVote_40 : decode c_T_getVote 40 = .ok (.iload_n 3, 1) := by decide +kernel
theorem d_T_getVote_41 : decode c_T_getVote 41 = .ok (.aload_n 0, 1) := by decide +kernel
theorem d_T_getVote_42 : decode c_T_getVote 42 = .ok (.getfield 53, 3) := by decide +kernel
theorem d_T_getVote_45 : decode c_T_getVote 45 = .ok (.invokevirtual 236, 3) := by decide +kernel
theorem d_T_getVote_48 : decode c_T_getVote 48 = .ok (.return_, 1) := by decide +kernel
theorem d_T_getNewView_0 : decode c_T_getNewView 0 = .ok (.aload_n 0, 1) := by decide +kernel
theorem d_T_getNewView_1 : decode c_T_getNewView 1 = .ok (.getfield 36, 3) := by decide +kernel
theorem d_T_getNewView_4 : decode c_T_getNewView 4 = .ok (.iload_n 1, 1) := by decide +kernel
theorem d_T_getNewView_5 : decode c_T_getNewView 5 = .ok (.aaload, 1) := by decide +kernel
theorem d_T_getNewView_6 : decode c_T_getNewView 6 = .ok (.astore 5, 2) := by decide +kernel
theorem d_T_getNewView_8 : decode c_T_getNewView 8 = .ok (.aload 5, 2) := by decide +kernel
theorem d_T_getNewView_10 : decode c_T_getNewView 10 = .ok (.getfield 249, 3) := by decide +kernel
theorem d_T_getNewView_13 : decode c_T_getNewView 13 = .ok (.iload_n 2, 1) := by decide +kernel
theorem d_T_getNewView_14 : decode c_T_getNewView 14 = .ok (.aload 5, 2) := by decide +kernel
theorem d_T_getNewView_16 : decode c_T_getNewView 16 = .ok (.getfield 249, 3) := by decide +kernel
theorem d_T_getNewView_19 : decode c_T_getNewView 19 = .ok (.iload_n 2, 1) := by decide +kernel
theorem d_T_getNewView_20 : decode c_T_getNewView 20 = .ok (.iaload, 1) := by decide +kernel
theorem d_T_getNewView_21 : decode c_T_getNewView 21 = .ok (.iload_n 3, 1) := by decide +kernel
theorem d_T_getNewView_22 : decode c_T_getNewView 22 = .ok (.invokestatic 16, 3) := by decide +kernel
theorem d_T_getNewView_25 : decode c_T_getNewView 25 = .ok (.iastore, 1) := by decide +kernel
theorem d_T_getNewView_26 : decode c_T_getNewView 26 = .ok (.aload 5, 2) := by decide +kernel
theorem d_T_getNewView_28 : decode c_T_getNewView 28 = .ok (.iload 4, 2) := by decide +kernel
theorem d_T_getNewView_30 : decode c_T_getNewView 30 = .ok (.aload_n 0, 1) := by decide +kernel
theorem d_T_getNewView_31 : decode c_T_getNewView 31 = .ok (.getfield 53, 3) := by decide +kernel
