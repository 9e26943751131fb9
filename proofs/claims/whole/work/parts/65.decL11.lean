theorem d_L_law_716 : decode code 716 = .ok (.iload_n 3, 1) := by decide +kernel
theorem d_L_law_717 : decode code 717 = .ok (.iconst 1, 1) := by decide +kernel
theorem d_L_law_718 : decode code 718 = .ok (.iadd, 1) := by decide +kernel
theorem d_L_law_719 : decode code 719 = .ok (.iaload, 1) := by decide +kernel
theorem d_L_law_720 : decode code 720 = .ok (.aload_n 0, 1) := by decide +kernel
theorem d_L_law_721 : decode code 721 = .ok (.iload_n 3, 1) := by decide +kernel
theorem d_L_law_722 : decode code 722 = .ok (.iconst 2, 1) := by decide +kernel
theorem d_L_law_723 : decode code 723 = .ok (.iadd, 1) := by decide +kernel
theorem d_L_law_724 : decode code 724 = .ok (.iaload, 1) := by decide +kernel
theorem d_L_law_725 : decode code 725 = .ok (.invokevirtual 105, 3) := by decide +kernel
theorem d_L_law_728 : decode code 728 = .ok (.if_icmp .eq 18, 3) := by decide +kernel
theorem d_L_law_731 : decode code 731 = .ok (.iconst 0, 1) := by decide +kernel
theorem d_L_law_732 : decode code 732 = .ok (.ireturn, 1) := by decide +kernel
theorem d_L_law_733 : decode code 733 = .ok (.aload_n 1, 1) := by decide +kernel
theorem d_L_law_734 : decode code 734 = .ok (.invokevirtual 106, 3) := by decide +kernel
theorem d_L_law_737 : decode code 737 = .ok (.aload_n 2, 1) := by decide +kernel
theorem d_L_law_738 : decode code 738 = .ok (.invokevirtual 109, 3) := by decide +kernel
theorem d_L_law_741 : decode code 741 = .ok (.if_icmp .eq 5, 3) := by decide +kernel
theorem d_L_law_744 : decode code 744 = .ok (.iconst 0, 1) := by decide +kernel
theorem d_L_law_745 : decode code 745 = .ok (.ireturn, 1) := by decide +kernel
theorem d_L_law_746 : decode code 746 = .ok (.iinc 3 5, 3) := by decide +kernel
theorem d_L_law_749 : decode code 749 = .ok (.goto (-701), 3) := by decide +kernel
theorem d_L_law_752 : decode code 752 = .ok (.iconst 1, 1) := by decide +kernel
theorem d_L_law_753 : decode code 753 = .ok (.ireturn, 1) := by decide +kernel
