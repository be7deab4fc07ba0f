theorem dX0_init_0 : decode cX0_init 0 = .ok (.aload_n 0, 1) := by decide +kernel
theorem dX0_init_1 : decode cX0_init 1 = .ok (.invokespecial 3, 3) := by decide +kernel
theorem dX0_init_4 : decode cX0_init 4 = .ok (.aload_n 0, 1) := by decide +kernel
theorem dX0_init_5 : decode cX0_init 5 = .ok (.bipush 8, 2) := by decide +kernel
theorem dX0_init_7 : decode cX0_init 7 = .ok (.newarray .int, 2) := by decide +kernel
theorem dX0_init_9 : decode cX0_init 9 = .ok (.putfield 9, 3) := by decide +kernel
theorem dX0_init_12 : decode cX0_init 12 = .ok (.aload_n 0, 1) := by decide +kernel
theorem dX0_init_13 : decode cX0_init 13 = .ok (.bipush 8, 2) := by decide +kernel
theorem dX0_init_15 : decode cX0_init 15 = .ok (.newarray .int, 2) := by decide +kernel
theorem dX0_init_17 : decode cX0_init 17 = .ok (.putfield 15, 3) := by decide +kernel
theorem dX0_init_20 : decode cX0_init 20 = .ok (.aload_n 0, 1) := by decide +kernel
theorem dX0_init_21 : decode cX0_init 21 = .ok (.iconst 0, 1) := by decide +kernel
theorem dX0_init_22 : decode cX0_init 22 = .ok (.putfield 18, 3) := by decide +kernel
theorem dX0_init_25 : decode cX0_init 25 = .ok (.return_, 1) := by decide +kernel
theorem dX0_choiceOf_0 : decode cX0_choiceOf 0 = .ok (.aload_n 0, 1) := by decide +kernel
theorem dX0_choiceOf_1 : decode cX0_choiceOf 1 = .ok (.iload_n 2, 1) := by decide +kernel
theorem dX0_choiceOf_2 : decode cX0_choiceOf 2 = .ok (.invokevirtual 22, 3) := by decide +kernel
theorem dX0_choiceOf_5 : decode cX0_choiceOf 5 = .ok (.ifCond .eq 13, 3) := by decide +kernel
theorem dX0_choiceOf_8 : decode cX0_choiceOf 8 = .ok (.aload_n 0, 1) := by decide +kernel
theorem dX0_choiceOf_9 : decode cX0_choiceOf 9 = .ok (.getfield 28, 3) := by decide +kernel
theorem dX0_choiceOf_12 : decode cX0_choiceOf 12 = .ok (.iload_n 2, 1) := by decide +kernel
theorem dX0_choiceOf_13 : decode cX0_choiceOf 13 = .ok (.iaload, 1) := by decide +kernel
theorem dX0_choiceOf_14 : decode cX0_choiceOf 14 = .ok (.iconst 2, 1) := by decide +kernel
theorem dX0_choiceOf_15 : decode cX0_choiceOf 15 = .ok (.if_icmp .ne 5, 3) := by decide +kernel
theorem dX0_choiceOf_18 : decode cX0_choiceOf 18 = .ok (.iconst (-1), 1) := by decide +kernel
theorem dX0_choiceOf_19 : decode cX0_choiceOf 19 = .ok (.ireturn, 1) := by decide +kernel
theorem dX0_choiceOf_20 : decode cX0_choiceOf 20 = .ok (.aload_n 0, 1) := by decide +kernel
theorem dX0_choiceOf_21 : decode cX0_choiceOf 21 = .ok (.getfield 28, 3) := by decide +kernel
theorem dX0_choiceOf_24 : decode cX0_choiceOf 24 = .ok (.iload_n 2, 1) := by decide +kernel
theorem dX0_choiceOf_25 : decode cX0_choiceOf 25 = .ok (.iaload, 1) := by decide +kernel
theorem dX0_choiceOf_26 : decode cX0_choiceOf 26 = .ok (.iconst 3, 1) := by decide +kernel
theorem dX0_choiceOf_27 : decode cX0_choiceOf 27 = .ok (.if_icmp .ne 10, 3) := by decide +kernel
theorem dX0_choiceOf_30 : decode cX0_choiceOf 30 = .ok (.aload_n 1, 1) := by decide +kernel
theorem dX0_choiceOf_31 : decode cX0_choiceOf 31 = .ok (.aload_n 0, 1) := by decide +kernel
theorem dX0_choiceOf_32 : decode cX0_choiceOf 32 = .ok (.iload_n 2, 1) := by decide +kernel
theorem dX0_choiceOf_33 : decode cX0_choiceOf 33 = .ok (.invokevirtual 31, 3) := by decide +kernel
theorem dX0_choiceOf_36 : decode cX0_choiceOf 36 = .ok (.ireturn, 1) := by decide +kernel
theorem dX0_choiceOf_37 : decode cX0_choiceOf 37 = .ok (.aload_n 1, 1) := by decide +kernel
theorem dX0_choiceOf_38 : decode cX0_choiceOf 38 = .ok (.aload_n 0, 1) := by decide +kernel
theorem dX0_choiceOf_39 : decode cX0_choiceOf 39 = .ok (.iload_n 2, 1) := by decide +kernel
theorem dX0_choiceOf_40 : decode cX0_choiceOf 40 = .ok (.invokevirtual 37, 3) := by decide +kernel
theorem dX0_choiceOf_43 : decode cX0_choiceOf 43 = .ok (.ifCond .eq 12, 3) := by decide +kernel
theorem dX0_choiceOf_46 : decode cX0_choiceOf 46 = .ok (.aload_n 1, 1) := by decide +kernel
theorem dX0_choiceOf_47 : decode cX0_choiceOf 47 = .ok (.aload_n 0, 1) := by decide +kernel
theorem dX0_choiceOf_48 : decode cX0_choiceOf 48 = .ok (.iconst (-1), 1) := by decide +kernel
theorem dX0_choiceOf_49 : decode cX0_choiceOf 49 = .ok (.invokevirtual 31, 3) := by decide +kernel
theorem dX0_choiceOf_52 : decode cX0_choiceOf 52 = .ok (.goto 4, 3) := by decide +kernel
theorem dX0_choiceOf_55 : decode cX0_choiceOf 55 = .ok (.iload_n 2, 1) := by decide +kernel
theorem dX0_choiceOf_56 : decode cX0_choiceOf 56 = .ok (.ireturn, 1) := by decide +kernel
theorem dX0_choose_0 : decode cX0_choose 0 = .ok (.aload_n 0, 1) := by decide +kernel
theorem dX0_choose_1 : decode cX0_choose 1 = .ok (.aload_n 1, 1) := by decide +kernel
theorem dX0_choose_2 : decode cX0_choose 2 = .ok (.getfield 41, 3) := by decide +kernel
theorem dX0_choose_5 : decode cX0_choose 5 = .ok (.putfield 18, 3) := by decide +kernel
theorem dX0_choose_8 : decode cX0_choose 8 = .ok (.iconst 0, 1) := by decide +kernel
theorem dX0_choose_9 : decode cX0_choose 9 = .ok (.istore_n 3, 1) := by decide +kernel
theorem dX0_choose_10 : decode cX0_choose 10 = .ok (.iload_n 3, 1) := by decide +kernel
theorem dX0_choose_11 : decode cX0_choose 11 = .ok (.aload_n 0, 1) := by decide +kernel
theorem dX0_choose_12 : decode cX0_choose 12 = .ok (.getfield 18, 3) := by decide +kernel
theorem dX0_choose_15 : decode cX0_choose 15 = .ok (.if_icmp .ge 21, 3) := by decide +kernel
theorem dX0_choose_18 : decode cX0_choose 18 = .ok (.aload_n 0, 1) := by decide +kernel
theorem dX0_choose_19 : decode cX0_choose 19 = .ok (.getfield 9, 3) := by decide +kernel
theorem dX0_choose_22 : decode cX0_choose 22 = .ok (.iload_n 3, 1) := by decide +kernel
theorem dX0_choose_23 : decode cX0_choose 23 = .ok (.aload_n 1, 1) := by decide +kernel
theorem dX0_choose_24 : decode cX0_choose 24 = .ok (.aload_n 2, 1) := by decide +kernel
theorem dX0_choose_25 : decode cX0_choose 25 = .ok (.iload_n 3, 1) := by decide +kernel
theorem dX0_choose_26 : decode cX0_choose 26 = .ok (.invokestatic 42, 3) := by decide +kernel
theorem dX0_choose_29 : decode cX0_choose 29 = .ok (.iastore, 1) := by decide +kernel
theorem dX0_choose_30 : decode cX0_choose 30 = .ok (.iinc 3 1, 3) := by decide +kernel
theorem dX0_choose_33 : decode cX0_choose 33 = .ok (.goto (-23), 3) := by decide +kernel
theorem dX0_choose_36 : decode cX0_choose 36 = .ok (.return_, 1) := by decide +kernel
theorem dX0_tally_0 : decode cX0_tally 0 = .ok (.aload_n 0, 1) := by decide +kernel
theorem dX0_tally_1 : decode cX0_tally 1 = .ok (.aload_n 1, 1) := by decide +kernel
theorem dX0_tally_2 : decode cX0_tally 2 = .ok (.iload_n 2, 1) := by decide +kernel
theorem dX0_tally_3 : decode cX0_tally 3 = .ok (.iconst 0, 1) := by decide +kernel
theorem dX0_tally_4 : decode cX0_tally 4 = .ok (.iconst (-1), 1) := by decide +kernel
theorem dX0_tally_5 : decode cX0_tally 5 = .ok (.invokevirtual 46, 3) := by decide +kernel
theorem dX0_tally_8 : decode cX0_tally 8 = .ok (.return_, 1) := by decide +kernel
theorem dX0_tallyTurned_0 : decode cX0_tallyTurned 0 = .ok (.aload_n 0, 1) := by decide +kernel
theorem dX0_tallyTurned_1 : decode cX0_tallyTurned 1 = .ok (.aload_n 1, 1) := by decide +kernel
theorem dX0_tallyTurned_2 : decode cX0_tallyTurned 2 = .ok (.iconst 0, 1) := by decide +kernel
theorem dX0_tallyTurned_3 : decode cX0_tallyTurned 3 = .ok (.iload_n 2, 1) := by decide +kernel
theorem dX0_tallyTurned_4 : decode cX0_tallyTurned 4 = .ok (.iload_n 3, 1) := by decide +kernel
theorem dX0_tallyTurned_5 : decode cX0_tallyTurned 5 = .ok (.invokevirtual 46, 3) := by decide +kernel
theorem dX0_tallyTurned_8 : decode cX0_tallyTurned 8 = .ok (.return_, 1) := by decide +kernel
theorem dX0_tallyAll_0 : decode cX0_tallyAll 0 = .ok (.iconst 0, 1) := by decide +kernel
theorem dX0_tallyAll_1 : decode cX0_tallyAll 1 = .ok (.istore 5, 2) := by decide +kernel
theorem dX0_tallyAll_3 : decode cX0_tallyAll 3 = .ok (.iload 5, 2) := by decide +kernel
theorem dX0_tallyAll_5 : decode cX0_tallyAll 5 = .ok (.aload_n 0, 1) := by decide +kernel
theorem dX0_tallyAll_6 : decode cX0_tallyAll 6 = .ok (.getfield 18, 3) := by decide +kernel
theorem dX0_tallyAll_9 : decode cX0_tallyAll 9 = .ok (.if_icmp .ge 17, 3) := by decide +kernel
theorem dX0_tallyAll_12 : decode cX0_tallyAll 12 = .ok (.aload_n 0, 1) := by decide +kernel
theorem dX0_tallyAll_13 : decode cX0_tallyAll 13 = .ok (.getfield 15, 3) := by decide +kernel
theorem dX0_tallyAll_16 : decode cX0_tallyAll 16 = .ok (.iload 5, 2) := by decide +kernel
theorem dX0_tallyAll_18 : decode cX0_tallyAll 18 = .ok (.iconst 0, 1) := by decide +kernel
theorem dX0_tallyAll_19 : decode cX0_tallyAll 19 = .ok (.iastore, 1) := by decide +kernel
theorem dX0_tallyAll_20 : decode cX0_tallyAll 20 = .ok (.iinc 5 1, 3) := by decide +kernel
theorem dX0_tallyAll_23 : decode cX0_tallyAll 23 = .ok (.goto (-20), 3) := by decide +kernel
theorem dX0_tallyAll_26 : decode cX0_tallyAll 26 = .ok (.iconst 0, 1) := by decide +kernel
theorem dX0_tallyAll_27 : decode cX0_tallyAll 27 = .ok (.istore 5, 2) := by decide +kernel
theorem dX0_tallyAll_29 : decode cX0_tallyAll 29 = .ok (.iload 5, 2) := by decide +kernel
theorem dX0_tallyAll_31 : decode cX0_tallyAll 31 = .ok (.aload_n 0, 1) := by decide +kernel
theorem dX0_tallyAll_32 : decode cX0_tallyAll 32 = .ok (.getfield 18, 3) := by decide +kernel
theorem dX0_tallyAll_35 : decode cX0_tallyAll 35 = .ok (.if_icmp .ge 93, 3) := by decide +kernel
theorem dX0_tallyAll_38 : decode cX0_tallyAll 38 = .ok (.iload_n 3, 1) := by decide +kernel
theorem dX0_tallyAll_39 : decode cX0_tallyAll 39 = .ok (.iload 5, 2) := by decide +kernel
theorem dX0_tallyAll_41 : decode cX0_tallyAll 41 = .ok (.ishr, 1) := by decide +kernel
theorem dX0_tallyAll_42 : decode cX0_tallyAll 42 = .ok (.iconst 1, 1) := by decide +kernel
theorem dX0_tallyAll_43 : decode cX0_tallyAll 43 = .ok (.iand, 1) := by decide +kernel
theorem dX0_tallyAll_44 : decode cX0_tallyAll 44 = .ok (.ifCond .eq 8, 3) := by decide +kernel
theorem dX0_tallyAll_47 : decode cX0_tallyAll 47 = .ok (.iload 4, 2) := by decide +kernel
theorem dX0_tallyAll_49 : decode cX0_tallyAll 49 = .ok (.goto 10, 3) := by decide +kernel
theorem dX0_tallyAll_52 : decode cX0_tallyAll 52 = .ok (.aload_n 0, 1) := by decide +kernel
theorem dX0_tallyAll_53 : decode cX0_tallyAll 53 = .ok (.getfield 9, 3) := by decide +kernel
theorem dX0_tallyAll_56 : decode cX0_tallyAll 56 = .ok (.iload 5, 2) := by decide +kernel
theorem dX0_tallyAll_58 : decode cX0_tallyAll 58 = .ok (.iaload, 1) := by decide +kernel
theorem dX0_tallyAll_59 : decode cX0_tallyAll 59 = .ok (.istore 6, 2) := by decide +kernel
theorem dX0_tallyAll_61 : decode cX0_tallyAll 61 = .ok (.iload_n 2, 1) := by decide +kernel
theorem dX0_tallyAll_62 : decode cX0_tallyAll 62 = .ok (.iload 5, 2) := by decide +kernel
theorem dX0_tallyAll_64 : decode cX0_tallyAll 64 = .ok (.ishr, 1) := by decide +kernel
theorem dX0_tallyAll_65 : decode cX0_tallyAll 65 = .ok (.iconst 1, 1) := by decide +kernel
theorem dX0_tallyAll_66 : decode cX0_tallyAll 66 = .ok (.iand, 1) := by decide +kernel
theorem dX0_tallyAll_67 : decode cX0_tallyAll 67 = .ok (.ifCond .ne 16, 3) := by decide +kernel
theorem dX0_tallyAll_70 : decode cX0_tallyAll 70 = .ok (.iload 6, 2) := by decide +kernel
theorem dX0_tallyAll_72 : decode cX0_tallyAll 72 = .ok (.aload_n 1, 1) := by decide +kernel
theorem dX0_tallyAll_73 : decode cX0_tallyAll 73 = .ok (.getfield 50, 3) := by decide +kernel
theorem dX0_tallyAll_76 : decode cX0_tallyAll 76 = .ok (.if_icmp .eq 7, 3) := by decide +kernel
theorem dX0_tallyAll_79 : decode cX0_tallyAll 79 = .ok (.iconst 1, 1) := by decide +kernel
theorem dX0_tallyAll_80 : decode cX0_tallyAll 80 = .ok (.goto 4, 3) := by decide +kernel
theorem dX0_tallyAll_83 : decode cX0_tallyAll 83 = .ok (.iconst 0, 1) := by decide +kernel
theorem dX0_tallyAll_84 : decode cX0_tallyAll 84 = .ok (.istore 7, 2) := by decide +kernel
theorem dX0_tallyAll_86 : decode cX0_tallyAll 86 = .ok (.iload 7, 2) := by decide +kernel
theorem dX0_tallyAll_88 : decode cX0_tallyAll 88 = .ok (.ifCond .eq 34, 3) := by decide +kernel
theorem dX0_tallyAll_91 : decode cX0_tallyAll 91 = .ok (.iload 6, 2) := by decide +kernel
theorem dX0_tallyAll_93 : decode cX0_tallyAll 93 = .ok (.ifCond .lt 29, 3) := by decide +kernel
theorem dX0_tallyAll_96 : decode cX0_tallyAll 96 = .ok (.iload 6, 2) := by decide +kernel
theorem dX0_tallyAll_98 : decode cX0_tallyAll 98 = .ok (.aload_n 0, 1) := by decide +kernel
theorem dX0_tallyAll_99 : decode cX0_tallyAll 99 = .ok (.getfield 18, 3) := by decide +kernel
theorem dX0_tallyAll_102 : decode cX0_tallyAll 102 = .ok (.if_icmp .ge 20, 3) := by decide +kernel
theorem dX0_tallyAll_105 : decode cX0_tallyAll 105 = .ok (.aload_n 0, 1) := by decide +kernel
theorem dX0_tallyAll_106 : decode cX0_tallyAll 106 = .ok (.getfield 15, 3) := by decide +kernel
theorem dX0_tallyAll_109 : decode cX0_tallyAll 109 = .ok (.iload 6, 2) := by decide +kernel
theorem dX0_tallyAll_111 : decode cX0_tallyAll 111 = .ok (.dup2, 1) := by decide +kernel
theorem dX0_tallyAll_112 : decode cX0_tallyAll 112 = .ok (.iaload, 1) := by decide +kernel
theorem dX0_tallyAll_113 : decode cX0_tallyAll 113 = .ok (.aload_n 1, 1) := by decide +kernel
theorem dX0_tallyAll_114 : decode cX0_tallyAll 114 = .ok (.getfield 53, 3) := by decide +kernel
theorem dX0_tallyAll_117 : decode cX0_tallyAll 117 = .ok (.iload 5, 2) := by decide +kernel
theorem dX0_tallyAll_119 : decode cX0_tallyAll 119 = .ok (.iaload, 1) := by decide +kernel
theorem dX0_tallyAll_120 : decode cX0_tallyAll 120 = .ok (.iadd, 1) := by decide +kernel
theorem dX0_tallyAll_121 : decode cX0_tallyAll 121 = .ok (.iastore, 1) := by decide +kernel
theorem dX0_tallyAll_122 : decode cX0_tallyAll 122 = .ok (.iinc 5 1, 3) := by decide +kernel
theorem dX0_tallyAll_125 : decode cX0_tallyAll 125 = .ok (.goto (-96), 3) := by decide +kernel
theorem dX0_tallyAll_128 : decode cX0_tallyAll 128 = .ok (.return_, 1) := by decide +kernel
theorem dX0_winner_0 : decode cX0_winner 0 = .ok (.iconst (-1), 1) := by decide +kernel
theorem dX0_winner_1 : decode cX0_winner 1 = .ok (.istore_n 1, 1) := by decide +kernel
theorem dX0_winner_2 : decode cX0_winner 2 = .ok (.iconst 0, 1) := by decide +kernel
theorem dX0_winner_3 : decode cX0_winner 3 = .ok (.istore_n 2, 1) := by decide +kernel
theorem dX0_winner_4 : decode cX0_winner 4 = .ok (.iconst 0, 1) := by decide +kernel
theorem dX0_winner_5 : decode cX0_winner 5 = .ok (.istore_n 3, 1) := by decide +kernel
theorem dX0_winner_6 : decode cX0_winner 6 = .ok (.iload_n 3, 1) := by decide +kernel
theorem dX0_winner_7 : decode cX0_winner 7 = .ok (.aload_n 0, 1) := by decide +kernel
theorem dX0_winner_8 : decode cX0_winner 8 = .ok (.getfield 18, 3) := by decide +kernel
theorem dX0_winner_11 : decode cX0_winner 11 = .ok (.if_icmp .ge 43, 3) := by decide +kernel
theorem dX0_winner_14 : decode cX0_winner 14 = .ok (.aload_n 0, 1) := by decide +kernel
theorem dX0_winner_15 : decode cX0_winner 15 = .ok (.getfield 15, 3) := by decide +kernel
theorem dX0_winner_18 : decode cX0_winner 18 = .ok (.iload_n 3, 1) := by decide +kernel
theorem dX0_winner_19 : decode cX0_winner 19 = .ok (.iaload, 1) := by decide +kernel
theorem dX0_winner_20 : decode cX0_winner 20 = .ok (.iload_n 2, 1) := by decide +kernel
theorem dX0_winner_21 : decode cX0_winner 21 = .ok (.if_icmp .le 15, 3) := by decide +kernel
theorem dX0_winner_24 : decode cX0_winner 24 = .ok (.aload_n 0, 1) := by decide +kernel
theorem dX0_winner_25 : decode cX0_winner 25 = .ok (.getfield 15, 3) := by decide +kernel
theorem dX0_winner_28 : decode cX0_winner 28 = .ok (.iload_n 3, 1) := by decide +kernel
theorem dX0_winner_29 : decode cX0_winner 29 = .ok (.iaload, 1) := by decide +kernel
theorem dX0_winner_30 : decode cX0_winner 30 = .ok (.istore_n 2, 1) := by decide +kernel
theorem dX0_winner_31 : decode cX0_winner 31 = .ok (.iload_n 3, 1) := by decide +kernel
theorem dX0_winner_32 : decode cX0_winner 32 = .ok (.istore_n 1, 1) := by decide +kernel
theorem dX0_winner_33 : decode cX0_winner 33 = .ok (.goto 15, 3) := by decide +kernel
theorem dX0_winner_36 : decode cX0_winner 36 = .ok (.aload_n 0, 1) := by decide +kernel
theorem dX0_winner_37 : decode cX0_winner 37 = .ok (.getfield 15, 3) := by decide +kernel
theorem dX0_winner_40 : decode cX0_winner 40 = .ok (.iload_n 3, 1) := by decide +kernel
theorem dX0_winner_41 : decode cX0_winner 41 = .ok (.iaload, 1) := by decide +kernel
theorem dX0_winner_42 : decode cX0_winner 42 = .ok (.iload_n 2, 1) := by decide +kernel
theorem dX0_winner_43 : decode cX0_winner 43 = .ok (.if_icmp .ne 5, 3) := by decide +kernel
theorem dX0_winner_46 : decode cX0_winner 46 = .ok (.iconst (-1), 1) := by decide +kernel
theorem dX0_winner_47 : decode cX0_winner 47 = .ok (.istore_n 1, 1) := by decide +kernel
theorem dX0_winner_48 : decode cX0_winner 48 = .ok (.iinc 3 1, 3) := by decide +kernel
theorem dX0_winner_51 : decode cX0_winner 51 = .ok (.goto (-45), 3) := by decide +kernel
theorem dX0_winner_54 : decode cX0_winner 54 = .ok (.iload_n 1, 1) := by decide +kernel
theorem dX0_winner_55 : decode cX0_winner 55 = .ok (.ireturn, 1) := by decide +kernel
theorem dX1_init_0 : decode cX1_init 0 = .ok (.aload_n 0, 1) := by decide +kernel
theorem dX1_init_1 : decode cX1_init 1 = .ok (.invokespecial 3, 3) := by decide +kernel
theorem dX1_init_4 : decode cX1_init 4 = .ok (.aload_n 0, 1) := by decide +kernel
theorem dX1_init_5 : decode cX1_init 5 = .ok (.bipush 8, 2) := by decide +kernel
theorem dX1_init_7 : decode cX1_init 7 = .ok (.newarray .int, 2) := by decide +kernel
theorem dX1_init_9 : decode cX1_init 9 = .ok (.putfield 9, 3) := by decide +kernel
theorem dX1_init_12 : decode cX1_init 12 = .ok (.aload_n 0, 1) := by decide +kernel
theorem dX1_init_13 : decode cX1_init 13 = .ok (.bipush 8, 2) := by decide +kernel
theorem dX1_init_15 : decode cX1_init 15 = .ok (.newarray .int, 2) := by decide +kernel
theorem dX1_init_17 : decode cX1_init 17 = .ok (.putfield 15, 3) := by decide +kernel
theorem dX1_init_20 : decode cX1_init 20 = .ok (.aload_n 0, 1) := by decide +kernel
theorem dX1_init_21 : decode cX1_init 21 = .ok (.iconst (-1), 1) := by decide +kernel
theorem dX1_init_22 : decode cX1_init 22 = .ok (.putfield 18, 3) := by decide +kernel
theorem dX1_init_25 : decode cX1_init 25 = .ok (.aload_n 0, 1) := by decide +kernel
theorem dX1_init_26 : decode cX1_init 26 = .ok (.iconst 0, 1) := by decide +kernel
theorem dX1_init_27 : decode cX1_init 27 = .ok (.putfield 22, 3) := by decide +kernel
theorem dX1_init_30 : decode cX1_init 30 = .ok (.return_, 1) := by decide +kernel
theorem dX1_begin_0 : decode cX1_begin 0 = .ok (.aload_n 1, 1) := by decide +kernel
theorem dX1_begin_1 : decode cX1_begin 1 = .ok (.getfield 25, 3) := by decide +kernel
theorem dX1_begin_4 : decode cX1_begin 4 = .ok (.iconst 0, 1) := by decide +kernel
theorem dX1_begin_5 : decode cX1_begin 5 = .ok (.aload_n 0, 1) := by decide +kernel
theorem dX1_begin_6 : decode cX1_begin 6 = .ok (.getfield 9, 3) := by decide +kernel
theorem dX1_begin_9 : decode cX1_begin 9 = .ok (.iconst 0, 1) := by decide +kernel
theorem dX1_begin_10 : decode cX1_begin 10 = .ok (.bipush 8, 2) := by decide +kernel
theorem dX1_begin_12 : decode cX1_begin 12 = .ok (.invokestatic 28, 3) := by decide +kernel
theorem dX1_begin_15 : decode cX1_begin 15 = .ok (.aload_n 1, 1) := by decide +kernel
theorem dX1_begin_16 : decode cX1_begin 16 = .ok (.getfield 34, 3) := by decide +kernel
theorem dX1_begin_19 : decode cX1_begin 19 = .ok (.iconst 0, 1) := by decide +kernel
theorem dX1_begin_20 : decode cX1_begin 20 = .ok (.aload_n 0, 1) := by decide +kernel
theorem dX1_begin_21 : decode cX1_begin 21 = .ok (.getfield 15, 3) := by decide +kernel
theorem dX1_begin_24 : decode cX1_begin 24 = .ok (.iconst 0, 1) := by decide +kernel
theorem dX1_begin_25 : decode cX1_begin 25 = .ok (.bipush 8, 2) := by decide +kernel
theorem dX1_begin_27 : decode cX1_begin 27 = .ok (.invokestatic 28, 3) := by decide +kernel
theorem dX1_begin_30 : decode cX1_begin 30 = .ok (.aload_n 0, 1) := by decide +kernel
theorem dX1_begin_31 : decode cX1_begin 31 = .ok (.iconst (-1), 1) := by decide +kernel
theorem dX1_begin_32 : decode cX1_begin 32 = .ok (.putfield 18, 3) := by decide +kernel
theorem dX1_begin_35 : decode cX1_begin 35 = .ok (.aload_n 0, 1) := by decide +kernel
theorem dX1_begin_36 : decode cX1_begin 36 = .ok (.iconst 0, 1) := by decide +kernel
theorem dX1_begin_37 : decode cX1_begin 37 = .ok (.putfield 22, 3) := by decide +kernel
theorem dX1_begin_40 : decode cX1_begin 40 = .ok (.return_, 1) := by decide +kernel
theorem dX1_copyFrom_0 : decode cX1_copyFrom 0 = .ok (.aload_n 1, 1) := by decide +kernel
theorem dX1_copyFrom_1 : decode cX1_copyFrom 1 = .ok (.getfield 9, 3) := by decide +kernel
theorem dX1_copyFrom_4 : decode cX1_copyFrom 4 = .ok (.iconst 0, 1) := by decide +kernel
theorem dX1_copyFrom_5 : decode cX1_copyFrom 5 = .ok (.aload_n 0, 1) := by decide +kernel
theorem dX1_copyFrom_6 : decode cX1_copyFrom 6 = .ok (.getfield 9, 3) := by decide +kernel
theorem dX1_copyFrom_9 : decode cX1_copyFrom 9 = .ok (.iconst 0, 1) := by decide +kernel
theorem dX1_copyFrom_10 : decode cX1_copyFrom 10 = .ok (.bipush 8, 2) := by decide +kernel
theorem dX1_copyFrom_12 : decode cX1_copyFrom 12 = .ok (.invokestatic 28, 3) := by decide +kernel
theorem dX1_copyFrom_15 : decode cX1_copyFrom 15 = .ok (.aload_n 1, 1) := by decide +kernel
theorem dX1_copyFrom_16 : decode cX1_copyFrom 16 = .ok (.getfield 15, 3) := by decide +kernel
theorem dX1_copyFrom_19 : decode cX1_copyFrom 19 = .ok (.iconst 0, 1) := by decide +kernel
theorem dX1_copyFrom_20 : decode cX1_copyFrom 20 = .ok (.aload_n 0, 1) := by decide +kernel
theorem dX1_copyFrom_21 : decode cX1_copyFrom 21 = .ok (.getfield 15, 3) := by decide +kernel
theorem dX1_copyFrom_24 : decode cX1_copyFrom 24 = .ok (.iconst 0, 1) := by decide +kernel
theorem dX1_copyFrom_25 : decode cX1_copyFrom 25 = .ok (.bipush 8, 2) := by decide +kernel
theorem dX1_copyFrom_27 : decode cX1_copyFrom 27 = .ok (.invokestatic 28, 3) := by decide +kernel
theorem dX1_copyFrom_30 : decode cX1_copyFrom 30 = .ok (.aload_n 0, 1) := by decide +kernel
theorem dX1_copyFrom_31 : decode cX1_copyFrom 31 = .ok (.aload_n 1, 1) := by decide +kernel
theorem dX1_copyFrom_32 : decode cX1_copyFrom 32 = .ok (.getfield 18, 3) := by decide +kernel
theorem dX1_copyFrom_35 : decode cX1_copyFrom 35 = .ok (.putfield 18, 3) := by decide +kernel
theorem dX1_copyFrom_38 : decode cX1_copyFrom 38 = .ok (.aload_n 0, 1) := by decide +kernel
theorem dX1_copyFrom_39 : decode cX1_copyFrom 39 = .ok (.aload_n 1, 1) := by decide +kernel
theorem dX1_copyFrom_40 : decode cX1_copyFrom 40 = .ok (.getfield 22, 3) := by decide +kernel
theorem dX1_copyFrom_43 : decode cX1_copyFrom 43 = .ok (.putfield 22, 3) := by decide +kernel
theorem dX1_copyFrom_46 : decode cX1_copyFrom 46 = .ok (.return_, 1) := by decide +kernel
theorem dX1_pass_0 : decode cX1_pass 0 = .ok (.aload_n 0, 1) := by decide +kernel
theorem dX1_pass_1 : decode cX1_pass 1 = .ok (.aload_n 1, 1) := by decide +kernel
theorem dX1_pass_2 : decode cX1_pass 2 = .ok (.iload_n 2, 1) := by decide +kernel
theorem dX1_pass_3 : decode cX1_pass 3 = .ok (.invokevirtual 35, 3) := by decide +kernel
theorem dX1_pass_6 : decode cX1_pass 6 = .ok (.pop, 1) := by decide +kernel
theorem dX1_pass_7 : decode cX1_pass 7 = .ok (.iconst 0, 1) := by decide +kernel
theorem dX1_pass_8 : decode cX1_pass 8 = .ok (.istore_n 3, 1) := by decide +kernel
theorem dX1_pass_9 : decode cX1_pass 9 = .ok (.iload_n 3, 1) := by decide +kernel
theorem dX1_pass_10 : decode cX1_pass 10 = .ok (.aload_n 1, 1) := by decide +kernel
theorem dX1_pass_11 : decode cX1_pass 11 = .ok (.getfield 39, 3) := by decide +kernel
theorem dX1_pass_14 : decode cX1_pass 14 = .ok (.if_icmp .ge 27, 3) := by decide +kernel
theorem dX1_pass_17 : decode cX1_pass 17 = .ok (.aload_n 0, 1) := by decide +kernel
theorem dX1_pass_18 : decode cX1_pass 18 = .ok (.getfield 9, 3) := by decide +kernel
theorem dX1_pass_21 : decode cX1_pass 21 = .ok (.iload_n 3, 1) := by decide +kernel
theorem dX1_pass_22 : decode cX1_pass 22 = .ok (.iconst 0, 1) := by decide +kernel
theorem dX1_pass_23 : decode cX1_pass 23 = .ok (.aload_n 0, 1) := by decide +kernel
theorem dX1_pass_24 : decode cX1_pass 24 = .ok (.getfield 9, 3) := by decide +kernel
theorem dX1_pass_27 : decode cX1_pass 27 = .ok (.iload_n 3, 1) := by decide +kernel
theorem dX1_pass_28 : decode cX1_pass 28 = .ok (.iaload, 1) := by decide +kernel
theorem dX1_pass_29 : decode cX1_pass 29 = .ok (.iconst 1, 1) := by decide +kernel
theorem dX1_pass_30 : decode cX1_pass 30 = .ok (.isub, 1) := by decide +kernel
theorem dX1_pass_31 : decode cX1_pass 31 = .ok (.invokestatic 42, 3) := by decide +kernel
theorem dX1_pass_34 : decode cX1_pass 34 = .ok (.iastore, 1) := by decide +kernel
theorem dX1_pass_35 : decode cX1_pass 35 = .ok (.iinc 3 1, 3) := by decide +kernel
theorem dX1_pass_38 : decode cX1_pass 38 = .ok (.goto (-29), 3) := by decide +kernel
theorem dX1_pass_41 : decode cX1_pass 41 = .ok (.aload_n 0, 1) := by decide +kernel
theorem dX1_pass_42 : decode cX1_pass 42 = .ok (.iload_n 2, 1) := by decide +kernel
theorem dX1_pass_43 : decode cX1_pass 43 = .ok (.putfield 18, 3) := by decide +kernel
theorem dX1_pass_46 : decode cX1_pass 46 = .ok (.aload_n 0, 1) := by decide +kernel
theorem dX1_pass_47 : decode cX1_pass 47 = .ok (.dup, 1) := by decide +kernel
theorem dX1_pass_48 : decode cX1_pass 48 = .ok (.getfield 22, 3) := by decide +kernel
theorem dX1_pass_51 : decode cX1_pass 51 = .ok (.iconst 1, 1) := by decide +kernel
theorem dX1_pass_52 : decode cX1_pass 52 = .ok (.iadd, 1) := by decide +kernel
theorem dX1_pass_53 : decode cX1_pass 53 = .ok (.putfield 22, 3) := by decide +kernel
theorem dX1_pass_56 : decode cX1_pass 56 = .ok (.return_, 1) := by decide +kernel
theorem dX1_fall_0 : decode cX1_fall 0 = .ok (.iconst 0, 1) := by decide +kernel
theorem dX1_fall_1 : decode cX1_fall 1 = .ok (.istore_n 3, 1) := by decide +kernel
theorem dX1_fall_2 : decode cX1_fall 2 = .ok (.iload_n 2, 1) := by decide +kernel
theorem dX1_fall_3 : decode cX1_fall 3 = .ok (.istore 4, 2) := by decide +kernel
theorem dX1_fall_5 : decode cX1_fall 5 = .ok (.aload_n 1, 1) := by decide +kernel
theorem dX1_fall_6 : decode cX1_fall 6 = .ok (.getfield 48, 3) := by decide +kernel
theorem dX1_fall_9 : decode cX1_fall 9 = .ok (.istore 5, 2) := by decide +kernel
theorem dX1_fall_11 : decode cX1_fall 11 = .ok (.iconst 0, 1) := by decide +kernel
theorem dX1_fall_12 : decode cX1_fall 12 = .ok (.istore 6, 2) := by decide +kernel
theorem dX1_fall_14 : decode cX1_fall 14 = .ok (.iload 6, 2) := by decide +kernel
theorem dX1_fall_16 : decode cX1_fall 16 = .ok (.bipush 8, 2) := by decide +kernel
theorem dX1_fall_18 : decode cX1_fall 18 = .ok (.if_icmp .ge 91, 3) := by decide +kernel
theorem dX1_fall_21 : decode cX1_fall 21 = .ok (.iload 5, 2) := by decide +kernel
theorem dX1_fall_23 : decode cX1_fall 23 = .ok (.ifCond .le 86, 3) := by decide +kernel
theorem dX1_fall_26 : decode cX1_fall 26 = .ok (.aload_n 1, 1) := by decide +kernel
theorem dX1_fall_27 : decode cX1_fall 27 = .ok (.iload 4, 2) := by decide +kernel
theorem dX1_fall_29 : decode cX1_fall 29 = .ok (.invokevirtual 51, 3) := by decide +kernel
theorem dX1_fall_32 : decode cX1_fall 32 = .ok (.ifCond .eq 77, 3) := by decide +kernel
theorem dX1_fall_35 : decode cX1_fall 35 = .ok (.iload_n 3, 1) := by decide +kernel
theorem dX1_fall_36 : decode cX1_fall 36 = .ok (.iload 4, 2) := by decide +kernel
theorem dX1_fall_38 : decode cX1_fall 38 = .ok (.ishr, 1) := by decide +kernel
theorem dX1_fall_39 : decode cX1_fall 39 = .ok (.iconst 1, 1) := by decide +kernel
theorem dX1_fall_40 : decode cX1_fall 40 = .ok (.iand, 1) := by decide +kernel
theorem dX1_fall_41 : decode cX1_fall 41 = .ok (.ifCond .eq 6, 3) := by decide +kernel
theorem dX1_fall_44 : decode cX1_fall 44 = .ok (.goto 65, 3) := by decide +kernel
theorem dX1_fall_47 : decode cX1_fall 47 = .ok (.iload_n 3, 1) := by decide +kernel
theorem dX1_fall_48 : decode cX1_fall 48 = .ok (.iconst 1, 1) := by decide +kernel
theorem dX1_fall_49 : decode cX1_fall 49 = .ok (.iload 4, 2) := by decide +kernel
theorem dX1_fall_51 : decode cX1_fall 51 = .ok (.ishl, 1) := by decide +kernel
theorem dX1_fall_52 : decode cX1_fall 52 = .ok (.ior, 1) := by decide +kernel
theorem dX1_fall_53 : decode cX1_fall 53 = .ok (.istore_n 3, 1) := by decide +kernel
theorem dX1_fall_54 : decode cX1_fall 54 = .ok (.aload_n 0, 1) := by decide +kernel
theorem dX1_fall_55 : decode cX1_fall 55 = .ok (.getfield 9, 3) := by decide +kernel
theorem dX1_fall_58 : decode cX1_fall 58 = .ok (.iload 4, 2) := by decide +kernel
theorem dX1_fall_60 : decode cX1_fall 60 = .ok (.iaload, 1) := by decide +kernel
theorem dX1_fall_61 : decode cX1_fall 61 = .ok (.iload 5, 2) := by decide +kernel
theorem dX1_fall_63 : decode cX1_fall 63 = .ok (.iadd, 1) := by decide +kernel
theorem dX1_fall_64 : decode cX1_fall 64 = .ok (.istore 7, 2) := by decide +kernel
theorem dX1_fall_66 : decode cX1_fall 66 = .ok (.aload_n 0, 1) := by decide +kernel
theorem dX1_fall_67 : decode cX1_fall 67 = .ok (.getfield 9, 3) := by decide +kernel
theorem dX1_fall_70 : decode cX1_fall 70 = .ok (.iload 4, 2) := by decide +kernel
theorem dX1_fall_72 : decode cX1_fall 72 = .ok (.iload 7, 2) := by decide +kernel
theorem dX1_fall_74 : decode cX1_fall 74 = .ok (.aload_n 1, 1) := by decide +kernel
theorem dX1_fall_75 : decode cX1_fall 75 = .ok (.getfield 55, 3) := by decide +kernel
theorem dX1_fall_78 : decode cX1_fall 78 = .ok (.invokestatic 58, 3) := by decide +kernel
theorem dX1_fall_81 : decode cX1_fall 81 = .ok (.iastore, 1) := by decide +kernel
theorem dX1_fall_82 : decode cX1_fall 82 = .ok (.iload 7, 2) := by decide +kernel
theorem dX1_fall_84 : decode cX1_fall 84 = .ok (.aload_n 0, 1) := by decide +kernel
theorem dX1_fall_85 : decode cX1_fall 85 = .ok (.getfield 9, 3) := by decide +kernel
theorem dX1_fall_88 : decode cX1_fall 88 = .ok (.iload 4, 2) := by decide +kernel
theorem dX1_fall_90 : decode cX1_fall 90 = .ok (.iaload, 1) := by decide +kernel
theorem dX1_fall_91 : decode cX1_fall 91 = .ok (.isub, 1) := by decide +kernel
theorem dX1_fall_92 : decode cX1_fall 92 = .ok (.istore 5, 2) := by decide +kernel
theorem dX1_fall_94 : decode cX1_fall 94 = .ok (.aload_n 1, 1) := by decide +kernel
theorem dX1_fall_95 : decode cX1_fall 95 = .ok (.getfield 61, 3) := by decide +kernel
theorem dX1_fall_98 : decode cX1_fall 98 = .ok (.iload 4, 2) := by decide +kernel
theorem dX1_fall_100 : decode cX1_fall 100 = .ok (.iaload, 1) := by decide +kernel
theorem dX1_fall_101 : decode cX1_fall 101 = .ok (.istore 4, 2) := by decide +kernel
theorem dX1_fall_103 : decode cX1_fall 103 = .ok (.iinc 6 1, 3) := by decide +kernel
theorem dX1_fall_106 : decode cX1_fall 106 = .ok (.goto (-92), 3) := by decide +kernel
theorem dX1_fall_109 : decode cX1_fall 109 = .ok (.iload_n 3, 1) := by decide +kernel
theorem dX1_fall_110 : decode cX1_fall 110 = .ok (.ireturn, 1) := by decide +kernel
theorem dX1_driest_0 : decode cX1_driest 0 = .ok (.iconst (-1), 1) := by decide +kernel
theorem dX1_driest_1 : decode cX1_driest 1 = .ok (.istore_n 3, 1) := by decide +kernel
theorem dX1_driest_2 : decode cX1_driest 2 = .ok (.iconst 0, 1) := by decide +kernel
theorem dX1_driest_3 : decode cX1_driest 3 = .ok (.istore 4, 2) := by decide +kernel
theorem dX1_driest_5 : decode cX1_driest 5 = .ok (.iconst 0, 1) := by decide +kernel
theorem dX1_driest_6 : decode cX1_driest 6 = .ok (.istore 5, 2) := by decide +kernel
theorem dX1_driest_8 : decode cX1_driest 8 = .ok (.iload 5, 2) := by decide +kernel
theorem dX1_driest_10 : decode cX1_driest 10 = .ok (.aload_n 1, 1) := by decide +kernel
theorem dX1_driest_11 : decode cX1_driest 11 = .ok (.getfield 39, 3) := by decide +kernel
theorem dX1_driest_14 : decode cX1_driest 14 = .ok (.if_icmp .ge 44, 3) := by decide +kernel
theorem dX1_driest_17 : decode cX1_driest 17 = .ok (.iload 5, 2) := by decide +kernel
theorem dX1_driest_19 : decode cX1_driest 19 = .ok (.iload_n 2, 1) := by decide +kernel
theorem dX1_driest_20 : decode cX1_driest 20 = .ok (.if_icmp .eq 32, 3) := by decide +kernel
theorem dX1_driest_23 : decode cX1_driest 23 = .ok (.iload_n 3, 1) := by decide +kernel
theorem dX1_driest_24 : decode cX1_driest 24 = .ok (.iconst (-1), 1) := by decide +kernel
theorem dX1_driest_25 : decode cX1_driest 25 = .ok (.if_icmp .eq 15, 3) := by decide +kernel
theorem dX1_driest_28 : decode cX1_driest 28 = .ok (.aload_n 0, 1) := by decide +kernel
theorem dX1_driest_29 : decode cX1_driest 29 = .ok (.getfield 9, 3) := by decide +kernel
theorem dX1_driest_32 : decode cX1_driest 32 = .ok (.iload 5, 2) := by decide +kernel
theorem dX1_driest_34 : decode cX1_driest 34 = .ok (.iaload, 1) := by decide +kernel
theorem dX1_driest_35 : decode cX1_driest 35 = .ok (.iload 4, 2) := by decide +kernel
theorem dX1_driest_37 : decode cX1_driest 37 = .ok (.if_icmp .ge 15, 3) := by decide +kernel
theorem dX1_driest_40 : decode cX1_driest 40 = .ok (.iload 5, 2) := by decide +kernel
theorem dX1_driest_42 : decode cX1_driest 42 = .ok (.istore_n 3, 1) := by decide +kernel
theorem dX1_driest_43 : decode cX1_driest 43 = .ok (.aload_n 0, 1) := by decide +kernel
theorem dX1_driest_44 : decode cX1_driest 44 = .ok (.getfield 9, 3) := by decide +kernel
theorem dX1_driest_47 : decode cX1_driest 47 = .ok (.iload 5, 2) := by decide +kernel
theorem dX1_driest_49 : decode cX1_driest 49 = .ok (.iaload, 1) := by decide +kernel
theorem dX1_driest_50 : decode cX1_driest 50 = .ok (.istore 4, 2) := by decide +kernel
theorem dX1_driest_52 : decode cX1_driest 52 = .ok (.iinc 5 1, 3) := by decide +kernel
theorem dX1_driest_55 : decode cX1_driest 55 = .ok (.goto (-47), 3) := by decide +kernel
theorem dX1_driest_58 : decode cX1_driest 58 = .ok (.iload_n 3, 1) := by decide +kernel
theorem dX1_driest_59 : decode cX1_driest 59 = .ok (.ireturn, 1) := by decide +kernel
theorem dX1_isContent_0 : decode cX1_isContent 0 = .ok (.aload_n 1, 1) := by decide +kernel
theorem dX1_isContent_1 : decode cX1_isContent 1 = .ok (.iload_n 2, 1) := by decide +kernel
theorem dX1_isContent_2 : decode cX1_isContent 2 = .ok (.invokevirtual 51, 3) := by decide +kernel
theorem dX1_isContent_5 : decode cX1_isContent 5 = .ok (.ifCond .eq 21, 3) := by decide +kernel
theorem dX1_isContent_8 : decode cX1_isContent 8 = .ok (.aload_n 0, 1) := by decide +kernel
theorem dX1_isContent_9 : decode cX1_isContent 9 = .ok (.getfield 9, 3) := by decide +kernel
theorem dX1_isContent_12 : decode cX1_isContent 12 = .ok (.iload_n 2, 1) := by decide +kernel
theorem dX1_isContent_13 : decode cX1_isContent 13 = .ok (.iaload, 1) := by decide +kernel
theorem dX1_isContent_14 : decode cX1_isContent 14 = .ok (.aload_n 1, 1) := by decide +kernel
theorem dX1_isContent_15 : decode cX1_isContent 15 = .ok (.iload_n 2, 1) := by decide +kernel
theorem dX1_isContent_16 : decode cX1_isContent 16 = .ok (.invokevirtual 64, 3) := by decide +kernel
theorem dX1_isContent_19 : decode cX1_isContent 19 = .ok (.if_icmp .lt 7, 3) := by decide +kernel
theorem dX1_isContent_22 : decode cX1_isContent 22 = .ok (.iconst 1, 1) := by decide +kernel
theorem dX1_isContent_23 : decode cX1_isContent 23 = .ok (.goto 4, 3) := by decide +kernel
theorem dX1_isContent_26 : decode cX1_isContent 26 = .ok (.iconst 0, 1) := by decide +kernel
theorem dX1_isContent_27 : decode cX1_isContent 27 = .ok (.ireturn, 1) := by decide +kernel
theorem dX1_contentBits_0 : decode cX1_contentBits 0 = .ok (.iconst 0, 1) := by decide +kernel
theorem dX1_contentBits_1 : decode cX1_contentBits 1 = .ok (.istore_n 2, 1) := by decide +kernel
theorem dX1_contentBits_2 : decode cX1_contentBits 2 = .ok (.iconst 0, 1) := by decide +kernel
theorem dX1_contentBits_3 : decode cX1_contentBits 3 = .ok (.istore_n 3, 1) := by decide +kernel
theorem dX1_contentBits_4 : decode cX1_contentBits 4 = .ok (.iload_n 3, 1) := by decide +kernel
theorem dX1_contentBits_5 : decode cX1_contentBits 5 = .ok (.aload_n 1, 1) := by decide +kernel
theorem dX1_contentBits_6 : decode cX1_contentBits 6 = .ok (.getfield 39, 3) := by decide +kernel
theorem dX1_contentBits_9 : decode cX1_contentBits 9 = .ok (.if_icmp .ge 24, 3) := by decide +kernel
theorem dX1_contentBits_12 : decode cX1_contentBits 12 = .ok (.aload_n 0, 1) := by decide +kernel
theorem dX1_contentBits_13 : decode cX1_contentBits 13 = .ok (.aload_n 1, 1) := by decide +kernel
theorem dX1_contentBits_14 : decode cX1_contentBits 14 = .ok (.iload_n 3, 1) := by decide +kernel
theorem dX1_contentBits_15 : decode cX1_contentBits 15 = .ok (.invokevirtual 68, 3) := by decide +kernel
theorem dX1_contentBits_18 : decode cX1_contentBits 18 = .ok (.ifCond .eq 9, 3) := by decide +kernel
theorem dX1_contentBits_21 : decode cX1_contentBits 21 = .ok (.iload_n 2, 1) := by decide +kernel
theorem dX1_contentBits_22 : decode cX1_contentBits 22 = .ok (.iconst 1, 1) := by decide +kernel
theorem dX1_contentBits_23 : decode cX1_contentBits 23 = .ok (.iload_n 3, 1) := by decide +kernel
theorem dX1_contentBits_24 : decode cX1_contentBits 24 = .ok (.ishl, 1) := by decide +kernel
theorem dX1_contentBits_25 : decode cX1_contentBits 25 = .ok (.ior, 1) := by decide +kernel
theorem dX1_contentBits_26 : decode cX1_contentBits 26 = .ok (.istore_n 2, 1) := by decide +kernel
theorem dX1_contentBits_27 : decode cX1_contentBits 27 = .ok (.iinc 3 1, 3) := by decide +kernel
theorem dX1_contentBits_30 : decode cX1_contentBits 30 = .ok (.goto (-26), 3) := by decide +kernel
theorem dX1_contentBits_33 : decode cX1_contentBits 33 = .ok (.iload_n 2, 1) := by decide +kernel
theorem dX1_contentBits_34 : decode cX1_contentBits 34 = .ok (.ireturn, 1) := by decide +kernel
theorem dX1_allWater_0 : decode cX1_allWater 0 = .ok (.iconst 0, 1) := by decide +kernel
theorem dX1_allWater_1 : decode cX1_allWater 1 = .ok (.istore_n 2, 1) := by decide +kernel
theorem dX1_allWater_2 : decode cX1_allWater 2 = .ok (.iconst 0, 1) := by decide +kernel
theorem dX1_allWater_3 : decode cX1_allWater 3 = .ok (.istore_n 3, 1) := by decide +kernel
theorem dX1_allWater_4 : decode cX1_allWater 4 = .ok (.iload_n 3, 1) := by decide +kernel
theorem dX1_allWater_5 : decode cX1_allWater 5 = .ok (.iload_n 1, 1) := by decide +kernel
theorem dX1_allWater_6 : decode cX1_allWater 6 = .ok (.if_icmp .ge 24, 3) := by decide +kernel
theorem dX1_allWater_9 : decode cX1_allWater 9 = .ok (.iload_n 3, 1) := by decide +kernel
theorem dX1_allWater_10 : decode cX1_allWater 10 = .ok (.bipush 8, 2) := by decide +kernel
theorem dX1_allWater_12 : decode cX1_allWater 12 = .ok (.if_icmp .ge 18, 3) := by decide +kernel
theorem dX1_allWater_15 : decode cX1_allWater 15 = .ok (.iload_n 2, 1) := by decide +kernel
theorem dX1_allWater_16 : decode cX1_allWater 16 = .ok (.aload_n 0, 1) := by decide +kernel
theorem dX1_allWater_17 : decode cX1_allWater 17 = .ok (.getfield 9, 3) := by decide +kernel
theorem dX1_allWater_20 : decode cX1_allWater 20 = .ok (.iload_n 3, 1) := by decide +kernel
theorem dX1_allWater_21 : decode cX1_allWater 21 = .ok (.iaload, 1) := by decide +kernel
theorem dX1_allWater_22 : decode cX1_allWater 22 = .ok (.iadd, 1) := by decide +kernel
theorem dX1_allWater_23 : decode cX1_allWater 23 = .ok (.istore_n 2, 1) := by decide +kernel
theorem dX1_allWater_24 : decode cX1_allWater 24 = .ok (.iinc 3 1, 3) := by decide +kernel
theorem dX1_allWater_27 : decode cX1_allWater 27 = .ok (.goto (-23), 3) := by decide +kernel
theorem dX1_allWater_30 : decode cX1_allWater 30 = .ok (.iload_n 2, 1) := by decide +kernel
theorem dX1_allWater_31 : decode cX1_allWater 31 = .ok (.ireturn, 1) := by decide +kernel
theorem dX2_init_0 : decode cX2_init 0 = .ok (.aload_n 0, 1) := by decide +kernel
theorem dX2_init_1 : decode cX2_init 1 = .ok (.invokespecial 3, 3) := by decide +kernel
theorem dX2_init_4 : decode cX2_init 4 = .ok (.aload_n 0, 1) := by decide +kernel
theorem dX2_init_5 : decode cX2_init 5 = .ok (.bipush 8, 2) := by decide +kernel
theorem dX2_init_7 : decode cX2_init 7 = .ok (.anewarray 9, 3) := by decide +kernel
theorem dX2_init_10 : decode cX2_init 10 = .ok (.putfield 11, 3) := by decide +kernel
theorem dX2_init_13 : decode cX2_init 13 = .ok (.aload_n 0, 1) := by decide +kernel
theorem dX2_init_14 : decode cX2_init 14 = .ok (.iconst 0, 1) := by decide +kernel
theorem dX2_init_15 : decode cX2_init 15 = .ok (.putfield 17, 3) := by decide +kernel
theorem dX2_init_18 : decode cX2_init 18 = .ok (.aload_n 0, 1) := by decide +kernel
theorem dX2_init_19 : decode cX2_init 19 = .ok (.iconst 0, 1) := by decide +kernel
theorem dX2_init_20 : decode cX2_init 20 = .ok (.putfield 21, 3) := by decide +kernel
theorem dX2_init_23 : decode cX2_init 23 = .ok (.iconst 0, 1) := by decide +kernel
theorem dX2_init_24 : decode cX2_init 24 = .ok (.istore_n 1, 1) := by decide +kernel
theorem dX2_init_25 : decode cX2_init 25 = .ok (.iload_n 1, 1) := by decide +kernel
theorem dX2_init_26 : decode cX2_init 26 = .ok (.bipush 8, 2) := by decide +kernel
theorem dX2_init_28 : decode cX2_init 28 = .ok (.if_icmp .ge 22, 3) := by decide +kernel
theorem dX2_init_31 : decode cX2_init 31 = .ok (.aload_n 0, 1) := by decide +kernel
theorem dX2_init_32 : decode cX2_init 32 = .ok (.getfield 11, 3) := by decide +kernel
theorem dX2_init_35 : decode cX2_init 35 = .ok (.iload_n 1, 1) := by decide +kernel
theorem dX2_init_36 : decode cX2_init 36 = .ok (.new 9, 3) := by decide +kernel
theorem dX2_init_39 : decode cX2_init 39 = .ok (.dup, 1) := by decide +kernel
theorem dX2_init_40 : decode cX2_init 40 = .ok (.invokespecial 24, 3) := by decide +kernel
theorem dX2_init_43 : decode cX2_init 43 = .ok (.aastore, 1) := by decide +kernel
theorem dX2_init_44 : decode cX2_init 44 = .ok (.iinc 1 1, 3) := by decide +kernel
theorem dX2_init_47 : decode cX2_init 47 = .ok (.goto (-22), 3) := by decide +kernel
theorem dX2_init_50 : decode cX2_init 50 = .ok (.return_, 1) := by decide +kernel
theorem dX2_clear_0 : decode cX2_clear 0 = .ok (.aload_n 0, 1) := by decide +kernel
theorem dX2_clear_1 : decode cX2_clear 1 = .ok (.iconst 0, 1) := by decide +kernel
theorem dX2_clear_2 : decode cX2_clear 2 = .ok (.putfield 17, 3) := by decide +kernel
theorem dX2_clear_5 : decode cX2_clear 5 = .ok (.aload_n 0, 1) := by decide +kernel
theorem dX2_clear_6 : decode cX2_clear 6 = .ok (.iconst 0, 1) := by decide +kernel
theorem dX2_clear_7 : decode cX2_clear 7 = .ok (.putfield 21, 3) := by decide +kernel
theorem dX2_clear_10 : decode cX2_clear 10 = .ok (.return_, 1) := by decide +kernel
theorem dX2_remember_0 : decode cX2_remember 0 = .ok (.aload_n 0, 1) := by decide +kernel
theorem dX2_remember_1 : decode cX2_remember 1 = .ok (.getfield 11, 3) := by decide +kernel
theorem dX2_remember_4 : decode cX2_remember 4 = .ok (.aload_n 0, 1) := by decide +kernel
theorem dX2_remember_5 : decode cX2_remember 5 = .ok (.getfield 17, 3) := by decide +kernel
theorem dX2_remember_8 : decode cX2_remember 8 = .ok (.aaload, 1) := by decide +kernel
theorem dX2_remember_9 : decode cX2_remember 9 = .ok (.aload_n 1, 1) := by decide +kernel
theorem dX2_remember_10 : decode cX2_remember 10 = .ok (.invokevirtual 25, 3) := by decide +kernel
theorem dX2_remember_13 : decode cX2_remember 13 = .ok (.aload_n 0, 1) := by decide +kernel
theorem dX2_remember_14 : decode cX2_remember 14 = .ok (.aload_n 0, 1) := by decide +kernel
theorem dX2_remember_15 : decode cX2_remember 15 = .ok (.getfield 17, 3) := by decide +kernel
theorem dX2_remember_18 : decode cX2_remember 18 = .ok (.iconst 1, 1) := by decide +kernel
theorem dX2_remember_19 : decode cX2_remember 19 = .ok (.iadd, 1) := by decide +kernel
theorem dX2_remember_20 : decode cX2_remember 20 = .ok (.bipush 8, 2) := by decide +kernel
theorem dX2_remember_22 : decode cX2_remember 22 = .ok (.if_icmp .ge 12, 3) := by decide +kernel
theorem dX2_remember_25 : decode cX2_remember 25 = .ok (.aload_n 0, 1) := by decide +kernel
theorem dX2_remember_26 : decode cX2_remember 26 = .ok (.getfield 17, 3) := by decide +kernel
theorem dX2_remember_29 : decode cX2_remember 29 = .ok (.iconst 1, 1) := by decide +kernel
theorem dX2_remember_30 : decode cX2_remember 30 = .ok (.iadd, 1) := by decide +kernel
theorem dX2_remember_31 : decode cX2_remember 31 = .ok (.goto 4, 3) := by decide +kernel
theorem dX2_remember_34 : decode cX2_remember 34 = .ok (.iconst 0, 1) := by decide +kernel
theorem dX2_remember_35 : decode cX2_remember 35 = .ok (.putfield 17, 3) := by decide +kernel
theorem dX2_remember_38 : decode cX2_remember 38 = .ok (.aload_n 0, 1) := by decide +kernel
theorem dX2_remember_39 : decode cX2_remember 39 = .ok (.aload_n 0, 1) := by decide +kernel
theorem dX2_remember_40 : decode cX2_remember 40 = .ok (.getfield 21, 3) := by decide +kernel
theorem dX2_remember_43 : decode cX2_remember 43 = .ok (.iconst 1, 1) := by decide +kernel
theorem dX2_remember_44 : decode cX2_remember 44 = .ok (.iadd, 1) := by decide +kernel
theorem dX2_remember_45 : decode cX2_remember 45 = .ok (.bipush 8, 2) := by decide +kernel
theorem dX2_remember_47 : decode cX2_remember 47 = .ok (.invokestatic 29, 3) := by decide +kernel
theorem dX2_remember_50 : decode cX2_remember 50 = .ok (.putfield 21, 3) := by decide +kernel
theorem dX2_remember_53 : decode cX2_remember 53 = .ok (.return_, 1) := by decide +kernel
theorem dX2_recall_0 : decode cX2_recall 0 = .ok (.aload_n 0, 1) := by decide +kernel
theorem dX2_recall_1 : decode cX2_recall 1 = .ok (.getfield 21, 3) := by decide +kernel
theorem dX2_recall_4 : decode cX2_recall 4 = .ok (.ifCond .ne 5, 3) := by decide +kernel
theorem dX2_recall_7 : decode cX2_recall 7 = .ok (.iconst 0, 1) := by decide +kernel
theorem dX2_recall_8 : decode cX2_recall 8 = .ok (.ireturn, 1) := by decide +kernel
theorem dX2_recall_9 : decode cX2_recall 9 = .ok (.aload_n 0, 1) := by decide +kernel
theorem dX2_recall_10 : decode cX2_recall 10 = .ok (.aload_n 0, 1) := by decide +kernel
theorem dX2_recall_11 : decode cX2_recall 11 = .ok (.getfield 17, 3) := by decide +kernel
theorem dX2_recall_14 : decode cX2_recall 14 = .ok (.ifCond .le 12, 3) := by decide +kernel
theorem dX2_recall_17 : decode cX2_recall 17 = .ok (.aload_n 0, 1) := by decide +kernel
theorem dX2_recall_18 : decode cX2_recall 18 = .ok (.getfield 17, 3) := by decide +kernel
theorem dX2_recall_21 : decode cX2_recall 21 = .ok (.iconst 1, 1) := by decide +kernel
theorem dX2_recall_22 : decode cX2_recall 22 = .ok (.isub, 1) := by decide +kernel
theorem dX2_recall_23 : decode cX2_recall 23 = .ok (.goto 5, 3) := by decide +kernel
theorem dX2_recall_26 : decode cX2_recall 26 = .ok (.bipush 7, 2) := by decide +kernel
theorem dX2_recall_28 : decode cX2_recall 28 = .ok (.putfield 17, 3) := by decide +kernel
theorem dX2_recall_31 : decode cX2_recall 31 = .ok (.aload_n 0, 1) := by decide +kernel
theorem dX2_recall_32 : decode cX2_recall 32 = .ok (.dup, 1) := by decide +kernel
theorem dX2_recall_33 : decode cX2_recall 33 = .ok (.getfield 21, 3) := by decide +kernel
theorem dX2_recall_36 : decode cX2_recall 36 = .ok (.iconst 1, 1) := by decide +kernel
theorem dX2_recall_37 : decode cX2_recall 37 = .ok (.isub, 1) := by decide +kernel
theorem dX2_recall_38 : decode cX2_recall 38 = .ok (.putfield 21, 3) := by decide +kernel
theorem dX2_recall_41 : decode cX2_recall 41 = .ok (.aload_n 1, 1) := by decide +kernel
theorem dX2_recall_42 : decode cX2_recall 42 = .ok (.aload_n 0, 1) := by decide +kernel
theorem dX2_recall_43 : decode cX2_recall 43 = .ok (.getfield 11, 3) := by decide +kernel
theorem dX2_recall_46 : decode cX2_recall 46 = .ok (.aload_n 0, 1) := by decide +kernel
theorem dX2_recall_47 : decode cX2_recall 47 = .ok (.getfield 17, 3) := by decide +kernel
theorem dX2_recall_50 : decode cX2_recall 50 = .ok (.aaload, 1) := by decide +kernel
theorem dX2_recall_51 : decode cX2_recall 51 = .ok (.invokevirtual 25, 3) := by decide +kernel
theorem dX2_recall_54 : decode cX2_recall 54 = .ok (.iconst 1, 1) := by decide +kernel
theorem dX2_recall_55 : decode cX2_recall 55 = .ok (.ireturn, 1) := by decide +kernel
theorem dX3_init_0 : decode cX3_init 0 = .ok (.aload_n 0, 1) := by decide +kernel
theorem dX3_init_1 : decode cX3_init 1 = .ok (.invokespecial 3, 3) := by decide +kernel
theorem dX3_init_4 : decode cX3_init 4 = .ok (.aload_n 0, 1) := by decide +kernel
theorem dX3_init_5 : decode cX3_init 5 = .ok (.bipush 8, 2) := by decide +kernel
theorem dX3_init_7 : decode cX3_init 7 = .ok (.newarray .int, 2) := by decide +kernel
theorem dX3_init_9 : decode cX3_init 9 = .ok (.putfield 9, 3) := by decide +kernel
theorem dX3_init_12 : decode cX3_init 12 = .ok (.aload_n 0, 1) := by decide +kernel
theorem dX3_init_13 : decode cX3_init 13 = .ok (.bipush 8, 2) := by decide +kernel
theorem dX3_init_15 : decode cX3_init 15 = .ok (.newarray .int, 2) := by decide +kernel
theorem dX3_init_17 : decode cX3_init 17 = .ok (.putfield 15, 3) := by decide +kernel
theorem dX3_init_20 : decode cX3_init 20 = .ok (.aload_n 0, 1) := by decide +kernel
theorem dX3_init_21 : decode cX3_init 21 = .ok (.bipush 8, 2) := by decide +kernel
theorem dX3_init_23 : decode cX3_init 23 = .ok (.newarray .int, 2) := by decide +kernel
theorem dX3_init_25 : decode cX3_init 25 = .ok (.putfield 18, 3) := by decide +kernel
theorem dX3_init_28 : decode cX3_init 28 = .ok (.aload_n 0, 1) := by decide +kernel
theorem dX3_init_29 : decode cX3_init 29 = .ok (.bipush 8, 2) := by decide +kernel
theorem dX3_init_31 : decode cX3_init 31 = .ok (.newarray .int, 2) := by decide +kernel
theorem dX3_init_33 : decode cX3_init 33 = .ok (.putfield 21, 3) := by decide +kernel
theorem dX3_init_36 : decode cX3_init 36 = .ok (.aload_n 0, 1) := by decide +kernel
theorem dX3_init_37 : decode cX3_init 37 = .ok (.bipush 8, 2) := by decide +kernel
theorem dX3_init_39 : decode cX3_init 39 = .ok (.newarray .int, 2) := by decide +kernel
theorem dX3_init_41 : decode cX3_init 41 = .ok (.putfield 24, 3) := by decide +kernel
theorem dX3_init_44 : decode cX3_init 44 = .ok (.aload_n 0, 1) := by decide +kernel
theorem dX3_init_45 : decode cX3_init 45 = .ok (.iconst 0, 1) := by decide +kernel
theorem dX3_init_46 : decode cX3_init 46 = .ok (.putfield 27, 3) := by decide +kernel
theorem dX3_init_49 : decode cX3_init 49 = .ok (.aload_n 0, 1) := by decide +kernel
theorem dX3_init_50 : decode cX3_init 50 = .ok (.bipush 30, 2) := by decide +kernel
theorem dX3_init_52 : decode cX3_init 52 = .ok (.putfield 31, 3) := by decide +kernel
theorem dX3_init_55 : decode cX3_init 55 = .ok (.aload_n 0, 1) := by decide +kernel
theorem dX3_init_56 : decode cX3_init 56 = .ok (.bipush 8, 2) := by decide +kernel
theorem dX3_init_58 : decode cX3_init 58 = .ok (.putfield 34, 3) := by decide +kernel
theorem dX3_init_61 : decode cX3_init 61 = .ok (.return_, 1) := by decide +kernel
theorem dX3_clear_0 : decode cX3_clear 0 = .ok (.aload_n 0, 1) := by decide +kernel
theorem dX3_clear_1 : decode cX3_clear 1 = .ok (.iconst 0, 1) := by decide +kernel
theorem dX3_clear_2 : decode cX3_clear 2 = .ok (.putfield 27, 3) := by decide +kernel
theorem dX3_clear_5 : decode cX3_clear 5 = .ok (.aload_n 0, 1) := by decide +kernel
theorem dX3_clear_6 : decode cX3_clear 6 = .ok (.bipush 30, 2) := by decide +kernel
theorem dX3_clear_8 : decode cX3_clear 8 = .ok (.putfield 31, 3) := by decide +kernel
theorem dX3_clear_11 : decode cX3_clear 11 = .ok (.aload_n 0, 1) := by decide +kernel
theorem dX3_clear_12 : decode cX3_clear 12 = .ok (.bipush 8, 2) := by decide +kernel
theorem dX3_clear_14 : decode cX3_clear 14 = .ok (.putfield 34, 3) := by decide +kernel
theorem dX3_clear_17 : decode cX3_clear 17 = .ok (.return_, 1) := by decide +kernel
theorem dX3_copyFrom_0 : decode cX3_copyFrom 0 = .ok (.aload_n 1, 1) := by decide +kernel
theorem dX3_copyFrom_1 : decode cX3_copyFrom 1 = .ok (.getfield 9, 3) := by decide +kernel
theorem dX3_copyFrom_4 : decode cX3_copyFrom 4 = .ok (.iconst 0, 1) := by decide +kernel
theorem dX3_copyFrom_5 : decode cX3_copyFrom 5 = .ok (.aload_n 0, 1) := by decide +kernel
theorem dX3_copyFrom_6 : decode cX3_copyFrom 6 = .ok (.getfield 9, 3) := by decide +kernel
theorem dX3_copyFrom_9 : decode cX3_copyFrom 9 = .ok (.iconst 0, 1) := by decide +kernel
theorem dX3_copyFrom_10 : decode cX3_copyFrom 10 = .ok (.bipush 8, 2) := by decide +kernel
theorem dX3_copyFrom_12 : decode cX3_copyFrom 12 = .ok (.invokestatic 37, 3) := by decide +kernel
theorem dX3_copyFrom_15 : decode cX3_copyFrom 15 = .ok (.aload_n 1, 1) := by decide +kernel
theorem dX3_copyFrom_16 : decode cX3_copyFrom 16 = .ok (.getfield 15, 3) := by decide +kernel
theorem dX3_copyFrom_19 : decode cX3_copyFrom 19 = .ok (.iconst 0, 1) := by decide +kernel
theorem dX3_copyFrom_20 : decode cX3_copyFrom 20 = .ok (.aload_n 0, 1) := by decide +kernel
theorem dX3_copyFrom_21 : decode cX3_copyFrom 21 = .ok (.getfield 15, 3) := by decide +kernel
theorem dX3_copyFrom_24 : decode cX3_copyFrom 24 = .ok (.iconst 0, 1) := by decide +kernel
theorem dX3_copyFrom_25 : decode cX3_copyFrom 25 = .ok (.bipush 8, 2) := by decide +kernel
theorem dX3_copyFrom_27 : decode cX3_copyFrom 27 = .ok (.invokestatic 37, 3) := by decide +kernel
theorem dX3_copyFrom_30 : decode cX3_copyFrom 30 = .ok (.aload_n 1, 1) := by decide +kernel
theorem dX3_copyFrom_31 : decode cX3_copyFrom 31 = .ok (.getfield 18, 3) := by decide +kernel
theorem dX3_copyFrom_34 : decode cX3_copyFrom 34 = .ok (.iconst 0, 1) := by decide +kernel
theorem dX3_copyFrom_35 : decode cX3_copyFrom 35 = .ok (.aload_n 0, 1) := by decide +kernel
theorem dX3_copyFrom_36 : decode cX3_copyFrom 36 = .ok (.getfield 18, 3) := by decide +kernel
theorem dX3_copyFrom_39 : decode cX3_copyFrom 39 = .ok (.iconst 0, 1) := by decide +kernel
theorem dX3_copyFrom_40 : decode cX3_copyFrom 40 = .ok (.bipush 8, 2) := by decide +kernel
theorem dX3_copyFrom_42 : decode cX3_copyFrom 42 = .ok (.invokestatic 37, 3) := by decide +kernel
theorem dX3_copyFrom_45 : decode cX3_copyFrom 45 = .ok (.aload_n 1, 1) := by decide +kernel
theorem dX3_copyFrom_46 : decode cX3_copyFrom 46 = .ok (.getfield 21, 3) := by decide +kernel
theorem dX3_copyFrom_49 : decode cX3_copyFrom 49 = .ok (.iconst 0, 1) := by decide +kernel
theorem dX3_copyFrom_50 : decode cX3_copyFrom 50 = .ok (.aload_n 0, 1) := by decide +kernel
theorem dX3_copyFrom_51 : decode cX3_copyFrom 51 = .ok (.getfield 21, 3) := by decide +kernel
theorem dX3_copyFrom_54 : decode cX3_copyFrom 54 = .ok (.iconst 0, 1) := by decide +kernel
theorem dX3_copyFrom_55 : decode cX3_copyFrom 55 = .ok (.bipush 8, 2) := by decide +kernel
theorem dX3_copyFrom_57 : decode cX3_copyFrom 57 = .ok (.invokestatic 37, 3) := by decide +kernel
theorem dX3_copyFrom_60 : decode cX3_copyFrom 60 = .ok (.aload_n 1, 1) := by decide +kernel
theorem dX3_copyFrom_61 : decode cX3_copyFrom 61 = .ok (.getfield 24, 3) := by decide +kernel
theorem dX3_copyFrom_64 : decode cX3_copyFrom 64 = .ok (.iconst 0, 1) := by decide +kernel
theorem dX3_copyFrom_65 : decode cX3_copyFrom 65 = .ok (.aload_n 0, 1) := by decide +kernel
theorem dX3_copyFrom_66 : decode cX3_copyFrom 66 = .ok (.getfield 24, 3) := by decide +kernel
theorem dX3_copyFrom_69 : decode cX3_copyFrom 69 = .ok (.iconst 0, 1) := by decide +kernel
theorem dX3_copyFrom_70 : decode cX3_copyFrom 70 = .ok (.bipush 8, 2) := by decide +kernel
theorem dX3_copyFrom_72 : decode cX3_copyFrom 72 = .ok (.invokestatic 37, 3) := by decide +kernel
theorem dX3_copyFrom_75 : decode cX3_copyFrom 75 = .ok (.aload_n 0, 1) := by decide +kernel
theorem dX3_copyFrom_76 : decode cX3_copyFrom 76 = .ok (.aload_n 1, 1) := by decide +kernel
theorem dX3_copyFrom_77 : decode cX3_copyFrom 77 = .ok (.getfield 27, 3) := by decide +kernel
theorem dX3_copyFrom_80 : decode cX3_copyFrom 80 = .ok (.putfield 27, 3) := by decide +kernel
theorem dX3_copyFrom_83 : decode cX3_copyFrom 83 = .ok (.aload_n 0, 1) := by decide +kernel
theorem dX3_copyFrom_84 : decode cX3_copyFrom 84 = .ok (.aload_n 1, 1) := by decide +kernel
theorem dX3_copyFrom_85 : decode cX3_copyFrom 85 = .ok (.getfield 31, 3) := by decide +kernel
theorem dX3_copyFrom_88 : decode cX3_copyFrom 88 = .ok (.putfield 31, 3) := by decide +kernel
theorem dX3_copyFrom_91 : decode cX3_copyFrom 91 = .ok (.aload_n 0, 1) := by decide +kernel
theorem dX3_copyFrom_92 : decode cX3_copyFrom 92 = .ok (.aload_n 1, 1) := by decide +kernel
theorem dX3_copyFrom_93 : decode cX3_copyFrom 93 = .ok (.getfield 34, 3) := by decide +kernel
theorem dX3_copyFrom_96 : decode cX3_copyFrom 96 = .ok (.putfield 34, 3) := by decide +kernel
theorem dX3_copyFrom_99 : decode cX3_copyFrom 99 = .ok (.return_, 1) := by decide +kernel
theorem dX3_has_0 : decode cX3_has 0 = .ok (.iload_n 1, 1) := by decide +kernel
theorem dX3_has_1 : decode cX3_has 1 = .ok (.ifCond .lt 21, 3) := by decide +kernel
theorem dX3_has_4 : decode cX3_has 4 = .ok (.iload_n 1, 1) := by decide +kernel
theorem dX3_has_5 : decode cX3_has 5 = .ok (.aload_n 0, 1) := by decide +kernel
theorem dX3_has_6 : decode cX3_has 6 = .ok (.getfield 27, 3) := by decide +kernel
theorem dX3_has_9 : decode cX3_has 9 = .ok (.if_icmp .ge 13, 3) := by decide +kernel
theorem dX3_has_12 : decode cX3_has 12 = .ok (.iload_n 1, 1) := by decide +kernel
theorem dX3_has_13 : decode cX3_has 13 = .ok (.bipush 8, 2) := by decide +kernel
theorem dX3_has_15 : decode cX3_has 15 = .ok (.if_icmp .ge 7, 3) := by decide +kernel
theorem dX3_has_18 : decode cX3_has 18 = .ok (.iconst 1, 1) := by decide +kernel
theorem dX3_has_19 : decode cX3_has 19 = .ok (.goto 4, 3) := by decide +kernel
theorem dX3_has_22 : decode cX3_has 22 = .ok (.iconst 0, 1) := by decide +kernel
theorem dX3_has_23 : decode cX3_has 23 = .ok (.ireturn, 1) := by decide +kernel
theorem dX3_add_0 : decode cX3_add 0 = .ok (.aload_n 0, 1) := by decide +kernel
theorem dX3_add_1 : decode cX3_add 1 = .ok (.getfield 27, 3) := by decide +kernel
theorem dX3_add_4 : decode cX3_add 4 = .ok (.bipush 8, 2) := by decide +kernel
theorem dX3_add_6 : decode cX3_add 6 = .ok (.if_icmp .lt 4, 3) := by decide +kernel
theorem dX3_add_9 : decode cX3_add 9 = .ok (.return_, 1) := by decide +kernel
theorem dX3_add_10 : decode cX3_add 10 = .ok (.aload_n 0, 1) := by decide +kernel
theorem dX3_add_11 : decode cX3_add 11 = .ok (.getfield 9, 3) := by decide +kernel
theorem dX3_add_14 : decode cX3_add 14 = .ok (.aload_n 0, 1) := by decide +kernel
theorem dX3_add_15 : decode cX3_add 15 = .ok (.getfield 27, 3) := by decide +kernel
theorem dX3_add_18 : decode cX3_add 18 = .ok (.iload_n 1, 1) := by decide +kernel
theorem dX3_add_19 : decode cX3_add 19 = .ok (.iastore, 1) := by decide +kernel
theorem dX3_add_20 : decode cX3_add 20 = .ok (.aload_n 0, 1) := by decide +kernel
theorem dX3_add_21 : decode cX3_add 21 = .ok (.getfield 15, 3) := by decide +kernel
theorem dX3_add_24 : decode cX3_add 24 = .ok (.aload_n 0, 1) := by decide +kernel
theorem dX3_add_25 : decode cX3_add 25 = .ok (.getfield 27, 3) := by decide +kernel
theorem dX3_add_28 : decode cX3_add 28 = .ok (.iload_n 2, 1) := by decide +kernel
theorem dX3_add_29 : decode cX3_add 29 = .ok (.iastore, 1) := by decide +kernel
theorem dX3_add_30 : decode cX3_add 30 = .ok (.aload_n 0, 1) := by decide +kernel
theorem dX3_add_31 : decode cX3_add 31 = .ok (.getfield 18, 3) := by decide +kernel
theorem dX3_add_34 : decode cX3_add 34 = .ok (.aload_n 0, 1) := by decide +kernel
theorem dX3_add_35 : decode cX3_add 35 = .ok (.getfield 27, 3) := by decide +kernel
theorem dX3_add_38 : decode cX3_add 38 = .ok (.iload_n 3, 1) := by decide +kernel
theorem dX3_add_39 : decode cX3_add 39 = .ok (.iastore, 1) := by decide +kernel
theorem dX3_add_40 : decode cX3_add 40 = .ok (.aload_n 0, 1) := by decide +kernel
theorem dX3_add_41 : decode cX3_add 41 = .ok (.getfield 21, 3) := by decide +kernel
theorem dX3_add_44 : decode cX3_add 44 = .ok (.aload_n 0, 1) := by decide +kernel
theorem dX3_add_45 : decode cX3_add 45 = .ok (.getfield 27, 3) := by decide +kernel
theorem dX3_add_48 : decode cX3_add 48 = .ok (.iload 4, 2) := by decide +kernel
theorem dX3_add_50 : decode cX3_add 50 = .ok (.iastore, 1) := by decide +kernel
theorem dX3_add_51 : decode cX3_add 51 = .ok (.aload_n 0, 1) := by decide +kernel
theorem dX3_add_52 : decode cX3_add 52 = .ok (.getfield 24, 3) := by decide +kernel
theorem dX3_add_55 : decode cX3_add 55 = .ok (.aload_n 0, 1) := by decide +kernel
theorem dX3_add_56 : decode cX3_add 56 = .ok (.getfield 27, 3) := by decide +kernel
theorem dX3_add_59 : decode cX3_add 59 = .ok (.iconst (-1), 1) := by decide +kernel
theorem dX3_add_60 : decode cX3_add 60 = .ok (.iastore, 1) := by decide +kernel
theorem dX3_add_61 : decode cX3_add 61 = .ok (.aload_n 0, 1) := by decide +kernel
theorem dX3_add_62 : decode cX3_add 62 = .ok (.dup, 1) := by decide +kernel
theorem dX3_add_63 : decode cX3_add 63 = .ok (.getfield 27, 3) := by decide +kernel
theorem dX3_add_66 : decode cX3_add 66 = .ok (.iconst 1, 1) := by decide +kernel
theorem dX3_add_67 : decode cX3_add 67 = .ok (.iadd, 1) := by decide +kernel
theorem dX3_add_68 : decode cX3_add 68 = .ok (.putfield 27, 3) := by decide +kernel
theorem dX3_add_71 : decode cX3_add 71 = .ok (.return_, 1) := by decide +kernel
theorem dX3_tilt_0 : decode cX3_tilt 0 = .ok (.aload_n 0, 1) := by decide +kernel
theorem dX3_tilt_1 : decode cX3_tilt 1 = .ok (.iload_n 1, 1) := by decide +kernel
theorem dX3_tilt_2 : decode cX3_tilt 2 = .ok (.invokevirtual 43, 3) := by decide +kernel
theorem dX3_tilt_5 : decode cX3_tilt 5 = .ok (.ifCond .eq 18, 3) := by decide +kernel
theorem dX3_tilt_8 : decode cX3_tilt 8 = .ok (.aload_n 0, 1) := by decide +kernel
theorem dX3_tilt_9 : decode cX3_tilt 9 = .ok (.iload_n 2, 1) := by decide +kernel
theorem dX3_tilt_10 : decode cX3_tilt 10 = .ok (.invokevirtual 43, 3) := by decide +kernel
theorem dX3_tilt_13 : decode cX3_tilt 13 = .ok (.ifCond .eq 10, 3) := by decide +kernel
theorem dX3_tilt_16 : decode cX3_tilt 16 = .ok (.aload_n 0, 1) := by decide +kernel
theorem dX3_tilt_17 : decode cX3_tilt 17 = .ok (.getfield 24, 3) := by decide +kernel
theorem dX3_tilt_20 : decode cX3_tilt 20 = .ok (.iload_n 1, 1) := by decide +kernel
theorem dX3_tilt_21 : decode cX3_tilt 21 = .ok (.iload_n 2, 1) := by decide +kernel
theorem dX3_tilt_22 : decode cX3_tilt 22 = .ok (.iastore, 1) := by decide +kernel
theorem dX3_tilt_23 : decode cX3_tilt 23 = .ok (.return_, 1) := by decide +kernel
theorem dX3_wants_0 : decode cX3_wants 0 = .ok (.iload_n 1, 1) := by decide +kernel
theorem dX3_wants_1 : decode cX3_wants 1 = .ok (.ifCond .lt 21, 3) := by decide +kernel
theorem dX3_wants_4 : decode cX3_wants 4 = .ok (.iload_n 1, 1) := by decide +kernel
theorem dX3_wants_5 : decode cX3_wants 5 = .ok (.aload_n 0, 1) := by decide +kernel
theorem dX3_wants_6 : decode cX3_wants 6 = .ok (.getfield 27, 3) := by decide +kernel
theorem dX3_wants_9 : decode cX3_wants 9 = .ok (.if_icmp .ge 13, 3) := by decide +kernel
theorem dX3_wants_12 : decode cX3_wants 12 = .ok (.aload_n 0, 1) := by decide +kernel
theorem dX3_wants_13 : decode cX3_wants 13 = .ok (.getfield 9, 3) := by decide +kernel
theorem dX3_wants_16 : decode cX3_wants 16 = .ok (.iload_n 1, 1) := by decide +kernel
theorem dX3_wants_17 : decode cX3_wants 17 = .ok (.iaload, 1) := by decide +kernel
theorem dX3_wants_18 : decode cX3_wants 18 = .ok (.iconst 3, 1) := by decide +kernel
theorem dX3_wants_19 : decode cX3_wants 19 = .ok (.if_icmp .ne 5, 3) := by decide +kernel
theorem dX3_wants_22 : decode cX3_wants 22 = .ok (.iconst 0, 1) := by decide +kernel
theorem dX3_wants_23 : decode cX3_wants 23 = .ok (.ireturn, 1) := by decide +kernel
theorem dX3_wants_24 : decode cX3_wants 24 = .ok (.aload_n 0, 1) := by decide +kernel
theorem dX3_wants_25 : decode cX3_wants 25 = .ok (.getfield 9, 3) := by decide +kernel
theorem dX3_wants_28 : decode cX3_wants 28 = .ok (.iload_n 1, 1) := by decide +kernel
theorem dX3_wants_29 : decode cX3_wants 29 = .ok (.iaload, 1) := by decide +kernel
theorem dX3_wants_30 : decode cX3_wants 30 = .ok (.iconst 1, 1) := by decide +kernel
theorem dX3_wants_31 : decode cX3_wants 31 = .ok (.if_icmp .ne 14, 3) := by decide +kernel
theorem dX3_wants_34 : decode cX3_wants 34 = .ok (.iconst 2, 1) := by decide +kernel
theorem dX3_wants_35 : decode cX3_wants 35 = .ok (.aload_n 0, 1) := by decide +kernel
theorem dX3_wants_36 : decode cX3_wants 36 = .ok (.getfield 15, 3) := by decide +kernel
theorem dX3_wants_39 : decode cX3_wants 39 = .ok (.iload_n 1, 1) := by decide +kernel
theorem dX3_wants_40 : decode cX3_wants 40 = .ok (.iaload, 1) := by decide +kernel
theorem dX3_wants_41 : decode cX3_wants 41 = .ok (.imul, 1) := by decide +kernel
theorem dX3_wants_42 : decode cX3_wants 42 = .ok (.goto 9, 3) := by decide +kernel
theorem dX3_wants_45 : decode cX3_wants 45 = .ok (.aload_n 0, 1) := by decide +kernel
theorem dX3_wants_46 : decode cX3_wants 46 = .ok (.getfield 15, 3) := by decide +kernel
theorem dX3_wants_49 : decode cX3_wants 49 = .ok (.iload_n 1, 1) := by decide +kernel
theorem dX3_wants_50 : decode cX3_wants 50 = .ok (.iaload, 1) := by decide +kernel
theorem dX3_wants_51 : decode cX3_wants 51 = .ok (.ireturn, 1) := by decide +kernel
theorem dX3_votingBits_0 : decode cX3_votingBits 0 = .ok (.iconst 0, 1) := by decide +kernel
theorem dX3_votingBits_1 : decode cX3_votingBits 1 = .ok (.istore_n 1, 1) := by decide +kernel
theorem dX3_votingBits_2 : decode cX3_votingBits 2 = .ok (.iconst 0, 1) := by decide +kernel
theorem dX3_votingBits_3 : decode cX3_votingBits 3 = .ok (.istore_n 2, 1) := by decide +kernel
theorem dX3_votingBits_4 : decode cX3_votingBits 4 = .ok (.iload_n 2, 1) := by decide +kernel
theorem dX3_votingBits_5 : decode cX3_votingBits 5 = .ok (.aload_n 0, 1) := by decide +kernel
theorem dX3_votingBits_6 : decode cX3_votingBits 6 = .ok (.getfield 27, 3) := by decide +kernel
theorem dX3_votingBits_9 : decode cX3_votingBits 9 = .ok (.if_icmp .ge 25, 3) := by decide +kernel
theorem dX3_votingBits_12 : decode cX3_votingBits 12 = .ok (.aload_n 0, 1) := by decide +kernel
theorem dX3_votingBits_13 : decode cX3_votingBits 13 = .ok (.getfield 9, 3) := by decide +kernel
theorem dX3_votingBits_16 : decode cX3_votingBits 16 = .ok (.iload_n 2, 1) := by decide +kernel
theorem dX3_votingBits_17 : decode cX3_votingBits 17 = .ok (.iaload, 1) := by decide +kernel
theorem dX3_votingBits_18 : decode cX3_votingBits 18 = .ok (.iconst 2, 1) := by decide +kernel
theorem dX3_votingBits_19 : decode cX3_votingBits 19 = .ok (.if_icmp .eq 9, 3) := by decide +kernel
theorem dX3_votingBits_22 : decode cX3_votingBits 22 = .ok (.iload_n 1, 1) := by decide +kernel
theorem dX3_votingBits_23 : decode cX3_votingBits 23 = .ok (.iconst 1, 1) := by decide +kernel
theorem dX3_votingBits_24 : decode cX3_votingBits 24 = .ok (.iload_n 2, 1) := by decide +kernel
theorem dX3_votingBits_25 : decode cX3_votingBits 25 = .ok (.ishl, 1) := by decide +kernel
theorem dX3_votingBits_26 : decode cX3_votingBits 26 = .ok (.ior, 1) := by decide +kernel
theorem dX3_votingBits_27 : decode cX3_votingBits 27 = .ok (.istore_n 1, 1) := by decide +kernel
theorem dX3_votingBits_28 : decode cX3_votingBits 28 = .ok (.iinc 2 1, 3) := by decide +kernel
theorem dX3_votingBits_31 : decode cX3_votingBits 31 = .ok (.goto (-27), 3) := by decide +kernel
theorem dX3_votingBits_34 : decode cX3_votingBits 34 = .ok (.iload_n 1, 1) := by decide +kernel
theorem dX3_votingBits_35 : decode cX3_votingBits 35 = .ok (.ireturn, 1) := by decide +kernel
theorem dX4_init_0 : decode cX4_init 0 = .ok (.aload_n 0, 1) := by decide +kernel
theorem dX4_init_1 : decode cX4_init 1 = .ok (.invokespecial 3, 3) := by decide +kernel
theorem dX4_init_4 : decode cX4_init 4 = .ok (.aload_n 0, 1) := by decide +kernel
theorem dX4_init_5 : decode cX4_init 5 = .ok (.iconst 5, 1) := by decide +kernel
theorem dX4_init_6 : decode cX4_init 6 = .ok (.anewarray 9, 3) := by decide +kernel
theorem dX4_init_9 : decode cX4_init 9 = .ok (.putfield 11, 3) := by decide +kernel
theorem dX4_init_12 : decode cX4_init 12 = .ok (.aload_n 0, 1) := by decide +kernel
theorem dX4_init_13 : decode cX4_init 13 = .ok (.iconst 4, 1) := by decide +kernel
theorem dX4_init_14 : decode cX4_init 14 = .ok (.newarray .int, 2) := by decide +kernel
theorem dX4_init_16 : decode cX4_init 16 = .ok (.putfield 17, 3) := by decide +kernel
theorem dX4_init_19 : decode cX4_init 19 = .ok (.aload_n 0, 1) := by decide +kernel
theorem dX4_init_20 : decode cX4_init 20 = .ok (.iconst 4, 1) := by decide +kernel
theorem dX4_init_21 : decode cX4_init 21 = .ok (.newarray .int, 2) := by decide +kernel
theorem dX4_init_23 : decode cX4_init 23 = .ok (.putfield 21, 3) := by decide +kernel
theorem dX4_init_26 : decode cX4_init 26 = .ok (.aload_n 0, 1) := by decide +kernel
theorem dX4_init_27 : decode cX4_init 27 = .ok (.iconst 0, 1) := by decide +kernel
theorem dX4_init_28 : decode cX4_init 28 = .ok (.putfield 24, 3) := by decide +kernel
theorem dX4_init_31 : decode cX4_init 31 = .ok (.aload_n 0, 1) := by decide +kernel
theorem dX4_init_32 : decode cX4_init 32 = .ok (.iconst (-1), 1) := by decide +kernel
theorem dX4_init_33 : decode cX4_init 33 = .ok (.putfield 28, 3) := by decide +kernel
theorem dX4_init_36 : decode cX4_init 36 = .ok (.iconst 0, 1) := by decide +kernel
theorem dX4_init_37 : decode cX4_init 37 = .ok (.istore_n 1, 1) := by decide +kernel
theorem dX4_init_38 : decode cX4_init 38 = .ok (.iload_n 1, 1) := by decide +kernel
theorem dX4_init_39 : decode cX4_init 39 = .ok (.iconst 4, 1) := by decide +kernel
theorem dX4_init_40 : decode cX4_init 40 = .ok (.if_icmp .gt 22, 3) := by decide +kernel
theorem dX4_init_43 : decode cX4_init 43 = .ok (.aload_n 0, 1) := by decide +kernel
theorem dX4_init_44 : decode cX4_init 44 = .ok (.getfield 11, 3) := by decide +kernel
theorem dX4_init_47 : decode cX4_init 47 = .ok (.iload_n 1, 1) := by decide +kernel
theorem dX4_init_48 : decode cX4_init 48 = .ok (.new 9, 3) := by decide +kernel
theorem dX4_init_51 : decode cX4_init 51 = .ok (.dup, 1) := by decide +kernel
theorem dX4_init_52 : decode cX4_init 52 = .ok (.invokespecial 31, 3) := by decide +kernel
theorem dX4_init_55 : decode cX4_init 55 = .ok (.aastore, 1) := by decide +kernel
theorem dX4_init_56 : decode cX4_init 56 = .ok (.iinc 1 1, 3) := by decide +kernel
theorem dX4_init_59 : decode cX4_init 59 = .ok (.goto (-21), 3) := by decide +kernel
theorem dX4_init_62 : decode cX4_init 62 = .ok (.return_, 1) := by decide +kernel
theorem dX4_find_0 : decode cX4_find 0 = .ok (.aload_n 0, 1) := by decide +kernel
theorem dX4_find_1 : decode cX4_find 1 = .ok (.iload_n 3, 1) := by decide +kernel
theorem dX4_find_2 : decode cX4_find 2 = .ok (.iconst 4, 1) := by decide +kernel
theorem dX4_find_3 : decode cX4_find 3 = .ok (.invokestatic 32, 3) := by decide +kernel
theorem dX4_find_6 : decode cX4_find 6 = .ok (.putfield 24, 3) := by decide +kernel
theorem dX4_find_9 : decode cX4_find 9 = .ok (.aload_n 0, 1) := by decide +kernel
theorem dX4_find_10 : decode cX4_find 10 = .ok (.iconst (-1), 1) := by decide +kernel
theorem dX4_find_11 : decode cX4_find 11 = .ok (.putfield 28, 3) := by decide +kernel
theorem dX4_find_14 : decode cX4_find 14 = .ok (.aload_n 0, 1) := by decide +kernel
theorem dX4_find_15 : decode cX4_find 15 = .ok (.getfield 11, 3) := by decide +kernel
theorem dX4_find_18 : decode cX4_find 18 = .ok (.iconst 0, 1) := by decide +kernel
theorem dX4_find_19 : decode cX4_find 19 = .ok (.aaload, 1) := by decide +kernel
theorem dX4_find_20 : decode cX4_find 20 = .ok (.aload_n 2, 1) := by decide +kernel
theorem dX4_find_21 : decode cX4_find 21 = .ok (.invokevirtual 38, 3) := by decide +kernel
theorem dX4_find_24 : decode cX4_find 24 = .ok (.aload_n 0, 1) := by decide +kernel
theorem dX4_find_25 : decode cX4_find 25 = .ok (.aload_n 1, 1) := by decide +kernel
theorem dX4_find_26 : decode cX4_find 26 = .ok (.iconst 0, 1) := by decide +kernel
theorem dX4_find_27 : decode cX4_find 27 = .ok (.invokestatic 42, 3) := by decide +kernel
theorem dX4_find_30 : decode cX4_find 30 = .ok (.return_, 1) := by decide +kernel
theorem dX4_extend_0 : decode cX4_extend 0 = .ok (.iload_n 2, 1) := by decide +kernel
theorem dX4_extend_1 : decode cX4_extend 1 = .ok (.ifCond .lt 16, 3) := by decide +kernel
theorem dX4_extend_4 : decode cX4_extend 4 = .ok (.iload_n 2, 1) := by decide +kernel
theorem dX4_extend_5 : decode cX4_extend 5 = .ok (.aload_n 0, 1) := by decide +kernel
theorem dX4_extend_6 : decode cX4_extend 6 = .ok (.getfield 24, 3) := by decide +kernel
theorem dX4_extend_9 : decode cX4_extend 9 = .ok (.if_icmp .ge 8, 3) := by decide +kernel
theorem dX4_extend_12 : decode cX4_extend 12 = .ok (.iload_n 2, 1) := by decide +kernel
theorem dX4_extend_13 : decode cX4_extend 13 = .ok (.iconst 4, 1) := by decide +kernel
theorem dX4_extend_14 : decode cX4_extend 14 = .ok (.if_icmp .lt 9, 3) := by decide +kernel
theorem dX4_extend_17 : decode cX4_extend 17 = .ok (.aload_n 0, 1) := by decide +kernel
theorem dX4_extend_18 : decode cX4_extend 18 = .ok (.aload_n 1, 1) := by decide +kernel
theorem dX4_extend_19 : decode cX4_extend 19 = .ok (.invokevirtual 46, 3) := by decide +kernel
theorem dX4_extend_22 : decode cX4_extend 22 = .ok (.return_, 1) := by decide +kernel
theorem dX4_extend_23 : decode cX4_extend 23 = .ok (.iconst 0, 1) := by decide +kernel
theorem dX4_extend_24 : decode cX4_extend 24 = .ok (.istore_n 3, 1) := by decide +kernel
theorem dX4_extend_25 : decode cX4_extend 25 = .ok (.iload_n 3, 1) := by decide +kernel
theorem dX4_extend_26 : decode cX4_extend 26 = .ok (.aload_n 1, 1) := by decide +kernel
theorem dX4_extend_27 : decode cX4_extend 27 = .ok (.getfield 50, 3) := by decide +kernel
theorem dX4_extend_30 : decode cX4_extend 30 = .ok (.if_icmp .ge 63, 3) := by decide +kernel
theorem dX4_extend_33 : decode cX4_extend 33 = .ok (.aload_n 0, 1) := by decide +kernel
theorem dX4_extend_34 : decode cX4_extend 34 = .ok (.getfield 28, 3) := by decide +kernel
theorem dX4_extend_37 : decode cX4_extend 37 = .ok (.aload_n 1, 1) := by decide +kernel
theorem dX4_extend_38 : decode cX4_extend 38 = .ok (.getfield 50, 3) := by decide +kernel
theorem dX4_extend_41 : decode cX4_extend 41 = .ok (.if_icmp .ge 52, 3) := by decide +kernel
theorem dX4_extend_44 : decode cX4_extend 44 = .ok (.aload_n 0, 1) := by decide +kernel
theorem dX4_extend_45 : decode cX4_extend 45 = .ok (.getfield 17, 3) := by decide +kernel
theorem dX4_extend_48 : decode cX4_extend 48 = .ok (.iload_n 2, 1) := by decide +kernel
theorem dX4_extend_49 : decode cX4_extend 49 = .ok (.iload_n 3, 1) := by decide +kernel
theorem dX4_extend_50 : decode cX4_extend 50 = .ok (.iastore, 1) := by decide +kernel
theorem dX4_extend_51 : decode cX4_extend 51 = .ok (.aload_n 0, 1) := by decide +kernel
theorem dX4_extend_52 : decode cX4_extend 52 = .ok (.getfield 11, 3) := by decide +kernel
theorem dX4_extend_55 : decode cX4_extend 55 = .ok (.iload_n 2, 1) := by decide +kernel
theorem dX4_extend_56 : decode cX4_extend 56 = .ok (.iconst 1, 1) := by decide +kernel
theorem dX4_extend_57 : decode cX4_extend 57 = .ok (.iadd, 1) := by decide +kernel
theorem dX4_extend_58 : decode cX4_extend 58 = .ok (.aaload, 1) := by decide +kernel
theorem dX4_extend_59 : decode cX4_extend 59 = .ok (.astore 4, 2) := by decide +kernel
theorem dX4_extend_61 : decode cX4_extend 61 = .ok (.aload 4, 2) := by decide +kernel
theorem dX4_extend_63 : decode cX4_extend 63 = .ok (.aload_n 0, 1) := by decide +kernel
theorem dX4_extend_64 : decode cX4_extend 64 = .ok (.getfield 11, 3) := by decide +kernel
theorem dX4_extend_67 : decode cX4_extend 67 = .ok (.iload_n 2, 1) := by decide +kernel
theorem dX4_extend_68 : decode cX4_extend 68 = .ok (.aaload, 1) := by decide +kernel
theorem dX4_extend_69 : decode cX4_extend 69 = .ok (.invokevirtual 38, 3) := by decide +kernel
theorem dX4_extend_72 : decode cX4_extend 72 = .ok (.aload 4, 2) := by decide +kernel
theorem dX4_extend_74 : decode cX4_extend 74 = .ok (.aload_n 1, 1) := by decide +kernel
theorem dX4_extend_75 : decode cX4_extend 75 = .ok (.iload_n 3, 1) := by decide +kernel
theorem dX4_extend_76 : decode cX4_extend 76 = .ok (.invokevirtual 55, 3) := by decide +kernel
theorem dX4_extend_79 : decode cX4_extend 79 = .ok (.aload_n 0, 1) := by decide +kernel
theorem dX4_extend_80 : decode cX4_extend 80 = .ok (.aload_n 1, 1) := by decide +kernel
theorem dX4_extend_81 : decode cX4_extend 81 = .ok (.iload_n 2, 1) := by decide +kernel
theorem dX4_extend_82 : decode cX4_extend 82 = .ok (.iconst 1, 1) := by decide +kernel
theorem dX4_extend_83 : decode cX4_extend 83 = .ok (.iadd, 1) := by decide +kernel
theorem dX4_extend_84 : decode cX4_extend 84 = .ok (.invokestatic 42, 3) := by decide +kernel
theorem dX4_extend_87 : decode cX4_extend 87 = .ok (.iinc 3 1, 3) := by decide +kernel
theorem dX4_extend_90 : decode cX4_extend 90 = .ok (.goto (-65), 3) := by decide +kernel
theorem dX4_extend_93 : decode cX4_extend 93 = .ok (.return_, 1) := by decide +kernel
theorem dX4_judge_0 : decode cX4_judge 0 = .ok (.aload_n 0, 1) := by decide +kernel
theorem dX4_judge_1 : decode cX4_judge 1 = .ok (.getfield 11, 3) := by decide +kernel
theorem dX4_judge_4 : decode cX4_judge 4 = .ok (.aload_n 0, 1) := by decide +kernel
theorem dX4_judge_5 : decode cX4_judge 5 = .ok (.getfield 24, 3) := by decide +kernel
theorem dX4_judge_8 : decode cX4_judge 8 = .ok (.aaload, 1) := by decide +kernel
theorem dX4_judge_9 : decode cX4_judge 9 = .ok (.aload_n 1, 1) := by decide +kernel
theorem dX4_judge_10 : decode cX4_judge 10 = .ok (.invokevirtual 59, 3) := by decide +kernel
theorem dX4_judge_13 : decode cX4_judge 13 = .ok (.invokestatic 63, 3) := by decide +kernel
theorem dX4_judge_16 : decode cX4_judge 16 = .ok (.istore_n 2, 1) := by decide +kernel
theorem dX4_judge_17 : decode cX4_judge 17 = .ok (.iload_n 2, 1) := by decide +kernel
theorem dX4_judge_18 : decode cX4_judge 18 = .ok (.aload_n 0, 1) := by decide +kernel
theorem dX4_judge_19 : decode cX4_judge 19 = .ok (.getfield 28, 3) := by decide +kernel
theorem dX4_judge_22 : decode cX4_judge 22 = .ok (.if_icmp .le 22, 3) := by decide +kernel
theorem dX4_judge_25 : decode cX4_judge 25 = .ok (.aload_n 0, 1) := by decide +kernel
theorem dX4_judge_26 : decode cX4_judge 26 = .ok (.iload_n 2, 1) := by decide +kernel
theorem dX4_judge_27 : decode cX4_judge 27 = .ok (.putfield 28, 3) := by decide +kernel
theorem dX4_judge_30 : decode cX4_judge 30 = .ok (.aload_n 0, 1) := by decide +kernel
theorem dX4_judge_31 : decode cX4_judge 31 = .ok (.getfield 17, 3) := by decide +kernel
theorem dX4_judge_34 : decode cX4_judge 34 = .ok (.iconst 0, 1) := by decide +kernel
theorem dX4_judge_35 : decode cX4_judge 35 = .ok (.aload_n 0, 1) := by decide +kernel
theorem dX4_judge_36 : decode cX4_judge 36 = .ok (.getfield 21, 3) := by decide +kernel
theorem dX4_judge_39 : decode cX4_judge 39 = .ok (.iconst 0, 1) := by decide +kernel
theorem dX4_judge_40 : decode cX4_judge 40 = .ok (.iconst 4, 1) := by decide +kernel
theorem dX4_judge_41 : decode cX4_judge 41 = .ok (.invokestatic 69, 3) := by decide +kernel
theorem dX4_judge_44 : decode cX4_judge 44 = .ok (.return_, 1) := by decide +kernel
theorem dX5_init_0 : decode cX5_init 0 = .ok (.aload_n 0, 1) := by decide +kernel
theorem dX5_init_1 : decode cX5_init 1 = .ok (.invokespecial 3, 3) := by decide +kernel
theorem dX5_init_4 : decode cX5_init 4 = .ok (.aload_n 0, 1) := by decide +kernel
theorem dX5_init_5 : decode cX5_init 5 = .ok (.iconst 2, 1) := by decide +kernel
theorem dX5_init_6 : decode cX5_init 6 = .ok (.anewarray 9, 3) := by decide +kernel
theorem dX5_init_9 : decode cX5_init 9 = .ok (.putfield 11, 3) := by decide +kernel
theorem dX5_init_12 : decode cX5_init 12 = .ok (.aload_n 0, 1) := by decide +kernel
theorem dX5_init_13 : decode cX5_init 13 = .ok (.iconst 2, 1) := by decide +kernel
theorem dX5_init_14 : decode cX5_init 14 = .ok (.newarray .boolean, 2) := by decide +kernel
theorem dX5_init_16 : decode cX5_init 16 = .ok (.putfield 17, 3) := by decide +kernel
theorem dX5_init_19 : decode cX5_init 19 = .ok (.iconst 0, 1) := by decide +kernel
theorem dX5_init_20 : decode cX5_init 20 = .ok (.istore_n 1, 1) := by decide +kernel
theorem dX5_init_21 : decode cX5_init 21 = .ok (.iload_n 1, 1) := by decide +kernel
theorem dX5_init_22 : decode cX5_init 22 = .ok (.iconst 2, 1) := by decide +kernel
theorem dX5_init_23 : decode cX5_init 23 = .ok (.if_icmp .ge 22, 3) := by decide +kernel
theorem dX5_init_26 : decode cX5_init 26 = .ok (.aload_n 0, 1) := by decide +kernel
theorem dX5_init_27 : decode cX5_init 27 = .ok (.getfield 11, 3) := by decide +kernel
theorem dX5_init_30 : decode cX5_init 30 = .ok (.iload_n 1, 1) := by decide +kernel
theorem dX5_init_31 : decode cX5_init 31 = .ok (.new 9, 3) := by decide +kernel
theorem dX5_init_34 : decode cX5_init 34 = .ok (.dup, 1) := by decide +kernel
theorem dX5_init_35 : decode cX5_init 35 = .ok (.invokespecial 21, 3) := by decide +kernel
theorem dX5_init_38 : decode cX5_init 38 = .ok (.aastore, 1) := by decide +kernel
theorem dX5_init_39 : decode cX5_init 39 = .ok (.iinc 1 1, 3) := by decide +kernel
theorem dX5_init_42 : decode cX5_init 42 = .ok (.goto (-21), 3) := by decide +kernel
theorem dX5_init_45 : decode cX5_init 45 = .ok (.return_, 1) := by decide +kernel
theorem dX5_clear_0 : decode cX5_clear 0 = .ok (.iconst 0, 1) := by decide +kernel
theorem dX5_clear_1 : decode cX5_clear 1 = .ok (.istore_n 1, 1) := by decide +kernel
theorem dX5_clear_2 : decode cX5_clear 2 = .ok (.iload_n 1, 1) := by decide +kernel
theorem dX5_clear_3 : decode cX5_clear 3 = .ok (.iconst 2, 1) := by decide +kernel
theorem dX5_clear_4 : decode cX5_clear 4 = .ok (.if_icmp .ge 16, 3) := by decide +kernel
theorem dX5_clear_7 : decode cX5_clear 7 = .ok (.aload_n 0, 1) := by decide +kernel
theorem dX5_clear_8 : decode cX5_clear 8 = .ok (.getfield 17, 3) := by decide +kernel
theorem dX5_clear_11 : decode cX5_clear 11 = .ok (.iload_n 1, 1) := by decide +kernel
theorem dX5_clear_12 : decode cX5_clear 12 = .ok (.iconst 0, 1) := by decide +kernel
theorem dX5_clear_13 : decode cX5_clear 13 = .ok (.bastore, 1) := by decide +kernel
theorem dX5_clear_14 : decode cX5_clear 14 = .ok (.iinc 1 1, 3) := by decide +kernel
theorem dX5_clear_17 : decode cX5_clear 17 = .ok (.goto (-15), 3) := by decide +kernel
theorem dX5_clear_20 : decode cX5_clear 20 = .ok (.return_, 1) := by decide +kernel
theorem dX5_put_0 : decode cX5_put 0 = .ok (.iload_n 1, 1) := by decide +kernel
theorem dX5_put_1 : decode cX5_put 1 = .ok (.invokestatic 22, 3) := by decide +kernel
theorem dX5_put_4 : decode cX5_put 4 = .ok (.ifCond .eq 20, 3) := by decide +kernel
theorem dX5_put_7 : decode cX5_put 7 = .ok (.aload_n 0, 1) := by decide +kernel
theorem dX5_put_8 : decode cX5_put 8 = .ok (.getfield 11, 3) := by decide +kernel
theorem dX5_put_11 : decode cX5_put 11 = .ok (.iload_n 1, 1) := by decide +kernel
theorem dX5_put_12 : decode cX5_put 12 = .ok (.aaload, 1) := by decide +kernel
theorem dX5_put_13 : decode cX5_put 13 = .ok (.aload_n 2, 1) := by decide +kernel
theorem dX5_put_14 : decode cX5_put 14 = .ok (.invokevirtual 26, 3) := by decide +kernel
theorem dX5_put_17 : decode cX5_put 17 = .ok (.aload_n 0, 1) := by decide +kernel
theorem dX5_put_18 : decode cX5_put 18 = .ok (.getfield 17, 3) := by decide +kernel
theorem dX5_put_21 : decode cX5_put 21 = .ok (.iload_n 1, 1) := by decide +kernel
theorem dX5_put_22 : decode cX5_put 22 = .ok (.iconst 1, 1) := by decide +kernel
theorem dX5_put_23 : decode cX5_put 23 = .ok (.bastore, 1) := by decide +kernel
theorem dX5_put_24 : decode cX5_put 24 = .ok (.return_, 1) := by decide +kernel
theorem dX5_take_0 : decode cX5_take 0 = .ok (.iload_n 1, 1) := by decide +kernel
theorem dX5_take_1 : decode cX5_take 1 = .ok (.invokestatic 22, 3) := by decide +kernel
theorem dX5_take_4 : decode cX5_take 4 = .ok (.ifCond .eq 12, 3) := by decide +kernel
theorem dX5_take_7 : decode cX5_take 7 = .ok (.aload_n 0, 1) := by decide +kernel
theorem dX5_take_8 : decode cX5_take 8 = .ok (.getfield 17, 3) := by decide +kernel
theorem dX5_take_11 : decode cX5_take 11 = .ok (.iload_n 1, 1) := by decide +kernel
theorem dX5_take_12 : decode cX5_take 12 = .ok (.baload, 1) := by decide +kernel
theorem dX5_take_13 : decode cX5_take 13 = .ok (.ifCond .ne 5, 3) := by decide +kernel
theorem dX5_take_16 : decode cX5_take 16 = .ok (.iconst 0, 1) := by decide +kernel
theorem dX5_take_17 : decode cX5_take 17 = .ok (.ireturn, 1) := by decide +kernel
theorem dX5_take_18 : decode cX5_take 18 = .ok (.aload_n 2, 1) := by decide +kernel
theorem dX5_take_19 : decode cX5_take 19 = .ok (.aload_n 0, 1) := by decide +kernel
theorem dX5_take_20 : decode cX5_take 20 = .ok (.getfield 11, 3) := by decide +kernel
theorem dX5_take_23 : decode cX5_take 23 = .ok (.iload_n 1, 1) := by decide +kernel
theorem dX5_take_24 : decode cX5_take 24 = .ok (.aaload, 1) := by decide +kernel
theorem dX5_take_25 : decode cX5_take 25 = .ok (.invokevirtual 26, 3) := by decide +kernel
theorem dX5_take_28 : decode cX5_take 28 = .ok (.iconst 1, 1) := by decide +kernel
theorem dX5_take_29 : decode cX5_take 29 = .ok (.ireturn, 1) := by decide +kernel
theorem dX6_init_0 : decode cX6_init 0 = .ok (.aload_n 0, 1) := by decide +kernel
theorem dX6_init_1 : decode cX6_init 1 = .ok (.invokespecial 3, 3) := by decide +kernel
theorem dX6_init_4 : decode cX6_init 4 = .ok (.aload_n 0, 1) := by decide +kernel
theorem dX6_init_5 : decode cX6_init 5 = .ok (.bipush 6, 2) := by decide +kernel
theorem dX6_init_7 : decode cX6_init 7 = .ok (.newarray .int, 2) := by decide +kernel
theorem dX6_init_9 : decode cX6_init 9 = .ok (.putfield 9, 3) := by decide +kernel
theorem dX6_init_12 : decode cX6_init 12 = .ok (.aload_n 0, 1) := by decide +kernel
theorem dX6_init_13 : decode cX6_init 13 = .ok (.bipush 6, 2) := by decide +kernel
theorem dX6_init_15 : decode cX6_init 15 = .ok (.newarray .int, 2) := by decide +kernel
theorem dX6_init_17 : decode cX6_init 17 = .ok (.putfield 15, 3) := by decide +kernel
theorem dX6_init_20 : decode cX6_init 20 = .ok (.aload_n 0, 1) := by decide +kernel
theorem dX6_init_21 : decode cX6_init 21 = .ok (.iconst 0, 1) := by decide +kernel
theorem dX6_init_22 : decode cX6_init 22 = .ok (.putfield 18, 3) := by decide +kernel
theorem dX6_init_25 : decode cX6_init 25 = .ok (.return_, 1) := by decide +kernel
theorem dX6_add_0 : decode cX6_add 0 = .ok (.aload_n 0, 1) := by decide +kernel
theorem dX6_add_1 : decode cX6_add 1 = .ok (.getfield 18, 3) := by decide +kernel
theorem dX6_add_4 : decode cX6_add 4 = .ok (.bipush 6, 2) := by decide +kernel
theorem dX6_add_6 : decode cX6_add 6 = .ok (.if_icmp .lt 5, 3) := by decide +kernel
theorem dX6_add_9 : decode cX6_add 9 = .ok (.iconst 0, 1) := by decide +kernel
theorem dX6_add_10 : decode cX6_add 10 = .ok (.ireturn, 1) := by decide +kernel
theorem dX6_add_11 : decode cX6_add 11 = .ok (.aload_n 0, 1) := by decide +kernel
theorem dX6_add_12 : decode cX6_add 12 = .ok (.getfield 9, 3) := by decide +kernel
theorem dX6_add_15 : decode cX6_add 15 = .ok (.aload_n 0, 1) := by decide +kernel
theorem dX6_add_16 : decode cX6_add 16 = .ok (.getfield 18, 3) := by decide +kernel
theorem dX6_add_19 : decode cX6_add 19 = .ok (.iload_n 1, 1) := by decide +kernel
theorem dX6_add_20 : decode cX6_add 20 = .ok (.iastore, 1) := by decide +kernel
theorem dX6_add_21 : decode cX6_add 21 = .ok (.aload_n 0, 1) := by decide +kernel
theorem dX6_add_22 : decode cX6_add 22 = .ok (.getfield 15, 3) := by decide +kernel
theorem dX6_add_25 : decode cX6_add 25 = .ok (.aload_n 0, 1) := by decide +kernel
theorem dX6_add_26 : decode cX6_add 26 = .ok (.getfield 18, 3) := by decide +kernel
theorem dX6_add_29 : decode cX6_add 29 = .ok (.iload_n 2, 1) := by decide +kernel
theorem dX6_add_30 : decode cX6_add 30 = .ok (.iastore, 1) := by decide +kernel
theorem dX6_add_31 : decode cX6_add 31 = .ok (.aload_n 0, 1) := by decide +kernel
theorem dX6_add_32 : decode cX6_add 32 = .ok (.dup, 1) := by decide +kernel
theorem dX6_add_33 : decode cX6_add 33 = .ok (.getfield 18, 3) := by decide +kernel
theorem dX6_add_36 : decode cX6_add 36 = .ok (.iconst 1, 1) := by decide +kernel
theorem dX6_add_37 : decode cX6_add 37 = .ok (.iadd, 1) := by decide +kernel
theorem dX6_add_38 : decode cX6_add 38 = .ok (.putfield 18, 3) := by decide +kernel
theorem dX6_add_41 : decode cX6_add 41 = .ok (.iconst 1, 1) := by decide +kernel
theorem dX6_add_42 : decode cX6_add 42 = .ok (.ireturn, 1) := by decide +kernel
theorem dX6_lastDay_0 : decode cX6_lastDay 0 = .ok (.iconst 0, 1) := by decide +kernel
theorem dX6_lastDay_1 : decode cX6_lastDay 1 = .ok (.istore_n 1, 1) := by decide +kernel
theorem dX6_lastDay_2 : decode cX6_lastDay 2 = .ok (.iconst 0, 1) := by decide +kernel
theorem dX6_lastDay_3 : decode cX6_lastDay 3 = .ok (.istore_n 2, 1) := by decide +kernel
theorem dX6_lastDay_4 : decode cX6_lastDay 4 = .ok (.iload_n 2, 1) := by decide +kernel
theorem dX6_lastDay_5 : decode cX6_lastDay 5 = .ok (.aload_n 0, 1) := by decide +kernel
theorem dX6_lastDay_6 : decode cX6_lastDay 6 = .ok (.getfield 18, 3) := by decide +kernel
theorem dX6_lastDay_9 : decode cX6_lastDay 9 = .ok (.if_icmp .ge 20, 3) := by decide +kernel
theorem dX6_lastDay_12 : decode cX6_lastDay 12 = .ok (.iload_n 1, 1) := by decide +kernel
theorem dX6_lastDay_13 : decode cX6_lastDay 13 = .ok (.aload_n 0, 1) := by decide +kernel
theorem dX6_lastDay_14 : decode cX6_lastDay 14 = .ok (.getfield 15, 3) := by decide +kernel
theorem dX6_lastDay_17 : decode cX6_lastDay 17 = .ok (.iload_n 2, 1) := by decide +kernel
theorem dX6_lastDay_18 : decode cX6_lastDay 18 = .ok (.iaload, 1) := by decide +kernel
theorem dX6_lastDay_19 : decode cX6_lastDay 19 = .ok (.invokestatic 22, 3) := by decide +kernel
theorem dX6_lastDay_22 : decode cX6_lastDay 22 = .ok (.istore_n 1, 1) := by decide +kernel
theorem dX6_lastDay_23 : decode cX6_lastDay 23 = .ok (.iinc 2 1, 3) := by decide +kernel
theorem dX6_lastDay_26 : decode cX6_lastDay 26 = .ok (.goto (-22), 3) := by decide +kernel
theorem dX6_lastDay_29 : decode cX6_lastDay 29 = .ok (.iload_n 1, 1) := by decide +kernel
theorem dX6_lastDay_30 : decode cX6_lastDay 30 = .ok (.ireturn, 1) := by decide +kernel
theorem dX6_allow_0 : decode cX6_allow 0 = .ok (.iconst 0, 1) := by decide +kernel
theorem dX6_allow_1 : decode cX6_allow 1 = .ok (.istore_n 3, 1) := by decide +kernel
theorem dX6_allow_2 : decode cX6_allow 2 = .ok (.iload_n 3, 1) := by decide +kernel
theorem dX6_allow_3 : decode cX6_allow 3 = .ok (.aload_n 0, 1) := by decide +kernel
theorem dX6_allow_4 : decode cX6_allow 4 = .ok (.getfield 18, 3) := by decide +kernel
theorem dX6_allow_7 : decode cX6_allow 7 = .ok (.if_icmp .ge 31, 3) := by decide +kernel
theorem dX6_allow_10 : decode cX6_allow 10 = .ok (.aload_n 0, 1) := by decide +kernel
theorem dX6_allow_11 : decode cX6_allow 11 = .ok (.getfield 15, 3) := by decide +kernel
theorem dX6_allow_14 : decode cX6_allow 14 = .ok (.iload_n 3, 1) := by decide +kernel
theorem dX6_allow_15 : decode cX6_allow 15 = .ok (.iaload, 1) := by decide +kernel
theorem dX6_allow_16 : decode cX6_allow 16 = .ok (.iload_n 2, 1) := by decide +kernel
theorem dX6_allow_17 : decode cX6_allow 17 = .ok (.if_icmp .ne 15, 3) := by decide +kernel
theorem dX6_allow_20 : decode cX6_allow 20 = .ok (.aload_n 0, 1) := by decide +kernel
theorem dX6_allow_21 : decode cX6_allow 21 = .ok (.getfield 9, 3) := by decide +kernel
theorem dX6_allow_24 : decode cX6_allow 24 = .ok (.iload_n 3, 1) := by decide +kernel
theorem dX6_allow_25 : decode cX6_allow 25 = .ok (.iaload, 1) := by decide +kernel
theorem dX6_allow_26 : decode cX6_allow 26 = .ok (.iload_n 1, 1) := by decide +kernel
theorem dX6_allow_27 : decode cX6_allow 27 = .ok (.if_icmp .eq 5, 3) := by decide +kernel
theorem dX6_allow_30 : decode cX6_allow 30 = .ok (.iconst 0, 1) := by decide +kernel
theorem dX6_allow_31 : decode cX6_allow 31 = .ok (.ireturn, 1) := by decide +kernel
theorem dX6_allow_32 : decode cX6_allow 32 = .ok (.iinc 3 1, 3) := by decide +kernel
theorem dX6_allow_35 : decode cX6_allow 35 = .ok (.goto (-33), 3) := by decide +kernel
theorem dX6_allow_38 : decode cX6_allow 38 = .ok (.iconst 1, 1) := by decide +kernel
theorem dX6_allow_39 : decode cX6_allow 39 = .ok (.ireturn, 1) := by decide +kernel
theorem dX7_init_0 : decode cX7_init 0 = .ok (.aload_n 0, 1) := by decide +kernel
theorem dX7_init_1 : decode cX7_init 1 = .ok (.invokespecial 3, 3) := by decide +kernel
theorem dX7_init_4 : decode cX7_init 4 = .ok (.aload_n 0, 1) := by decide +kernel
theorem dX7_init_5 : decode cX7_init 5 = .ok (.sipush 160, 3) := by decide +kernel
theorem dX7_init_8 : decode cX7_init 8 = .ok (.newarray .char, 2) := by decide +kernel
theorem dX7_init_10 : decode cX7_init 10 = .ok (.putfield 9, 3) := by decide +kernel
theorem dX7_init_13 : decode cX7_init 13 = .ok (.aload_n 0, 1) := by decide +kernel
theorem dX7_init_14 : decode cX7_init 14 = .ok (.iconst 0, 1) := by decide +kernel
theorem dX7_init_15 : decode cX7_init 15 = .ok (.putfield 15, 3) := by decide +kernel
theorem dX7_init_18 : decode cX7_init 18 = .ok (.aload_n 0, 1) := by decide +kernel
theorem dX7_init_19 : decode cX7_init 19 = .ok (.iconst 0, 1) := by decide +kernel
theorem dX7_init_20 : decode cX7_init 20 = .ok (.putfield 19, 3) := by decide +kernel
theorem dX7_init_23 : decode cX7_init 23 = .ok (.aload_n 0, 1) := by decide +kernel
theorem dX7_init_24 : decode cX7_init 24 = .ok (.iconst 0, 1) := by decide +kernel
theorem dX7_init_25 : decode cX7_init 25 = .ok (.putfield 22, 3) := by decide +kernel
theorem dX7_init_28 : decode cX7_init 28 = .ok (.aload_n 0, 1) := by decide +kernel
theorem dX7_init_29 : decode cX7_init 29 = .ok (.iconst 0, 1) := by decide +kernel
theorem dX7_init_30 : decode cX7_init 30 = .ok (.putfield 25, 3) := by decide +kernel
theorem dX7_init_33 : decode cX7_init 33 = .ok (.return_, 1) := by decide +kernel
theorem dX7_add_0 : decode cX7_add 0 = .ok (.aload_n 0, 1) := by decide +kernel
theorem dX7_add_1 : decode cX7_add 1 = .ok (.getfield 15, 3) := by decide +kernel
theorem dX7_add_4 : decode cX7_add 4 = .ok (.sipush 160, 3) := by decide +kernel
theorem dX7_add_7 : decode cX7_add 7 = .ok (.if_icmp .lt 5, 3) := by decide +kernel
theorem dX7_add_10 : decode cX7_add 10 = .ok (.iconst 0, 1) := by decide +kernel
theorem dX7_add_11 : decode cX7_add 11 = .ok (.ireturn, 1) := by decide +kernel
theorem dX7_add_12 : decode cX7_add 12 = .ok (.aload_n 0, 1) := by decide +kernel
theorem dX7_add_13 : decode cX7_add 13 = .ok (.getfield 9, 3) := by decide +kernel
theorem dX7_add_16 : decode cX7_add 16 = .ok (.aload_n 0, 1) := by decide +kernel
theorem dX7_add_17 : decode cX7_add 17 = .ok (.getfield 15, 3) := by decide +kernel
theorem dX7_add_20 : decode cX7_add 20 = .ok (.iload_n 1, 1) := by decide +kernel
theorem dX7_add_21 : decode cX7_add 21 = .ok (.castore, 1) := by decide +kernel
theorem dX7_add_22 : decode cX7_add 22 = .ok (.aload_n 0, 1) := by decide +kernel
theorem dX7_add_23 : decode cX7_add 23 = .ok (.dup, 1) := by decide +kernel
theorem dX7_add_24 : decode cX7_add 24 = .ok (.getfield 15, 3) := by decide +kernel
theorem dX7_add_27 : decode cX7_add 27 = .ok (.iconst 1, 1) := by decide +kernel
theorem dX7_add_28 : decode cX7_add 28 = .ok (.iadd, 1) := by decide +kernel
theorem dX7_add_29 : decode cX7_add 29 = .ok (.putfield 15, 3) := by decide +kernel
theorem dX7_add_32 : decode cX7_add 32 = .ok (.iconst 1, 1) := by decide +kernel
theorem dX7_add_33 : decode cX7_add 33 = .ok (.ireturn, 1) := by decide +kernel
theorem dX7_read_0 : decode cX7_read 0 = .ok (.aload_n 2, 1) := by decide +kernel
theorem dX7_read_1 : decode cX7_read 1 = .ok (.aload_n 1, 1) := by decide +kernel
theorem dX7_read_2 : decode cX7_read 2 = .ok (.invokevirtual 28, 3) := by decide +kernel
theorem dX7_read_5 : decode cX7_read 5 = .ok (.aload_n 0, 1) := by decide +kernel
theorem dX7_read_6 : decode cX7_read 6 = .ok (.iconst 0, 1) := by decide +kernel
theorem dX7_read_7 : decode cX7_read 7 = .ok (.putfield 22, 3) := by decide +kernel
theorem dX7_read_10 : decode cX7_read 10 = .ok (.aload_n 0, 1) := by decide +kernel
theorem dX7_read_11 : decode cX7_read 11 = .ok (.iconst 0, 1) := by decide +kernel
theorem dX7_read_12 : decode cX7_read 12 = .ok (.putfield 25, 3) := by decide +kernel
theorem dX7_read_15 : decode cX7_read 15 = .ok (.aload_n 0, 1) := by decide +kernel
theorem dX7_read_16 : decode cX7_read 16 = .ok (.invokevirtual 34, 3) := by decide +kernel
theorem dX7_read_19 : decode cX7_read 19 = .ok (.iconst 0, 1) := by decide +kernel
theorem dX7_read_20 : decode cX7_read 20 = .ok (.istore_n 3, 1) := by decide +kernel
theorem dX7_read_21 : decode cX7_read 21 = .ok (.iload_n 3, 1) := by decide +kernel
theorem dX7_read_22 : decode cX7_read 22 = .ok (.bipush 14, 2) := by decide +kernel
theorem dX7_read_24 : decode cX7_read 24 = .ok (.if_icmp .ge 77, 3) := by decide +kernel
theorem dX7_read_27 : decode cX7_read 27 = .ok (.aload_n 0, 1) := by decide +kernel
theorem dX7_read_28 : decode cX7_read 28 = .ok (.aload_n 2, 1) := by decide +kernel
theorem dX7_read_29 : decode cX7_read 29 = .ok (.invokevirtual 37, 3) := by decide +kernel
theorem dX7_read_32 : decode cX7_read 32 = .ok (.ifCond .ne 8, 3) := by decide +kernel
theorem dX7_read_35 : decode cX7_read 35 = .ok (.aload_n 0, 1) := by decide +kernel
theorem dX7_read_36 : decode cX7_read 36 = .ok (.getfield 19, 3) := by decide +kernel
theorem dX7_read_39 : decode cX7_read 39 = .ok (.ireturn, 1) := by decide +kernel
theorem dX7_read_40 : decode cX7_read 40 = .ok (.aload_n 0, 1) := by decide +kernel
theorem dX7_read_41 : decode cX7_read 41 = .ok (.dup, 1) := by decide +kernel
theorem dX7_read_42 : decode cX7_read 42 = .ok (.getfield 25, 3) := by decide +kernel
theorem dX7_read_45 : decode cX7_read 45 = .ok (.iconst 1, 1) := by decide +kernel
theorem dX7_read_46 : decode cX7_read 46 = .ok (.iadd, 1) := by decide +kernel
theorem dX7_read_47 : decode cX7_read 47 = .ok (.putfield 25, 3) := by decide +kernel
theorem dX7_read_50 : decode cX7_read 50 = .ok (.aload_n 0, 1) := by decide +kernel
theorem dX7_read_51 : decode cX7_read 51 = .ok (.getfield 19, 3) := by decide +kernel
theorem dX7_read_54 : decode cX7_read 54 = .ok (.aload_n 0, 1) := by decide +kernel
theorem dX7_read_55 : decode cX7_read 55 = .ok (.getfield 15, 3) := by decide +kernel
theorem dX7_read_58 : decode cX7_read 58 = .ok (.if_icmp .lt 5, 3) := by decide +kernel
theorem dX7_read_61 : decode cX7_read 61 = .ok (.iconst (-1), 1) := by decide +kernel
theorem dX7_read_62 : decode cX7_read 62 = .ok (.ireturn, 1) := by decide +kernel
theorem dX7_read_63 : decode cX7_read 63 = .ok (.aload_n 0, 1) := by decide +kernel
theorem dX7_read_64 : decode cX7_read 64 = .ok (.getfield 9, 3) := by decide +kernel
theorem dX7_read_67 : decode cX7_read 67 = .ok (.aload_n 0, 1) := by decide +kernel
theorem dX7_read_68 : decode cX7_read 68 = .ok (.getfield 19, 3) := by decide +kernel
theorem dX7_read_71 : decode cX7_read 71 = .ok (.caload, 1) := by decide +kernel
theorem dX7_read_72 : decode cX7_read 72 = .ok (.bipush 59, 2) := by decide +kernel
theorem dX7_read_74 : decode cX7_read 74 = .ok (.if_icmp .ne 12, 3) := by decide +kernel
theorem dX7_read_77 : decode cX7_read 77 = .ok (.aload_n 0, 1) := by decide +kernel
theorem dX7_read_78 : decode cX7_read 78 = .ok (.getfield 25, 3) := by decide +kernel
theorem dX7_read_81 : decode cX7_read 81 = .ok (.bipush 14, 2) := by decide +kernel
theorem dX7_read_83 : decode cX7_read 83 = .ok (.if_icmp .lt 8, 3) := by decide +kernel
theorem dX7_read_86 : decode cX7_read 86 = .ok (.aload_n 0, 1) := by decide +kernel
theorem dX7_read_87 : decode cX7_read 87 = .ok (.getfield 19, 3) := by decide +kernel
theorem dX7_read_90 : decode cX7_read 90 = .ok (.ireturn, 1) := by decide +kernel
theorem dX7_read_91 : decode cX7_read 91 = .ok (.aload_n 0, 1) := by decide +kernel
theorem dX7_read_92 : decode cX7_read 92 = .ok (.invokevirtual 34, 3) := by decide +kernel
theorem dX7_read_95 : decode cX7_read 95 = .ok (.iinc 3 1, 3) := by decide +kernel
theorem dX7_read_98 : decode cX7_read 98 = .ok (.goto (-77), 3) := by decide +kernel
theorem dX7_read_101 : decode cX7_read 101 = .ok (.aload_n 0, 1) := by decide +kernel
theorem dX7_read_102 : decode cX7_read 102 = .ok (.getfield 19, 3) := by decide +kernel
theorem dX7_read_105 : decode cX7_read 105 = .ok (.ireturn, 1) := by decide +kernel
theorem dX7_step_0 : decode cX7_step 0 = .ok (.aload_n 0, 1) := by decide +kernel
theorem dX7_step_1 : decode cX7_step 1 = .ok (.aload_n 0, 1) := by decide +kernel
theorem dX7_step_2 : decode cX7_step 2 = .ok (.getfield 22, 3) := by decide +kernel
theorem dX7_step_5 : decode cX7_step 5 = .ok (.putfield 19, 3) := by decide +kernel
theorem dX7_step_8 : decode cX7_step 8 = .ok (.aload_n 0, 1) := by decide +kernel
theorem dX7_step_9 : decode cX7_step 9 = .ok (.getfield 19, 3) := by decide +kernel
theorem dX7_step_12 : decode cX7_step 12 = .ok (.aload_n 0, 1) := by decide +kernel
theorem dX7_step_13 : decode cX7_step 13 = .ok (.getfield 15, 3) := by decide +kernel
theorem dX7_step_16 : decode cX7_step 16 = .ok (.if_icmp .ge 30, 3) := by decide +kernel
theorem dX7_step_19 : decode cX7_step 19 = .ok (.aload_n 0, 1) := by decide +kernel
theorem dX7_step_20 : decode cX7_step 20 = .ok (.getfield 9, 3) := by decide +kernel
theorem dX7_step_23 : decode cX7_step 23 = .ok (.aload_n 0, 1) := by decide +kernel
theorem dX7_step_24 : decode cX7_step 24 = .ok (.getfield 19, 3) := by decide +kernel
theorem dX7_step_27 : decode cX7_step 27 = .ok (.caload, 1) := by decide +kernel
theorem dX7_step_28 : decode cX7_step 28 = .ok (.bipush 32, 2) := by decide +kernel
theorem dX7_step_30 : decode cX7_step 30 = .ok (.if_icmp .ne 16, 3) := by decide +kernel
theorem dX7_step_33 : decode cX7_step 33 = .ok (.aload_n 0, 1) := by decide +kernel
theorem dX7_step_34 : decode cX7_step 34 = .ok (.dup, 1) := by decide +kernel
theorem dX7_step_35 : decode cX7_step 35 = .ok (.getfield 19, 3) := by decide +kernel
theorem dX7_step_38 : decode cX7_step 38 = .ok (.iconst 1, 1) := by decide +kernel
theorem dX7_step_39 : decode cX7_step 39 = .ok (.iadd, 1) := by decide +kernel
theorem dX7_step_40 : decode cX7_step 40 = .ok (.putfield 19, 3) := by decide +kernel
theorem dX7_step_43 : decode cX7_step 43 = .ok (.goto (-35), 3) := by decide +kernel
theorem dX7_step_46 : decode cX7_step 46 = .ok (.aload_n 0, 1) := by decide +kernel
theorem dX7_step_47 : decode cX7_step 47 = .ok (.aload_n 0, 1) := by decide +kernel
theorem dX7_step_48 : decode cX7_step 48 = .ok (.getfield 19, 3) := by decide +kernel
theorem dX7_step_51 : decode cX7_step 51 = .ok (.putfield 22, 3) := by decide +kernel
theorem dX7_step_54 : decode cX7_step 54 = .ok (.aload_n 0, 1) := by decide +kernel
theorem dX7_step_55 : decode cX7_step 55 = .ok (.aload_n 0, 1) := by decide +kernel
theorem dX7_step_56 : decode cX7_step 56 = .ok (.getfield 19, 3) := by decide +kernel
theorem dX7_step_59 : decode cX7_step 59 = .ok (.invokevirtual 41, 3) := by decide +kernel
theorem dX7_step_62 : decode cX7_step 62 = .ok (.ifCond .eq 38, 3) := by decide +kernel
theorem dX7_step_65 : decode cX7_step 65 = .ok (.aload_n 0, 1) := by decide +kernel
theorem dX7_step_66 : decode cX7_step 66 = .ok (.aload_n 0, 1) := by decide +kernel
theorem dX7_step_67 : decode cX7_step 67 = .ok (.getfield 22, 3) := by decide +kernel
theorem dX7_step_70 : decode cX7_step 70 = .ok (.invokevirtual 41, 3) := by decide +kernel
theorem dX7_step_73 : decode cX7_step 73 = .ok (.ifCond .eq 94, 3) := by decide +kernel
theorem dX7_step_76 : decode cX7_step 76 = .ok (.aload_n 0, 1) := by decide +kernel
theorem dX7_step_77 : decode cX7_step 77 = .ok (.getfield 22, 3) := by decide +kernel
theorem dX7_step_80 : decode cX7_step 80 = .ok (.aload_n 0, 1) := by decide +kernel
theorem dX7_step_81 : decode cX7_step 81 = .ok (.getfield 15, 3) := by decide +kernel
theorem dX7_step_84 : decode cX7_step 84 = .ok (.if_icmp .ge 83, 3) := by decide +kernel
theorem dX7_step_87 : decode cX7_step 87 = .ok (.aload_n 0, 1) := by decide +kernel
theorem dX7_step_88 : decode cX7_step 88 = .ok (.dup, 1) := by decide +kernel
theorem dX7_step_89 : decode cX7_step 89 = .ok (.getfield 22, 3) := by decide +kernel
theorem dX7_step_92 : decode cX7_step 92 = .ok (.iconst 1, 1) := by decide +kernel
theorem dX7_step_93 : decode cX7_step 93 = .ok (.iadd, 1) := by decide +kernel
theorem dX7_step_94 : decode cX7_step 94 = .ok (.putfield 22, 3) := by decide +kernel
theorem dX7_step_97 : decode cX7_step 97 = .ok (.goto (-32), 3) := by decide +kernel
theorem dX7_step_100 : decode cX7_step 100 = .ok (.aload_n 0, 1) := by decide +kernel
theorem dX7_step_101 : decode cX7_step 101 = .ok (.aload_n 0, 1) := by decide +kernel
theorem dX7_step_102 : decode cX7_step 102 = .ok (.getfield 19, 3) := by decide +kernel
theorem dX7_step_105 : decode cX7_step 105 = .ok (.invokevirtual 45, 3) := by decide +kernel
theorem dX7_step_108 : decode cX7_step 108 = .ok (.ifCond .eq 38, 3) := by decide +kernel
theorem dX7_step_111 : decode cX7_step 111 = .ok (.aload_n 0, 1) := by decide +kernel
theorem dX7_step_112 : decode cX7_step 112 = .ok (.aload_n 0, 1) := by decide +kernel
theorem dX7_step_113 : decode cX7_step 113 = .ok (.getfield 22, 3) := by decide +kernel
theorem dX7_step_116 : decode cX7_step 116 = .ok (.invokevirtual 45, 3) := by decide +kernel
theorem dX7_step_119 : decode cX7_step 119 = .ok (.ifCond .eq 48, 3) := by decide +kernel
theorem dX7_step_122 : decode cX7_step 122 = .ok (.aload_n 0, 1) := by decide +kernel
theorem dX7_step_123 : decode cX7_step 123 = .ok (.getfield 22, 3) := by decide +kernel
theorem dX7_step_126 : decode cX7_step 126 = .ok (.aload_n 0, 1) := by decide +kernel
theorem dX7_step_127 : decode cX7_step 127 = .ok (.getfield 15, 3) := by decide +kernel
theorem dX7_step_130 : decode cX7_step 130 = .ok (.if_icmp .ge 37, 3) := by decide +kernel
theorem dX7_step_133 : decode cX7_step 133 = .ok (.aload_n 0, 1) := by decide +kernel
theorem dX7_step_134 : decode cX7_step 134 = .ok (.dup, 1) := by decide +kernel
theorem dX7_step_135 : decode cX7_step 135 = .ok (.getfield 22, 3) := by decide +kernel
theorem dX7_step_138 : decode cX7_step 138 = .ok (.iconst 1, 1) := by decide +kernel
theorem dX7_step_139 : decode cX7_step 139 = .ok (.iadd, 1) := by decide +kernel
theorem dX7_step_140 : decode cX7_step 140 = .ok (.putfield 22, 3) := by decide +kernel
theorem dX7_step_143 : decode cX7_step 143 = .ok (.goto (-32), 3) := by decide +kernel
theorem dX7_step_146 : decode cX7_step 146 = .ok (.aload_n 0, 1) := by decide +kernel
theorem dX7_step_147 : decode cX7_step 147 = .ok (.getfield 22, 3) := by decide +kernel
theorem dX7_step_150 : decode cX7_step 150 = .ok (.aload_n 0, 1) := by decide +kernel
theorem dX7_step_151 : decode cX7_step 151 = .ok (.getfield 15, 3) := by decide +kernel
theorem dX7_step_154 : decode cX7_step 154 = .ok (.if_icmp .ge 13, 3) := by decide +kernel
theorem dX7_step_157 : decode cX7_step 157 = .ok (.aload_n 0, 1) := by decide +kernel
theorem dX7_step_158 : decode cX7_step 158 = .ok (.dup, 1) := by decide +kernel
theorem dX7_step_159 : decode cX7_step 159 = .ok (.getfield 22, 3) := by decide +kernel
theorem dX7_step_162 : decode cX7_step 162 = .ok (.iconst 1, 1) := by decide +kernel
theorem dX7_step_163 : decode cX7_step 163 = .ok (.iadd, 1) := by decide +kernel
theorem dX7_step_164 : decode cX7_step 164 = .ok (.putfield 22, 3) := by decide +kernel
theorem dX7_step_167 : decode cX7_step 167 = .ok (.return_, 1) := by decide +kernel
theorem dX7_isDigitAt_0 : decode cX7_isDigitAt 0 = .ok (.iload_n 1, 1) := by decide +kernel
theorem dX7_isDigitAt_1 : decode cX7_isDigitAt 1 = .ok (.ifCond .lt 37, 3) := by decide +kernel
theorem dX7_isDigitAt_4 : decode cX7_isDigitAt 4 = .ok (.iload_n 1, 1) := by decide +kernel
theorem dX7_isDigitAt_5 : decode cX7_isDigitAt 5 = .ok (.aload_n 0, 1) := by decide +kernel
theorem dX7_isDigitAt_6 : decode cX7_isDigitAt 6 = .ok (.getfield 15, 3) := by decide +kernel
theorem dX7_isDigitAt_9 : decode cX7_isDigitAt 9 = .ok (.if_icmp .ge 29, 3) := by decide +kernel
theorem dX7_isDigitAt_12 : decode cX7_isDigitAt 12 = .ok (.aload_n 0, 1) := by decide +kernel
theorem dX7_isDigitAt_13 : decode cX7_isDigitAt 13 = .ok (.getfield 9, 3) := by decide +kernel
theorem dX7_isDigitAt_16 : decode cX7_isDigitAt 16 = .ok (.iload_n 1, 1) := by decide +kernel
theorem dX7_isDigitAt_17 : decode cX7_isDigitAt 17 = .ok (.caload, 1) := by decide +kernel
theorem dX7_isDigitAt_18 : decode cX7_isDigitAt 18 = .ok (.bipush 48, 2) := by decide +kernel
theorem dX7_isDigitAt_20 : decode cX7_isDigitAt 20 = .ok (.if_icmp .lt 18, 3) := by decide +kernel
theorem dX7_isDigitAt_23 : decode cX7_isDigitAt 23 = .ok (.aload_n 0, 1) := by decide +kernel
theorem dX7_isDigitAt_24 : decode cX7_isDigitAt 24 = .ok (.getfield 9, 3) := by decide +kernel
theorem dX7_isDigitAt_27 : decode cX7_isDigitAt 27 = .ok (.iload_n 1, 1) := by decide +kernel
theorem dX7_isDigitAt_28 : decode cX7_isDigitAt 28 = .ok (.caload, 1) := by decide +kernel
theorem dX7_isDigitAt_29 : decode cX7_isDigitAt 29 = .ok (.bipush 57, 2) := by decide +kernel
theorem dX7_isDigitAt_31 : decode cX7_isDigitAt 31 = .ok (.if_icmp .gt 7, 3) := by decide +kernel
theorem dX7_isDigitAt_34 : decode cX7_isDigitAt 34 = .ok (.iconst 1, 1) := by decide +kernel
theorem dX7_isDigitAt_35 : decode cX7_isDigitAt 35 = .ok (.goto 4, 3) := by decide +kernel
theorem dX7_isDigitAt_38 : decode cX7_isDigitAt 38 = .ok (.iconst 0, 1) := by decide +kernel
theorem dX7_isDigitAt_39 : decode cX7_isDigitAt 39 = .ok (.ireturn, 1) := by decide +kernel
theorem dX7_isSmallAt_0 : decode cX7_isSmallAt 0 = .ok (.iload_n 1, 1) := by decide +kernel
theorem dX7_isSmallAt_1 : decode cX7_isSmallAt 1 = .ok (.ifCond .lt 37, 3) := by decide +kernel
theorem dX7_isSmallAt_4 : decode cX7_isSmallAt 4 = .ok (.iload_n 1, 1) := by decide +kernel
theorem dX7_isSmallAt_5 : decode cX7_isSmallAt 5 = .ok (.aload_n 0, 1) := by decide +kernel
theorem dX7_isSmallAt_6 : decode cX7_isSmallAt 6 = .ok (.getfield 15, 3) := by decide +kernel
theorem dX7_isSmallAt_9 : decode cX7_isSmallAt 9 = .ok (.if_icmp .ge 29, 3) := by decide +kernel
theorem dX7_isSmallAt_12 : decode cX7_isSmallAt 12 = .ok (.aload_n 0, 1) := by decide +kernel
theorem dX7_isSmallAt_13 : decode cX7_isSmallAt 13 = .ok (.getfield 9, 3) := by decide +kernel
theorem dX7_isSmallAt_16 : decode cX7_isSmallAt 16 = .ok (.iload_n 1, 1) := by decide +kernel
theorem dX7_isSmallAt_17 : decode cX7_isSmallAt 17 = .ok (.caload, 1) := by decide +kernel
theorem dX7_isSmallAt_18 : decode cX7_isSmallAt 18 = .ok (.bipush 97, 2) := by decide +kernel
theorem dX7_isSmallAt_20 : decode cX7_isSmallAt 20 = .ok (.if_icmp .lt 18, 3) := by decide +kernel
theorem dX7_isSmallAt_23 : decode cX7_isSmallAt 23 = .ok (.aload_n 0, 1) := by decide +kernel
theorem dX7_isSmallAt_24 : decode cX7_isSmallAt 24 = .ok (.getfield 9, 3) := by decide +kernel
theorem dX7_isSmallAt_27 : decode cX7_isSmallAt 27 = .ok (.iload_n 1, 1) := by decide +kernel
theorem dX7_isSmallAt_28 : decode cX7_isSmallAt 28 = .ok (.caload, 1) := by decide +kernel
theorem dX7_isSmallAt_29 : decode cX7_isSmallAt 29 = .ok (.bipush 122, 2) := by decide +kernel
theorem dX7_isSmallAt_31 : decode cX7_isSmallAt 31 = .ok (.if_icmp .gt 7, 3) := by decide +kernel
theorem dX7_isSmallAt_34 : decode cX7_isSmallAt 34 = .ok (.iconst 1, 1) := by decide +kernel
theorem dX7_isSmallAt_35 : decode cX7_isSmallAt 35 = .ok (.goto 4, 3) := by decide +kernel
theorem dX7_isSmallAt_38 : decode cX7_isSmallAt 38 = .ok (.iconst 0, 1) := by decide +kernel
theorem dX7_isSmallAt_39 : decode cX7_isSmallAt 39 = .ok (.ireturn, 1) := by decide +kernel
theorem dX7_isWord_0 : decode cX7_isWord 0 = .ok (.aload_n 0, 1) := by decide +kernel
theorem dX7_isWord_1 : decode cX7_isWord 1 = .ok (.getfield 22, 3) := by decide +kernel
theorem dX7_isWord_4 : decode cX7_isWord 4 = .ok (.aload_n 0, 1) := by decide +kernel
theorem dX7_isWord_5 : decode cX7_isWord 5 = .ok (.getfield 19, 3) := by decide +kernel
theorem dX7_isWord_8 : decode cX7_isWord 8 = .ok (.isub, 1) := by decide +kernel
theorem dX7_isWord_9 : decode cX7_isWord 9 = .ok (.aload_n 1, 1) := by decide +kernel
theorem dX7_isWord_10 : decode cX7_isWord 10 = .ok (.invokevirtual 48, 3) := by decide +kernel
theorem dX7_isWord_13 : decode cX7_isWord 13 = .ok (.if_icmp .ne 14, 3) := by decide +kernel
theorem dX7_isWord_16 : decode cX7_isWord 16 = .ok (.aload_n 0, 1) := by decide +kernel
theorem dX7_isWord_17 : decode cX7_isWord 17 = .ok (.getfield 22, 3) := by decide +kernel
theorem dX7_isWord_20 : decode cX7_isWord 20 = .ok (.aload_n 0, 1) := by decide +kernel
theorem dX7_isWord_21 : decode cX7_isWord 21 = .ok (.getfield 15, 3) := by decide +kernel
theorem dX7_isWord_24 : decode cX7_isWord 24 = .ok (.if_icmp .le 5, 3) := by decide +kernel
theorem dX7_isWord_27 : decode cX7_isWord 27 = .ok (.iconst 0, 1) := by decide +kernel
theorem dX7_isWord_28 : decode cX7_isWord 28 = .ok (.ireturn, 1) := by decide +kernel
theorem dX7_isWord_29 : decode cX7_isWord 29 = .ok (.iconst 0, 1) := by decide +kernel
theorem dX7_isWord_30 : decode cX7_isWord 30 = .ok (.istore_n 2, 1) := by decide +kernel
theorem dX7_isWord_31 : decode cX7_isWord 31 = .ok (.iload_n 2, 1) := by decide +kernel
theorem dX7_isWord_32 : decode cX7_isWord 32 = .ok (.aload_n 1, 1) := by decide +kernel
theorem dX7_isWord_33 : decode cX7_isWord 33 = .ok (.invokevirtual 48, 3) := by decide +kernel
theorem dX7_isWord_36 : decode cX7_isWord 36 = .ok (.if_icmp .ge 30, 3) := by decide +kernel
theorem dX7_isWord_39 : decode cX7_isWord 39 = .ok (.aload_n 0, 1) := by decide +kernel
theorem dX7_isWord_40 : decode cX7_isWord 40 = .ok (.getfield 9, 3) := by decide +kernel
theorem dX7_isWord_43 : decode cX7_isWord 43 = .ok (.aload_n 0, 1) := by decide +kernel
theorem dX7_isWord_44 : decode cX7_isWord 44 = .ok (.getfield 19, 3) := by decide +kernel
theorem dX7_isWord_47 : decode cX7_isWord 47 = .ok (.iload_n 2, 1) := by decide +kernel
theorem dX7_isWord_48 : decode cX7_isWord 48 = .ok (.iadd, 1) := by decide +kernel
theorem dX7_isWord_49 : decode cX7_isWord 49 = .ok (.caload, 1) := by decide +kernel
theorem dX7_isWord_50 : decode cX7_isWord 50 = .ok (.aload_n 1, 1) := by decide +kernel
theorem dX7_isWord_51 : decode cX7_isWord 51 = .ok (.iload_n 2, 1) := by decide +kernel
theorem dX7_isWord_52 : decode cX7_isWord 52 = .ok (.invokevirtual 53, 3) := by decide +kernel
theorem dX7_isWord_55 : decode cX7_isWord 55 = .ok (.if_icmp .eq 5, 3) := by decide +kernel
theorem dX7_isWord_58 : decode cX7_isWord 58 = .ok (.iconst 0, 1) := by decide +kernel
theorem dX7_isWord_59 : decode cX7_isWord 59 = .ok (.ireturn, 1) := by decide +kernel
theorem dX7_isWord_60 : decode cX7_isWord 60 = .ok (.iinc 2 1, 3) := by decide +kernel
theorem dX7_isWord_63 : decode cX7_isWord 63 = .ok (.goto (-32), 3) := by decide +kernel
theorem dX7_isWord_66 : decode cX7_isWord 66 = .ok (.iconst 1, 1) := by decide +kernel
theorem dX7_isWord_67 : decode cX7_isWord 67 = .ok (.ireturn, 1) := by decide +kernel
theorem dX7_readClause_0 : decode cX7_readClause 0 = .ok (.aload_n 0, 1) := by decide +kernel
theorem dX7_readClause_1 : decode cX7_readClause 1 = .ok (.ldc 57, 2) := by decide +kernel
theorem dX7_readClause_3 : decode cX7_readClause 3 = .ok (.invokevirtual 59, 3) := by decide +kernel
theorem dX7_readClause_6 : decode cX7_readClause 6 = .ok (.ifCond .eq 13, 3) := by decide +kernel
theorem dX7_readClause_9 : decode cX7_readClause 9 = .ok (.aload_n 1, 1) := by decide +kernel
theorem dX7_readClause_10 : decode cX7_readClause 10 = .ok (.invokevirtual 63, 3) := by decide +kernel
