theorem dX7_readClause_13 : decode cX7_readClause 13 = .ok (.aload_n 0, 1) := by decide +kernel
theorem dX7_readClause_14 : decode cX7_readClause 14 = .ok (.invokevirtual 34, 3) := by decide +kernel
theorem dX7_readClause_17 : decode cX7_readClause 17 = .ok (.iconst 1, 1) := by decide +kernel
theorem dX7_readClause_18 : decode cX7_readClause 18 = .ok (.ireturn, 1) := by decide +kernel
theorem dX7_readClause_19 : decode cX7_readClause 19 = .ok (.aload_n 0, 1) := by decide +kernel
theorem dX7_readClause_20 : decode cX7_readClause 20 = .ok (.ldc 66, 2) := by decide +kernel
theorem dX7_readClause_22 : decode cX7_readClause 22 = .ok (.invokevirtual 59, 3) := by decide +kernel
theorem dX7_readClause_25 : decode cX7_readClause 25 = .ok (.ifCond .eq 9, 3) := by decide +kernel
theorem dX7_readClause_28 : decode cX7_readClause 28 = .ok (.aload_n 0, 1) := by decide +kernel
theorem dX7_readClause_29 : decode cX7_readClause 29 = .ok (.aload_n 1, 1) := by decide +kernel
theorem dX7_readClause_30 : decode cX7_readClause 30 = .ok (.invokevirtual 68, 3) := by decide +kernel
theorem dX7_readClause_33 : decode cX7_readClause 33 = .ok (.ireturn, 1) := by decide +kernel
theorem dX7_readClause_34 : decode cX7_readClause 34 = .ok (.aload_n 0, 1) := by decide +kernel
theorem dX7_readClause_35 : decode cX7_readClause 35 = .ok (.ldc 71, 2) := by decide +kernel
theorem dX7_readClause_37 : decode cX7_readClause 37 = .ok (.invokevirtual 59, 3) := by decide +kernel
theorem dX7_readClause_40 : decode cX7_readClause 40 = .ok (.ifCond .eq 44, 3) := by decide +kernel
theorem dX7_readClause_43 : decode cX7_readClause 43 = .ok (.aload_n 0, 1) := by decide +kernel
theorem dX7_readClause_44 : decode cX7_readClause 44 = .ok (.invokevirtual 34, 3) := by decide +kernel
theorem dX7_readClause_47 : decode cX7_readClause 47 = .ok (.aload_n 0, 1) := by decide +kernel
theorem dX7_readClause_48 : decode cX7_readClause 48 = .ok (.iconst 5, 1) := by decide +kernel
theorem dX7_readClause_49 : decode cX7_readClause 49 = .ok (.bipush 99, 2) := by decide +kernel
theorem dX7_readClause_51 : decode cX7_readClause 51 = .ok (.iconst (-1), 1) := by decide +kernel
theorem dX7_readClause_52 : decode cX7_readClause 52 = .ok (.invokevirtual 73, 3) := by decide +kernel
theorem dX7_readClause_55 : decode cX7_readClause 55 = .ok (.istore_n 2, 1) := by decide +kernel
theorem dX7_readClause_56 : decode cX7_readClause 56 = .ok (.aload_n 1, 1) := by decide +kernel
theorem dX7_readClause_57 : decode cX7_readClause 57 = .ok (.iload_n 2, 1) := by decide +kernel
theorem dX7_readClause_58 : decode cX7_readClause 58 = .ok (.iconst (-1), 1) := by decide +kernel
theorem dX7_readClause_59 : decode cX7_readClause 59 = .ok (.if_icmp .ne 10, 3) := by decide +kernel
theorem dX7_readClause_62 : decode cX7_readClause 62 = .ok (.aload_n 1, 1) := by decide +kernel
theorem dX7_readClause_63 : decode cX7_readClause 63 = .ok (.getfield 77, 3) := by decide +kernel
theorem dX7_readClause_66 : decode cX7_readClause 66 = .ok (.goto 4, 3) := by decide +kernel
theorem dX7_readClause_69 : decode cX7_readClause 69 = .ok (.iload_n 2, 1) := by decide +kernel
theorem dX7_readClause_70 : decode cX7_readClause 70 = .ok (.putfield 77, 3) := by decide +kernel
theorem dX7_readClause_73 : decode cX7_readClause 73 = .ok (.iload_n 2, 1) := by decide +kernel
theorem dX7_readClause_74 : decode cX7_readClause 74 = .ok (.iconst (-1), 1) := by decide +kernel
theorem dX7_readClause_75 : decode cX7_readClause 75 = .ok (.if_icmp .eq 7, 3) := by decide +kernel
theorem dX7_readClause_78 : decode cX7_readClause 78 = .ok (.iconst 1, 1) := by decide +kernel
theorem dX7_readClause_79 : decode cX7_readClause 79 = .ok (.goto 4, 3) := by decide +kernel
theorem dX7_readClause_82 : decode cX7_readClause 82 = .ok (.iconst 0, 1) := by decide +kernel
theorem dX7_readClause_83 : decode cX7_readClause 83 = .ok (.ireturn, 1) := by decide +kernel
theorem dX7_readClause_84 : decode cX7_readClause 84 = .ok (.aload_n 0, 1) := by decide +kernel
theorem dX7_readClause_85 : decode cX7_readClause 85 = .ok (.ldc 79, 2) := by decide +kernel
theorem dX7_readClause_87 : decode cX7_readClause 87 = .ok (.invokevirtual 59, 3) := by decide +kernel
theorem dX7_readClause_90 : decode cX7_readClause 90 = .ok (.ifCond .eq 44, 3) := by decide +kernel
theorem dX7_readClause_93 : decode cX7_readClause 93 = .ok (.aload_n 0, 1) := by decide +kernel
theorem dX7_readClause_94 : decode cX7_readClause 94 = .ok (.invokevirtual 34, 3) := by decide +kernel
theorem dX7_readClause_97 : decode cX7_readClause 97 = .ok (.aload_n 0, 1) := by decide +kernel
theorem dX7_readClause_98 : decode cX7_readClause 98 = .ok (.iconst 1, 1) := by decide +kernel
theorem dX7_readClause_99 : decode cX7_readClause 99 = .ok (.bipush 20, 2) := by decide +kernel
theorem dX7_readClause_101 : decode cX7_readClause 101 = .ok (.iconst (-1), 1) := by decide +kernel
theorem dX7_readClause_102 : decode cX7_readClause 102 = .ok (.invokevirtual 73, 3) := by decide +kernel
theorem dX7_readClause_105 : decode cX7_readClause 105 = .ok (.istore_n 2, 1) := by decide +kernel
theorem dX7_readClause_106 : decode cX7_readClause 106 = .ok (.aload_n 1, 1) := by decide +kernel
theorem dX7_readClause_107 : decode cX7_readClause 107 = .ok (.iload_n 2, 1) := by decide +kernel
theorem dX7_readClause_108 : decode cX7_readClause 108 = .ok (.iconst (-1), 1) := by decide +kernel
theorem dX7_readClause_109 : decode cX7_readClause 109 = .ok (.if_icmp .ne 10, 3) := by decide +kernel
theorem dX7_readClause_112 : decode cX7_readClause 112 = .ok (.aload_n 1, 1) := by decide +kernel
theorem dX7_readClause_113 : decode cX7_readClause 113 = .ok (.getfield 81, 3) := by decide +kernel
theorem dX7_readClause_116 : decode cX7_readClause 116 = .ok (.goto 4, 3) := by decide +kernel
theorem dX7_readClause_119 : decode cX7_readClause 119 = .ok (.iload_n 2, 1) := by decide +kernel
theorem dX7_readClause_120 : decode cX7_readClause 120 = .ok (.putfield 81, 3) := by decide +kernel
theorem dX7_readClause_123 : decode cX7_readClause 123 = .ok (.iload_n 2, 1) := by decide +kernel
theorem dX7_readClause_124 : decode cX7_readClause 124 = .ok (.iconst (-1), 1) := by decide +kernel
theorem dX7_readClause_125 : decode cX7_readClause 125 = .ok (.if_icmp .eq 7, 3) := by decide +kernel
theorem dX7_readClause_128 : decode cX7_readClause 128 = .ok (.iconst 1, 1) := by decide +kernel
theorem dX7_readClause_129 : decode cX7_readClause 129 = .ok (.goto 4, 3) := by decide +kernel
theorem dX7_readClause_132 : decode cX7_readClause 132 = .ok (.iconst 0, 1) := by decide +kernel
theorem dX7_readClause_133 : decode cX7_readClause 133 = .ok (.ireturn, 1) := by decide +kernel
theorem dX7_readClause_134 : decode cX7_readClause 134 = .ok (.aload_n 0, 1) := by decide +kernel
theorem dX7_readClause_135 : decode cX7_readClause 135 = .ok (.aload_n 1, 1) := by decide +kernel
theorem dX7_readClause_136 : decode cX7_readClause 136 = .ok (.aload_n 0, 1) := by decide +kernel
theorem dX7_readClause_137 : decode cX7_readClause 137 = .ok (.invokevirtual 83, 3) := by decide +kernel
theorem dX7_readClause_140 : decode cX7_readClause 140 = .ok (.invokevirtual 86, 3) := by decide +kernel
theorem dX7_readClause_143 : decode cX7_readClause 143 = .ok (.ireturn, 1) := by decide +kernel
theorem dX7_kindOfWord_0 : decode cX7_kindOfWord 0 = .ok (.aload_n 0, 1) := by decide +kernel
theorem dX7_kindOfWord_1 : decode cX7_kindOfWord 1 = .ok (.ldc 90, 2) := by decide +kernel
theorem dX7_kindOfWord_3 : decode cX7_kindOfWord 3 = .ok (.invokevirtual 59, 3) := by decide +kernel
theorem dX7_kindOfWord_6 : decode cX7_kindOfWord 6 = .ok (.ifCond .eq 5, 3) := by decide +kernel
theorem dX7_kindOfWord_9 : decode cX7_kindOfWord 9 = .ok (.iconst 0, 1) := by decide +kernel
theorem dX7_kindOfWord_10 : decode cX7_kindOfWord 10 = .ok (.ireturn, 1) := by decide +kernel
theorem dX7_kindOfWord_11 : decode cX7_kindOfWord 11 = .ok (.aload_n 0, 1) := by decide +kernel
theorem dX7_kindOfWord_12 : decode cX7_kindOfWord 12 = .ok (.ldc 92, 2) := by decide +kernel
theorem dX7_kindOfWord_14 : decode cX7_kindOfWord 14 = .ok (.invokevirtual 59, 3) := by decide +kernel
theorem dX7_kindOfWord_17 : decode cX7_kindOfWord 17 = .ok (.ifCond .eq 5, 3) := by decide +kernel
theorem dX7_kindOfWord_20 : decode cX7_kindOfWord 20 = .ok (.iconst 1, 1) := by decide +kernel
theorem dX7_kindOfWord_21 : decode cX7_kindOfWord 21 = .ok (.ireturn, 1) := by decide +kernel
theorem dX7_kindOfWord_22 : decode cX7_kindOfWord 22 = .ok (.aload_n 0, 1) := by decide +kernel
theorem dX7_kindOfWord_23 : decode cX7_kindOfWord 23 = .ok (.ldc 94, 2) := by decide +kernel
theorem dX7_kindOfWord_25 : decode cX7_kindOfWord 25 = .ok (.invokevirtual 59, 3) := by decide +kernel
theorem dX7_kindOfWord_28 : decode cX7_kindOfWord 28 = .ok (.ifCond .eq 5, 3) := by decide +kernel
theorem dX7_kindOfWord_31 : decode cX7_kindOfWord 31 = .ok (.iconst 2, 1) := by decide +kernel
theorem dX7_kindOfWord_32 : decode cX7_kindOfWord 32 = .ok (.ireturn, 1) := by decide +kernel
theorem dX7_kindOfWord_33 : decode cX7_kindOfWord 33 = .ok (.aload_n 0, 1) := by decide +kernel
theorem dX7_kindOfWord_34 : decode cX7_kindOfWord 34 = .ok (.ldc 96, 2) := by decide +kernel
theorem dX7_kindOfWord_36 : decode cX7_kindOfWord 36 = .ok (.invokevirtual 59, 3) := by decide +kernel
theorem dX7_kindOfWord_39 : decode cX7_kindOfWord 39 = .ok (.ifCond .eq 7, 3) := by decide +kernel
theorem dX7_kindOfWord_42 : decode cX7_kindOfWord 42 = .ok (.iconst 3, 1) := by decide +kernel
theorem dX7_kindOfWord_43 : decode cX7_kindOfWord 43 = .ok (.goto 4, 3) := by decide +kernel
theorem dX7_kindOfWord_46 : decode cX7_kindOfWord 46 = .ok (.iconst (-1), 1) := by decide +kernel
theorem dX7_kindOfWord_47 : decode cX7_kindOfWord 47 = .ok (.ireturn, 1) := by decide +kernel
theorem dX7_readStreet_0 : decode cX7_readStreet 0 = .ok (.iload_n 2, 1) := by decide +kernel
theorem dX7_readStreet_1 : decode cX7_readStreet 1 = .ok (.iconst (-1), 1) := by decide +kernel
theorem dX7_readStreet_2 : decode cX7_readStreet 2 = .ok (.if_icmp .eq 12, 3) := by decide +kernel
theorem dX7_readStreet_5 : decode cX7_readStreet 5 = .ok (.aload_n 1, 1) := by decide +kernel
theorem dX7_readStreet_6 : decode cX7_readStreet 6 = .ok (.getfield 98, 3) := by decide +kernel
theorem dX7_readStreet_9 : decode cX7_readStreet 9 = .ok (.bipush 8, 2) := by decide +kernel
theorem dX7_readStreet_11 : decode cX7_readStreet 11 = .ok (.if_icmp .lt 5, 3) := by decide +kernel
theorem dX7_readStreet_14 : decode cX7_readStreet 14 = .ok (.iconst 0, 1) := by decide +kernel
theorem dX7_readStreet_15 : decode cX7_readStreet 15 = .ok (.ireturn, 1) := by decide +kernel
theorem dX7_readStreet_16 : decode cX7_readStreet 16 = .ok (.aload_n 0, 1) := by decide +kernel
theorem dX7_readStreet_17 : decode cX7_readStreet 17 = .ok (.invokevirtual 34, 3) := by decide +kernel
theorem dX7_readStreet_20 : decode cX7_readStreet 20 = .ok (.aload_n 0, 1) := by decide +kernel
theorem dX7_readStreet_21 : decode cX7_readStreet 21 = .ok (.iconst 0, 1) := by decide +kernel
theorem dX7_readStreet_22 : decode cX7_readStreet 22 = .ok (.bipush 20, 2) := by decide +kernel
theorem dX7_readStreet_24 : decode cX7_readStreet 24 = .ok (.iconst (-1), 1) := by decide +kernel
theorem dX7_readStreet_25 : decode cX7_readStreet 25 = .ok (.invokevirtual 73, 3) := by decide +kernel
theorem dX7_readStreet_28 : decode cX7_readStreet 28 = .ok (.istore_n 3, 1) := by decide +kernel
theorem dX7_readStreet_29 : decode cX7_readStreet 29 = .ok (.iload_n 3, 1) := by decide +kernel
theorem dX7_readStreet_30 : decode cX7_readStreet 30 = .ok (.iconst (-1), 1) := by decide +kernel
theorem dX7_readStreet_31 : decode cX7_readStreet 31 = .ok (.if_icmp .ne 5, 3) := by decide +kernel
theorem dX7_readStreet_34 : decode cX7_readStreet 34 = .ok (.iconst 0, 1) := by decide +kernel
theorem dX7_readStreet_35 : decode cX7_readStreet 35 = .ok (.ireturn, 1) := by decide +kernel
theorem dX7_readStreet_36 : decode cX7_readStreet 36 = .ok (.aload_n 0, 1) := by decide +kernel
theorem dX7_readStreet_37 : decode cX7_readStreet 37 = .ok (.iconst 0, 1) := by decide +kernel
theorem dX7_readStreet_38 : decode cX7_readStreet 38 = .ok (.bipush 20, 2) := by decide +kernel
theorem dX7_readStreet_40 : decode cX7_readStreet 40 = .ok (.iconst (-1), 1) := by decide +kernel
theorem dX7_readStreet_41 : decode cX7_readStreet 41 = .ok (.invokevirtual 73, 3) := by decide +kernel
theorem dX7_readStreet_44 : decode cX7_readStreet 44 = .ok (.istore 4, 2) := by decide +kernel
theorem dX7_readStreet_46 : decode cX7_readStreet 46 = .ok (.iload 4, 2) := by decide +kernel
theorem dX7_readStreet_48 : decode cX7_readStreet 48 = .ok (.iconst (-1), 1) := by decide +kernel
theorem dX7_readStreet_49 : decode cX7_readStreet 49 = .ok (.if_icmp .ne 5, 3) := by decide +kernel
theorem dX7_readStreet_52 : decode cX7_readStreet 52 = .ok (.iconst 0, 1) := by decide +kernel
theorem dX7_readStreet_53 : decode cX7_readStreet 53 = .ok (.ireturn, 1) := by decide +kernel
theorem dX7_readStreet_54 : decode cX7_readStreet 54 = .ok (.aload_n 0, 1) := by decide +kernel
theorem dX7_readStreet_55 : decode cX7_readStreet 55 = .ok (.iconst 0, 1) := by decide +kernel
theorem dX7_readStreet_56 : decode cX7_readStreet 56 = .ok (.bipush 99, 2) := by decide +kernel
theorem dX7_readStreet_58 : decode cX7_readStreet 58 = .ok (.iconst (-1), 1) := by decide +kernel
theorem dX7_readStreet_59 : decode cX7_readStreet 59 = .ok (.invokevirtual 73, 3) := by decide +kernel
theorem dX7_readStreet_62 : decode cX7_readStreet 62 = .ok (.istore 5, 2) := by decide +kernel
theorem dX7_readStreet_64 : decode cX7_readStreet 64 = .ok (.iload 5, 2) := by decide +kernel
theorem dX7_readStreet_66 : decode cX7_readStreet 66 = .ok (.iconst (-1), 1) := by decide +kernel
theorem dX7_readStreet_67 : decode cX7_readStreet 67 = .ok (.if_icmp .ne 5, 3) := by decide +kernel
theorem dX7_readStreet_70 : decode cX7_readStreet 70 = .ok (.iconst 0, 1) := by decide +kernel
theorem dX7_readStreet_71 : decode cX7_readStreet 71 = .ok (.ireturn, 1) := by decide +kernel
theorem dX7_readStreet_72 : decode cX7_readStreet 72 = .ok (.aload_n 1, 1) := by decide +kernel
theorem dX7_readStreet_73 : decode cX7_readStreet 73 = .ok (.iload_n 2, 1) := by decide +kernel
theorem dX7_readStreet_74 : decode cX7_readStreet 74 = .ok (.iload_n 3, 1) := by decide +kernel
theorem dX7_readStreet_75 : decode cX7_readStreet 75 = .ok (.iload 4, 2) := by decide +kernel
theorem dX7_readStreet_77 : decode cX7_readStreet 77 = .ok (.iload 5, 2) := by decide +kernel
theorem dX7_readStreet_79 : decode cX7_readStreet 79 = .ok (.invokevirtual 101, 3) := by decide +kernel
theorem dX7_readStreet_82 : decode cX7_readStreet 82 = .ok (.iconst 1, 1) := by decide +kernel
theorem dX7_readStreet_83 : decode cX7_readStreet 83 = .ok (.ireturn, 1) := by decide +kernel
theorem dX7_readSlope_0 : decode cX7_readSlope 0 = .ok (.aload_n 0, 1) := by decide +kernel
theorem dX7_readSlope_1 : decode cX7_readSlope 1 = .ok (.invokevirtual 34, 3) := by decide +kernel
theorem dX7_readSlope_4 : decode cX7_readSlope 4 = .ok (.aload_n 0, 1) := by decide +kernel
theorem dX7_readSlope_5 : decode cX7_readSlope 5 = .ok (.iconst 0, 1) := by decide +kernel
theorem dX7_readSlope_6 : decode cX7_readSlope 6 = .ok (.aload_n 1, 1) := by decide +kernel
theorem dX7_readSlope_7 : decode cX7_readSlope 7 = .ok (.getfield 98, 3) := by decide +kernel
theorem dX7_readSlope_10 : decode cX7_readSlope 10 = .ok (.iconst 1, 1) := by decide +kernel
theorem dX7_readSlope_11 : decode cX7_readSlope 11 = .ok (.isub, 1) := by decide +kernel
theorem dX7_readSlope_12 : decode cX7_readSlope 12 = .ok (.iconst (-1), 1) := by decide +kernel
theorem dX7_readSlope_13 : decode cX7_readSlope 13 = .ok (.invokevirtual 73, 3) := by decide +kernel
theorem dX7_readSlope_16 : decode cX7_readSlope 16 = .ok (.istore_n 2, 1) := by decide +kernel
theorem dX7_readSlope_17 : decode cX7_readSlope 17 = .ok (.iload_n 2, 1) := by decide +kernel
theorem dX7_readSlope_18 : decode cX7_readSlope 18 = .ok (.iconst (-1), 1) := by decide +kernel
theorem dX7_readSlope_19 : decode cX7_readSlope 19 = .ok (.if_icmp .ne 5, 3) := by decide +kernel
theorem dX7_readSlope_22 : decode cX7_readSlope 22 = .ok (.iconst 0, 1) := by decide +kernel
theorem dX7_readSlope_23 : decode cX7_readSlope 23 = .ok (.ireturn, 1) := by decide +kernel
theorem dX7_readSlope_24 : decode cX7_readSlope 24 = .ok (.aload_n 0, 1) := by decide +kernel
theorem dX7_readSlope_25 : decode cX7_readSlope 25 = .ok (.iconst 0, 1) := by decide +kernel
theorem dX7_readSlope_26 : decode cX7_readSlope 26 = .ok (.aload_n 1, 1) := by decide +kernel
theorem dX7_readSlope_27 : decode cX7_readSlope 27 = .ok (.getfield 98, 3) := by decide +kernel
theorem dX7_readSlope_30 : decode cX7_readSlope 30 = .ok (.iconst 1, 1) := by decide +kernel
theorem dX7_readSlope_31 : decode cX7_readSlope 31 = .ok (.isub, 1) := by decide +kernel
theorem dX7_readSlope_32 : decode cX7_readSlope 32 = .ok (.iload_n 2, 1) := by decide +kernel
theorem dX7_readSlope_33 : decode cX7_readSlope 33 = .ok (.invokevirtual 73, 3) := by decide +kernel
theorem dX7_readSlope_36 : decode cX7_readSlope 36 = .ok (.istore_n 3, 1) := by decide +kernel
theorem dX7_readSlope_37 : decode cX7_readSlope 37 = .ok (.iload_n 3, 1) := by decide +kernel
theorem dX7_readSlope_38 : decode cX7_readSlope 38 = .ok (.iconst (-1), 1) := by decide +kernel
theorem dX7_readSlope_39 : decode cX7_readSlope 39 = .ok (.if_icmp .ne 5, 3) := by decide +kernel
theorem dX7_readSlope_42 : decode cX7_readSlope 42 = .ok (.iconst 0, 1) := by decide +kernel
theorem dX7_readSlope_43 : decode cX7_readSlope 43 = .ok (.ireturn, 1) := by decide +kernel
theorem dX7_readSlope_44 : decode cX7_readSlope 44 = .ok (.aload_n 1, 1) := by decide +kernel
theorem dX7_readSlope_45 : decode cX7_readSlope 45 = .ok (.iload_n 2, 1) := by decide +kernel
theorem dX7_readSlope_46 : decode cX7_readSlope 46 = .ok (.iload_n 3, 1) := by decide +kernel
theorem dX7_readSlope_47 : decode cX7_readSlope 47 = .ok (.invokevirtual 105, 3) := by decide +kernel
theorem dX7_readSlope_50 : decode cX7_readSlope 50 = .ok (.iconst 1, 1) := by decide +kernel
theorem dX7_readSlope_51 : decode cX7_readSlope 51 = .ok (.ireturn, 1) := by decide +kernel
theorem dX7_readNumber_0 : decode cX7_readNumber 0 = .ok (.aload_n 0, 1) := by decide +kernel
theorem dX7_readNumber_1 : decode cX7_readNumber 1 = .ok (.aload_n 0, 1) := by decide +kernel
theorem dX7_readNumber_2 : decode cX7_readNumber 2 = .ok (.getfield 19, 3) := by decide +kernel
theorem dX7_readNumber_5 : decode cX7_readNumber 5 = .ok (.invokevirtual 41, 3) := by decide +kernel
theorem dX7_readNumber_8 : decode cX7_readNumber 8 = .ok (.ifCond .eq 16, 3) := by decide +kernel
theorem dX7_readNumber_11 : decode cX7_readNumber 11 = .ok (.aload_n 0, 1) := by decide +kernel
theorem dX7_readNumber_12 : decode cX7_readNumber 12 = .ok (.getfield 22, 3) := by decide +kernel
theorem dX7_readNumber_15 : decode cX7_readNumber 15 = .ok (.aload_n 0, 1) := by decide +kernel
theorem dX7_readNumber_16 : decode cX7_readNumber 16 = .ok (.getfield 19, 3) := by decide +kernel
theorem dX7_readNumber_19 : decode cX7_readNumber 19 = .ok (.isub, 1) := by decide +kernel
theorem dX7_readNumber_20 : decode cX7_readNumber 20 = .ok (.iconst 2, 1) := by decide +kernel
theorem dX7_readNumber_21 : decode cX7_readNumber 21 = .ok (.if_icmp .le 5, 3) := by decide +kernel
theorem dX7_readNumber_24 : decode cX7_readNumber 24 = .ok (.iconst (-1), 1) := by decide +kernel
theorem dX7_readNumber_25 : decode cX7_readNumber 25 = .ok (.ireturn, 1) := by decide +kernel
theorem dX7_readNumber_26 : decode cX7_readNumber 26 = .ok (.iconst 0, 1) := by decide +kernel
theorem dX7_readNumber_27 : decode cX7_readNumber 27 = .ok (.istore 4, 2) := by decide +kernel
theorem dX7_readNumber_29 : decode cX7_readNumber 29 = .ok (.aload_n 0, 1) := by decide +kernel
theorem dX7_readNumber_30 : decode cX7_readNumber 30 = .ok (.getfield 19, 3) := by decide +kernel
theorem dX7_readNumber_33 : decode cX7_readNumber 33 = .ok (.istore 5, 2) := by decide +kernel
theorem dX7_readNumber_35 : decode cX7_readNumber 35 = .ok (.iload 5, 2) := by decide +kernel
theorem dX7_readNumber_37 : decode cX7_readNumber 37 = .ok (.aload_n 0, 1) := by decide +kernel
theorem dX7_readNumber_38 : decode cX7_readNumber 38 = .ok (.getfield 22, 3) := by decide +kernel
theorem dX7_readNumber_41 : decode cX7_readNumber 41 = .ok (.if_icmp .ge 36, 3) := by decide +kernel
theorem dX7_readNumber_44 : decode cX7_readNumber 44 = .ok (.iload 5, 2) := by decide +kernel
theorem dX7_readNumber_46 : decode cX7_readNumber 46 = .ok (.aload_n 0, 1) := by decide +kernel
theorem dX7_readNumber_47 : decode cX7_readNumber 47 = .ok (.getfield 15, 3) := by decide +kernel
theorem dX7_readNumber_50 : decode cX7_readNumber 50 = .ok (.if_icmp .ge 27, 3) := by decide +kernel
theorem dX7_readNumber_53 : decode cX7_readNumber 53 = .ok (.bipush 10, 2) := by decide +kernel
theorem dX7_readNumber_55 : decode cX7_readNumber 55 = .ok (.iload 4, 2) := by decide +kernel
theorem dX7_readNumber_57 : decode cX7_readNumber 57 = .ok (.imul, 1) := by decide +kernel
theorem dX7_readNumber_58 : decode cX7_readNumber 58 = .ok (.aload_n 0, 1) := by decide +kernel
theorem dX7_readNumber_59 : decode cX7_readNumber 59 = .ok (.getfield 9, 3) := by decide +kernel
theorem dX7_readNumber_62 : decode cX7_readNumber 62 = .ok (.iload 5, 2) := by decide +kernel
theorem dX7_readNumber_64 : decode cX7_readNumber 64 = .ok (.caload, 1) := by decide +kernel
theorem dX7_readNumber_65 : decode cX7_readNumber 65 = .ok (.bipush 48, 2) := by decide +kernel
theorem dX7_readNumber_67 : decode cX7_readNumber 67 = .ok (.isub, 1) := by decide +kernel
theorem dX7_readNumber_68 : decode cX7_readNumber 68 = .ok (.iadd, 1) := by decide +kernel
theorem dX7_readNumber_69 : decode cX7_readNumber 69 = .ok (.istore 4, 2) := by decide +kernel
theorem dX7_readNumber_71 : decode cX7_readNumber 71 = .ok (.iinc 5 1, 3) := by decide +kernel
theorem dX7_readNumber_74 : decode cX7_readNumber 74 = .ok (.goto (-39), 3) := by decide +kernel
theorem dX7_readNumber_77 : decode cX7_readNumber 77 = .ok (.iload 4, 2) := by decide +kernel
theorem dX7_readNumber_79 : decode cX7_readNumber 79 = .ok (.iload_n 1, 1) := by decide +kernel
theorem dX7_readNumber_80 : decode cX7_readNumber 80 = .ok (.if_icmp .lt 15, 3) := by decide +kernel
theorem dX7_readNumber_83 : decode cX7_readNumber 83 = .ok (.iload 4, 2) := by decide +kernel
theorem dX7_readNumber_85 : decode cX7_readNumber 85 = .ok (.iload_n 2, 1) := by decide +kernel
theorem dX7_readNumber_86 : decode cX7_readNumber 86 = .ok (.if_icmp .gt 9, 3) := by decide +kernel
theorem dX7_readNumber_89 : decode cX7_readNumber 89 = .ok (.iload 4, 2) := by decide +kernel
theorem dX7_readNumber_91 : decode cX7_readNumber 91 = .ok (.iload_n 3, 1) := by decide +kernel
theorem dX7_readNumber_92 : decode cX7_readNumber 92 = .ok (.if_icmp .ne 5, 3) := by decide +kernel
theorem dX7_readNumber_95 : decode cX7_readNumber 95 = .ok (.iconst (-1), 1) := by decide +kernel
theorem dX7_readNumber_96 : decode cX7_readNumber 96 = .ok (.ireturn, 1) := by decide +kernel
theorem dX7_readNumber_97 : decode cX7_readNumber 97 = .ok (.aload_n 0, 1) := by decide +kernel
theorem dX7_readNumber_98 : decode cX7_readNumber 98 = .ok (.invokevirtual 34, 3) := by decide +kernel
theorem dX7_readNumber_101 : decode cX7_readNumber 101 = .ok (.iload 4, 2) := by decide +kernel
theorem dX7_readNumber_103 : decode cX7_readNumber 103 = .ok (.ireturn, 1) := by decide +kernel
theorem dX8_init_0 : decode cX8_init 0 = .ok (.aload_n 0, 1) := by decide +kernel
theorem dX8_init_1 : decode cX8_init 1 = .ok (.invokespecial 1, 3) := by decide +kernel
theorem dX8_init_4 : decode cX8_init 4 = .ok (.aload_n 0, 1) := by decide +kernel
theorem dX8_init_5 : decode cX8_init 5 = .ok (.new 7, 3) := by decide +kernel
theorem dX8_init_8 : decode cX8_init 8 = .ok (.dup, 1) := by decide +kernel
theorem dX8_init_9 : decode cX8_init 9 = .ok (.invokespecial 9, 3) := by decide +kernel
theorem dX8_init_12 : decode cX8_init 12 = .ok (.putfield 10, 3) := by decide +kernel
theorem dX8_init_15 : decode cX8_init 15 = .ok (.aload_n 0, 1) := by decide +kernel
theorem dX8_init_16 : decode cX8_init 16 = .ok (.new 16, 3) := by decide +kernel
theorem dX8_init_19 : decode cX8_init 19 = .ok (.dup, 1) := by decide +kernel
theorem dX8_init_20 : decode cX8_init 20 = .ok (.invokespecial 18, 3) := by decide +kernel
theorem dX8_init_23 : decode cX8_init 23 = .ok (.putfield 19, 3) := by decide +kernel
theorem dX8_init_26 : decode cX8_init 26 = .ok (.aload_n 0, 1) := by decide +kernel
theorem dX8_init_27 : decode cX8_init 27 = .ok (.new 16, 3) := by decide +kernel
theorem dX8_init_30 : decode cX8_init 30 = .ok (.dup, 1) := by decide +kernel
theorem dX8_init_31 : decode cX8_init 31 = .ok (.invokespecial 18, 3) := by decide +kernel
theorem dX8_init_34 : decode cX8_init 34 = .ok (.putfield 23, 3) := by decide +kernel
theorem dX8_init_37 : decode cX8_init 37 = .ok (.aload_n 0, 1) := by decide +kernel
theorem dX8_init_38 : decode cX8_init 38 = .ok (.new 26, 3) := by decide +kernel
theorem dX8_init_41 : decode cX8_init 41 = .ok (.dup, 1) := by decide +kernel
theorem dX8_init_42 : decode cX8_init 42 = .ok (.invokespecial 28, 3) := by decide +kernel
theorem dX8_init_45 : decode cX8_init 45 = .ok (.putfield 29, 3) := by decide +kernel
theorem dX8_init_48 : decode cX8_init 48 = .ok (.aload_n 0, 1) := by decide +kernel
theorem dX8_init_49 : decode cX8_init 49 = .ok (.new 26, 3) := by decide +kernel
theorem dX8_init_52 : decode cX8_init 52 = .ok (.dup, 1) := by decide +kernel
theorem dX8_init_53 : decode cX8_init 53 = .ok (.invokespecial 28, 3) := by decide +kernel
theorem dX8_init_56 : decode cX8_init 56 = .ok (.putfield 33, 3) := by decide +kernel
theorem dX8_init_59 : decode cX8_init 59 = .ok (.aload_n 0, 1) := by decide +kernel
theorem dX8_init_60 : decode cX8_init 60 = .ok (.new 36, 3) := by decide +kernel
theorem dX8_init_63 : decode cX8_init 63 = .ok (.dup, 1) := by decide +kernel
theorem dX8_init_64 : decode cX8_init 64 = .ok (.invokespecial 38, 3) := by decide +kernel
theorem dX8_init_67 : decode cX8_init 67 = .ok (.putfield 39, 3) := by decide +kernel
theorem dX8_init_70 : decode cX8_init 70 = .ok (.aload_n 0, 1) := by decide +kernel
theorem dX8_init_71 : decode cX8_init 71 = .ok (.new 43, 3) := by decide +kernel
theorem dX8_init_74 : decode cX8_init 74 = .ok (.dup, 1) := by decide +kernel
theorem dX8_init_75 : decode cX8_init 75 = .ok (.invokespecial 45, 3) := by decide +kernel
theorem dX8_init_78 : decode cX8_init 78 = .ok (.putfield 46, 3) := by decide +kernel
theorem dX8_init_81 : decode cX8_init 81 = .ok (.aload_n 0, 1) := by decide +kernel
theorem dX8_init_82 : decode cX8_init 82 = .ok (.new 50, 3) := by decide +kernel
theorem dX8_init_85 : decode cX8_init 85 = .ok (.dup, 1) := by decide +kernel
theorem dX8_init_86 : decode cX8_init 86 = .ok (.invokespecial 52, 3) := by decide +kernel
theorem dX8_init_89 : decode cX8_init 89 = .ok (.putfield 53, 3) := by decide +kernel
theorem dX8_init_92 : decode cX8_init 92 = .ok (.aload_n 0, 1) := by decide +kernel
theorem dX8_init_93 : decode cX8_init 93 = .ok (.new 57, 3) := by decide +kernel
theorem dX8_init_96 : decode cX8_init 96 = .ok (.dup, 1) := by decide +kernel
theorem dX8_init_97 : decode cX8_init 97 = .ok (.invokespecial 59, 3) := by decide +kernel
theorem dX8_init_100 : decode cX8_init 100 = .ok (.putfield 60, 3) := by decide +kernel
theorem dX8_init_103 : decode cX8_init 103 = .ok (.aload_n 0, 1) := by decide +kernel
theorem dX8_init_104 : decode cX8_init 104 = .ok (.new 64, 3) := by decide +kernel
theorem dX8_init_107 : decode cX8_init 107 = .ok (.dup, 1) := by decide +kernel
theorem dX8_init_108 : decode cX8_init 108 = .ok (.invokespecial 66, 3) := by decide +kernel
theorem dX8_init_111 : decode cX8_init 111 = .ok (.putfield 67, 3) := by decide +kernel
theorem dX8_init_114 : decode cX8_init 114 = .ok (.return_, 1) := by decide +kernel
theorem dX8_write_0 : decode cX8_write 0 = .ok (.iload_n 1, 1) := by decide +kernel
theorem dX8_write_1 : decode cX8_write 1 = .ok (.ifCond .lt 10, 3) := by decide +kernel
theorem dX8_write_4 : decode cX8_write 4 = .ok (.iload_n 1, 1) := by decide +kernel
theorem dX8_write_5 : decode cX8_write 5 = .ok (.sipush 255, 3) := by decide +kernel
theorem dX8_write_8 : decode cX8_write 8 = .ok (.if_icmp .le 6, 3) := by decide +kernel
theorem dX8_write_11 : decode cX8_write 11 = .ok (.bipush (-3), 2) := by decide +kernel
theorem dX8_write_13 : decode cX8_write 13 = .ok (.ireturn, 1) := by decide +kernel
theorem dX8_write_14 : decode cX8_write 14 = .ok (.aload_n 0, 1) := by decide +kernel
theorem dX8_write_15 : decode cX8_write 15 = .ok (.getfield 10, 3) := by decide +kernel
theorem dX8_write_18 : decode cX8_write 18 = .ok (.iload_n 1, 1) := by decide +kernel
theorem dX8_write_19 : decode cX8_write 19 = .ok (.i2c, 1) := by decide +kernel
theorem dX8_write_20 : decode cX8_write 20 = .ok (.invokevirtual 71, 3) := by decide +kernel
theorem dX8_write_23 : decode cX8_write 23 = .ok (.ifCond .eq 13, 3) := by decide +kernel
theorem dX8_write_26 : decode cX8_write 26 = .ok (.aload_n 0, 1) := by decide +kernel
theorem dX8_write_27 : decode cX8_write 27 = .ok (.getfield 10, 3) := by decide +kernel
theorem dX8_write_30 : decode cX8_write 30 = .ok (.getfield 75, 3) := by decide +kernel
theorem dX8_write_33 : decode cX8_write 33 = .ok (.goto 5, 3) := by decide +kernel
theorem dX8_write_36 : decode cX8_write 36 = .ok (.bipush (-5), 2) := by decide +kernel
theorem dX8_write_38 : decode cX8_write 38 = .ok (.ireturn, 1) := by decide +kernel
theorem dX8_erase_0 : decode cX8_erase 0 = .ok (.aload_n 0, 1) := by decide +kernel
theorem dX8_erase_1 : decode cX8_erase 1 = .ok (.getfield 10, 3) := by decide +kernel
theorem dX8_erase_4 : decode cX8_erase 4 = .ok (.getfield 75, 3) := by decide +kernel
theorem dX8_erase_7 : decode cX8_erase 7 = .ok (.istore_n 1, 1) := by decide +kernel
theorem dX8_erase_8 : decode cX8_erase 8 = .ok (.aload_n 0, 1) := by decide +kernel
theorem dX8_erase_9 : decode cX8_erase 9 = .ok (.getfield 10, 3) := by decide +kernel
theorem dX8_erase_12 : decode cX8_erase 12 = .ok (.iconst 0, 1) := by decide +kernel
theorem dX8_erase_13 : decode cX8_erase 13 = .ok (.putfield 75, 3) := by decide +kernel
theorem dX8_erase_16 : decode cX8_erase 16 = .ok (.iload_n 1, 1) := by decide +kernel
theorem dX8_erase_17 : decode cX8_erase 17 = .ok (.ireturn, 1) := by decide +kernel
theorem dX8_fault_0 : decode cX8_fault 0 = .ok (.aload_n 0, 1) := by decide +kernel
theorem dX8_fault_1 : decode cX8_fault 1 = .ok (.getfield 10, 3) := by decide +kernel
theorem dX8_fault_4 : decode cX8_fault 4 = .ok (.aload_n 0, 1) := by decide +kernel
theorem dX8_fault_5 : decode cX8_fault 5 = .ok (.getfield 19, 3) := by decide +kernel
theorem dX8_fault_8 : decode cX8_fault 8 = .ok (.aload_n 0, 1) := by decide +kernel
theorem dX8_fault_9 : decode cX8_fault 9 = .ok (.getfield 23, 3) := by decide +kernel
theorem dX8_fault_12 : decode cX8_fault 12 = .ok (.invokevirtual 79, 3) := by decide +kernel
theorem dX8_fault_15 : decode cX8_fault 15 = .ok (.ireturn, 1) := by decide +kernel
theorem dX8_town_0 : decode cX8_town 0 = .ok (.aload_n 0, 1) := by decide +kernel
theorem dX8_town_1 : decode cX8_town 1 = .ok (.getfield 10, 3) := by decide +kernel
theorem dX8_town_4 : decode cX8_town 4 = .ok (.aload_n 0, 1) := by decide +kernel
theorem dX8_town_5 : decode cX8_town 5 = .ok (.getfield 19, 3) := by decide +kernel
theorem dX8_town_8 : decode cX8_town 8 = .ok (.aload_n 0, 1) := by decide +kernel
theorem dX8_town_9 : decode cX8_town 9 = .ok (.getfield 23, 3) := by decide +kernel
theorem dX8_town_12 : decode cX8_town 12 = .ok (.invokevirtual 79, 3) := by decide +kernel
theorem dX8_town_15 : decode cX8_town 15 = .ok (.iconst (-1), 1) := by decide +kernel
theorem dX8_town_16 : decode cX8_town 16 = .ok (.if_icmp .eq 6, 3) := by decide +kernel
theorem dX8_town_19 : decode cX8_town 19 = .ok (.bipush (-4), 2) := by decide +kernel
theorem dX8_town_21 : decode cX8_town 21 = .ok (.ireturn, 1) := by decide +kernel
theorem dX8_town_22 : decode cX8_town 22 = .ok (.aload_n 0, 1) := by decide +kernel
theorem dX8_town_23 : decode cX8_town 23 = .ok (.getfield 19, 3) := by decide +kernel
theorem dX8_town_26 : decode cX8_town 26 = .ok (.aload_n 0, 1) := by decide +kernel
theorem dX8_town_27 : decode cX8_town 27 = .ok (.getfield 23, 3) := by decide +kernel
theorem dX8_town_30 : decode cX8_town 30 = .ok (.invokevirtual 83, 3) := by decide +kernel
theorem dX8_town_33 : decode cX8_town 33 = .ok (.aload_n 0, 1) := by decide +kernel
theorem dX8_town_34 : decode cX8_town 34 = .ok (.getfield 29, 3) := by decide +kernel
theorem dX8_town_37 : decode cX8_town 37 = .ok (.aload_n 0, 1) := by decide +kernel
theorem dX8_town_38 : decode cX8_town 38 = .ok (.getfield 19, 3) := by decide +kernel
theorem dX8_town_41 : decode cX8_town 41 = .ok (.invokevirtual 87, 3) := by decide +kernel
theorem dX8_town_44 : decode cX8_town 44 = .ok (.aload_n 0, 1) := by decide +kernel
theorem dX8_town_45 : decode cX8_town 45 = .ok (.getfield 39, 3) := by decide +kernel
theorem dX8_town_48 : decode cX8_town 48 = .ok (.invokevirtual 90, 3) := by decide +kernel
theorem dX8_town_51 : decode cX8_town 51 = .ok (.aload_n 0, 1) := by decide +kernel
theorem dX8_town_52 : decode cX8_town 52 = .ok (.getfield 46, 3) := by decide +kernel
theorem dX8_town_55 : decode cX8_town 55 = .ok (.invokevirtual 93, 3) := by decide +kernel
theorem dX8_town_58 : decode cX8_town 58 = .ok (.aload_n 0, 1) := by decide +kernel
theorem dX8_town_59 : decode cX8_town 59 = .ok (.getfield 53, 3) := by decide +kernel
theorem dX8_town_62 : decode cX8_town 62 = .ok (.iconst 0, 1) := by decide +kernel
theorem dX8_town_63 : decode cX8_town 63 = .ok (.putfield 94, 3) := by decide +kernel
theorem dX8_town_66 : decode cX8_town 66 = .ok (.aload_n 0, 1) := by decide +kernel
theorem dX8_town_67 : decode cX8_town 67 = .ok (.getfield 10, 3) := by decide +kernel
theorem dX8_town_70 : decode cX8_town 70 = .ok (.iconst 0, 1) := by decide +kernel
theorem dX8_town_71 : decode cX8_town 71 = .ok (.putfield 75, 3) := by decide +kernel
theorem dX8_town_74 : decode cX8_town 74 = .ok (.aload_n 0, 1) := by decide +kernel
theorem dX8_town_75 : decode cX8_town 75 = .ok (.getfield 10, 3) := by decide +kernel
theorem dX8_town_78 : decode cX8_town 78 = .ok (.getfield 97, 3) := by decide +kernel
theorem dX8_town_81 : decode cX8_town 81 = .ok (.ireturn, 1) := by decide +kernel
theorem dX8_street_0 : decode cX8_street 0 = .ok (.aload_n 0, 1) := by decide +kernel
theorem dX8_street_1 : decode cX8_street 1 = .ok (.getfield 19, 3) := by decide +kernel
theorem dX8_street_4 : decode cX8_street 4 = .ok (.iload_n 1, 1) := by decide +kernel
theorem dX8_street_5 : decode cX8_street 5 = .ok (.invokevirtual 100, 3) := by decide +kernel
theorem dX8_street_8 : decode cX8_street 8 = .ok (.ifCond .ne 6, 3) := by decide +kernel
theorem dX8_street_11 : decode cX8_street 11 = .ok (.bipush (-2), 2) := by decide +kernel
theorem dX8_street_13 : decode cX8_street 13 = .ok (.ireturn, 1) := by decide +kernel
theorem dX8_street_14 : decode cX8_street 14 = .ok (.iload_n 2, 1) := by decide +kernel
theorem dX8_street_15 : decode cX8_street 15 = .ok (.tableswitch 141 0 6 #[41, 51, 61, 71, 81, 91, 104], 41) := by decide +kernel
theorem dX8_street_56 : decode cX8_street 56 = .ok (.aload_n 0, 1) := by decide +kernel
theorem dX8_street_57 : decode cX8_street 57 = .ok (.getfield 19, 3) := by decide +kernel
theorem dX8_street_60 : decode cX8_street 60 = .ok (.getfield 104, 3) := by decide +kernel
theorem dX8_street_63 : decode cX8_street 63 = .ok (.iload_n 1, 1) := by decide +kernel
theorem dX8_street_64 : decode cX8_street 64 = .ok (.iaload, 1) := by decide +kernel
theorem dX8_street_65 : decode cX8_street 65 = .ok (.ireturn, 1) := by decide +kernel
theorem dX8_street_66 : decode cX8_street 66 = .ok (.aload_n 0, 1) := by decide +kernel
theorem dX8_street_67 : decode cX8_street 67 = .ok (.getfield 19, 3) := by decide +kernel
theorem dX8_street_70 : decode cX8_street 70 = .ok (.getfield 108, 3) := by decide +kernel
theorem dX8_street_73 : decode cX8_street 73 = .ok (.iload_n 1, 1) := by decide +kernel
theorem dX8_street_74 : decode cX8_street 74 = .ok (.iaload, 1) := by decide +kernel
theorem dX8_street_75 : decode cX8_street 75 = .ok (.ireturn, 1) := by decide +kernel
theorem dX8_street_76 : decode cX8_street 76 = .ok (.aload_n 0, 1) := by decide +kernel
theorem dX8_street_77 : decode cX8_street 77 = .ok (.getfield 29, 3) := by decide +kernel
theorem dX8_street_80 : decode cX8_street 80 = .ok (.getfield 111, 3) := by decide +kernel
theorem dX8_street_83 : decode cX8_street 83 = .ok (.iload_n 1, 1) := by decide +kernel
theorem dX8_street_84 : decode cX8_street 84 = .ok (.iaload, 1) := by decide +kernel
theorem dX8_street_85 : decode cX8_street 85 = .ok (.ireturn, 1) := by decide +kernel
theorem dX8_street_86 : decode cX8_street 86 = .ok (.aload_n 0, 1) := by decide +kernel
theorem dX8_street_87 : decode cX8_street 87 = .ok (.getfield 29, 3) := by decide +kernel
theorem dX8_street_90 : decode cX8_street 90 = .ok (.getfield 114, 3) := by decide +kernel
theorem dX8_street_93 : decode cX8_street 93 = .ok (.iload_n 1, 1) := by decide +kernel
theorem dX8_street_94 : decode cX8_street 94 = .ok (.iaload, 1) := by decide +kernel
theorem dX8_street_95 : decode cX8_street 95 = .ok (.ireturn, 1) := by decide +kernel
theorem dX8_street_96 : decode cX8_street 96 = .ok (.aload_n 0, 1) := by decide +kernel
theorem dX8_street_97 : decode cX8_street 97 = .ok (.getfield 19, 3) := by decide +kernel
theorem dX8_street_100 : decode cX8_street 100 = .ok (.getfield 117, 3) := by decide +kernel
theorem dX8_street_103 : decode cX8_street 103 = .ok (.iload_n 1, 1) := by decide +kernel
theorem dX8_street_104 : decode cX8_street 104 = .ok (.iaload, 1) := by decide +kernel
theorem dX8_street_105 : decode cX8_street 105 = .ok (.ireturn, 1) := by decide +kernel
theorem dX8_street_106 : decode cX8_street 106 = .ok (.aload_n 0, 1) := by decide +kernel
theorem dX8_street_107 : decode cX8_street 107 = .ok (.getfield 19, 3) := by decide +kernel
theorem dX8_street_110 : decode cX8_street 110 = .ok (.aload_n 0, 1) := by decide +kernel
theorem dX8_street_111 : decode cX8_street 111 = .ok (.getfield 29, 3) := by decide +kernel
theorem dX8_street_114 : decode cX8_street 114 = .ok (.iload_n 1, 1) := by decide +kernel
theorem dX8_street_115 : decode cX8_street 115 = .ok (.invokestatic 120, 3) := by decide +kernel
theorem dX8_street_118 : decode cX8_street 118 = .ok (.ireturn, 1) := by decide +kernel
theorem dX8_street_119 : decode cX8_street 119 = .ok (.aload_n 0, 1) := by decide +kernel
theorem dX8_street_120 : decode cX8_street 120 = .ok (.getfield 60, 3) := by decide +kernel
theorem dX8_street_123 : decode cX8_street 123 = .ok (.aload_n 0, 1) := by decide +kernel
theorem dX8_street_124 : decode cX8_street 124 = .ok (.getfield 19, 3) := by decide +kernel
theorem dX8_street_127 : decode cX8_street 127 = .ok (.aload_n 0, 1) := by decide +kernel
theorem dX8_street_128 : decode cX8_street 128 = .ok (.getfield 29, 3) := by decide +kernel
theorem dX8_street_131 : decode cX8_street 131 = .ok (.invokevirtual 124, 3) := by decide +kernel
theorem dX8_street_134 : decode cX8_street 134 = .ok (.aload_n 0, 1) := by decide +kernel
theorem dX8_street_135 : decode cX8_street 135 = .ok (.getfield 60, 3) := by decide +kernel
theorem dX8_street_138 : decode cX8_street 138 = .ok (.aload_n 0, 1) := by decide +kernel
theorem dX8_street_139 : decode cX8_street 139 = .ok (.getfield 29, 3) := by decide +kernel
theorem dX8_street_142 : decode cX8_street 142 = .ok (.iconst 0, 1) := by decide +kernel
theorem dX8_street_143 : decode cX8_street 143 = .ok (.invokevirtual 128, 3) := by decide +kernel
theorem dX8_street_146 : decode cX8_street 146 = .ok (.aload_n 0, 1) := by decide +kernel
theorem dX8_street_147 : decode cX8_street 147 = .ok (.getfield 60, 3) := by decide +kernel
theorem dX8_street_150 : decode cX8_street 150 = .ok (.getfield 132, 3) := by decide +kernel
theorem dX8_street_153 : decode cX8_street 153 = .ok (.iload_n 1, 1) := by decide +kernel
theorem dX8_street_154 : decode cX8_street 154 = .ok (.iaload, 1) := by decide +kernel
theorem dX8_street_155 : decode cX8_street 155 = .ok (.ireturn, 1) := by decide +kernel
theorem dX8_street_156 : decode cX8_street 156 = .ok (.bipush (-3), 2) := by decide +kernel
theorem dX8_street_158 : decode cX8_street 158 = .ok (.ireturn, 1) := by decide +kernel
theorem dX8_as_0 : decode cX8_as 0 = .ok (.aload_n 0, 1) := by decide +kernel
theorem dX8_as_1 : decode cX8_as 1 = .ok (.getfield 19, 3) := by decide +kernel
theorem dX8_as_4 : decode cX8_as 4 = .ok (.iload_n 1, 1) := by decide +kernel
theorem dX8_as_5 : decode cX8_as 5 = .ok (.invokevirtual 100, 3) := by decide +kernel
theorem dX8_as_8 : decode cX8_as 8 = .ok (.ifCond .ne 6, 3) := by decide +kernel
theorem dX8_as_11 : decode cX8_as 11 = .ok (.bipush (-2), 2) := by decide +kernel
theorem dX8_as_13 : decode cX8_as 13 = .ok (.ireturn, 1) := by decide +kernel
theorem dX8_as_14 : decode cX8_as 14 = .ok (.iload_n 2, 1) := by decide +kernel
theorem dX8_as_15 : decode cX8_as 15 = .ok (.ifCond .lt 8, 3) := by decide +kernel
theorem dX8_as_18 : decode cX8_as 18 = .ok (.iload_n 2, 1) := by decide +kernel
theorem dX8_as_19 : decode cX8_as 19 = .ok (.iconst 4, 1) := by decide +kernel
theorem dX8_as_20 : decode cX8_as 20 = .ok (.if_icmp .le 6, 3) := by decide +kernel
theorem dX8_as_23 : decode cX8_as 23 = .ok (.bipush (-3), 2) := by decide +kernel
theorem dX8_as_25 : decode cX8_as 25 = .ok (.ireturn, 1) := by decide +kernel
theorem dX8_as_26 : decode cX8_as 26 = .ok (.aload_n 0, 1) := by decide +kernel
theorem dX8_as_27 : decode cX8_as 27 = .ok (.getfield 19, 3) := by decide +kernel
theorem dX8_as_30 : decode cX8_as 30 = .ok (.getfield 104, 3) := by decide +kernel
theorem dX8_as_33 : decode cX8_as 33 = .ok (.iload_n 1, 1) := by decide +kernel
theorem dX8_as_34 : decode cX8_as 34 = .ok (.iaload, 1) := by decide +kernel
theorem dX8_as_35 : decode cX8_as 35 = .ok (.iload_n 2, 1) := by decide +kernel
theorem dX8_as_36 : decode cX8_as 36 = .ok (.invokestatic 135, 3) := by decide +kernel
theorem dX8_as_39 : decode cX8_as 39 = .ok (.ifCond .eq 14, 3) := by decide +kernel
theorem dX8_as_42 : decode cX8_as 42 = .ok (.aload_n 0, 1) := by decide +kernel
theorem dX8_as_43 : decode cX8_as 43 = .ok (.getfield 19, 3) := by decide +kernel
theorem dX8_as_46 : decode cX8_as 46 = .ok (.iload_n 1, 1) := by decide +kernel
theorem dX8_as_47 : decode cX8_as 47 = .ok (.invokevirtual 139, 3) := by decide +kernel
theorem dX8_as_50 : decode cX8_as 50 = .ok (.goto 5, 3) := by decide +kernel
theorem dX8_as_53 : decode cX8_as 53 = .ok (.bipush (-4), 2) := by decide +kernel
theorem dX8_as_55 : decode cX8_as 55 = .ok (.ireturn, 1) := by decide +kernel
theorem dX8_day_0 : decode cX8_day 0 = .ok (.aload_n 0, 1) := by decide +kernel
theorem dX8_day_1 : decode cX8_day 1 = .ok (.getfield 29, 3) := by decide +kernel
theorem dX8_day_4 : decode cX8_day 4 = .ok (.getfield 143, 3) := by decide +kernel
theorem dX8_day_7 : decode cX8_day 7 = .ok (.sipush 999, 3) := by decide +kernel
theorem dX8_day_10 : decode cX8_day 10 = .ok (.if_icmp .lt 6, 3) := by decide +kernel
theorem dX8_day_13 : decode cX8_day 13 = .ok (.bipush (-5), 2) := by decide +kernel
theorem dX8_day_15 : decode cX8_day 15 = .ok (.ireturn, 1) := by decide +kernel
theorem dX8_day_16 : decode cX8_day 16 = .ok (.aload_n 0, 1) := by decide +kernel
theorem dX8_day_17 : decode cX8_day 17 = .ok (.getfield 39, 3) := by decide +kernel
theorem dX8_day_20 : decode cX8_day 20 = .ok (.aload_n 0, 1) := by decide +kernel
theorem dX8_day_21 : decode cX8_day 21 = .ok (.getfield 29, 3) := by decide +kernel
theorem dX8_day_24 : decode cX8_day 24 = .ok (.invokevirtual 146, 3) := by decide +kernel
theorem dX8_day_27 : decode cX8_day 27 = .ok (.aload_n 0, 1) := by decide +kernel
theorem dX8_day_28 : decode cX8_day 28 = .ok (.aload_n 0, 1) := by decide +kernel
theorem dX8_day_29 : decode cX8_day 29 = .ok (.getfield 29, 3) := by decide +kernel
theorem dX8_day_32 : decode cX8_day 32 = .ok (.invokevirtual 150, 3) := by decide +kernel
theorem dX8_day_35 : decode cX8_day 35 = .ok (.ireturn, 1) := by decide +kernel
theorem dX8_hose_0 : decode cX8_hose 0 = .ok (.aload_n 0, 1) := by decide +kernel
theorem dX8_hose_1 : decode cX8_hose 1 = .ok (.getfield 19, 3) := by decide +kernel
theorem dX8_hose_4 : decode cX8_hose 4 = .ok (.iload_n 1, 1) := by decide +kernel
theorem dX8_hose_5 : decode cX8_hose 5 = .ok (.invokevirtual 100, 3) := by decide +kernel
theorem dX8_hose_8 : decode cX8_hose 8 = .ok (.ifCond .ne 6, 3) := by decide +kernel
theorem dX8_hose_11 : decode cX8_hose 11 = .ok (.bipush (-2), 2) := by decide +kernel
theorem dX8_hose_13 : decode cX8_hose 13 = .ok (.ireturn, 1) := by decide +kernel
theorem dX8_hose_14 : decode cX8_hose 14 = .ok (.iload_n 2, 1) := by decide +kernel
theorem dX8_hose_15 : decode cX8_hose 15 = .ok (.iconst 1, 1) := by decide +kernel
theorem dX8_hose_16 : decode cX8_hose 16 = .ok (.if_icmp .lt 9, 3) := by decide +kernel
theorem dX8_hose_19 : decode cX8_hose 19 = .ok (.iload_n 2, 1) := by decide +kernel
theorem dX8_hose_20 : decode cX8_hose 20 = .ok (.bipush 20, 2) := by decide +kernel
theorem dX8_hose_22 : decode cX8_hose 22 = .ok (.if_icmp .le 6, 3) := by decide +kernel
theorem dX8_hose_25 : decode cX8_hose 25 = .ok (.bipush (-3), 2) := by decide +kernel
theorem dX8_hose_27 : decode cX8_hose 27 = .ok (.ireturn, 1) := by decide +kernel
theorem dX8_hose_28 : decode cX8_hose 28 = .ok (.aload_n 0, 1) := by decide +kernel
theorem dX8_hose_29 : decode cX8_hose 29 = .ok (.getfield 39, 3) := by decide +kernel
theorem dX8_hose_32 : decode cX8_hose 32 = .ok (.aload_n 0, 1) := by decide +kernel
theorem dX8_hose_33 : decode cX8_hose 33 = .ok (.getfield 29, 3) := by decide +kernel
theorem dX8_hose_36 : decode cX8_hose 36 = .ok (.invokevirtual 146, 3) := by decide +kernel
theorem dX8_hose_39 : decode cX8_hose 39 = .ok (.aload_n 0, 1) := by decide +kernel
theorem dX8_hose_40 : decode cX8_hose 40 = .ok (.getfield 29, 3) := by decide +kernel
theorem dX8_hose_43 : decode cX8_hose 43 = .ok (.getfield 114, 3) := by decide +kernel
theorem dX8_hose_46 : decode cX8_hose 46 = .ok (.iload_n 1, 1) := by decide +kernel
theorem dX8_hose_47 : decode cX8_hose 47 = .ok (.bipush 99, 2) := by decide +kernel
theorem dX8_hose_49 : decode cX8_hose 49 = .ok (.aload_n 0, 1) := by decide +kernel
theorem dX8_hose_50 : decode cX8_hose 50 = .ok (.getfield 29, 3) := by decide +kernel
theorem dX8_hose_53 : decode cX8_hose 53 = .ok (.getfield 114, 3) := by decide +kernel
theorem dX8_hose_56 : decode cX8_hose 56 = .ok (.iload_n 1, 1) := by decide +kernel
theorem dX8_hose_57 : decode cX8_hose 57 = .ok (.iaload, 1) := by decide +kernel
theorem dX8_hose_58 : decode cX8_hose 58 = .ok (.iload_n 2, 1) := by decide +kernel
theorem dX8_hose_59 : decode cX8_hose 59 = .ok (.iadd, 1) := by decide +kernel
theorem dX8_hose_60 : decode cX8_hose 60 = .ok (.invokestatic 154, 3) := by decide +kernel
theorem dX8_hose_63 : decode cX8_hose 63 = .ok (.iastore, 1) := by decide +kernel
theorem dX8_hose_64 : decode cX8_hose 64 = .ok (.aload_n 0, 1) := by decide +kernel
theorem dX8_hose_65 : decode cX8_hose 65 = .ok (.getfield 29, 3) := by decide +kernel
theorem dX8_hose_68 : decode cX8_hose 68 = .ok (.getfield 114, 3) := by decide +kernel
theorem dX8_hose_71 : decode cX8_hose 71 = .ok (.iload_n 1, 1) := by decide +kernel
theorem dX8_hose_72 : decode cX8_hose 72 = .ok (.iaload, 1) := by decide +kernel
theorem dX8_hose_73 : decode cX8_hose 73 = .ok (.ireturn, 1) := by decide +kernel
theorem dX8_poll_0 : decode cX8_poll 0 = .ok (.aload_n 0, 1) := by decide +kernel
theorem dX8_poll_1 : decode cX8_poll 1 = .ok (.getfield 19, 3) := by decide +kernel
theorem dX8_poll_4 : decode cX8_poll 4 = .ok (.iload_n 1, 1) := by decide +kernel
theorem dX8_poll_5 : decode cX8_poll 5 = .ok (.invokevirtual 100, 3) := by decide +kernel
theorem dX8_poll_8 : decode cX8_poll 8 = .ok (.ifCond .ne 6, 3) := by decide +kernel
theorem dX8_poll_11 : decode cX8_poll 11 = .ok (.bipush (-2), 2) := by decide +kernel
theorem dX8_poll_13 : decode cX8_poll 13 = .ok (.ireturn, 1) := by decide +kernel
theorem dX8_poll_14 : decode cX8_poll 14 = .ok (.iload_n 2, 1) := by decide +kernel
theorem dX8_poll_15 : decode cX8_poll 15 = .ok (.ifCond .lt 9, 3) := by decide +kernel
theorem dX8_poll_18 : decode cX8_poll 18 = .ok (.iload_n 2, 1) := by decide +kernel
theorem dX8_poll_19 : decode cX8_poll 19 = .ok (.bipush 20, 2) := by decide +kernel
theorem dX8_poll_21 : decode cX8_poll 21 = .ok (.if_icmp .le 6, 3) := by decide +kernel
theorem dX8_poll_24 : decode cX8_poll 24 = .ok (.bipush (-3), 2) := by decide +kernel
theorem dX8_poll_26 : decode cX8_poll 26 = .ok (.ireturn, 1) := by decide +kernel
theorem dX8_poll_27 : decode cX8_poll 27 = .ok (.aload_n 0, 1) := by decide +kernel
theorem dX8_poll_28 : decode cX8_poll 28 = .ok (.getfield 39, 3) := by decide +kernel
theorem dX8_poll_31 : decode cX8_poll 31 = .ok (.aload_n 0, 1) := by decide +kernel
theorem dX8_poll_32 : decode cX8_poll 32 = .ok (.getfield 29, 3) := by decide +kernel
theorem dX8_poll_35 : decode cX8_poll 35 = .ok (.invokevirtual 146, 3) := by decide +kernel
theorem dX8_poll_38 : decode cX8_poll 38 = .ok (.aload_n 0, 1) := by decide +kernel
theorem dX8_poll_39 : decode cX8_poll 39 = .ok (.getfield 29, 3) := by decide +kernel
theorem dX8_poll_42 : decode cX8_poll 42 = .ok (.getfield 111, 3) := by decide +kernel
theorem dX8_poll_45 : decode cX8_poll 45 = .ok (.iload_n 1, 1) := by decide +kernel
theorem dX8_poll_46 : decode cX8_poll 46 = .ok (.iaload, 1) := by decide +kernel
theorem dX8_poll_47 : decode cX8_poll 47 = .ok (.istore_n 3, 1) := by decide +kernel
theorem dX8_poll_48 : decode cX8_poll 48 = .ok (.aload_n 0, 1) := by decide +kernel
theorem dX8_poll_49 : decode cX8_poll 49 = .ok (.getfield 29, 3) := by decide +kernel
theorem dX8_poll_52 : decode cX8_poll 52 = .ok (.getfield 111, 3) := by decide +kernel
theorem dX8_poll_55 : decode cX8_poll 55 = .ok (.iload_n 1, 1) := by decide +kernel
theorem dX8_poll_56 : decode cX8_poll 56 = .ok (.iload_n 2, 1) := by decide +kernel
theorem dX8_poll_57 : decode cX8_poll 57 = .ok (.iastore, 1) := by decide +kernel
theorem dX8_poll_58 : decode cX8_poll 58 = .ok (.iload_n 3, 1) := by decide +kernel
theorem dX8_poll_59 : decode cX8_poll 59 = .ok (.ireturn, 1) := by decide +kernel
theorem dX8_undo_0 : decode cX8_undo 0 = .ok (.aload_n 0, 1) := by decide +kernel
theorem dX8_undo_1 : decode cX8_undo 1 = .ok (.getfield 39, 3) := by decide +kernel
theorem dX8_undo_4 : decode cX8_undo 4 = .ok (.aload_n 0, 1) := by decide +kernel
theorem dX8_undo_5 : decode cX8_undo 5 = .ok (.getfield 29, 3) := by decide +kernel
theorem dX8_undo_8 : decode cX8_undo 8 = .ok (.invokevirtual 160, 3) := by decide +kernel
theorem dX8_undo_11 : decode cX8_undo 11 = .ok (.ifCond .eq 13, 3) := by decide +kernel
theorem dX8_undo_14 : decode cX8_undo 14 = .ok (.aload_n 0, 1) := by decide +kernel
theorem dX8_undo_15 : decode cX8_undo 15 = .ok (.getfield 39, 3) := by decide +kernel
theorem dX8_undo_18 : decode cX8_undo 18 = .ok (.getfield 164, 3) := by decide +kernel
theorem dX8_undo_21 : decode cX8_undo 21 = .ok (.goto 5, 3) := by decide +kernel
theorem dX8_undo_24 : decode cX8_undo 24 = .ok (.bipush (-4), 2) := by decide +kernel
theorem dX8_undo_26 : decode cX8_undo 26 = .ok (.ireturn, 1) := by decide +kernel
theorem dX8_keep_0 : decode cX8_keep 0 = .ok (.iload_n 1, 1) := by decide +kernel
theorem dX8_keep_1 : decode cX8_keep 1 = .ok (.invokestatic 165, 3) := by decide +kernel
theorem dX8_keep_4 : decode cX8_keep 4 = .ok (.ifCond .ne 6, 3) := by decide +kernel
theorem dX8_keep_7 : decode cX8_keep 7 = .ok (.bipush (-2), 2) := by decide +kernel
theorem dX8_keep_9 : decode cX8_keep 9 = .ok (.ireturn, 1) := by decide +kernel
theorem dX8_keep_10 : decode cX8_keep 10 = .ok (.aload_n 0, 1) := by decide +kernel
theorem dX8_keep_11 : decode cX8_keep 11 = .ok (.getfield 46, 3) := by decide +kernel
theorem dX8_keep_14 : decode cX8_keep 14 = .ok (.iload_n 1, 1) := by decide +kernel
theorem dX8_keep_15 : decode cX8_keep 15 = .ok (.aload_n 0, 1) := by decide +kernel
theorem dX8_keep_16 : decode cX8_keep 16 = .ok (.getfield 29, 3) := by decide +kernel
theorem dX8_keep_19 : decode cX8_keep 19 = .ok (.invokevirtual 168, 3) := by decide +kernel
theorem dX8_keep_22 : decode cX8_keep 22 = .ok (.aload_n 0, 1) := by decide +kernel
theorem dX8_keep_23 : decode cX8_keep 23 = .ok (.getfield 29, 3) := by decide +kernel
theorem dX8_keep_26 : decode cX8_keep 26 = .ok (.getfield 143, 3) := by decide +kernel
theorem dX8_keep_29 : decode cX8_keep 29 = .ok (.ireturn, 1) := by decide +kernel
theorem dX8_back_0 : decode cX8_back 0 = .ok (.iload_n 1, 1) := by decide +kernel
theorem dX8_back_1 : decode cX8_back 1 = .ok (.invokestatic 165, 3) := by decide +kernel
theorem dX8_back_4 : decode cX8_back 4 = .ok (.ifCond .ne 6, 3) := by decide +kernel
theorem dX8_back_7 : decode cX8_back 7 = .ok (.bipush (-2), 2) := by decide +kernel
theorem dX8_back_9 : decode cX8_back 9 = .ok (.ireturn, 1) := by decide +kernel
theorem dX8_back_10 : decode cX8_back 10 = .ok (.aload_n 0, 1) := by decide +kernel
theorem dX8_back_11 : decode cX8_back 11 = .ok (.getfield 46, 3) := by decide +kernel
theorem dX8_back_14 : decode cX8_back 14 = .ok (.iload_n 1, 1) := by decide +kernel
theorem dX8_back_15 : decode cX8_back 15 = .ok (.aload_n 0, 1) := by decide +kernel
theorem dX8_back_16 : decode cX8_back 16 = .ok (.getfield 29, 3) := by decide +kernel
theorem dX8_back_19 : decode cX8_back 19 = .ok (.invokevirtual 172, 3) := by decide +kernel
theorem dX8_back_22 : decode cX8_back 22 = .ok (.ifCond .ne 6, 3) := by decide +kernel
theorem dX8_back_25 : decode cX8_back 25 = .ok (.bipush (-4), 2) := by decide +kernel
theorem dX8_back_27 : decode cX8_back 27 = .ok (.ireturn, 1) := by decide +kernel
theorem dX8_back_28 : decode cX8_back 28 = .ok (.aload_n 0, 1) := by decide +kernel
theorem dX8_back_29 : decode cX8_back 29 = .ok (.getfield 39, 3) := by decide +kernel
theorem dX8_back_32 : decode cX8_back 32 = .ok (.invokevirtual 90, 3) := by decide +kernel
theorem dX8_back_35 : decode cX8_back 35 = .ok (.aload_n 0, 1) := by decide +kernel
theorem dX8_back_36 : decode cX8_back 36 = .ok (.getfield 29, 3) := by decide +kernel
theorem dX8_back_39 : decode cX8_back 39 = .ok (.getfield 143, 3) := by decide +kernel
theorem dX8_back_42 : decode cX8_back 42 = .ok (.ireturn, 1) := by decide +kernel
theorem dX8_where_0 : decode cX8_where 0 = .ok (.iload_n 1, 1) := by decide +kernel
theorem dX8_where_1 : decode cX8_where 1 = .ok (.iconst 1, 1) := by decide +kernel
theorem dX8_where_2 : decode cX8_where 2 = .ok (.if_icmp .lt 9, 3) := by decide +kernel
theorem dX8_where_5 : decode cX8_where 5 = .ok (.iload_n 1, 1) := by decide +kernel
theorem dX8_where_6 : decode cX8_where 6 = .ok (.bipush 30, 2) := by decide +kernel
theorem dX8_where_8 : decode cX8_where 8 = .ok (.if_icmp .le 6, 3) := by decide +kernel
theorem dX8_where_11 : decode cX8_where 11 = .ok (.bipush (-3), 2) := by decide +kernel
theorem dX8_where_13 : decode cX8_where 13 = .ok (.ireturn, 1) := by decide +kernel
theorem dX8_where_14 : decode cX8_where 14 = .ok (.aload_n 0, 1) := by decide +kernel
theorem dX8_where_15 : decode cX8_where 15 = .ok (.iload_n 1, 1) := by decide +kernel
theorem dX8_where_16 : decode cX8_where 16 = .ok (.invokevirtual 176, 3) := by decide +kernel
theorem dX8_where_19 : decode cX8_where 19 = .ok (.aload_n 0, 1) := by decide +kernel
theorem dX8_where_20 : decode cX8_where 20 = .ok (.getfield 33, 3) := by decide +kernel
theorem dX8_where_23 : decode cX8_where 23 = .ok (.getfield 180, 3) := by decide +kernel
theorem dX8_where_26 : decode cX8_where 26 = .ok (.ireturn, 1) := by decide +kernel
theorem dX8_wet_0 : decode cX8_wet 0 = .ok (.aload_n 0, 1) := by decide +kernel
theorem dX8_wet_1 : decode cX8_wet 1 = .ok (.getfield 19, 3) := by decide +kernel
theorem dX8_wet_4 : decode cX8_wet 4 = .ok (.iload_n 1, 1) := by decide +kernel
theorem dX8_wet_5 : decode cX8_wet 5 = .ok (.invokevirtual 100, 3) := by decide +kernel
theorem dX8_wet_8 : decode cX8_wet 8 = .ok (.ifCond .ne 6, 3) := by decide +kernel
theorem dX8_wet_11 : decode cX8_wet 11 = .ok (.bipush (-2), 2) := by decide +kernel
theorem dX8_wet_13 : decode cX8_wet 13 = .ok (.ireturn, 1) := by decide +kernel
theorem dX8_wet_14 : decode cX8_wet 14 = .ok (.iload_n 2, 1) := by decide +kernel
theorem dX8_wet_15 : decode cX8_wet 15 = .ok (.ifCond .lt 9, 3) := by decide +kernel
theorem dX8_wet_18 : decode cX8_wet 18 = .ok (.iload_n 2, 1) := by decide +kernel
theorem dX8_wet_19 : decode cX8_wet 19 = .ok (.bipush 30, 2) := by decide +kernel
theorem dX8_wet_21 : decode cX8_wet 21 = .ok (.if_icmp .le 6, 3) := by decide +kernel
theorem dX8_wet_24 : decode cX8_wet 24 = .ok (.bipush (-3), 2) := by decide +kernel
theorem dX8_wet_26 : decode cX8_wet 26 = .ok (.ireturn, 1) := by decide +kernel
theorem dX8_wet_27 : decode cX8_wet 27 = .ok (.aload_n 0, 1) := by decide +kernel
theorem dX8_wet_28 : decode cX8_wet 28 = .ok (.iload_n 2, 1) := by decide +kernel
theorem dX8_wet_29 : decode cX8_wet 29 = .ok (.invokevirtual 176, 3) := by decide +kernel
theorem dX8_wet_32 : decode cX8_wet 32 = .ok (.aload_n 0, 1) := by decide +kernel
theorem dX8_wet_33 : decode cX8_wet 33 = .ok (.getfield 33, 3) := by decide +kernel
theorem dX8_wet_36 : decode cX8_wet 36 = .ok (.getfield 114, 3) := by decide +kernel
theorem dX8_wet_39 : decode cX8_wet 39 = .ok (.iload_n 1, 1) := by decide +kernel
theorem dX8_wet_40 : decode cX8_wet 40 = .ok (.iaload, 1) := by decide +kernel
theorem dX8_wet_41 : decode cX8_wet 41 = .ok (.ireturn, 1) := by decide +kernel
theorem dX8_carry_0 : decode cX8_carry 0 = .ok (.aload_n 0, 1) := by decide +kernel
theorem dX8_carry_1 : decode cX8_carry 1 = .ok (.getfield 19, 3) := by decide +kernel
theorem dX8_carry_4 : decode cX8_carry 4 = .ok (.iload_n 1, 1) := by decide +kernel
theorem dX8_carry_5 : decode cX8_carry 5 = .ok (.invokevirtual 100, 3) := by decide +kernel
theorem dX8_carry_8 : decode cX8_carry 8 = .ok (.ifCond .ne 6, 3) := by decide +kernel
theorem dX8_carry_11 : decode cX8_carry 11 = .ok (.bipush (-2), 2) := by decide +kernel
theorem dX8_carry_13 : decode cX8_carry 13 = .ok (.ireturn, 1) := by decide +kernel
theorem dX8_carry_14 : decode cX8_carry 14 = .ok (.aload_n 0, 1) := by decide +kernel
theorem dX8_carry_15 : decode cX8_carry 15 = .ok (.getfield 19, 3) := by decide +kernel
theorem dX8_carry_18 : decode cX8_carry 18 = .ok (.invokevirtual 183, 3) := by decide +kernel
theorem dX8_carry_21 : decode cX8_carry 21 = .ok (.iconst 1, 1) := by decide +kernel
theorem dX8_carry_22 : decode cX8_carry 22 = .ok (.iload_n 1, 1) := by decide +kernel
theorem dX8_carry_23 : decode cX8_carry 23 = .ok (.ishl, 1) := by decide +kernel
theorem dX8_carry_24 : decode cX8_carry 24 = .ok (.iconst (-1), 1) := by decide +kernel
theorem dX8_carry_25 : decode cX8_carry 25 = .ok (.ixor, 1) := by decide +kernel
theorem dX8_carry_26 : decode cX8_carry 26 = .ok (.iand, 1) := by decide +kernel
theorem dX8_carry_27 : decode cX8_carry 27 = .ok (.istore_n 2, 1) := by decide +kernel
theorem dX8_carry_28 : decode cX8_carry 28 = .ok (.iconst (-1), 1) := by decide +kernel
theorem dX8_carry_29 : decode cX8_carry 29 = .ok (.istore_n 3, 1) := by decide +kernel
theorem dX8_carry_30 : decode cX8_carry 30 = .ok (.bipush 9, 2) := by decide +kernel
theorem dX8_carry_32 : decode cX8_carry 32 = .ok (.istore 4, 2) := by decide +kernel
theorem dX8_carry_34 : decode cX8_carry 34 = .ok (.aload_n 0, 1) := by decide +kernel
theorem dX8_carry_35 : decode cX8_carry 35 = .ok (.getfield 60, 3) := by decide +kernel
theorem dX8_carry_38 : decode cX8_carry 38 = .ok (.aload_n 0, 1) := by decide +kernel
theorem dX8_carry_39 : decode cX8_carry 39 = .ok (.getfield 19, 3) := by decide +kernel
theorem dX8_carry_42 : decode cX8_carry 42 = .ok (.aload_n 0, 1) := by decide +kernel
theorem dX8_carry_43 : decode cX8_carry 43 = .ok (.getfield 29, 3) := by decide +kernel
theorem dX8_carry_46 : decode cX8_carry 46 = .ok (.invokevirtual 124, 3) := by decide +kernel
theorem dX8_carry_49 : decode cX8_carry 49 = .ok (.iconst 0, 1) := by decide +kernel
theorem dX8_carry_50 : decode cX8_carry 50 = .ok (.istore 5, 2) := by decide +kernel
theorem dX8_carry_52 : decode cX8_carry 52 = .ok (.iload 5, 2) := by decide +kernel
theorem dX8_carry_54 : decode cX8_carry 54 = .ok (.iconst 1, 1) := by decide +kernel
theorem dX8_carry_55 : decode cX8_carry 55 = .ok (.aload_n 0, 1) := by decide +kernel
theorem dX8_carry_56 : decode cX8_carry 56 = .ok (.getfield 19, 3) := by decide +kernel
theorem dX8_carry_59 : decode cX8_carry 59 = .ok (.getfield 187, 3) := by decide +kernel
theorem dX8_carry_62 : decode cX8_carry 62 = .ok (.ishl, 1) := by decide +kernel
theorem dX8_carry_63 : decode cX8_carry 63 = .ok (.if_icmp .ge 48, 3) := by decide +kernel
theorem dX8_carry_66 : decode cX8_carry 66 = .ok (.iload 5, 2) := by decide +kernel
theorem dX8_carry_68 : decode cX8_carry 68 = .ok (.iload_n 2, 1) := by decide +kernel
theorem dX8_carry_69 : decode cX8_carry 69 = .ok (.iconst (-1), 1) := by decide +kernel
theorem dX8_carry_70 : decode cX8_carry 70 = .ok (.ixor, 1) := by decide +kernel
theorem dX8_carry_71 : decode cX8_carry 71 = .ok (.iand, 1) := by decide +kernel
theorem dX8_carry_72 : decode cX8_carry 72 = .ok (.ifCond .ne 33, 3) := by decide +kernel
theorem dX8_carry_75 : decode cX8_carry 75 = .ok (.iload 5, 2) := by decide +kernel
theorem dX8_carry_77 : decode cX8_carry 77 = .ok (.invokestatic 190, 3) := by decide +kernel
theorem dX8_carry_80 : decode cX8_carry 80 = .ok (.iload 4, 2) := by decide +kernel
theorem dX8_carry_82 : decode cX8_carry 82 = .ok (.if_icmp .ge 23, 3) := by decide +kernel
theorem dX8_carry_85 : decode cX8_carry 85 = .ok (.aload_n 0, 1) := by decide +kernel
theorem dX8_carry_86 : decode cX8_carry 86 = .ok (.iload 5, 2) := by decide +kernel
theorem dX8_carry_88 : decode cX8_carry 88 = .ok (.iload_n 1, 1) := by decide +kernel
theorem dX8_carry_89 : decode cX8_carry 89 = .ok (.invokevirtual 195, 3) := by decide +kernel
theorem dX8_carry_92 : decode cX8_carry 92 = .ok (.ifCond .eq 13, 3) := by decide +kernel
theorem dX8_carry_95 : decode cX8_carry 95 = .ok (.iload 5, 2) := by decide +kernel
theorem dX8_carry_97 : decode cX8_carry 97 = .ok (.invokestatic 190, 3) := by decide +kernel
theorem dX8_carry_100 : decode cX8_carry 100 = .ok (.istore 4, 2) := by decide +kernel
theorem dX8_carry_102 : decode cX8_carry 102 = .ok (.iload 5, 2) := by decide +kernel
theorem dX8_carry_104 : decode cX8_carry 104 = .ok (.istore_n 3, 1) := by decide +kernel
theorem dX8_carry_105 : decode cX8_carry 105 = .ok (.iinc 5 1, 3) := by decide +kernel
theorem dX8_carry_108 : decode cX8_carry 108 = .ok (.goto (-56), 3) := by decide +kernel
theorem dX8_carry_111 : decode cX8_carry 111 = .ok (.iload_n 3, 1) := by decide +kernel
theorem dX8_carry_112 : decode cX8_carry 112 = .ok (.ireturn, 1) := by decide +kernel
theorem dX8_reach_0 : decode cX8_reach 0 = .ok (.aload_n 0, 1) := by decide +kernel
theorem dX8_reach_1 : decode cX8_reach 1 = .ok (.getfield 19, 3) := by decide +kernel
theorem dX8_reach_4 : decode cX8_reach 4 = .ok (.iload_n 1, 1) := by decide +kernel
theorem dX8_reach_5 : decode cX8_reach 5 = .ok (.invokevirtual 100, 3) := by decide +kernel
theorem dX8_reach_8 : decode cX8_reach 8 = .ok (.ifCond .ne 6, 3) := by decide +kernel
theorem dX8_reach_11 : decode cX8_reach 11 = .ok (.bipush (-2), 2) := by decide +kernel
theorem dX8_reach_13 : decode cX8_reach 13 = .ok (.ireturn, 1) := by decide +kernel
theorem dX8_reach_14 : decode cX8_reach 14 = .ok (.iconst 0, 1) := by decide +kernel
theorem dX8_reach_15 : decode cX8_reach 15 = .ok (.istore_n 2, 1) := by decide +kernel
theorem dX8_reach_16 : decode cX8_reach 16 = .ok (.iconst 0, 1) := by decide +kernel
theorem dX8_reach_17 : decode cX8_reach 17 = .ok (.istore_n 3, 1) := by decide +kernel
theorem dX8_reach_18 : decode cX8_reach 18 = .ok (.iload_n 3, 1) := by decide +kernel
theorem dX8_reach_19 : decode cX8_reach 19 = .ok (.aload_n 0, 1) := by decide +kernel
theorem dX8_reach_20 : decode cX8_reach 20 = .ok (.getfield 19, 3) := by decide +kernel
theorem dX8_reach_23 : decode cX8_reach 23 = .ok (.getfield 187, 3) := by decide +kernel
theorem dX8_reach_26 : decode cX8_reach 26 = .ok (.if_icmp .ge 45, 3) := by decide +kernel
theorem dX8_reach_29 : decode cX8_reach 29 = .ok (.aload_n 0, 1) := by decide +kernel
theorem dX8_reach_30 : decode cX8_reach 30 = .ok (.getfield 33, 3) := by decide +kernel
theorem dX8_reach_33 : decode cX8_reach 33 = .ok (.aload_n 0, 1) := by decide +kernel
theorem dX8_reach_34 : decode cX8_reach 34 = .ok (.getfield 29, 3) := by decide +kernel
theorem dX8_reach_37 : decode cX8_reach 37 = .ok (.invokevirtual 198, 3) := by decide +kernel
theorem dX8_reach_40 : decode cX8_reach 40 = .ok (.aload_n 0, 1) := by decide +kernel
theorem dX8_reach_41 : decode cX8_reach 41 = .ok (.getfield 33, 3) := by decide +kernel
theorem dX8_reach_44 : decode cX8_reach 44 = .ok (.aload_n 0, 1) := by decide +kernel
theorem dX8_reach_45 : decode cX8_reach 45 = .ok (.getfield 19, 3) := by decide +kernel
theorem dX8_reach_48 : decode cX8_reach 48 = .ok (.iload_n 3, 1) := by decide +kernel
theorem dX8_reach_49 : decode cX8_reach 49 = .ok (.invokevirtual 200, 3) := by decide +kernel
theorem dX8_reach_52 : decode cX8_reach 52 = .ok (.iload_n 1, 1) := by decide +kernel
theorem dX8_reach_53 : decode cX8_reach 53 = .ok (.ishr, 1) := by decide +kernel
theorem dX8_reach_54 : decode cX8_reach 54 = .ok (.iconst 1, 1) := by decide +kernel
theorem dX8_reach_55 : decode cX8_reach 55 = .ok (.iand, 1) := by decide +kernel
theorem dX8_reach_56 : decode cX8_reach 56 = .ok (.ifCond .eq 9, 3) := by decide +kernel
theorem dX8_reach_59 : decode cX8_reach 59 = .ok (.iload_n 2, 1) := by decide +kernel
theorem dX8_reach_60 : decode cX8_reach 60 = .ok (.iconst 1, 1) := by decide +kernel
theorem dX8_reach_61 : decode cX8_reach 61 = .ok (.iload_n 3, 1) := by decide +kernel
theorem dX8_reach_62 : decode cX8_reach 62 = .ok (.ishl, 1) := by decide +kernel
theorem dX8_reach_63 : decode cX8_reach 63 = .ok (.ior, 1) := by decide +kernel
theorem dX8_reach_64 : decode cX8_reach 64 = .ok (.istore_n 2, 1) := by decide +kernel
theorem dX8_reach_65 : decode cX8_reach 65 = .ok (.iinc 3 1, 3) := by decide +kernel
theorem dX8_reach_68 : decode cX8_reach 68 = .ok (.goto (-50), 3) := by decide +kernel
theorem dX8_reach_71 : decode cX8_reach 71 = .ok (.iload_n 2, 1) := by decide +kernel
theorem dX8_reach_72 : decode cX8_reach 72 = .ok (.ireturn, 1) := by decide +kernel
theorem dX8_month_0 : decode cX8_month 0 = .ok (.iload_n 1, 1) := by decide +kernel
theorem dX8_month_1 : decode cX8_month 1 = .ok (.iconst 1, 1) := by decide +kernel
theorem dX8_month_2 : decode cX8_month 2 = .ok (.if_icmp .lt 18, 3) := by decide +kernel
theorem dX8_month_5 : decode cX8_month 5 = .ok (.iload_n 1, 1) := by decide +kernel
theorem dX8_month_6 : decode cX8_month 6 = .ok (.iconst 4, 1) := by decide +kernel
theorem dX8_month_7 : decode cX8_month 7 = .ok (.if_icmp .gt 13, 3) := by decide +kernel
theorem dX8_month_10 : decode cX8_month 10 = .ok (.iload_n 2, 1) := by decide +kernel
theorem dX8_month_11 : decode cX8_month 11 = .ok (.iconst (-1), 1) := by decide +kernel
theorem dX8_month_12 : decode cX8_month 12 = .ok (.if_icmp .lt 8, 3) := by decide +kernel
theorem dX8_month_15 : decode cX8_month 15 = .ok (.iload_n 2, 1) := by decide +kernel
theorem dX8_month_16 : decode cX8_month 16 = .ok (.iconst 4, 1) := by decide +kernel
theorem dX8_month_17 : decode cX8_month 17 = .ok (.if_icmp .lt 6, 3) := by decide +kernel
theorem dX8_month_20 : decode cX8_month 20 = .ok (.bipush (-3), 2) := by decide +kernel
theorem dX8_month_22 : decode cX8_month 22 = .ok (.ireturn, 1) := by decide +kernel
theorem dX8_month_23 : decode cX8_month 23 = .ok (.aload_n 0, 1) := by decide +kernel
theorem dX8_month_24 : decode cX8_month 24 = .ok (.getfield 19, 3) := by decide +kernel
theorem dX8_month_27 : decode cX8_month 27 = .ok (.getfield 187, 3) := by decide +kernel
theorem dX8_month_30 : decode cX8_month 30 = .ok (.ifCond .eq 8, 3) := by decide +kernel
theorem dX8_month_33 : decode cX8_month 33 = .ok (.iload_n 2, 1) := by decide +kernel
theorem dX8_month_34 : decode cX8_month 34 = .ok (.iload_n 1, 1) := by decide +kernel
theorem dX8_month_35 : decode cX8_month 35 = .ok (.if_icmp .lt 5, 3) := by decide +kernel
theorem dX8_month_38 : decode cX8_month 38 = .ok (.iconst (-1), 1) := by decide +kernel
theorem dX8_month_39 : decode cX8_month 39 = .ok (.ireturn, 1) := by decide +kernel
theorem dX8_month_40 : decode cX8_month 40 = .ok (.aload_n 0, 1) := by decide +kernel
theorem dX8_month_41 : decode cX8_month 41 = .ok (.getfield 67, 3) := by decide +kernel
theorem dX8_month_44 : decode cX8_month 44 = .ok (.aload_n 0, 1) := by decide +kernel
theorem dX8_month_45 : decode cX8_month 45 = .ok (.getfield 19, 3) := by decide +kernel
theorem dX8_month_48 : decode cX8_month 48 = .ok (.aload_n 0, 1) := by decide +kernel
theorem dX8_month_49 : decode cX8_month 49 = .ok (.getfield 29, 3) := by decide +kernel
theorem dX8_month_52 : decode cX8_month 52 = .ok (.iload_n 1, 1) := by decide +kernel
theorem dX8_month_53 : decode cX8_month 53 = .ok (.invokevirtual 204, 3) := by decide +kernel
theorem dX8_month_56 : decode cX8_month 56 = .ok (.iload_n 2, 1) := by decide +kernel
theorem dX8_month_57 : decode cX8_month 57 = .ok (.iconst (-1), 1) := by decide +kernel
theorem dX8_month_58 : decode cX8_month 58 = .ok (.if_icmp .ne 13, 3) := by decide +kernel
theorem dX8_month_61 : decode cX8_month 61 = .ok (.aload_n 0, 1) := by decide +kernel
theorem dX8_month_62 : decode cX8_month 62 = .ok (.getfield 67, 3) := by decide +kernel
theorem dX8_month_65 : decode cX8_month 65 = .ok (.getfield 208, 3) := by decide +kernel
theorem dX8_month_68 : decode cX8_month 68 = .ok (.goto 12, 3) := by decide +kernel
theorem dX8_month_71 : decode cX8_month 71 = .ok (.aload_n 0, 1) := by decide +kernel
theorem dX8_month_72 : decode cX8_month 72 = .ok (.getfield 67, 3) := by decide +kernel
theorem dX8_month_75 : decode cX8_month 75 = .ok (.getfield 211, 3) := by decide +kernel
theorem dX8_month_78 : decode cX8_month 78 = .ok (.iload_n 2, 1) := by decide +kernel
theorem dX8_month_79 : decode cX8_month 79 = .ok (.iaload, 1) := by decide +kernel
theorem dX8_month_80 : decode cX8_month 80 = .ok (.ireturn, 1) := by decide +kernel
theorem dX8_seen_0 : decode cX8_seen 0 = .ok (.iload_n 1, 1) := by decide +kernel
theorem dX8_seen_1 : decode cX8_seen 1 = .ok (.iconst (-1), 1) := by decide +kernel
theorem dX8_seen_2 : decode cX8_seen 2 = .ok (.if_icmp .eq 17, 3) := by decide +kernel
theorem dX8_seen_5 : decode cX8_seen 5 = .ok (.aload_n 0, 1) := by decide +kernel
theorem dX8_seen_6 : decode cX8_seen 6 = .ok (.getfield 19, 3) := by decide +kernel
theorem dX8_seen_9 : decode cX8_seen 9 = .ok (.iload_n 1, 1) := by decide +kernel
theorem dX8_seen_10 : decode cX8_seen 10 = .ok (.invokevirtual 100, 3) := by decide +kernel
theorem dX8_seen_13 : decode cX8_seen 13 = .ok (.ifCond .ne 6, 3) := by decide +kernel
theorem dX8_seen_16 : decode cX8_seen 16 = .ok (.bipush (-2), 2) := by decide +kernel
theorem dX8_seen_18 : decode cX8_seen 18 = .ok (.ireturn, 1) := by decide +kernel
theorem dX8_seen_19 : decode cX8_seen 19 = .ok (.iload_n 2, 1) := by decide +kernel
theorem dX8_seen_20 : decode cX8_seen 20 = .ok (.iconst 1, 1) := by decide +kernel
theorem dX8_seen_21 : decode cX8_seen 21 = .ok (.if_icmp .lt 9, 3) := by decide +kernel
theorem dX8_seen_24 : decode cX8_seen 24 = .ok (.iload_n 2, 1) := by decide +kernel
theorem dX8_seen_25 : decode cX8_seen 25 = .ok (.bipush 20, 2) := by decide +kernel
theorem dX8_seen_27 : decode cX8_seen 27 = .ok (.if_icmp .le 6, 3) := by decide +kernel
theorem dX8_seen_30 : decode cX8_seen 30 = .ok (.bipush (-3), 2) := by decide +kernel
theorem dX8_seen_32 : decode cX8_seen 32 = .ok (.ireturn, 1) := by decide +kernel
theorem dX8_seen_33 : decode cX8_seen 33 = .ok (.aload_n 0, 1) := by decide +kernel
theorem dX8_seen_34 : decode cX8_seen 34 = .ok (.getfield 53, 3) := by decide +kernel
theorem dX8_seen_37 : decode cX8_seen 37 = .ok (.iload_n 1, 1) := by decide +kernel
theorem dX8_seen_38 : decode cX8_seen 38 = .ok (.iload_n 2, 1) := by decide +kernel
theorem dX8_seen_39 : decode cX8_seen 39 = .ok (.invokevirtual 214, 3) := by decide +kernel
theorem dX8_seen_42 : decode cX8_seen 42 = .ok (.ifCond .eq 13, 3) := by decide +kernel
theorem dX8_seen_45 : decode cX8_seen 45 = .ok (.aload_n 0, 1) := by decide +kernel
theorem dX8_seen_46 : decode cX8_seen 46 = .ok (.getfield 53, 3) := by decide +kernel
theorem dX8_seen_49 : decode cX8_seen 49 = .ok (.getfield 94, 3) := by decide +kernel
theorem dX8_seen_52 : decode cX8_seen 52 = .ok (.goto 5, 3) := by decide +kernel
theorem dX8_seen_55 : decode cX8_seen 55 = .ok (.bipush (-5), 2) := by decide +kernel
theorem dX8_seen_57 : decode cX8_seen 57 = .ok (.ireturn, 1) := by decide +kernel
theorem dX8_forget_0 : decode cX8_forget 0 = .ok (.aload_n 0, 1) := by decide +kernel
theorem dX8_forget_1 : decode cX8_forget 1 = .ok (.getfield 53, 3) := by decide +kernel
theorem dX8_forget_4 : decode cX8_forget 4 = .ok (.getfield 94, 3) := by decide +kernel
theorem dX8_forget_7 : decode cX8_forget 7 = .ok (.istore_n 1, 1) := by decide +kernel
theorem dX8_forget_8 : decode cX8_forget 8 = .ok (.aload_n 0, 1) := by decide +kernel
theorem dX8_forget_9 : decode cX8_forget 9 = .ok (.getfield 53, 3) := by decide +kernel
theorem dX8_forget_12 : decode cX8_forget 12 = .ok (.iconst 0, 1) := by decide +kernel
theorem dX8_forget_13 : decode cX8_forget 13 = .ok (.putfield 94, 3) := by decide +kernel
theorem dX8_forget_16 : decode cX8_forget 16 = .ok (.iload_n 1, 1) := by decide +kernel
theorem dX8_forget_17 : decode cX8_forget 17 = .ok (.ireturn, 1) := by decide +kernel
theorem dX8_polls_0 : decode cX8_polls 0 = .ok (.aload_n 0, 1) := by decide +kernel
theorem dX8_polls_1 : decode cX8_polls 1 = .ok (.getfield 19, 3) := by decide +kernel
theorem dX8_polls_4 : decode cX8_polls 4 = .ok (.iload_n 1, 1) := by decide +kernel
theorem dX8_polls_5 : decode cX8_polls 5 = .ok (.invokevirtual 100, 3) := by decide +kernel
theorem dX8_polls_8 : decode cX8_polls 8 = .ok (.ifCond .ne 6, 3) := by decide +kernel
theorem dX8_polls_11 : decode cX8_polls 11 = .ok (.bipush (-2), 2) := by decide +kernel
theorem dX8_polls_13 : decode cX8_polls 13 = .ok (.ireturn, 1) := by decide +kernel
theorem dX8_polls_14 : decode cX8_polls 14 = .ok (.iconst 0, 1) := by decide +kernel
theorem dX8_polls_15 : decode cX8_polls 15 = .ok (.istore_n 2, 1) := by decide +kernel
theorem dX8_polls_16 : decode cX8_polls 16 = .ok (.iconst 0, 1) := by decide +kernel
theorem dX8_polls_17 : decode cX8_polls 17 = .ok (.istore_n 3, 1) := by decide +kernel
theorem dX8_polls_18 : decode cX8_polls 18 = .ok (.iload_n 3, 1) := by decide +kernel
theorem dX8_polls_19 : decode cX8_polls 19 = .ok (.bipush 20, 2) := by decide +kernel
theorem dX8_polls_21 : decode cX8_polls 21 = .ok (.if_icmp .gt 43, 3) := by decide +kernel
theorem dX8_polls_24 : decode cX8_polls 24 = .ok (.aload_n 0, 1) := by decide +kernel
theorem dX8_polls_25 : decode cX8_polls 25 = .ok (.getfield 33, 3) := by decide +kernel
theorem dX8_polls_28 : decode cX8_polls 28 = .ok (.aload_n 0, 1) := by decide +kernel
theorem dX8_polls_29 : decode cX8_polls 29 = .ok (.getfield 29, 3) := by decide +kernel
theorem dX8_polls_32 : decode cX8_polls 32 = .ok (.invokevirtual 198, 3) := by decide +kernel
theorem dX8_polls_35 : decode cX8_polls 35 = .ok (.aload_n 0, 1) := by decide +kernel
theorem dX8_polls_36 : decode cX8_polls 36 = .ok (.getfield 33, 3) := by decide +kernel
theorem dX8_polls_39 : decode cX8_polls 39 = .ok (.getfield 111, 3) := by decide +kernel
theorem dX8_polls_42 : decode cX8_polls 42 = .ok (.iload_n 1, 1) := by decide +kernel
theorem dX8_polls_43 : decode cX8_polls 43 = .ok (.iload_n 3, 1) := by decide +kernel
theorem dX8_polls_44 : decode cX8_polls 44 = .ok (.iastore, 1) := by decide +kernel
theorem dX8_polls_45 : decode cX8_polls 45 = .ok (.aload_n 0, 1) := by decide +kernel
theorem dX8_polls_46 : decode cX8_polls 46 = .ok (.invokevirtual 216, 3) := by decide +kernel
theorem dX8_polls_49 : decode cX8_polls 49 = .ok (.ifCond .eq 9, 3) := by decide +kernel
theorem dX8_polls_52 : decode cX8_polls 52 = .ok (.iload_n 2, 1) := by decide +kernel
theorem dX8_polls_53 : decode cX8_polls 53 = .ok (.iconst 1, 1) := by decide +kernel
theorem dX8_polls_54 : decode cX8_polls 54 = .ok (.iload_n 3, 1) := by decide +kernel
theorem dX8_polls_55 : decode cX8_polls 55 = .ok (.ishl, 1) := by decide +kernel
theorem dX8_polls_56 : decode cX8_polls 56 = .ok (.ior, 1) := by decide +kernel
theorem dX8_polls_57 : decode cX8_polls 57 = .ok (.istore_n 2, 1) := by decide +kernel
theorem dX8_polls_58 : decode cX8_polls 58 = .ok (.iinc 3 1, 3) := by decide +kernel
theorem dX8_polls_61 : decode cX8_polls 61 = .ok (.goto (-43), 3) := by decide +kernel
theorem dX8_polls_64 : decode cX8_polls 64 = .ok (.iload_n 2, 1) := by decide +kernel
theorem dX8_polls_65 : decode cX8_polls 65 = .ok (.ireturn, 1) := by decide +kernel
theorem dX8_chance_0 : decode cX8_chance 0 = .ok (.iload_n 1, 1) := by decide +kernel
theorem dX8_chance_1 : decode cX8_chance 1 = .ok (.iconst (-1), 1) := by decide +kernel
theorem dX8_chance_2 : decode cX8_chance 2 = .ok (.if_icmp .eq 17, 3) := by decide +kernel
theorem dX8_chance_5 : decode cX8_chance 5 = .ok (.aload_n 0, 1) := by decide +kernel
theorem dX8_chance_6 : decode cX8_chance 6 = .ok (.getfield 19, 3) := by decide +kernel
theorem dX8_chance_9 : decode cX8_chance 9 = .ok (.iload_n 1, 1) := by decide +kernel
theorem dX8_chance_10 : decode cX8_chance 10 = .ok (.invokevirtual 100, 3) := by decide +kernel
theorem dX8_chance_13 : decode cX8_chance 13 = .ok (.ifCond .ne 6, 3) := by decide +kernel
theorem dX8_chance_16 : decode cX8_chance 16 = .ok (.bipush (-2), 2) := by decide +kernel
theorem dX8_chance_18 : decode cX8_chance 18 = .ok (.ireturn, 1) := by decide +kernel
theorem dX8_chance_19 : decode cX8_chance 19 = .ok (.iload_n 2, 1) := by decide +kernel
theorem dX8_chance_20 : decode cX8_chance 20 = .ok (.ifCond .lt 18, 3) := by decide +kernel
theorem dX8_chance_23 : decode cX8_chance 23 = .ok (.iload_n 2, 1) := by decide +kernel
theorem dX8_chance_24 : decode cX8_chance 24 = .ok (.bipush 10, 2) := by decide +kernel
theorem dX8_chance_26 : decode cX8_chance 26 = .ok (.if_icmp .gt 12, 3) := by decide +kernel
theorem dX8_chance_29 : decode cX8_chance 29 = .ok (.iload_n 3, 1) := by decide +kernel
theorem dX8_chance_30 : decode cX8_chance 30 = .ok (.ifCond .lt 8, 3) := by decide +kernel
theorem dX8_chance_33 : decode cX8_chance 33 = .ok (.iload_n 3, 1) := by decide +kernel
theorem dX8_chance_34 : decode cX8_chance 34 = .ok (.iconst 1, 1) := by decide +kernel
theorem dX8_chance_35 : decode cX8_chance 35 = .ok (.if_icmp .le 6, 3) := by decide +kernel
theorem dX8_chance_38 : decode cX8_chance 38 = .ok (.bipush (-3), 2) := by decide +kernel
theorem dX8_chance_40 : decode cX8_chance 40 = .ok (.ireturn, 1) := by decide +kernel
theorem dX8_chance_41 : decode cX8_chance 41 = .ok (.aload_n 0, 1) := by decide +kernel
theorem dX8_chance_42 : decode cX8_chance 42 = .ok (.iload_n 1, 1) := by decide +kernel
theorem dX8_chance_43 : decode cX8_chance 43 = .ok (.iload_n 2, 1) := by decide +kernel
theorem dX8_chance_44 : decode cX8_chance 44 = .ok (.invokevirtual 220, 3) := by decide +kernel
theorem dX8_chance_47 : decode cX8_chance 47 = .ok (.lstore 4, 2) := by decide +kernel
theorem dX8_chance_49 : decode cX8_chance 49 = .ok (.aload_n 0, 1) := by decide +kernel
theorem dX8_chance_50 : decode cX8_chance 50 = .ok (.iconst 0, 1) := by decide +kernel
theorem dX8_chance_51 : decode cX8_chance 51 = .ok (.iconst 0, 1) := by decide +kernel
theorem dX8_chance_52 : decode cX8_chance 52 = .ok (.invokevirtual 224, 3) := by decide +kernel
theorem dX8_chance_55 : decode cX8_chance 55 = .ok (.lstore 6, 2) := by decide +kernel
theorem dX8_chance_57 : decode cX8_chance 57 = .ok (.lload 4, 2) := by decide +kernel
theorem dX8_chance_59 : decode cX8_chance 59 = .ok (.lload 6, 2) := by decide +kernel
theorem dX8_chance_61 : decode cX8_chance 61 = .ok (.invokestatic 227, 3) := by decide +kernel
theorem dX8_chance_64 : decode cX8_chance 64 = .ok (.lstore 8, 2) := by decide +kernel
theorem dX8_chance_66 : decode cX8_chance 66 = .ok (.lload 8, 2) := by decide +kernel
theorem dX8_chance_68 : decode cX8_chance 68 = .ok (.lconst 0, 1) := by decide +kernel
theorem dX8_chance_69 : decode cX8_chance 69 = .ok (.lcmp, 1) := by decide +kernel
theorem dX8_chance_70 : decode cX8_chance 70 = .ok (.ifCond .gt 6, 3) := by decide +kernel
theorem dX8_chance_73 : decode cX8_chance 73 = .ok (.bipush (-3), 2) := by decide +kernel
theorem dX8_chance_75 : decode cX8_chance 75 = .ok (.ireturn, 1) := by decide +kernel
theorem dX8_chance_76 : decode cX8_chance 76 = .ok (.iload_n 3, 1) := by decide +kernel
theorem dX8_chance_77 : decode cX8_chance 77 = .ok (.ifCond .ne 8, 3) := by decide +kernel
theorem dX8_chance_80 : decode cX8_chance 80 = .ok (.lload 4, 2) := by decide +kernel
theorem dX8_chance_82 : decode cX8_chance 82 = .ok (.goto 5, 3) := by decide +kernel
theorem dX8_chance_85 : decode cX8_chance 85 = .ok (.lload 6, 2) := by decide +kernel
theorem dX8_chance_87 : decode cX8_chance 87 = .ok (.lload 8, 2) := by decide +kernel
theorem dX8_chance_89 : decode cX8_chance 89 = .ok (.ldiv, 1) := by decide +kernel
theorem dX8_chance_90 : decode cX8_chance 90 = .ok (.l2i, 1) := by decide +kernel
theorem dX8_chance_91 : decode cX8_chance 91 = .ok (.ireturn, 1) := by decide +kernel
theorem dX8_count_0 : decode cX8_count 0 = .ok (.iload_n 1, 1) := by decide +kernel
theorem dX8_count_1 : decode cX8_count 1 = .ok (.tableswitch 146 0 9 #[55, 63, 71, 79, 87, 102, 114, 122, 130, 138], 55) := by decide +kernel
theorem dX8_count_56 : decode cX8_count 56 = .ok (.aload_n 0, 1) := by decide +kernel
theorem dX8_count_57 : decode cX8_count 57 = .ok (.getfield 19, 3) := by decide +kernel
theorem dX8_count_60 : decode cX8_count 60 = .ok (.getfield 187, 3) := by decide +kernel
theorem dX8_count_63 : decode cX8_count 63 = .ok (.ireturn, 1) := by decide +kernel
theorem dX8_count_64 : decode cX8_count 64 = .ok (.aload_n 0, 1) := by decide +kernel
theorem dX8_count_65 : decode cX8_count 65 = .ok (.getfield 29, 3) := by decide +kernel
theorem dX8_count_68 : decode cX8_count 68 = .ok (.getfield 143, 3) := by decide +kernel
theorem dX8_count_71 : decode cX8_count 71 = .ok (.ireturn, 1) := by decide +kernel
theorem dX8_count_72 : decode cX8_count 72 = .ok (.aload_n 0, 1) := by decide +kernel
theorem dX8_count_73 : decode cX8_count 73 = .ok (.getfield 19, 3) := by decide +kernel
theorem dX8_count_76 : decode cX8_count 76 = .ok (.getfield 231, 3) := by decide +kernel
theorem dX8_count_79 : decode cX8_count 79 = .ok (.ireturn, 1) := by decide +kernel
theorem dX8_count_80 : decode cX8_count 80 = .ok (.aload_n 0, 1) := by decide +kernel
theorem dX8_count_81 : decode cX8_count 81 = .ok (.getfield 19, 3) := by decide +kernel
theorem dX8_count_84 : decode cX8_count 84 = .ok (.getfield 234, 3) := by decide +kernel
theorem dX8_count_87 : decode cX8_count 87 = .ok (.ireturn, 1) := by decide +kernel
theorem dX8_count_88 : decode cX8_count 88 = .ok (.aload_n 0, 1) := by decide +kernel
theorem dX8_count_89 : decode cX8_count 89 = .ok (.getfield 29, 3) := by decide +kernel
theorem dX8_count_92 : decode cX8_count 92 = .ok (.aload_n 0, 1) := by decide +kernel
theorem dX8_count_93 : decode cX8_count 93 = .ok (.getfield 19, 3) := by decide +kernel
theorem dX8_count_96 : decode cX8_count 96 = .ok (.getfield 187, 3) := by decide +kernel
theorem dX8_count_99 : decode cX8_count 99 = .ok (.invokevirtual 237, 3) := by decide +kernel
theorem dX8_count_102 : decode cX8_count 102 = .ok (.ireturn, 1) := by decide +kernel
theorem dX8_count_103 : decode cX8_count 103 = .ok (.aload_n 0, 1) := by decide +kernel
theorem dX8_count_104 : decode cX8_count 104 = .ok (.getfield 29, 3) := by decide +kernel
theorem dX8_count_107 : decode cX8_count 107 = .ok (.aload_n 0, 1) := by decide +kernel
theorem dX8_count_108 : decode cX8_count 108 = .ok (.getfield 19, 3) := by decide +kernel
theorem dX8_count_111 : decode cX8_count 111 = .ok (.invokevirtual 240, 3) := by decide +kernel
theorem dX8_count_114 : decode cX8_count 114 = .ok (.ireturn, 1) := by decide +kernel
theorem dX8_count_115 : decode cX8_count 115 = .ok (.aload_n 0, 1) := by decide +kernel
theorem dX8_count_116 : decode cX8_count 116 = .ok (.getfield 29, 3) := by decide +kernel
theorem dX8_count_119 : decode cX8_count 119 = .ok (.getfield 180, 3) := by decide +kernel
theorem dX8_count_122 : decode cX8_count 122 = .ok (.ireturn, 1) := by decide +kernel
theorem dX8_count_123 : decode cX8_count 123 = .ok (.aload_n 0, 1) := by decide +kernel
theorem dX8_count_124 : decode cX8_count 124 = .ok (.getfield 53, 3) := by decide +kernel
theorem dX8_count_127 : decode cX8_count 127 = .ok (.getfield 94, 3) := by decide +kernel
theorem dX8_count_130 : decode cX8_count 130 = .ok (.ireturn, 1) := by decide +kernel
theorem dX8_count_131 : decode cX8_count 131 = .ok (.aload_n 0, 1) := by decide +kernel
theorem dX8_count_132 : decode cX8_count 132 = .ok (.getfield 39, 3) := by decide +kernel
theorem dX8_count_135 : decode cX8_count 135 = .ok (.getfield 164, 3) := by decide +kernel
theorem dX8_count_138 : decode cX8_count 138 = .ok (.ireturn, 1) := by decide +kernel
theorem dX8_count_139 : decode cX8_count 139 = .ok (.aload_n 0, 1) := by decide +kernel
theorem dX8_count_140 : decode cX8_count 140 = .ok (.getfield 10, 3) := by decide +kernel
theorem dX8_count_143 : decode cX8_count 143 = .ok (.getfield 75, 3) := by decide +kernel
theorem dX8_count_146 : decode cX8_count 146 = .ok (.ireturn, 1) := by decide +kernel
theorem dX8_count_147 : decode cX8_count 147 = .ok (.bipush (-3), 2) := by decide +kernel
theorem dX8_count_149 : decode cX8_count 149 = .ok (.ireturn, 1) := by decide +kernel
theorem dX8_isShelf_0 : decode cX8_isShelf 0 = .ok (.iload_n 0, 1) := by decide +kernel
theorem dX8_isShelf_1 : decode cX8_isShelf 1 = .ok (.ifCond .lt 12, 3) := by decide +kernel
theorem dX8_isShelf_4 : decode cX8_isShelf 4 = .ok (.iload_n 0, 1) := by decide +kernel
theorem dX8_isShelf_5 : decode cX8_isShelf 5 = .ok (.iconst 2, 1) := by decide +kernel
theorem dX8_isShelf_6 : decode cX8_isShelf 6 = .ok (.if_icmp .ge 7, 3) := by decide +kernel
theorem dX8_isShelf_9 : decode cX8_isShelf 9 = .ok (.iconst 1, 1) := by decide +kernel
theorem dX8_isShelf_10 : decode cX8_isShelf 10 = .ok (.goto 4, 3) := by decide +kernel
theorem dX8_isShelf_13 : decode cX8_isShelf 13 = .ok (.iconst 0, 1) := by decide +kernel
theorem dX8_isShelf_14 : decode cX8_isShelf 14 = .ok (.ireturn, 1) := by decide +kernel
theorem dX8_isUnder_0 : decode cX8_isUnder 0 = .ok (.iload_n 1, 1) := by decide +kernel
theorem dX8_isUnder_1 : decode cX8_isUnder 1 = .ok (.ifCond .eq 10, 3) := by decide +kernel
theorem dX8_isUnder_4 : decode cX8_isUnder 4 = .ok (.iload_n 1, 1) := by decide +kernel
theorem dX8_isUnder_5 : decode cX8_isUnder 5 = .ok (.iload_n 0, 1) := by decide +kernel
theorem dX8_isUnder_6 : decode cX8_isUnder 6 = .ok (.iconst 1, 1) := by decide +kernel
theorem dX8_isUnder_7 : decode cX8_isUnder 7 = .ok (.iadd, 1) := by decide +kernel
theorem dX8_isUnder_8 : decode cX8_isUnder 8 = .ok (.if_icmp .ne 5, 3) := by decide +kernel
theorem dX8_isUnder_11 : decode cX8_isUnder 11 = .ok (.iconst 1, 1) := by decide +kernel
theorem dX8_isUnder_12 : decode cX8_isUnder 12 = .ok (.ireturn, 1) := by decide +kernel
theorem dX8_isUnder_13 : decode cX8_isUnder 13 = .ok (.iload_n 1, 1) := by decide +kernel
theorem dX8_isUnder_14 : decode cX8_isUnder 14 = .ok (.iconst 1, 1) := by decide +kernel
theorem dX8_isUnder_15 : decode cX8_isUnder 15 = .ok (.if_icmp .ne 17, 3) := by decide +kernel
theorem dX8_isUnder_18 : decode cX8_isUnder 18 = .ok (.iload_n 0, 1) := by decide +kernel
theorem dX8_isUnder_19 : decode cX8_isUnder 19 = .ok (.iconst 1, 1) := by decide +kernel
theorem dX8_isUnder_20 : decode cX8_isUnder 20 = .ok (.if_icmp .eq 8, 3) := by decide +kernel
theorem dX8_isUnder_23 : decode cX8_isUnder 23 = .ok (.iload_n 0, 1) := by decide +kernel
theorem dX8_isUnder_24 : decode cX8_isUnder 24 = .ok (.iconst 2, 1) := by decide +kernel
theorem dX8_isUnder_25 : decode cX8_isUnder 25 = .ok (.if_icmp .ne 7, 3) := by decide +kernel
theorem dX8_isUnder_28 : decode cX8_isUnder 28 = .ok (.iconst 1, 1) := by decide +kernel
theorem dX8_isUnder_29 : decode cX8_isUnder 29 = .ok (.goto 4, 3) := by decide +kernel
theorem dX8_isUnder_32 : decode cX8_isUnder 32 = .ok (.iconst 0, 1) := by decide +kernel
theorem dX8_isUnder_33 : decode cX8_isUnder 33 = .ok (.ireturn, 1) := by decide +kernel
theorem dX8_passDay_0 : decode cX8_passDay 0 = .ok (.aload_n 0, 1) := by decide +kernel
theorem dX8_passDay_1 : decode cX8_passDay 1 = .ok (.getfield 60, 3) := by decide +kernel
theorem dX8_passDay_4 : decode cX8_passDay 4 = .ok (.aload_n 0, 1) := by decide +kernel
theorem dX8_passDay_5 : decode cX8_passDay 5 = .ok (.getfield 19, 3) := by decide +kernel
theorem dX8_passDay_8 : decode cX8_passDay 8 = .ok (.aload_n 1, 1) := by decide +kernel
theorem dX8_passDay_9 : decode cX8_passDay 9 = .ok (.invokevirtual 124, 3) := by decide +kernel
theorem dX8_passDay_12 : decode cX8_passDay 12 = .ok (.aload_n 0, 1) := by decide +kernel
theorem dX8_passDay_13 : decode cX8_passDay 13 = .ok (.getfield 60, 3) := by decide +kernel
theorem dX8_passDay_16 : decode cX8_passDay 16 = .ok (.aload_n 1, 1) := by decide +kernel
theorem dX8_passDay_17 : decode cX8_passDay 17 = .ok (.iconst 0, 1) := by decide +kernel
theorem dX8_passDay_18 : decode cX8_passDay 18 = .ok (.invokevirtual 128, 3) := by decide +kernel
theorem dX8_passDay_21 : decode cX8_passDay 21 = .ok (.aload_n 0, 1) := by decide +kernel
theorem dX8_passDay_22 : decode cX8_passDay 22 = .ok (.getfield 60, 3) := by decide +kernel
theorem dX8_passDay_25 : decode cX8_passDay 25 = .ok (.invokevirtual 244, 3) := by decide +kernel
theorem dX8_passDay_28 : decode cX8_passDay 28 = .ok (.istore_n 2, 1) := by decide +kernel
theorem dX8_passDay_29 : decode cX8_passDay 29 = .ok (.aload_n 1, 1) := by decide +kernel
theorem dX8_passDay_30 : decode cX8_passDay 30 = .ok (.aload_n 0, 1) := by decide +kernel
theorem dX8_passDay_31 : decode cX8_passDay 31 = .ok (.getfield 19, 3) := by decide +kernel
theorem dX8_passDay_34 : decode cX8_passDay 34 = .ok (.iload_n 2, 1) := by decide +kernel
theorem dX8_passDay_35 : decode cX8_passDay 35 = .ok (.invokevirtual 247, 3) := by decide +kernel
theorem dX8_passDay_38 : decode cX8_passDay 38 = .ok (.iload_n 2, 1) := by decide +kernel
theorem dX8_passDay_39 : decode cX8_passDay 39 = .ok (.ireturn, 1) := by decide +kernel
theorem dX8_passTrialDays_0 : decode cX8_passTrialDays 0 = .ok (.aload_n 0, 1) := by decide +kernel
theorem dX8_passTrialDays_1 : decode cX8_passTrialDays 1 = .ok (.getfield 33, 3) := by decide +kernel
theorem dX8_passTrialDays_4 : decode cX8_passTrialDays 4 = .ok (.aload_n 0, 1) := by decide +kernel
theorem dX8_passTrialDays_5 : decode cX8_passTrialDays 5 = .ok (.getfield 29, 3) := by decide +kernel
theorem dX8_passTrialDays_8 : decode cX8_passTrialDays 8 = .ok (.invokevirtual 198, 3) := by decide +kernel
theorem dX8_passTrialDays_11 : decode cX8_passTrialDays 11 = .ok (.iconst 0, 1) := by decide +kernel
theorem dX8_passTrialDays_12 : decode cX8_passTrialDays 12 = .ok (.istore_n 2, 1) := by decide +kernel
theorem dX8_passTrialDays_13 : decode cX8_passTrialDays 13 = .ok (.iload_n 2, 1) := by decide +kernel
theorem dX8_passTrialDays_14 : decode cX8_passTrialDays 14 = .ok (.iload_n 1, 1) := by decide +kernel
theorem dX8_passTrialDays_15 : decode cX8_passTrialDays 15 = .ok (.if_icmp .ge 18, 3) := by decide +kernel
theorem dX8_passTrialDays_18 : decode cX8_passTrialDays 18 = .ok (.aload_n 0, 1) := by decide +kernel
theorem dX8_passTrialDays_19 : decode cX8_passTrialDays 19 = .ok (.aload_n 0, 1) := by decide +kernel
theorem dX8_passTrialDays_20 : decode cX8_passTrialDays 20 = .ok (.getfield 33, 3) := by decide +kernel
theorem dX8_passTrialDays_23 : decode cX8_passTrialDays 23 = .ok (.invokevirtual 150, 3) := by decide +kernel
theorem dX8_passTrialDays_26 : decode cX8_passTrialDays 26 = .ok (.pop, 1) := by decide +kernel
theorem dX8_passTrialDays_27 : decode cX8_passTrialDays 27 = .ok (.iinc 2 1, 3) := by decide +kernel
theorem dX8_passTrialDays_30 : decode cX8_passTrialDays 30 = .ok (.goto (-17), 3) := by decide +kernel
theorem dX8_passTrialDays_33 : decode cX8_passTrialDays 33 = .ok (.return_, 1) := by decide +kernel
theorem dX8_isCarriedWith_0 : decode cX8_isCarriedWith 0 = .ok (.aload_n 0, 1) := by decide +kernel
theorem dX8_isCarriedWith_1 : decode cX8_isCarriedWith 1 = .ok (.getfield 60, 3) := by decide +kernel
theorem dX8_isCarriedWith_4 : decode cX8_isCarriedWith 4 = .ok (.aload_n 0, 1) := by decide +kernel
theorem dX8_isCarriedWith_5 : decode cX8_isCarriedWith 5 = .ok (.getfield 29, 3) := by decide +kernel
theorem dX8_isCarriedWith_8 : decode cX8_isCarriedWith 8 = .ok (.iload_n 1, 1) := by decide +kernel
theorem dX8_isCarriedWith_9 : decode cX8_isCarriedWith 9 = .ok (.iload_n 2, 1) := by decide +kernel
theorem dX8_isCarriedWith_10 : decode cX8_isCarriedWith 10 = .ok (.invokevirtual 251, 3) := by decide +kernel
theorem dX8_isCarriedWith_13 : decode cX8_isCarriedWith 13 = .ok (.aload_n 0, 1) := by decide +kernel
theorem dX8_isCarriedWith_14 : decode cX8_isCarriedWith 14 = .ok (.getfield 60, 3) := by decide +kernel
theorem dX8_isCarriedWith_17 : decode cX8_isCarriedWith 17 = .ok (.invokevirtual 244, 3) := by decide +kernel
theorem dX8_isCarriedWith_20 : decode cX8_isCarriedWith 20 = .ok (.iload_n 2, 1) := by decide +kernel
theorem dX8_isCarriedWith_21 : decode cX8_isCarriedWith 21 = .ok (.if_icmp .ne 7, 3) := by decide +kernel
theorem dX8_isCarriedWith_24 : decode cX8_isCarriedWith 24 = .ok (.iconst 1, 1) := by decide +kernel
theorem dX8_isCarriedWith_25 : decode cX8_isCarriedWith 25 = .ok (.goto 4, 3) := by decide +kernel
theorem dX8_isCarriedWith_28 : decode cX8_isCarriedWith 28 = .ok (.iconst 0, 1) := by decide +kernel
theorem dX8_isCarriedWith_29 : decode cX8_isCarriedWith 29 = .ok (.ireturn, 1) := by decide +kernel
theorem dX8_isAllSeenInTrial_0 : decode cX8_isAllSeenInTrial 0 = .ok (.aload_n 0, 1) := by decide +kernel
theorem dX8_isAllSeenInTrial_1 : decode cX8_isAllSeenInTrial 1 = .ok (.getfield 53, 3) := by decide +kernel
theorem dX8_isAllSeenInTrial_4 : decode cX8_isAllSeenInTrial 4 = .ok (.invokevirtual 255, 3) := by decide +kernel
theorem dX8_isAllSeenInTrial_7 : decode cX8_isAllSeenInTrial 7 = .ok (.istore_n 1, 1) := by decide +kernel
theorem dX8_isAllSeenInTrial_8 : decode cX8_isAllSeenInTrial 8 = .ok (.iconst 1, 1) := by decide +kernel
theorem dX8_isAllSeenInTrial_9 : decode cX8_isAllSeenInTrial 9 = .ok (.istore_n 2, 1) := by decide +kernel
theorem dX8_isAllSeenInTrial_10 : decode cX8_isAllSeenInTrial 10 = .ok (.iload_n 2, 1) := by decide +kernel
theorem dX8_isAllSeenInTrial_11 : decode cX8_isAllSeenInTrial 11 = .ok (.iload_n 1, 1) := by decide +kernel
theorem dX8_isAllSeenInTrial_12 : decode cX8_isAllSeenInTrial 12 = .ok (.if_icmp .gt 30, 3) := by decide +kernel
theorem dX8_isAllSeenInTrial_15 : decode cX8_isAllSeenInTrial 15 = .ok (.aload_n 0, 1) := by decide +kernel
theorem dX8_isAllSeenInTrial_16 : decode cX8_isAllSeenInTrial 16 = .ok (.getfield 53, 3) := by decide +kernel
theorem dX8_isAllSeenInTrial_19 : decode cX8_isAllSeenInTrial 19 = .ok (.aload_n 0, 1) := by decide +kernel
theorem dX8_isAllSeenInTrial_20 : decode cX8_isAllSeenInTrial 20 = .ok (.aload_n 0, 1) := by decide +kernel
theorem dX8_isAllSeenInTrial_21 : decode cX8_isAllSeenInTrial 21 = .ok (.getfield 33, 3) := by decide +kernel
theorem dX8_isAllSeenInTrial_24 : decode cX8_isAllSeenInTrial 24 = .ok (.invokevirtual 150, 3) := by decide +kernel
theorem dX8_isAllSeenInTrial_27 : decode cX8_isAllSeenInTrial 27 = .ok (.iload_n 2, 1) := by decide +kernel
theorem dX8_isAllSeenInTrial_28 : decode cX8_isAllSeenInTrial 28 = .ok (.invokevirtual 258, 3) := by decide +kernel
theorem dX8_isAllSeenInTrial_31 : decode cX8_isAllSeenInTrial 31 = .ok (.ifCond .ne 5, 3) := by decide +kernel
theorem dX8_isAllSeenInTrial_34 : decode cX8_isAllSeenInTrial 34 = .ok (.iconst 0, 1) := by decide +kernel
theorem dX8_isAllSeenInTrial_35 : decode cX8_isAllSeenInTrial 35 = .ok (.ireturn, 1) := by decide +kernel
theorem dX8_isAllSeenInTrial_36 : decode cX8_isAllSeenInTrial 36 = .ok (.iinc 2 1, 3) := by decide +kernel
theorem dX8_isAllSeenInTrial_39 : decode cX8_isAllSeenInTrial 39 = .ok (.goto (-29), 3) := by decide +kernel
theorem dX8_isAllSeenInTrial_42 : decode cX8_isAllSeenInTrial 42 = .ok (.iconst 1, 1) := by decide +kernel
theorem dX8_isAllSeenInTrial_43 : decode cX8_isAllSeenInTrial 43 = .ok (.ireturn, 1) := by decide +kernel
theorem dX8_weightOfCarried_0 : decode cX8_weightOfCarried 0 = .ok (.lconst 0, 1) := by decide +kernel
theorem dX8_weightOfCarried_1 : decode cX8_weightOfCarried 1 = .ok (.lstore_n 3, 1) := by decide +kernel
theorem dX8_weightOfCarried_2 : decode cX8_weightOfCarried 2 = .ok (.aload_n 0, 1) := by decide +kernel
theorem dX8_weightOfCarried_3 : decode cX8_weightOfCarried 3 = .ok (.getfield 60, 3) := by decide +kernel
theorem dX8_weightOfCarried_6 : decode cX8_weightOfCarried 6 = .ok (.aload_n 0, 1) := by decide +kernel
theorem dX8_weightOfCarried_7 : decode cX8_weightOfCarried 7 = .ok (.getfield 19, 3) := by decide +kernel
theorem dX8_weightOfCarried_10 : decode cX8_weightOfCarried 10 = .ok (.aload_n 0, 1) := by decide +kernel
theorem dX8_weightOfCarried_11 : decode cX8_weightOfCarried 11 = .ok (.getfield 29, 3) := by decide +kernel
theorem dX8_weightOfCarried_14 : decode cX8_weightOfCarried 14 = .ok (.invokevirtual 124, 3) := by decide +kernel
theorem dX8_weightOfCarried_17 : decode cX8_weightOfCarried 17 = .ok (.iconst 0, 1) := by decide +kernel
theorem dX8_weightOfCarried_18 : decode cX8_weightOfCarried 18 = .ok (.istore 5, 2) := by decide +kernel
theorem dX8_weightOfCarried_20 : decode cX8_weightOfCarried 20 = .ok (.iload 5, 2) := by decide +kernel
theorem dX8_weightOfCarried_22 : decode cX8_weightOfCarried 22 = .ok (.iconst 1, 1) := by decide +kernel
theorem dX8_weightOfCarried_23 : decode cX8_weightOfCarried 23 = .ok (.aload_n 0, 1) := by decide +kernel
theorem dX8_weightOfCarried_24 : decode cX8_weightOfCarried 24 = .ok (.getfield 19, 3) := by decide +kernel
theorem dX8_weightOfCarried_27 : decode cX8_weightOfCarried 27 = .ok (.getfield 187, 3) := by decide +kernel
theorem dX8_weightOfCarried_30 : decode cX8_weightOfCarried 30 = .ok (.ishl, 1) := by decide +kernel
theorem dX8_weightOfCarried_31 : decode cX8_weightOfCarried 31 = .ok (.if_icmp .ge 43, 3) := by decide +kernel
theorem dX8_weightOfCarried_34 : decode cX8_weightOfCarried 34 = .ok (.aload_n 0, 1) := by decide +kernel
theorem dX8_weightOfCarried_35 : decode cX8_weightOfCarried 35 = .ok (.getfield 60, 3) := by decide +kernel
theorem dX8_weightOfCarried_38 : decode cX8_weightOfCarried 38 = .ok (.aload_n 0, 1) := by decide +kernel
theorem dX8_weightOfCarried_39 : decode cX8_weightOfCarried 39 = .ok (.getfield 29, 3) := by decide +kernel
theorem dX8_weightOfCarried_42 : decode cX8_weightOfCarried 42 = .ok (.iload 5, 2) := by decide +kernel
theorem dX8_weightOfCarried_44 : decode cX8_weightOfCarried 44 = .ok (.invokevirtual 128, 3) := by decide +kernel
theorem dX8_weightOfCarried_47 : decode cX8_weightOfCarried 47 = .ok (.aload_n 0, 1) := by decide +kernel
theorem dX8_weightOfCarried_48 : decode cX8_weightOfCarried 48 = .ok (.getfield 60, 3) := by decide +kernel
theorem dX8_weightOfCarried_51 : decode cX8_weightOfCarried 51 = .ok (.invokevirtual 244, 3) := by decide +kernel
theorem dX8_weightOfCarried_54 : decode cX8_weightOfCarried 54 = .ok (.iload_n 1, 1) := by decide +kernel
theorem dX8_weightOfCarried_55 : decode cX8_weightOfCarried 55 = .ok (.if_icmp .ne 13, 3) := by decide +kernel
theorem dX8_weightOfCarried_58 : decode cX8_weightOfCarried 58 = .ok (.lload_n 3, 1) := by decide +kernel
theorem dX8_weightOfCarried_59 : decode cX8_weightOfCarried 59 = .ok (.aload_n 0, 1) := by decide +kernel
theorem dX8_weightOfCarried_60 : decode cX8_weightOfCarried 60 = .ok (.iload 5, 2) := by decide +kernel
theorem dX8_weightOfCarried_62 : decode cX8_weightOfCarried 62 = .ok (.iload_n 2, 1) := by decide +kernel
theorem dX8_weightOfCarried_63 : decode cX8_weightOfCarried 63 = .ok (.invokevirtual 224, 3) := by decide +kernel
theorem dX8_weightOfCarried_66 : decode cX8_weightOfCarried 66 = .ok (.ladd, 1) := by decide +kernel
theorem dX8_weightOfCarried_67 : decode cX8_weightOfCarried 67 = .ok (.lstore_n 3, 1) := by decide +kernel
theorem dX8_weightOfCarried_68 : decode cX8_weightOfCarried 68 = .ok (.iinc 5 1, 3) := by decide +kernel
theorem dX8_weightOfCarried_71 : decode cX8_weightOfCarried 71 = .ok (.goto (-51), 3) := by decide +kernel
theorem dX8_weightOfCarried_74 : decode cX8_weightOfCarried 74 = .ok (.lload_n 3, 1) := by decide +kernel
theorem dX8_weightOfCarried_75 : decode cX8_weightOfCarried 75 = .ok (.lreturn, 1) := by decide +kernel
theorem dX8_weightOf_0 : decode cX8_weightOf 0 = .ok (.lconst 1, 1) := by decide +kernel
theorem dX8_weightOf_1 : decode cX8_weightOf 1 = .ok (.lstore_n 3, 1) := by decide +kernel
theorem dX8_weightOf_2 : decode cX8_weightOf 2 = .ok (.iconst 0, 1) := by decide +kernel
theorem dX8_weightOf_3 : decode cX8_weightOf 3 = .ok (.istore 5, 2) := by decide +kernel
theorem dX8_weightOf_5 : decode cX8_weightOf 5 = .ok (.iload 5, 2) := by decide +kernel
theorem dX8_weightOf_7 : decode cX8_weightOf 7 = .ok (.aload_n 0, 1) := by decide +kernel
theorem dX8_weightOf_8 : decode cX8_weightOf 8 = .ok (.getfield 19, 3) := by decide +kernel
theorem dX8_weightOf_11 : decode cX8_weightOf 11 = .ok (.getfield 187, 3) := by decide +kernel
theorem dX8_weightOf_14 : decode cX8_weightOf 14 = .ok (.if_icmp .ge 31, 3) := by decide +kernel
theorem dX8_weightOf_17 : decode cX8_weightOf 17 = .ok (.lload_n 3, 1) := by decide +kernel
theorem dX8_weightOf_18 : decode cX8_weightOf 18 = .ok (.iload_n 1, 1) := by decide +kernel
theorem dX8_weightOf_19 : decode cX8_weightOf 19 = .ok (.iload 5, 2) := by decide +kernel
theorem dX8_weightOf_21 : decode cX8_weightOf 21 = .ok (.ishr, 1) := by decide +kernel
theorem dX8_weightOf_22 : decode cX8_weightOf 22 = .ok (.iconst 1, 1) := by decide +kernel
theorem dX8_weightOf_23 : decode cX8_weightOf 23 = .ok (.iand, 1) := by decide +kernel
theorem dX8_weightOf_24 : decode cX8_weightOf 24 = .ok (.ifCond .eq 8, 3) := by decide +kernel
theorem dX8_weightOf_27 : decode cX8_weightOf 27 = .ok (.iload_n 2, 1) := by decide +kernel
theorem dX8_weightOf_28 : decode cX8_weightOf 28 = .ok (.i2l, 1) := by decide +kernel
theorem dX8_weightOf_29 : decode cX8_weightOf 29 = .ok (.goto 8, 3) := by decide +kernel
theorem dX8_weightOf_32 : decode cX8_weightOf 32 = .ok (.bipush 10, 2) := by decide +kernel
theorem dX8_weightOf_34 : decode cX8_weightOf 34 = .ok (.iload_n 2, 1) := by decide +kernel
theorem dX8_weightOf_35 : decode cX8_weightOf 35 = .ok (.isub, 1) := by decide +kernel
theorem dX8_weightOf_36 : decode cX8_weightOf 36 = .ok (.i2l, 1) := by decide +kernel
theorem dX8_weightOf_37 : decode cX8_weightOf 37 = .ok (.lmul, 1) := by decide +kernel
theorem dX8_weightOf_38 : decode cX8_weightOf 38 = .ok (.lstore_n 3, 1) := by decide +kernel
theorem dX8_weightOf_39 : decode cX8_weightOf 39 = .ok (.iinc 5 1, 3) := by decide +kernel
theorem dX8_weightOf_42 : decode cX8_weightOf 42 = .ok (.goto (-37), 3) := by decide +kernel
theorem dX8_weightOf_45 : decode cX8_weightOf 45 = .ok (.lload_n 3, 1) := by decide +kernel
theorem dX8_weightOf_46 : decode cX8_weightOf 46 = .ok (.lreturn, 1) := by decide +kernel
theorem dX8_commonDivisor_0 : decode cX8_commonDivisor 0 = .ok (.lload_n 0, 1) := by decide +kernel
theorem dX8_commonDivisor_1 : decode cX8_commonDivisor 1 = .ok (.lstore 4, 2) := by decide +kernel
theorem dX8_commonDivisor_3 : decode cX8_commonDivisor 3 = .ok (.lload_n 2, 1) := by decide +kernel
theorem dX8_commonDivisor_4 : decode cX8_commonDivisor 4 = .ok (.lstore 6, 2) := by decide +kernel
theorem dX8_commonDivisor_6 : decode cX8_commonDivisor 6 = .ok (.iconst 0, 1) := by decide +kernel
theorem dX8_commonDivisor_7 : decode cX8_commonDivisor 7 = .ok (.istore 8, 2) := by decide +kernel
theorem dX8_commonDivisor_9 : decode cX8_commonDivisor 9 = .ok (.iload 8, 2) := by decide +kernel
theorem dX8_commonDivisor_11 : decode cX8_commonDivisor 11 = .ok (.bipush 100, 2) := by decide +kernel
theorem dX8_commonDivisor_13 : decode cX8_commonDivisor 13 = .ok (.if_icmp .ge 31, 3) := by decide +kernel
theorem dX8_commonDivisor_16 : decode cX8_commonDivisor 16 = .ok (.lload 6, 2) := by decide +kernel
theorem dX8_commonDivisor_18 : decode cX8_commonDivisor 18 = .ok (.lconst 0, 1) := by decide +kernel
theorem dX8_commonDivisor_19 : decode cX8_commonDivisor 19 = .ok (.lcmp, 1) := by decide +kernel
theorem dX8_commonDivisor_20 : decode cX8_commonDivisor 20 = .ok (.ifCond .eq 24, 3) := by decide +kernel
theorem dX8_commonDivisor_23 : decode cX8_commonDivisor 23 = .ok (.lload 4, 2) := by decide +kernel
theorem dX8_commonDivisor_25 : decode cX8_commonDivisor 25 = .ok (.lload 6, 2) := by decide +kernel
theorem dX8_commonDivisor_27 : decode cX8_commonDivisor 27 = .ok (.lrem, 1) := by decide +kernel
theorem dX8_commonDivisor_28 : decode cX8_commonDivisor 28 = .ok (.lstore 9, 2) := by decide +kernel
theorem dX8_commonDivisor_30 : decode cX8_commonDivisor 30 = .ok (.lload 6, 2) := by decide +kernel
theorem dX8_commonDivisor_32 : decode cX8_commonDivisor 32 = .ok (.lstore 4, 2) := by decide +kernel
theorem dX8_commonDivisor_34 : decode cX8_commonDivisor 34 = .ok (.lload 9, 2) := by decide +kernel
theorem dX8_commonDivisor_36 : decode cX8_commonDivisor 36 = .ok (.lstore 6, 2) := by decide +kernel
theorem dX8_commonDivisor_38 : decode cX8_commonDivisor 38 = .ok (.iinc 8 1, 3) := by decide +kernel
theorem dX8_commonDivisor_41 : decode cX8_commonDivisor 41 = .ok (.goto (-32), 3) := by decide +kernel
theorem dX8_commonDivisor_44 : decode cX8_commonDivisor 44 = .ok (.lload 4, 2) := by decide +kernel
theorem dX8_commonDivisor_46 : decode cX8_commonDivisor 46 = .ok (.lreturn, 1) := by decide +kernel
theorem dX9_init_0 : decode cX9_init 0 = .ok (.aload_n 0, 1) := by decide +kernel
theorem dX9_init_1 : decode cX9_init 1 = .ok (.invokespecial 1, 3) := by decide +kernel
theorem dX9_init_4 : decode cX9_init 4 = .ok (.aload_n 0, 1) := by decide +kernel
theorem dX9_init_5 : decode cX9_init 5 = .ok (.sipush 160, 3) := by decide +kernel
theorem dX9_init_8 : decode cX9_init 8 = .ok (.newarray .int, 2) := by decide +kernel
theorem dX9_init_10 : decode cX9_init 10 = .ok (.putfield 7, 3) := by decide +kernel
theorem dX9_init_13 : decode cX9_init 13 = .ok (.aload_n 0, 1) := by decide +kernel
theorem dX9_init_14 : decode cX9_init 14 = .ok (.bipush 43, 2) := by decide +kernel
theorem dX9_init_16 : decode cX9_init 16 = .ok (.newarray .int, 2) := by decide +kernel
theorem dX9_init_18 : decode cX9_init 18 = .ok (.putfield 13, 3) := by decide +kernel
theorem dX9_init_21 : decode cX9_init 21 = .ok (.aload_n 0, 1) := by decide +kernel
theorem dX9_init_22 : decode cX9_init 22 = .ok (.bipush 43, 2) := by decide +kernel
theorem dX9_init_24 : decode cX9_init 24 = .ok (.newarray .int, 2) := by decide +kernel
theorem dX9_init_26 : decode cX9_init 26 = .ok (.putfield 16, 3) := by decide +kernel
theorem dX9_init_29 : decode cX9_init 29 = .ok (.aload_n 0, 1) := by decide +kernel
theorem dX9_init_30 : decode cX9_init 30 = .ok (.bipush 18, 2) := by decide +kernel
theorem dX9_init_32 : decode cX9_init 32 = .ok (.newarray .int, 2) := by decide +kernel
theorem dX9_init_34 : decode cX9_init 34 = .ok (.putfield 19, 3) := by decide +kernel
theorem dX9_init_37 : decode cX9_init 37 = .ok (.aload_n 0, 1) := by decide +kernel
theorem dX9_init_38 : decode cX9_init 38 = .ok (.sipush 144, 3) := by decide +kernel
theorem dX9_init_41 : decode cX9_init 41 = .ok (.newarray .int, 2) := by decide +kernel
theorem dX9_init_43 : decode cX9_init 43 = .ok (.putfield 22, 3) := by decide +kernel
theorem dX9_init_46 : decode cX9_init 46 = .ok (.aload_n 0, 1) := by decide +kernel
theorem dX9_init_47 : decode cX9_init 47 = .ok (.bipush 36, 2) := by decide +kernel
theorem dX9_init_49 : decode cX9_init 49 = .ok (.newarray .int, 2) := by decide +kernel
theorem dX9_init_51 : decode cX9_init 51 = .ok (.putfield 25, 3) := by decide +kernel
theorem dX9_init_54 : decode cX9_init 54 = .ok (.aload_n 0, 1) := by decide +kernel
theorem dX9_init_55 : decode cX9_init 55 = .ok (.iconst 2, 1) := by decide +kernel
theorem dX9_init_56 : decode cX9_init 56 = .ok (.newarray .boolean, 2) := by decide +kernel
theorem dX9_init_58 : decode cX9_init 58 = .ok (.putfield 28, 3) := by decide +kernel
theorem dX9_init_61 : decode cX9_init 61 = .ok (.aload_n 0, 1) := by decide +kernel
theorem dX9_init_62 : decode cX9_init 62 = .ok (.bipush 6, 2) := by decide +kernel
theorem dX9_init_64 : decode cX9_init 64 = .ok (.newarray .int, 2) := by decide +kernel
theorem dX9_init_66 : decode cX9_init 66 = .ok (.putfield 32, 3) := by decide +kernel
theorem dX9_init_69 : decode cX9_init 69 = .ok (.aload_n 0, 1) := by decide +kernel
theorem dX9_init_70 : decode cX9_init 70 = .ok (.bipush 8, 2) := by decide +kernel
theorem dX9_init_72 : decode cX9_init 72 = .ok (.newarray .int, 2) := by decide +kernel
theorem dX9_init_74 : decode cX9_init 74 = .ok (.putfield 35, 3) := by decide +kernel
theorem dX9_init_77 : decode cX9_init 77 = .ok (.aload_n 0, 1) := by decide +kernel
theorem dX9_init_78 : decode cX9_init 78 = .ok (.iconst (-1), 1) := by decide +kernel
theorem dX9_init_79 : decode cX9_init 79 = .ok (.putfield 38, 3) := by decide +kernel
theorem dX9_init_82 : decode cX9_init 82 = .ok (.aload_n 0, 1) := by decide +kernel
theorem dX9_init_83 : decode cX9_init 83 = .ok (.bipush 18, 2) := by decide +kernel
theorem dX9_init_85 : decode cX9_init 85 = .ok (.newarray .int, 2) := by decide +kernel
theorem dX9_init_87 : decode cX9_init 87 = .ok (.putfield 42, 3) := by decide +kernel
theorem dX9_init_90 : decode cX9_init 90 = .ok (.aload_n 0, 1) := by decide +kernel
theorem dX9_init_91 : decode cX9_init 91 = .ok (.invokevirtual 45, 3) := by decide +kernel
theorem dX9_init_94 : decode cX9_init 94 = .ok (.iconst 0, 1) := by decide +kernel
theorem dX9_init_95 : decode cX9_init 95 = .ok (.istore_n 1, 1) := by decide +kernel
theorem dX9_init_96 : decode cX9_init 96 = .ok (.iload_n 1, 1) := by decide +kernel
theorem dX9_init_97 : decode cX9_init 97 = .ok (.bipush 43, 2) := by decide +kernel
theorem dX9_init_99 : decode cX9_init 99 = .ok (.if_icmp .ge 21, 3) := by decide +kernel
theorem dX9_init_102 : decode cX9_init 102 = .ok (.aload_n 0, 1) := by decide +kernel
theorem dX9_init_103 : decode cX9_init 103 = .ok (.getfield 13, 3) := by decide +kernel
theorem dX9_init_106 : decode cX9_init 106 = .ok (.iload_n 1, 1) := by decide +kernel
theorem dX9_init_107 : decode cX9_init 107 = .ok (.aload_n 0, 1) := by decide +kernel
theorem dX9_init_108 : decode cX9_init 108 = .ok (.getfield 16, 3) := by decide +kernel
theorem dX9_init_111 : decode cX9_init 111 = .ok (.iload_n 1, 1) := by decide +kernel
theorem dX9_init_112 : decode cX9_init 112 = .ok (.iaload, 1) := by decide +kernel
theorem dX9_init_113 : decode cX9_init 113 = .ok (.iastore, 1) := by decide +kernel
theorem dX9_init_114 : decode cX9_init 114 = .ok (.iinc 1 1, 3) := by decide +kernel
theorem dX9_init_117 : decode cX9_init 117 = .ok (.goto (-21), 3) := by decide +kernel
theorem dX9_init_120 : decode cX9_init 120 = .ok (.aload_n 0, 1) := by decide +kernel
theorem dX9_init_121 : decode cX9_init 121 = .ok (.invokevirtual 48, 3) := by decide +kernel
theorem dX9_init_124 : decode cX9_init 124 = .ok (.return_, 1) := by decide +kernel
theorem dX9_in_0 : decode cX9_in 0 = .ok (.iload_n 0, 1) := by decide +kernel
theorem dX9_in_1 : decode cX9_in 1 = .ok (.iload_n 1, 1) := by decide +kernel
theorem dX9_in_2 : decode cX9_in 2 = .ok (.if_icmp .lt 12, 3) := by decide +kernel
theorem dX9_in_5 : decode cX9_in 5 = .ok (.iload_n 0, 1) := by decide +kernel
theorem dX9_in_6 : decode cX9_in 6 = .ok (.iload_n 2, 1) := by decide +kernel
theorem dX9_in_7 : decode cX9_in 7 = .ok (.if_icmp .gt 7, 3) := by decide +kernel
theorem dX9_in_10 : decode cX9_in 10 = .ok (.iconst 1, 1) := by decide +kernel
theorem dX9_in_11 : decode cX9_in 11 = .ok (.goto 4, 3) := by decide +kernel
theorem dX9_in_14 : decode cX9_in 14 = .ok (.iconst 0, 1) := by decide +kernel
theorem dX9_in_15 : decode cX9_in 15 = .ok (.ireturn, 1) := by decide +kernel
theorem dX9_isStreet_0 : decode cX9_isStreet 0 = .ok (.iload_n 1, 1) := by decide +kernel
theorem dX9_isStreet_1 : decode cX9_isStreet 1 = .ok (.iconst 0, 1) := by decide +kernel
theorem dX9_isStreet_2 : decode cX9_isStreet 2 = .ok (.aload_n 0, 1) := by decide +kernel
theorem dX9_isStreet_3 : decode cX9_isStreet 3 = .ok (.getfield 13, 3) := by decide +kernel
theorem dX9_isStreet_6 : decode cX9_isStreet 6 = .ok (.iconst 0, 1) := by decide +kernel
theorem dX9_isStreet_7 : decode cX9_isStreet 7 = .ok (.iaload, 1) := by decide +kernel
theorem dX9_isStreet_8 : decode cX9_isStreet 8 = .ok (.iconst 1, 1) := by decide +kernel
theorem dX9_isStreet_9 : decode cX9_isStreet 9 = .ok (.isub, 1) := by decide +kernel
theorem dX9_isStreet_10 : decode cX9_isStreet 10 = .ok (.invokestatic 51, 3) := by decide +kernel
theorem dX9_isStreet_13 : decode cX9_isStreet 13 = .ok (.ireturn, 1) := by decide +kernel
theorem dX9_write_0 : decode cX9_write 0 = .ok (.iload_n 1, 1) := by decide +kernel
theorem dX9_write_1 : decode cX9_write 1 = .ok (.iconst 0, 1) := by decide +kernel
theorem dX9_write_2 : decode cX9_write 2 = .ok (.sipush 255, 3) := by decide +kernel
theorem dX9_write_5 : decode cX9_write 5 = .ok (.invokestatic 51, 3) := by decide +kernel
theorem dX9_write_8 : decode cX9_write 8 = .ok (.ifCond .ne 6, 3) := by decide +kernel
theorem dX9_write_11 : decode cX9_write 11 = .ok (.bipush (-3), 2) := by decide +kernel
theorem dX9_write_13 : decode cX9_write 13 = .ok (.ireturn, 1) := by decide +kernel
theorem dX9_write_14 : decode cX9_write 14 = .ok (.aload_n 0, 1) := by decide +kernel
theorem dX9_write_15 : decode cX9_write 15 = .ok (.getfield 55, 3) := by decide +kernel
theorem dX9_write_18 : decode cX9_write 18 = .ok (.sipush 160, 3) := by decide +kernel
theorem dX9_write_21 : decode cX9_write 21 = .ok (.if_icmp .ne 6, 3) := by decide +kernel
theorem dX9_write_24 : decode cX9_write 24 = .ok (.bipush (-5), 2) := by decide +kernel
theorem dX9_write_26 : decode cX9_write 26 = .ok (.ireturn, 1) := by decide +kernel
theorem dX9_write_27 : decode cX9_write 27 = .ok (.aload_n 0, 1) := by decide +kernel
theorem dX9_write_28 : decode cX9_write 28 = .ok (.getfield 7, 3) := by decide +kernel
theorem dX9_write_31 : decode cX9_write 31 = .ok (.aload_n 0, 1) := by decide +kernel
theorem dX9_write_32 : decode cX9_write 32 = .ok (.getfield 55, 3) := by decide +kernel
theorem dX9_write_35 : decode cX9_write 35 = .ok (.iload_n 1, 1) := by decide +kernel
theorem dX9_write_36 : decode cX9_write 36 = .ok (.iastore, 1) := by decide +kernel
theorem dX9_write_37 : decode cX9_write 37 = .ok (.aload_n 0, 1) := by decide +kernel
theorem dX9_write_38 : decode cX9_write 38 = .ok (.dup, 1) := by decide +kernel
theorem dX9_write_39 : decode cX9_write 39 = .ok (.getfield 55, 3) := by decide +kernel
theorem dX9_write_42 : decode cX9_write 42 = .ok (.iconst 1, 1) := by decide +kernel
theorem dX9_write_43 : decode cX9_write 43 = .ok (.iadd, 1) := by decide +kernel
theorem dX9_write_44 : decode cX9_write 44 = .ok (.putfield 55, 3) := by decide +kernel
theorem dX9_write_47 : decode cX9_write 47 = .ok (.aload_n 0, 1) := by decide +kernel
theorem dX9_write_48 : decode cX9_write 48 = .ok (.getfield 55, 3) := by decide +kernel
theorem dX9_write_51 : decode cX9_write 51 = .ok (.ireturn, 1) := by decide +kernel
theorem dX9_erase_0 : decode cX9_erase 0 = .ok (.aload_n 0, 1) := by decide +kernel
theorem dX9_erase_1 : decode cX9_erase 1 = .ok (.getfield 55, 3) := by decide +kernel
theorem dX9_erase_4 : decode cX9_erase 4 = .ok (.istore_n 1, 1) := by decide +kernel
theorem dX9_erase_5 : decode cX9_erase 5 = .ok (.aload_n 0, 1) := by decide +kernel
theorem dX9_erase_6 : decode cX9_erase 6 = .ok (.iconst 0, 1) := by decide +kernel
theorem dX9_erase_7 : decode cX9_erase 7 = .ok (.putfield 55, 3) := by decide +kernel
theorem dX9_erase_10 : decode cX9_erase 10 = .ok (.iload_n 1, 1) := by decide +kernel
theorem dX9_erase_11 : decode cX9_erase 11 = .ok (.ireturn, 1) := by decide +kernel
theorem dX9_letterAt_0 : decode cX9_letterAt 0 = .ok (.iload_n 1, 1) := by decide +kernel
theorem dX9_letterAt_1 : decode cX9_letterAt 1 = .ok (.aload_n 0, 1) := by decide +kernel
theorem dX9_letterAt_2 : decode cX9_letterAt 2 = .ok (.getfield 55, 3) := by decide +kernel
theorem dX9_letterAt_5 : decode cX9_letterAt 5 = .ok (.if_icmp .ge 12, 3) := by decide +kernel
theorem dX9_letterAt_8 : decode cX9_letterAt 8 = .ok (.aload_n 0, 1) := by decide +kernel
theorem dX9_letterAt_9 : decode cX9_letterAt 9 = .ok (.getfield 7, 3) := by decide +kernel
theorem dX9_letterAt_12 : decode cX9_letterAt 12 = .ok (.iload_n 1, 1) := by decide +kernel
theorem dX9_letterAt_13 : decode cX9_letterAt 13 = .ok (.iaload, 1) := by decide +kernel
theorem dX9_letterAt_14 : decode cX9_letterAt 14 = .ok (.goto 4, 3) := by decide +kernel
theorem dX9_letterAt_17 : decode cX9_letterAt 17 = .ok (.iconst (-1), 1) := by decide +kernel
theorem dX9_letterAt_18 : decode cX9_letterAt 18 = .ok (.ireturn, 1) := by decide +kernel
theorem dX9_isLetter_0 : decode cX9_isLetter 0 = .ok (.iload_n 0, 1) := by decide +kernel
theorem dX9_isLetter_1 : decode cX9_isLetter 1 = .ok (.bipush 97, 2) := by decide +kernel
theorem dX9_isLetter_3 : decode cX9_isLetter 3 = .ok (.bipush 122, 2) := by decide +kernel
theorem dX9_isLetter_5 : decode cX9_isLetter 5 = .ok (.invokestatic 51, 3) := by decide +kernel
theorem dX9_isLetter_8 : decode cX9_isLetter 8 = .ok (.ireturn, 1) := by decide +kernel
theorem dX9_isDigit_0 : decode cX9_isDigit 0 = .ok (.iload_n 0, 1) := by decide +kernel
theorem dX9_isDigit_1 : decode cX9_isDigit 1 = .ok (.bipush 48, 2) := by decide +kernel
