theorem dX9_isDigit_3 : decode cX9_isDigit 3 = .ok (.bipush 57, 2) := by decide +kernel
theorem dX9_isDigit_5 : decode cX9_isDigit 5 = .ok (.invokestatic 51, 3) := by decide +kernel
theorem dX9_isDigit_8 : decode cX9_isDigit 8 = .ok (.ireturn, 1) := by decide +kernel
theorem dX9_token_0 : decode cX9_token 0 = .ok (.aload_n 0, 1) := by decide +kernel
theorem dX9_token_1 : decode cX9_token 1 = .ok (.aload_n 0, 1) := by decide +kernel
theorem dX9_token_2 : decode cX9_token 2 = .ok (.getfield 58, 3) := by decide +kernel
theorem dX9_token_5 : decode cX9_token 5 = .ok (.invokevirtual 61, 3) := by decide +kernel
theorem dX9_token_8 : decode cX9_token 8 = .ok (.bipush 32, 2) := by decide +kernel
theorem dX9_token_10 : decode cX9_token 10 = .ok (.if_icmp .ne 16, 3) := by decide +kernel
theorem dX9_token_13 : decode cX9_token 13 = .ok (.aload_n 0, 1) := by decide +kernel
theorem dX9_token_14 : decode cX9_token 14 = .ok (.dup, 1) := by decide +kernel
theorem dX9_token_15 : decode cX9_token 15 = .ok (.getfield 58, 3) := by decide +kernel
theorem dX9_token_18 : decode cX9_token 18 = .ok (.iconst 1, 1) := by decide +kernel
theorem dX9_token_19 : decode cX9_token 19 = .ok (.iadd, 1) := by decide +kernel
theorem dX9_token_20 : decode cX9_token 20 = .ok (.putfield 58, 3) := by decide +kernel
theorem dX9_token_23 : decode cX9_token 23 = .ok (.goto (-23), 3) := by decide +kernel
theorem dX9_token_26 : decode cX9_token 26 = .ok (.aload_n 0, 1) := by decide +kernel
theorem dX9_token_27 : decode cX9_token 27 = .ok (.aload_n 0, 1) := by decide +kernel
theorem dX9_token_28 : decode cX9_token 28 = .ok (.getfield 58, 3) := by decide +kernel
theorem dX9_token_31 : decode cX9_token 31 = .ok (.putfield 65, 3) := by decide +kernel
theorem dX9_token_34 : decode cX9_token 34 = .ok (.aload_n 0, 1) := by decide +kernel
theorem dX9_token_35 : decode cX9_token 35 = .ok (.aload_n 0, 1) := by decide +kernel
theorem dX9_token_36 : decode cX9_token 36 = .ok (.getfield 58, 3) := by decide +kernel
theorem dX9_token_39 : decode cX9_token 39 = .ok (.invokevirtual 61, 3) := by decide +kernel
theorem dX9_token_42 : decode cX9_token 42 = .ok (.istore_n 1, 1) := by decide +kernel
theorem dX9_token_43 : decode cX9_token 43 = .ok (.aload_n 0, 1) := by decide +kernel
theorem dX9_token_44 : decode cX9_token 44 = .ok (.iload_n 1, 1) := by decide +kernel
theorem dX9_token_45 : decode cX9_token 45 = .ok (.ifCond .ge 7, 3) := by decide +kernel
theorem dX9_token_48 : decode cX9_token 48 = .ok (.iconst 0, 1) := by decide +kernel
theorem dX9_token_49 : decode cX9_token 49 = .ok (.goto 26, 3) := by decide +kernel
theorem dX9_token_52 : decode cX9_token 52 = .ok (.iload_n 1, 1) := by decide +kernel
theorem dX9_token_53 : decode cX9_token 53 = .ok (.invokestatic 68, 3) := by decide +kernel
theorem dX9_token_56 : decode cX9_token 56 = .ok (.ifCond .eq 7, 3) := by decide +kernel
theorem dX9_token_59 : decode cX9_token 59 = .ok (.iconst 1, 1) := by decide +kernel
theorem dX9_token_60 : decode cX9_token 60 = .ok (.goto 15, 3) := by decide +kernel
theorem dX9_token_63 : decode cX9_token 63 = .ok (.iload_n 1, 1) := by decide +kernel
theorem dX9_token_64 : decode cX9_token 64 = .ok (.invokestatic 72, 3) := by decide +kernel
theorem dX9_token_67 : decode cX9_token 67 = .ok (.ifCond .eq 7, 3) := by decide +kernel
theorem dX9_token_70 : decode cX9_token 70 = .ok (.iconst 2, 1) := by decide +kernel
theorem dX9_token_71 : decode cX9_token 71 = .ok (.goto 4, 3) := by decide +kernel
theorem dX9_token_74 : decode cX9_token 74 = .ok (.iconst 3, 1) := by decide +kernel
theorem dX9_token_75 : decode cX9_token 75 = .ok (.putfield 75, 3) := by decide +kernel
theorem dX9_token_78 : decode cX9_token 78 = .ok (.aload_n 0, 1) := by decide +kernel
theorem dX9_token_79 : decode cX9_token 79 = .ok (.iconst 0, 1) := by decide +kernel
theorem dX9_token_80 : decode cX9_token 80 = .ok (.putfield 78, 3) := by decide +kernel
theorem dX9_token_83 : decode cX9_token 83 = .ok (.aload_n 0, 1) := by decide +kernel
theorem dX9_token_84 : decode cX9_token 84 = .ok (.getfield 75, 3) := by decide +kernel
theorem dX9_token_87 : decode cX9_token 87 = .ok (.iconst 1, 1) := by decide +kernel
theorem dX9_token_88 : decode cX9_token 88 = .ok (.if_icmp .ne 30, 3) := by decide +kernel
theorem dX9_token_91 : decode cX9_token 91 = .ok (.aload_n 0, 1) := by decide +kernel
theorem dX9_token_92 : decode cX9_token 92 = .ok (.aload_n 0, 1) := by decide +kernel
theorem dX9_token_93 : decode cX9_token 93 = .ok (.getfield 58, 3) := by decide +kernel
theorem dX9_token_96 : decode cX9_token 96 = .ok (.invokevirtual 61, 3) := by decide +kernel
theorem dX9_token_99 : decode cX9_token 99 = .ok (.invokestatic 68, 3) := by decide +kernel
theorem dX9_token_102 : decode cX9_token 102 = .ok (.ifCond .eq 16, 3) := by decide +kernel
theorem dX9_token_105 : decode cX9_token 105 = .ok (.aload_n 0, 1) := by decide +kernel
theorem dX9_token_106 : decode cX9_token 106 = .ok (.dup, 1) := by decide +kernel
theorem dX9_token_107 : decode cX9_token 107 = .ok (.getfield 58, 3) := by decide +kernel
theorem dX9_token_110 : decode cX9_token 110 = .ok (.iconst 1, 1) := by decide +kernel
theorem dX9_token_111 : decode cX9_token 111 = .ok (.iadd, 1) := by decide +kernel
theorem dX9_token_112 : decode cX9_token 112 = .ok (.putfield 58, 3) := by decide +kernel
theorem dX9_token_115 : decode cX9_token 115 = .ok (.goto (-32), 3) := by decide +kernel
theorem dX9_token_118 : decode cX9_token 118 = .ok (.aload_n 0, 1) := by decide +kernel
theorem dX9_token_119 : decode cX9_token 119 = .ok (.getfield 75, 3) := by decide +kernel
theorem dX9_token_122 : decode cX9_token 122 = .ok (.iconst 2, 1) := by decide +kernel
theorem dX9_token_123 : decode cX9_token 123 = .ok (.if_icmp .ne 72, 3) := by decide +kernel
theorem dX9_token_126 : decode cX9_token 126 = .ok (.aload_n 0, 1) := by decide +kernel
theorem dX9_token_127 : decode cX9_token 127 = .ok (.aload_n 0, 1) := by decide +kernel
theorem dX9_token_128 : decode cX9_token 128 = .ok (.getfield 58, 3) := by decide +kernel
theorem dX9_token_131 : decode cX9_token 131 = .ok (.invokevirtual 61, 3) := by decide +kernel
theorem dX9_token_134 : decode cX9_token 134 = .ok (.invokestatic 72, 3) := by decide +kernel
theorem dX9_token_137 : decode cX9_token 137 = .ok (.ifCond .eq 58, 3) := by decide +kernel
theorem dX9_token_140 : decode cX9_token 140 = .ok (.aload_n 0, 1) := by decide +kernel
theorem dX9_token_141 : decode cX9_token 141 = .ok (.aload_n 0, 1) := by decide +kernel
theorem dX9_token_142 : decode cX9_token 142 = .ok (.getfield 58, 3) := by decide +kernel
theorem dX9_token_145 : decode cX9_token 145 = .ok (.aload_n 0, 1) := by decide +kernel
theorem dX9_token_146 : decode cX9_token 146 = .ok (.getfield 65, 3) := by decide +kernel
theorem dX9_token_149 : decode cX9_token 149 = .ok (.isub, 1) := by decide +kernel
theorem dX9_token_150 : decode cX9_token 150 = .ok (.iconst 2, 1) := by decide +kernel
theorem dX9_token_151 : decode cX9_token 151 = .ok (.if_icmp .ge 26, 3) := by decide +kernel
theorem dX9_token_154 : decode cX9_token 154 = .ok (.bipush 10, 2) := by decide +kernel
theorem dX9_token_156 : decode cX9_token 156 = .ok (.aload_n 0, 1) := by decide +kernel
theorem dX9_token_157 : decode cX9_token 157 = .ok (.getfield 78, 3) := by decide +kernel
theorem dX9_token_160 : decode cX9_token 160 = .ok (.imul, 1) := by decide +kernel
theorem dX9_token_161 : decode cX9_token 161 = .ok (.aload_n 0, 1) := by decide +kernel
theorem dX9_token_162 : decode cX9_token 162 = .ok (.getfield 7, 3) := by decide +kernel
theorem dX9_token_165 : decode cX9_token 165 = .ok (.aload_n 0, 1) := by decide +kernel
theorem dX9_token_166 : decode cX9_token 166 = .ok (.getfield 58, 3) := by decide +kernel
theorem dX9_token_169 : decode cX9_token 169 = .ok (.iaload, 1) := by decide +kernel
theorem dX9_token_170 : decode cX9_token 170 = .ok (.iadd, 1) := by decide +kernel
theorem dX9_token_171 : decode cX9_token 171 = .ok (.bipush 48, 2) := by decide +kernel
theorem dX9_token_173 : decode cX9_token 173 = .ok (.isub, 1) := by decide +kernel
theorem dX9_token_174 : decode cX9_token 174 = .ok (.goto 5, 3) := by decide +kernel
theorem dX9_token_177 : decode cX9_token 177 = .ok (.bipush 100, 2) := by decide +kernel
theorem dX9_token_179 : decode cX9_token 179 = .ok (.putfield 78, 3) := by decide +kernel
theorem dX9_token_182 : decode cX9_token 182 = .ok (.aload_n 0, 1) := by decide +kernel
theorem dX9_token_183 : decode cX9_token 183 = .ok (.dup, 1) := by decide +kernel
theorem dX9_token_184 : decode cX9_token 184 = .ok (.getfield 58, 3) := by decide +kernel
theorem dX9_token_187 : decode cX9_token 187 = .ok (.iconst 1, 1) := by decide +kernel
theorem dX9_token_188 : decode cX9_token 188 = .ok (.iadd, 1) := by decide +kernel
theorem dX9_token_189 : decode cX9_token 189 = .ok (.putfield 58, 3) := by decide +kernel
theorem dX9_token_192 : decode cX9_token 192 = .ok (.goto (-74), 3) := by decide +kernel
theorem dX9_token_195 : decode cX9_token 195 = .ok (.aload_n 0, 1) := by decide +kernel
theorem dX9_token_196 : decode cX9_token 196 = .ok (.dup, 1) := by decide +kernel
theorem dX9_token_197 : decode cX9_token 197 = .ok (.getfield 58, 3) := by decide +kernel
theorem dX9_token_200 : decode cX9_token 200 = .ok (.aload_n 0, 1) := by decide +kernel
theorem dX9_token_201 : decode cX9_token 201 = .ok (.getfield 75, 3) := by decide +kernel
theorem dX9_token_204 : decode cX9_token 204 = .ok (.iconst 3, 1) := by decide +kernel
theorem dX9_token_205 : decode cX9_token 205 = .ok (.if_icmp .ne 7, 3) := by decide +kernel
theorem dX9_token_208 : decode cX9_token 208 = .ok (.iconst 1, 1) := by decide +kernel
theorem dX9_token_209 : decode cX9_token 209 = .ok (.goto 4, 3) := by decide +kernel
theorem dX9_token_212 : decode cX9_token 212 = .ok (.iconst 0, 1) := by decide +kernel
theorem dX9_token_213 : decode cX9_token 213 = .ok (.iadd, 1) := by decide +kernel
theorem dX9_token_214 : decode cX9_token 214 = .ok (.putfield 58, 3) := by decide +kernel
theorem dX9_token_217 : decode cX9_token 217 = .ok (.return_, 1) := by decide +kernel
theorem dX9_isWord_0 : decode cX9_isWord 0 = .ok (.aload_n 0, 1) := by decide +kernel
theorem dX9_isWord_1 : decode cX9_isWord 1 = .ok (.getfield 75, 3) := by decide +kernel
theorem dX9_isWord_4 : decode cX9_isWord 4 = .ok (.iconst 1, 1) := by decide +kernel
theorem dX9_isWord_5 : decode cX9_isWord 5 = .ok (.if_icmp .ne 21, 3) := by decide +kernel
theorem dX9_isWord_8 : decode cX9_isWord 8 = .ok (.aload_n 0, 1) := by decide +kernel
theorem dX9_isWord_9 : decode cX9_isWord 9 = .ok (.getfield 58, 3) := by decide +kernel
theorem dX9_isWord_12 : decode cX9_isWord 12 = .ok (.aload_n 0, 1) := by decide +kernel
theorem dX9_isWord_13 : decode cX9_isWord 13 = .ok (.getfield 65, 3) := by decide +kernel
theorem dX9_isWord_16 : decode cX9_isWord 16 = .ok (.isub, 1) := by decide +kernel
theorem dX9_isWord_17 : decode cX9_isWord 17 = .ok (.bipush 8, 2) := by decide +kernel
theorem dX9_isWord_19 : decode cX9_isWord 19 = .ok (.if_icmp .ge 7, 3) := by decide +kernel
theorem dX9_isWord_22 : decode cX9_isWord 22 = .ok (.iconst 1, 1) := by decide +kernel
theorem dX9_isWord_23 : decode cX9_isWord 23 = .ok (.goto 4, 3) := by decide +kernel
theorem dX9_isWord_26 : decode cX9_isWord 26 = .ok (.iconst 0, 1) := by decide +kernel
theorem dX9_isWord_27 : decode cX9_isWord 27 = .ok (.istore 8, 2) := by decide +kernel
theorem dX9_isWord_29 : decode cX9_isWord 29 = .ok (.iconst 0, 1) := by decide +kernel
theorem dX9_isWord_30 : decode cX9_isWord 30 = .ok (.istore 9, 2) := by decide +kernel
theorem dX9_isWord_32 : decode cX9_isWord 32 = .ok (.iload 9, 2) := by decide +kernel
theorem dX9_isWord_34 : decode cX9_isWord 34 = .ok (.bipush 7, 2) := by decide +kernel
theorem dX9_isWord_36 : decode cX9_isWord 36 = .ok (.if_icmp .ge 131, 3) := by decide +kernel
theorem dX9_isWord_39 : decode cX9_isWord 39 = .ok (.iload 8, 2) := by decide +kernel
theorem dX9_isWord_41 : decode cX9_isWord 41 = .ok (.ifCond .eq 126, 3) := by decide +kernel
theorem dX9_isWord_44 : decode cX9_isWord 44 = .ok (.iload 9, 2) := by decide +kernel
theorem dX9_isWord_46 : decode cX9_isWord 46 = .ok (.ifCond .ne 7, 3) := by decide +kernel
theorem dX9_isWord_49 : decode cX9_isWord 49 = .ok (.iload_n 1, 1) := by decide +kernel
theorem dX9_isWord_50 : decode cX9_isWord 50 = .ok (.goto 58, 3) := by decide +kernel
theorem dX9_isWord_53 : decode cX9_isWord 53 = .ok (.iload 9, 2) := by decide +kernel
theorem dX9_isWord_55 : decode cX9_isWord 55 = .ok (.iconst 1, 1) := by decide +kernel
theorem dX9_isWord_56 : decode cX9_isWord 56 = .ok (.if_icmp .ne 7, 3) := by decide +kernel
theorem dX9_isWord_59 : decode cX9_isWord 59 = .ok (.iload_n 2, 1) := by decide +kernel
theorem dX9_isWord_60 : decode cX9_isWord 60 = .ok (.goto 48, 3) := by decide +kernel
theorem dX9_isWord_63 : decode cX9_isWord 63 = .ok (.iload 9, 2) := by decide +kernel
theorem dX9_isWord_65 : decode cX9_isWord 65 = .ok (.iconst 2, 1) := by decide +kernel
theorem dX9_isWord_66 : decode cX9_isWord 66 = .ok (.if_icmp .ne 7, 3) := by decide +kernel
theorem dX9_isWord_69 : decode cX9_isWord 69 = .ok (.iload_n 3, 1) := by decide +kernel
theorem dX9_isWord_70 : decode cX9_isWord 70 = .ok (.goto 38, 3) := by decide +kernel
theorem dX9_isWord_73 : decode cX9_isWord 73 = .ok (.iload 9, 2) := by decide +kernel
theorem dX9_isWord_75 : decode cX9_isWord 75 = .ok (.iconst 3, 1) := by decide +kernel
theorem dX9_isWord_76 : decode cX9_isWord 76 = .ok (.if_icmp .ne 8, 3) := by decide +kernel
theorem dX9_isWord_79 : decode cX9_isWord 79 = .ok (.iload 4, 2) := by decide +kernel
theorem dX9_isWord_81 : decode cX9_isWord 81 = .ok (.goto 27, 3) := by decide +kernel
theorem dX9_isWord_84 : decode cX9_isWord 84 = .ok (.iload 9, 2) := by decide +kernel
theorem dX9_isWord_86 : decode cX9_isWord 86 = .ok (.iconst 4, 1) := by decide +kernel
theorem dX9_isWord_87 : decode cX9_isWord 87 = .ok (.if_icmp .ne 8, 3) := by decide +kernel
theorem dX9_isWord_90 : decode cX9_isWord 90 = .ok (.iload 5, 2) := by decide +kernel
theorem dX9_isWord_92 : decode cX9_isWord 92 = .ok (.goto 16, 3) := by decide +kernel
theorem dX9_isWord_95 : decode cX9_isWord 95 = .ok (.iload 9, 2) := by decide +kernel
theorem dX9_isWord_97 : decode cX9_isWord 97 = .ok (.iconst 5, 1) := by decide +kernel
theorem dX9_isWord_98 : decode cX9_isWord 98 = .ok (.if_icmp .ne 8, 3) := by decide +kernel
theorem dX9_isWord_101 : decode cX9_isWord 101 = .ok (.iload 6, 2) := by decide +kernel
theorem dX9_isWord_103 : decode cX9_isWord 103 = .ok (.goto 5, 3) := by decide +kernel
theorem dX9_isWord_106 : decode cX9_isWord 106 = .ok (.iload 7, 2) := by decide +kernel
theorem dX9_isWord_108 : decode cX9_isWord 108 = .ok (.istore 10, 2) := by decide +kernel
theorem dX9_isWord_110 : decode cX9_isWord 110 = .ok (.aload_n 0, 1) := by decide +kernel
theorem dX9_isWord_111 : decode cX9_isWord 111 = .ok (.getfield 65, 3) := by decide +kernel
theorem dX9_isWord_114 : decode cX9_isWord 114 = .ok (.iload 9, 2) := by decide +kernel
theorem dX9_isWord_116 : decode cX9_isWord 116 = .ok (.iadd, 1) := by decide +kernel
theorem dX9_isWord_117 : decode cX9_isWord 117 = .ok (.aload_n 0, 1) := by decide +kernel
theorem dX9_isWord_118 : decode cX9_isWord 118 = .ok (.getfield 58, 3) := by decide +kernel
theorem dX9_isWord_121 : decode cX9_isWord 121 = .ok (.if_icmp .ge 28, 3) := by decide +kernel
theorem dX9_isWord_124 : decode cX9_isWord 124 = .ok (.aload_n 0, 1) := by decide +kernel
theorem dX9_isWord_125 : decode cX9_isWord 125 = .ok (.getfield 7, 3) := by decide +kernel
theorem dX9_isWord_128 : decode cX9_isWord 128 = .ok (.aload_n 0, 1) := by decide +kernel
theorem dX9_isWord_129 : decode cX9_isWord 129 = .ok (.getfield 65, 3) := by decide +kernel
theorem dX9_isWord_132 : decode cX9_isWord 132 = .ok (.iload 9, 2) := by decide +kernel
theorem dX9_isWord_134 : decode cX9_isWord 134 = .ok (.iadd, 1) := by decide +kernel
theorem dX9_isWord_135 : decode cX9_isWord 135 = .ok (.iaload, 1) := by decide +kernel
theorem dX9_isWord_136 : decode cX9_isWord 136 = .ok (.iload 10, 2) := by decide +kernel
theorem dX9_isWord_138 : decode cX9_isWord 138 = .ok (.if_icmp .ne 7, 3) := by decide +kernel
theorem dX9_isWord_141 : decode cX9_isWord 141 = .ok (.iconst 1, 1) := by decide +kernel
theorem dX9_isWord_142 : decode cX9_isWord 142 = .ok (.goto 17, 3) := by decide +kernel
theorem dX9_isWord_145 : decode cX9_isWord 145 = .ok (.iconst 0, 1) := by decide +kernel
theorem dX9_isWord_146 : decode cX9_isWord 146 = .ok (.goto 13, 3) := by decide +kernel
theorem dX9_isWord_149 : decode cX9_isWord 149 = .ok (.iload 10, 2) := by decide +kernel
theorem dX9_isWord_151 : decode cX9_isWord 151 = .ok (.ifCond .ne 7, 3) := by decide +kernel
theorem dX9_isWord_154 : decode cX9_isWord 154 = .ok (.iconst 1, 1) := by decide +kernel
theorem dX9_isWord_155 : decode cX9_isWord 155 = .ok (.goto 4, 3) := by decide +kernel
theorem dX9_isWord_158 : decode cX9_isWord 158 = .ok (.iconst 0, 1) := by decide +kernel
theorem dX9_isWord_159 : decode cX9_isWord 159 = .ok (.istore 8, 2) := by decide +kernel
theorem dX9_isWord_161 : decode cX9_isWord 161 = .ok (.iinc 9 1, 3) := by decide +kernel
theorem dX9_isWord_164 : decode cX9_isWord 164 = .ok (.goto (-132), 3) := by decide +kernel
theorem dX9_isWord_167 : decode cX9_isWord 167 = .ok (.iload 8, 2) := by decide +kernel
theorem dX9_isWord_169 : decode cX9_isWord 169 = .ok (.ireturn, 1) := by decide +kernel
theorem dX9_number_0 : decode cX9_number 0 = .ok (.aload_n 0, 1) := by decide +kernel
theorem dX9_number_1 : decode cX9_number 1 = .ok (.invokevirtual 81, 3) := by decide +kernel
theorem dX9_number_4 : decode cX9_number 4 = .ok (.aload_n 0, 1) := by decide +kernel
theorem dX9_number_5 : decode cX9_number 5 = .ok (.getfield 16, 3) := by decide +kernel
theorem dX9_number_8 : decode cX9_number 8 = .ok (.iload_n 1, 1) := by decide +kernel
theorem dX9_number_9 : decode cX9_number 9 = .ok (.aload_n 0, 1) := by decide +kernel
theorem dX9_number_10 : decode cX9_number 10 = .ok (.getfield 78, 3) := by decide +kernel
theorem dX9_number_13 : decode cX9_number 13 = .ok (.iastore, 1) := by decide +kernel
theorem dX9_number_14 : decode cX9_number 14 = .ok (.aload_n 0, 1) := by decide +kernel
theorem dX9_number_15 : decode cX9_number 15 = .ok (.getfield 75, 3) := by decide +kernel
theorem dX9_number_18 : decode cX9_number 18 = .ok (.iconst 2, 1) := by decide +kernel
theorem dX9_number_19 : decode cX9_number 19 = .ok (.if_icmp .ne 19, 3) := by decide +kernel
theorem dX9_number_22 : decode cX9_number 22 = .ok (.aload_n 0, 1) := by decide +kernel
theorem dX9_number_23 : decode cX9_number 23 = .ok (.getfield 78, 3) := by decide +kernel
theorem dX9_number_26 : decode cX9_number 26 = .ok (.iload_n 2, 1) := by decide +kernel
theorem dX9_number_27 : decode cX9_number 27 = .ok (.iload_n 3, 1) := by decide +kernel
theorem dX9_number_28 : decode cX9_number 28 = .ok (.invokestatic 51, 3) := by decide +kernel
theorem dX9_number_31 : decode cX9_number 31 = .ok (.ifCond .eq 7, 3) := by decide +kernel
theorem dX9_number_34 : decode cX9_number 34 = .ok (.iconst 1, 1) := by decide +kernel
theorem dX9_number_35 : decode cX9_number 35 = .ok (.goto 4, 3) := by decide +kernel
theorem dX9_number_38 : decode cX9_number 38 = .ok (.iconst 0, 1) := by decide +kernel
theorem dX9_number_39 : decode cX9_number 39 = .ok (.ireturn, 1) := by decide +kernel
theorem dX9_forgets_0 : decode cX9_forgets 0 = .ok (.iconst 0, 1) := by decide +kernel
theorem dX9_forgets_1 : decode cX9_forgets 1 = .ok (.istore_n 1, 1) := by decide +kernel
theorem dX9_forgets_2 : decode cX9_forgets 2 = .ok (.iload_n 1, 1) := by decide +kernel
theorem dX9_forgets_3 : decode cX9_forgets 3 = .ok (.bipush 43, 2) := by decide +kernel
theorem dX9_forgets_5 : decode cX9_forgets 5 = .ok (.if_icmp .ge 26, 3) := by decide +kernel
theorem dX9_forgets_8 : decode cX9_forgets 8 = .ok (.aload_n 0, 1) := by decide +kernel
theorem dX9_forgets_9 : decode cX9_forgets 9 = .ok (.getfield 16, 3) := by decide +kernel
theorem dX9_forgets_12 : decode cX9_forgets 12 = .ok (.iload_n 1, 1) := by decide +kernel
theorem dX9_forgets_13 : decode cX9_forgets 13 = .ok (.iload_n 1, 1) := by decide +kernel
theorem dX9_forgets_14 : decode cX9_forgets 14 = .ok (.bipush 35, 2) := by decide +kernel
theorem dX9_forgets_16 : decode cX9_forgets 16 = .ok (.if_icmp .ge 7, 3) := by decide +kernel
theorem dX9_forgets_19 : decode cX9_forgets 19 = .ok (.iconst 0, 1) := by decide +kernel
theorem dX9_forgets_20 : decode cX9_forgets 20 = .ok (.goto 4, 3) := by decide +kernel
theorem dX9_forgets_23 : decode cX9_forgets 23 = .ok (.iconst (-1), 1) := by decide +kernel
theorem dX9_forgets_24 : decode cX9_forgets 24 = .ok (.iastore, 1) := by decide +kernel
theorem dX9_forgets_25 : decode cX9_forgets 25 = .ok (.iinc 1 1, 3) := by decide +kernel
theorem dX9_forgets_28 : decode cX9_forgets 28 = .ok (.goto (-26), 3) := by decide +kernel
theorem dX9_forgets_31 : decode cX9_forgets 31 = .ok (.aload_n 0, 1) := by decide +kernel
theorem dX9_forgets_32 : decode cX9_forgets 32 = .ok (.getfield 16, 3) := by decide +kernel
theorem dX9_forgets_35 : decode cX9_forgets 35 = .ok (.iconst 1, 1) := by decide +kernel
theorem dX9_forgets_36 : decode cX9_forgets 36 = .ok (.bipush 30, 2) := by decide +kernel
theorem dX9_forgets_38 : decode cX9_forgets 38 = .ok (.iastore, 1) := by decide +kernel
theorem dX9_forgets_39 : decode cX9_forgets 39 = .ok (.aload_n 0, 1) := by decide +kernel
theorem dX9_forgets_40 : decode cX9_forgets 40 = .ok (.getfield 16, 3) := by decide +kernel
theorem dX9_forgets_43 : decode cX9_forgets 43 = .ok (.iconst 2, 1) := by decide +kernel
theorem dX9_forgets_44 : decode cX9_forgets 44 = .ok (.bipush 8, 2) := by decide +kernel
theorem dX9_forgets_46 : decode cX9_forgets 46 = .ok (.iastore, 1) := by decide +kernel
theorem dX9_forgets_47 : decode cX9_forgets 47 = .ok (.return_, 1) := by decide +kernel
theorem dX9_readsStreet_0 : decode cX9_readsStreet 0 = .ok (.aload_n 0, 1) := by decide +kernel
theorem dX9_readsStreet_1 : decode cX9_readsStreet 1 = .ok (.getfield 16, 3) := by decide +kernel
theorem dX9_readsStreet_4 : decode cX9_readsStreet 4 = .ok (.iconst 0, 1) := by decide +kernel
theorem dX9_readsStreet_5 : decode cX9_readsStreet 5 = .ok (.iaload, 1) := by decide +kernel
theorem dX9_readsStreet_6 : decode cX9_readsStreet 6 = .ok (.istore_n 2, 1) := by decide +kernel
theorem dX9_readsStreet_7 : decode cX9_readsStreet 7 = .ok (.iload_n 2, 1) := by decide +kernel
theorem dX9_readsStreet_8 : decode cX9_readsStreet 8 = .ok (.bipush 8, 2) := by decide +kernel
theorem dX9_readsStreet_10 : decode cX9_readsStreet 10 = .ok (.if_icmp .eq 45, 3) := by decide +kernel
theorem dX9_readsStreet_13 : decode cX9_readsStreet 13 = .ok (.aload_n 0, 1) := by decide +kernel
theorem dX9_readsStreet_14 : decode cX9_readsStreet 14 = .ok (.bipush 11, 2) := by decide +kernel
theorem dX9_readsStreet_16 : decode cX9_readsStreet 16 = .ok (.iload_n 2, 1) := by decide +kernel
theorem dX9_readsStreet_17 : decode cX9_readsStreet 17 = .ok (.iadd, 1) := by decide +kernel
theorem dX9_readsStreet_18 : decode cX9_readsStreet 18 = .ok (.iconst 0, 1) := by decide +kernel
theorem dX9_readsStreet_19 : decode cX9_readsStreet 19 = .ok (.bipush 20, 2) := by decide +kernel
theorem dX9_readsStreet_21 : decode cX9_readsStreet 21 = .ok (.invokevirtual 84, 3) := by decide +kernel
theorem dX9_readsStreet_24 : decode cX9_readsStreet 24 = .ok (.ifCond .eq 31, 3) := by decide +kernel
theorem dX9_readsStreet_27 : decode cX9_readsStreet 27 = .ok (.aload_n 0, 1) := by decide +kernel
theorem dX9_readsStreet_28 : decode cX9_readsStreet 28 = .ok (.bipush 19, 2) := by decide +kernel
theorem dX9_readsStreet_30 : decode cX9_readsStreet 30 = .ok (.iload_n 2, 1) := by decide +kernel
theorem dX9_readsStreet_31 : decode cX9_readsStreet 31 = .ok (.iadd, 1) := by decide +kernel
theorem dX9_readsStreet_32 : decode cX9_readsStreet 32 = .ok (.iconst 0, 1) := by decide +kernel
theorem dX9_readsStreet_33 : decode cX9_readsStreet 33 = .ok (.bipush 20, 2) := by decide +kernel
theorem dX9_readsStreet_35 : decode cX9_readsStreet 35 = .ok (.invokevirtual 84, 3) := by decide +kernel
theorem dX9_readsStreet_38 : decode cX9_readsStreet 38 = .ok (.ifCond .eq 17, 3) := by decide +kernel
theorem dX9_readsStreet_41 : decode cX9_readsStreet 41 = .ok (.aload_n 0, 1) := by decide +kernel
theorem dX9_readsStreet_42 : decode cX9_readsStreet 42 = .ok (.bipush 27, 2) := by decide +kernel
theorem dX9_readsStreet_44 : decode cX9_readsStreet 44 = .ok (.iload_n 2, 1) := by decide +kernel
theorem dX9_readsStreet_45 : decode cX9_readsStreet 45 = .ok (.iadd, 1) := by decide +kernel
theorem dX9_readsStreet_46 : decode cX9_readsStreet 46 = .ok (.iconst 0, 1) := by decide +kernel
theorem dX9_readsStreet_47 : decode cX9_readsStreet 47 = .ok (.bipush 99, 2) := by decide +kernel
theorem dX9_readsStreet_49 : decode cX9_readsStreet 49 = .ok (.invokevirtual 84, 3) := by decide +kernel
theorem dX9_readsStreet_52 : decode cX9_readsStreet 52 = .ok (.ifCond .ne 5, 3) := by decide +kernel
theorem dX9_readsStreet_55 : decode cX9_readsStreet 55 = .ok (.iconst 0, 1) := by decide +kernel
theorem dX9_readsStreet_56 : decode cX9_readsStreet 56 = .ok (.ireturn, 1) := by decide +kernel
theorem dX9_readsStreet_57 : decode cX9_readsStreet 57 = .ok (.aload_n 0, 1) := by decide +kernel
theorem dX9_readsStreet_58 : decode cX9_readsStreet 58 = .ok (.getfield 16, 3) := by decide +kernel
theorem dX9_readsStreet_61 : decode cX9_readsStreet 61 = .ok (.iconst 3, 1) := by decide +kernel
theorem dX9_readsStreet_62 : decode cX9_readsStreet 62 = .ok (.iload_n 2, 1) := by decide +kernel
theorem dX9_readsStreet_63 : decode cX9_readsStreet 63 = .ok (.iadd, 1) := by decide +kernel
theorem dX9_readsStreet_64 : decode cX9_readsStreet 64 = .ok (.iload_n 1, 1) := by decide +kernel
theorem dX9_readsStreet_65 : decode cX9_readsStreet 65 = .ok (.iastore, 1) := by decide +kernel
theorem dX9_readsStreet_66 : decode cX9_readsStreet 66 = .ok (.aload_n 0, 1) := by decide +kernel
theorem dX9_readsStreet_67 : decode cX9_readsStreet 67 = .ok (.getfield 16, 3) := by decide +kernel
theorem dX9_readsStreet_70 : decode cX9_readsStreet 70 = .ok (.bipush 35, 2) := by decide +kernel
theorem dX9_readsStreet_72 : decode cX9_readsStreet 72 = .ok (.iload_n 2, 1) := by decide +kernel
theorem dX9_readsStreet_73 : decode cX9_readsStreet 73 = .ok (.iadd, 1) := by decide +kernel
theorem dX9_readsStreet_74 : decode cX9_readsStreet 74 = .ok (.iconst (-1), 1) := by decide +kernel
theorem dX9_readsStreet_75 : decode cX9_readsStreet 75 = .ok (.iastore, 1) := by decide +kernel
theorem dX9_readsStreet_76 : decode cX9_readsStreet 76 = .ok (.aload_n 0, 1) := by decide +kernel
theorem dX9_readsStreet_77 : decode cX9_readsStreet 77 = .ok (.getfield 16, 3) := by decide +kernel
theorem dX9_readsStreet_80 : decode cX9_readsStreet 80 = .ok (.iconst 0, 1) := by decide +kernel
theorem dX9_readsStreet_81 : decode cX9_readsStreet 81 = .ok (.dup2, 1) := by decide +kernel
theorem dX9_readsStreet_82 : decode cX9_readsStreet 82 = .ok (.iaload, 1) := by decide +kernel
theorem dX9_readsStreet_83 : decode cX9_readsStreet 83 = .ok (.iconst 1, 1) := by decide +kernel
theorem dX9_readsStreet_84 : decode cX9_readsStreet 84 = .ok (.iadd, 1) := by decide +kernel
theorem dX9_readsStreet_85 : decode cX9_readsStreet 85 = .ok (.iastore, 1) := by decide +kernel
theorem dX9_readsStreet_86 : decode cX9_readsStreet 86 = .ok (.iconst 1, 1) := by decide +kernel
theorem dX9_readsStreet_87 : decode cX9_readsStreet 87 = .ok (.ireturn, 1) := by decide +kernel
theorem dX9_readsSlope_0 : decode cX9_readsSlope 0 = .ok (.aload_n 0, 1) := by decide +kernel
theorem dX9_readsSlope_1 : decode cX9_readsSlope 1 = .ok (.invokevirtual 81, 3) := by decide +kernel
theorem dX9_readsSlope_4 : decode cX9_readsSlope 4 = .ok (.aload_n 0, 1) := by decide +kernel
theorem dX9_readsSlope_5 : decode cX9_readsSlope 5 = .ok (.getfield 78, 3) := by decide +kernel
theorem dX9_readsSlope_8 : decode cX9_readsSlope 8 = .ok (.istore_n 1, 1) := by decide +kernel
theorem dX9_readsSlope_9 : decode cX9_readsSlope 9 = .ok (.aload_n 0, 1) := by decide +kernel
theorem dX9_readsSlope_10 : decode cX9_readsSlope 10 = .ok (.getfield 75, 3) := by decide +kernel
theorem dX9_readsSlope_13 : decode cX9_readsSlope 13 = .ok (.iconst 2, 1) := by decide +kernel
theorem dX9_readsSlope_14 : decode cX9_readsSlope 14 = .ok (.if_icmp .ne 13, 3) := by decide +kernel
theorem dX9_readsSlope_17 : decode cX9_readsSlope 17 = .ok (.iload_n 1, 1) := by decide +kernel
theorem dX9_readsSlope_18 : decode cX9_readsSlope 18 = .ok (.aload_n 0, 1) := by decide +kernel
theorem dX9_readsSlope_19 : decode cX9_readsSlope 19 = .ok (.getfield 16, 3) := by decide +kernel
theorem dX9_readsSlope_22 : decode cX9_readsSlope 22 = .ok (.iconst 0, 1) := by decide +kernel
theorem dX9_readsSlope_23 : decode cX9_readsSlope 23 = .ok (.iaload, 1) := by decide +kernel
theorem dX9_readsSlope_24 : decode cX9_readsSlope 24 = .ok (.if_icmp .lt 5, 3) := by decide +kernel
theorem dX9_readsSlope_27 : decode cX9_readsSlope 27 = .ok (.iconst 0, 1) := by decide +kernel
theorem dX9_readsSlope_28 : decode cX9_readsSlope 28 = .ok (.ireturn, 1) := by decide +kernel
theorem dX9_readsSlope_29 : decode cX9_readsSlope 29 = .ok (.aload_n 0, 1) := by decide +kernel
theorem dX9_readsSlope_30 : decode cX9_readsSlope 30 = .ok (.invokevirtual 81, 3) := by decide +kernel
theorem dX9_readsSlope_33 : decode cX9_readsSlope 33 = .ok (.aload_n 0, 1) := by decide +kernel
theorem dX9_readsSlope_34 : decode cX9_readsSlope 34 = .ok (.getfield 75, 3) := by decide +kernel
theorem dX9_readsSlope_37 : decode cX9_readsSlope 37 = .ok (.iconst 2, 1) := by decide +kernel
theorem dX9_readsSlope_38 : decode cX9_readsSlope 38 = .ok (.if_icmp .ne 24, 3) := by decide +kernel
theorem dX9_readsSlope_41 : decode cX9_readsSlope 41 = .ok (.aload_n 0, 1) := by decide +kernel
theorem dX9_readsSlope_42 : decode cX9_readsSlope 42 = .ok (.getfield 78, 3) := by decide +kernel
theorem dX9_readsSlope_45 : decode cX9_readsSlope 45 = .ok (.aload_n 0, 1) := by decide +kernel
theorem dX9_readsSlope_46 : decode cX9_readsSlope 46 = .ok (.getfield 16, 3) := by decide +kernel
theorem dX9_readsSlope_49 : decode cX9_readsSlope 49 = .ok (.iconst 0, 1) := by decide +kernel
theorem dX9_readsSlope_50 : decode cX9_readsSlope 50 = .ok (.iaload, 1) := by decide +kernel
theorem dX9_readsSlope_51 : decode cX9_readsSlope 51 = .ok (.if_icmp .ge 11, 3) := by decide +kernel
theorem dX9_readsSlope_54 : decode cX9_readsSlope 54 = .ok (.aload_n 0, 1) := by decide +kernel
theorem dX9_readsSlope_55 : decode cX9_readsSlope 55 = .ok (.getfield 78, 3) := by decide +kernel
theorem dX9_readsSlope_58 : decode cX9_readsSlope 58 = .ok (.iload_n 1, 1) := by decide +kernel
theorem dX9_readsSlope_59 : decode cX9_readsSlope 59 = .ok (.if_icmp .ne 5, 3) := by decide +kernel
theorem dX9_readsSlope_62 : decode cX9_readsSlope 62 = .ok (.iconst 0, 1) := by decide +kernel
theorem dX9_readsSlope_63 : decode cX9_readsSlope 63 = .ok (.ireturn, 1) := by decide +kernel
theorem dX9_readsSlope_64 : decode cX9_readsSlope 64 = .ok (.aload_n 0, 1) := by decide +kernel
theorem dX9_readsSlope_65 : decode cX9_readsSlope 65 = .ok (.getfield 16, 3) := by decide +kernel
theorem dX9_readsSlope_68 : decode cX9_readsSlope 68 = .ok (.bipush 35, 2) := by decide +kernel
theorem dX9_readsSlope_70 : decode cX9_readsSlope 70 = .ok (.iload_n 1, 1) := by decide +kernel
theorem dX9_readsSlope_71 : decode cX9_readsSlope 71 = .ok (.iadd, 1) := by decide +kernel
theorem dX9_readsSlope_72 : decode cX9_readsSlope 72 = .ok (.aload_n 0, 1) := by decide +kernel
theorem dX9_readsSlope_73 : decode cX9_readsSlope 73 = .ok (.getfield 78, 3) := by decide +kernel
theorem dX9_readsSlope_76 : decode cX9_readsSlope 76 = .ok (.iastore, 1) := by decide +kernel
theorem dX9_readsSlope_77 : decode cX9_readsSlope 77 = .ok (.iconst 1, 1) := by decide +kernel
theorem dX9_readsSlope_78 : decode cX9_readsSlope 78 = .ok (.ireturn, 1) := by decide +kernel
theorem dX9_readsClause_0 : decode cX9_readsClause 0 = .ok (.aload_n 0, 1) := by decide +kernel
theorem dX9_readsClause_1 : decode cX9_readsClause 1 = .ok (.bipush 116, 2) := by decide +kernel
theorem dX9_readsClause_3 : decode cX9_readsClause 3 = .ok (.bipush 111, 2) := by decide +kernel
theorem dX9_readsClause_5 : decode cX9_readsClause 5 = .ok (.bipush 119, 2) := by decide +kernel
theorem dX9_readsClause_7 : decode cX9_readsClause 7 = .ok (.bipush 110, 2) := by decide +kernel
theorem dX9_readsClause_9 : decode cX9_readsClause 9 = .ok (.iconst 0, 1) := by decide +kernel
theorem dX9_readsClause_10 : decode cX9_readsClause 10 = .ok (.iconst 0, 1) := by decide +kernel
theorem dX9_readsClause_11 : decode cX9_readsClause 11 = .ok (.iconst 0, 1) := by decide +kernel
theorem dX9_readsClause_12 : decode cX9_readsClause 12 = .ok (.invokevirtual 87, 3) := by decide +kernel
theorem dX9_readsClause_15 : decode cX9_readsClause 15 = .ok (.ifCond .eq 9, 3) := by decide +kernel
theorem dX9_readsClause_18 : decode cX9_readsClause 18 = .ok (.aload_n 0, 1) := by decide +kernel
theorem dX9_readsClause_19 : decode cX9_readsClause 19 = .ok (.invokevirtual 45, 3) := by decide +kernel
theorem dX9_readsClause_22 : decode cX9_readsClause 22 = .ok (.iconst 1, 1) := by decide +kernel
theorem dX9_readsClause_23 : decode cX9_readsClause 23 = .ok (.ireturn, 1) := by decide +kernel
theorem dX9_readsClause_24 : decode cX9_readsClause 24 = .ok (.aload_n 0, 1) := by decide +kernel
theorem dX9_readsClause_25 : decode cX9_readsClause 25 = .ok (.bipush 103, 2) := by decide +kernel
theorem dX9_readsClause_27 : decode cX9_readsClause 27 = .ok (.bipush 97, 2) := by decide +kernel
theorem dX9_readsClause_29 : decode cX9_readsClause 29 = .ok (.bipush 114, 2) := by decide +kernel
theorem dX9_readsClause_31 : decode cX9_readsClause 31 = .ok (.bipush 100, 2) := by decide +kernel
theorem dX9_readsClause_33 : decode cX9_readsClause 33 = .ok (.bipush 101, 2) := by decide +kernel
theorem dX9_readsClause_35 : decode cX9_readsClause 35 = .ok (.bipush 110, 2) := by decide +kernel
theorem dX9_readsClause_37 : decode cX9_readsClause 37 = .ok (.iconst 0, 1) := by decide +kernel
theorem dX9_readsClause_38 : decode cX9_readsClause 38 = .ok (.invokevirtual 87, 3) := by decide +kernel
theorem dX9_readsClause_41 : decode cX9_readsClause 41 = .ok (.ifCond .eq 9, 3) := by decide +kernel
theorem dX9_readsClause_44 : decode cX9_readsClause 44 = .ok (.aload_n 0, 1) := by decide +kernel
theorem dX9_readsClause_45 : decode cX9_readsClause 45 = .ok (.iconst 0, 1) := by decide +kernel
theorem dX9_readsClause_46 : decode cX9_readsClause 46 = .ok (.invokevirtual 91, 3) := by decide +kernel
theorem dX9_readsClause_49 : decode cX9_readsClause 49 = .ok (.ireturn, 1) := by decide +kernel
theorem dX9_readsClause_50 : decode cX9_readsClause 50 = .ok (.aload_n 0, 1) := by decide +kernel
theorem dX9_readsClause_51 : decode cX9_readsClause 51 = .ok (.bipush 111, 2) := by decide +kernel
theorem dX9_readsClause_53 : decode cX9_readsClause 53 = .ok (.bipush 114, 2) := by decide +kernel
theorem dX9_readsClause_55 : decode cX9_readsClause 55 = .ok (.bipush 99, 2) := by decide +kernel
theorem dX9_readsClause_57 : decode cX9_readsClause 57 = .ok (.bipush 104, 2) := by decide +kernel
theorem dX9_readsClause_59 : decode cX9_readsClause 59 = .ok (.bipush 97, 2) := by decide +kernel
theorem dX9_readsClause_61 : decode cX9_readsClause 61 = .ok (.bipush 114, 2) := by decide +kernel
theorem dX9_readsClause_63 : decode cX9_readsClause 63 = .ok (.bipush 100, 2) := by decide +kernel
theorem dX9_readsClause_65 : decode cX9_readsClause 65 = .ok (.invokevirtual 87, 3) := by decide +kernel
theorem dX9_readsClause_68 : decode cX9_readsClause 68 = .ok (.ifCond .eq 9, 3) := by decide +kernel
theorem dX9_readsClause_71 : decode cX9_readsClause 71 = .ok (.aload_n 0, 1) := by decide +kernel
theorem dX9_readsClause_72 : decode cX9_readsClause 72 = .ok (.iconst 1, 1) := by decide +kernel
theorem dX9_readsClause_73 : decode cX9_readsClause 73 = .ok (.invokevirtual 91, 3) := by decide +kernel
theorem dX9_readsClause_76 : decode cX9_readsClause 76 = .ok (.ireturn, 1) := by decide +kernel
theorem dX9_readsClause_77 : decode cX9_readsClause 77 = .ok (.aload_n 0, 1) := by decide +kernel
theorem dX9_readsClause_78 : decode cX9_readsClause 78 = .ok (.bipush 97, 2) := by decide +kernel
theorem dX9_readsClause_80 : decode cX9_readsClause 80 = .ok (.bipush 108, 2) := by decide +kernel
theorem dX9_readsClause_82 : decode cX9_readsClause 82 = .ok (.bipush 108, 2) := by decide +kernel
theorem dX9_readsClause_84 : decode cX9_readsClause 84 = .ok (.bipush 101, 2) := by decide +kernel
theorem dX9_readsClause_86 : decode cX9_readsClause 86 = .ok (.bipush 121, 2) := by decide +kernel
theorem dX9_readsClause_88 : decode cX9_readsClause 88 = .ok (.iconst 0, 1) := by decide +kernel
theorem dX9_readsClause_89 : decode cX9_readsClause 89 = .ok (.iconst 0, 1) := by decide +kernel
theorem dX9_readsClause_90 : decode cX9_readsClause 90 = .ok (.invokevirtual 87, 3) := by decide +kernel
theorem dX9_readsClause_93 : decode cX9_readsClause 93 = .ok (.ifCond .eq 9, 3) := by decide +kernel
theorem dX9_readsClause_96 : decode cX9_readsClause 96 = .ok (.aload_n 0, 1) := by decide +kernel
theorem dX9_readsClause_97 : decode cX9_readsClause 97 = .ok (.iconst 2, 1) := by decide +kernel
theorem dX9_readsClause_98 : decode cX9_readsClause 98 = .ok (.invokevirtual 91, 3) := by decide +kernel
theorem dX9_readsClause_101 : decode cX9_readsClause 101 = .ok (.ireturn, 1) := by decide +kernel
theorem dX9_readsClause_102 : decode cX9_readsClause 102 = .ok (.aload_n 0, 1) := by decide +kernel
theorem dX9_readsClause_103 : decode cX9_readsClause 103 = .ok (.bipush 108, 2) := by decide +kernel
theorem dX9_readsClause_105 : decode cX9_readsClause 105 = .ok (.bipush 97, 2) := by decide +kernel
theorem dX9_readsClause_107 : decode cX9_readsClause 107 = .ok (.bipush 117, 2) := by decide +kernel
theorem dX9_readsClause_109 : decode cX9_readsClause 109 = .ok (.bipush 110, 2) := by decide +kernel
theorem dX9_readsClause_111 : decode cX9_readsClause 111 = .ok (.bipush 100, 2) := by decide +kernel
theorem dX9_readsClause_113 : decode cX9_readsClause 113 = .ok (.bipush 114, 2) := by decide +kernel
theorem dX9_readsClause_115 : decode cX9_readsClause 115 = .ok (.bipush 121, 2) := by decide +kernel
theorem dX9_readsClause_117 : decode cX9_readsClause 117 = .ok (.invokevirtual 87, 3) := by decide +kernel
theorem dX9_readsClause_120 : decode cX9_readsClause 120 = .ok (.ifCond .eq 9, 3) := by decide +kernel
theorem dX9_readsClause_123 : decode cX9_readsClause 123 = .ok (.aload_n 0, 1) := by decide +kernel
theorem dX9_readsClause_124 : decode cX9_readsClause 124 = .ok (.iconst 3, 1) := by decide +kernel
theorem dX9_readsClause_125 : decode cX9_readsClause 125 = .ok (.invokevirtual 91, 3) := by decide +kernel
theorem dX9_readsClause_128 : decode cX9_readsClause 128 = .ok (.ireturn, 1) := by decide +kernel
theorem dX9_readsClause_129 : decode cX9_readsClause 129 = .ok (.aload_n 0, 1) := by decide +kernel
theorem dX9_readsClause_130 : decode cX9_readsClause 130 = .ok (.bipush 115, 2) := by decide +kernel
theorem dX9_readsClause_132 : decode cX9_readsClause 132 = .ok (.bipush 108, 2) := by decide +kernel
theorem dX9_readsClause_134 : decode cX9_readsClause 134 = .ok (.bipush 111, 2) := by decide +kernel
theorem dX9_readsClause_136 : decode cX9_readsClause 136 = .ok (.bipush 112, 2) := by decide +kernel
theorem dX9_readsClause_138 : decode cX9_readsClause 138 = .ok (.bipush 101, 2) := by decide +kernel
theorem dX9_readsClause_140 : decode cX9_readsClause 140 = .ok (.iconst 0, 1) := by decide +kernel
theorem dX9_readsClause_141 : decode cX9_readsClause 141 = .ok (.iconst 0, 1) := by decide +kernel
theorem dX9_readsClause_142 : decode cX9_readsClause 142 = .ok (.invokevirtual 87, 3) := by decide +kernel
theorem dX9_readsClause_145 : decode cX9_readsClause 145 = .ok (.ifCond .eq 8, 3) := by decide +kernel
theorem dX9_readsClause_148 : decode cX9_readsClause 148 = .ok (.aload_n 0, 1) := by decide +kernel
theorem dX9_readsClause_149 : decode cX9_readsClause 149 = .ok (.invokevirtual 94, 3) := by decide +kernel
theorem dX9_readsClause_152 : decode cX9_readsClause 152 = .ok (.ireturn, 1) := by decide +kernel
theorem dX9_readsClause_153 : decode cX9_readsClause 153 = .ok (.aload_n 0, 1) := by decide +kernel
theorem dX9_readsClause_154 : decode cX9_readsClause 154 = .ok (.bipush 99, 2) := by decide +kernel
theorem dX9_readsClause_156 : decode cX9_readsClause 156 = .ok (.bipush 97, 2) := by decide +kernel
theorem dX9_readsClause_158 : decode cX9_readsClause 158 = .ok (.bipush 112, 2) := by decide +kernel
theorem dX9_readsClause_160 : decode cX9_readsClause 160 = .ok (.iconst 0, 1) := by decide +kernel
theorem dX9_readsClause_161 : decode cX9_readsClause 161 = .ok (.iconst 0, 1) := by decide +kernel
theorem dX9_readsClause_162 : decode cX9_readsClause 162 = .ok (.iconst 0, 1) := by decide +kernel
theorem dX9_readsClause_163 : decode cX9_readsClause 163 = .ok (.iconst 0, 1) := by decide +kernel
theorem dX9_readsClause_164 : decode cX9_readsClause 164 = .ok (.invokevirtual 87, 3) := by decide +kernel
theorem dX9_readsClause_167 : decode cX9_readsClause 167 = .ok (.ifCond .eq 12, 3) := by decide +kernel
theorem dX9_readsClause_170 : decode cX9_readsClause 170 = .ok (.aload_n 0, 1) := by decide +kernel
theorem dX9_readsClause_171 : decode cX9_readsClause 171 = .ok (.iconst 1, 1) := by decide +kernel
theorem dX9_readsClause_172 : decode cX9_readsClause 172 = .ok (.iconst 5, 1) := by decide +kernel
theorem dX9_readsClause_173 : decode cX9_readsClause 173 = .ok (.bipush 99, 2) := by decide +kernel
theorem dX9_readsClause_175 : decode cX9_readsClause 175 = .ok (.invokevirtual 84, 3) := by decide +kernel
theorem dX9_readsClause_178 : decode cX9_readsClause 178 = .ok (.ireturn, 1) := by decide +kernel
theorem dX9_readsClause_179 : decode cX9_readsClause 179 = .ok (.aload_n 0, 1) := by decide +kernel
theorem dX9_readsClause_180 : decode cX9_readsClause 180 = .ok (.bipush 105, 2) := by decide +kernel
theorem dX9_readsClause_182 : decode cX9_readsClause 182 = .ok (.bipush 110, 2) := by decide +kernel
theorem dX9_readsClause_184 : decode cX9_readsClause 184 = .ok (.bipush 99, 2) := by decide +kernel
theorem dX9_readsClause_186 : decode cX9_readsClause 186 = .ok (.bipush 104, 2) := by decide +kernel
theorem dX9_readsClause_188 : decode cX9_readsClause 188 = .ok (.bipush 101, 2) := by decide +kernel
theorem dX9_readsClause_190 : decode cX9_readsClause 190 = .ok (.bipush 115, 2) := by decide +kernel
theorem dX9_readsClause_192 : decode cX9_readsClause 192 = .ok (.iconst 0, 1) := by decide +kernel
theorem dX9_readsClause_193 : decode cX9_readsClause 193 = .ok (.invokevirtual 87, 3) := by decide +kernel
theorem dX9_readsClause_196 : decode cX9_readsClause 196 = .ok (.ifCond .eq 18, 3) := by decide +kernel
theorem dX9_readsClause_199 : decode cX9_readsClause 199 = .ok (.aload_n 0, 1) := by decide +kernel
theorem dX9_readsClause_200 : decode cX9_readsClause 200 = .ok (.iconst 2, 1) := by decide +kernel
theorem dX9_readsClause_201 : decode cX9_readsClause 201 = .ok (.iconst 1, 1) := by decide +kernel
theorem dX9_readsClause_202 : decode cX9_readsClause 202 = .ok (.bipush 20, 2) := by decide +kernel
theorem dX9_readsClause_204 : decode cX9_readsClause 204 = .ok (.invokevirtual 84, 3) := by decide +kernel
theorem dX9_readsClause_207 : decode cX9_readsClause 207 = .ok (.ifCond .eq 7, 3) := by decide +kernel
theorem dX9_readsClause_210 : decode cX9_readsClause 210 = .ok (.iconst 1, 1) := by decide +kernel
theorem dX9_readsClause_211 : decode cX9_readsClause 211 = .ok (.goto 4, 3) := by decide +kernel
theorem dX9_readsClause_214 : decode cX9_readsClause 214 = .ok (.iconst 0, 1) := by decide +kernel
theorem dX9_readsClause_215 : decode cX9_readsClause 215 = .ok (.ireturn, 1) := by decide +kernel
theorem dX9_reads_0 : decode cX9_reads 0 = .ok (.iconst 0, 1) := by decide +kernel
theorem dX9_reads_1 : decode cX9_reads 1 = .ok (.istore_n 1, 1) := by decide +kernel
theorem dX9_reads_2 : decode cX9_reads 2 = .ok (.iload_n 1, 1) := by decide +kernel
theorem dX9_reads_3 : decode cX9_reads 3 = .ok (.bipush 43, 2) := by decide +kernel
theorem dX9_reads_5 : decode cX9_reads 5 = .ok (.if_icmp .ge 21, 3) := by decide +kernel
theorem dX9_reads_8 : decode cX9_reads 8 = .ok (.aload_n 0, 1) := by decide +kernel
theorem dX9_reads_9 : decode cX9_reads 9 = .ok (.getfield 16, 3) := by decide +kernel
theorem dX9_reads_12 : decode cX9_reads 12 = .ok (.iload_n 1, 1) := by decide +kernel
theorem dX9_reads_13 : decode cX9_reads 13 = .ok (.aload_n 0, 1) := by decide +kernel
theorem dX9_reads_14 : decode cX9_reads 14 = .ok (.getfield 13, 3) := by decide +kernel
theorem dX9_reads_17 : decode cX9_reads 17 = .ok (.iload_n 1, 1) := by decide +kernel
theorem dX9_reads_18 : decode cX9_reads 18 = .ok (.iaload, 1) := by decide +kernel
theorem dX9_reads_19 : decode cX9_reads 19 = .ok (.iastore, 1) := by decide +kernel
theorem dX9_reads_20 : decode cX9_reads 20 = .ok (.iinc 1 1, 3) := by decide +kernel
theorem dX9_reads_23 : decode cX9_reads 23 = .ok (.goto (-21), 3) := by decide +kernel
theorem dX9_reads_26 : decode cX9_reads 26 = .ok (.aload_n 0, 1) := by decide +kernel
theorem dX9_reads_27 : decode cX9_reads 27 = .ok (.iconst 0, 1) := by decide +kernel
theorem dX9_reads_28 : decode cX9_reads 28 = .ok (.putfield 58, 3) := by decide +kernel
theorem dX9_reads_31 : decode cX9_reads 31 = .ok (.iconst 0, 1) := by decide +kernel
theorem dX9_reads_32 : decode cX9_reads 32 = .ok (.istore_n 1, 1) := by decide +kernel
theorem dX9_reads_33 : decode cX9_reads 33 = .ok (.iconst 1, 1) := by decide +kernel
theorem dX9_reads_34 : decode cX9_reads 34 = .ok (.istore_n 2, 1) := by decide +kernel
theorem dX9_reads_35 : decode cX9_reads 35 = .ok (.iload_n 2, 1) := by decide +kernel
theorem dX9_reads_36 : decode cX9_reads 36 = .ok (.ifCond .eq 70, 3) := by decide +kernel
theorem dX9_reads_39 : decode cX9_reads 39 = .ok (.aload_n 0, 1) := by decide +kernel
theorem dX9_reads_40 : decode cX9_reads 40 = .ok (.invokevirtual 81, 3) := by decide +kernel
theorem dX9_reads_43 : decode cX9_reads 43 = .ok (.aload_n 0, 1) := by decide +kernel
theorem dX9_reads_44 : decode cX9_reads 44 = .ok (.invokevirtual 98, 3) := by decide +kernel
theorem dX9_reads_47 : decode cX9_reads 47 = .ok (.ifCond .ne 5, 3) := by decide +kernel
theorem dX9_reads_50 : decode cX9_reads 50 = .ok (.iconst (-1), 1) := by decide +kernel
theorem dX9_reads_51 : decode cX9_reads 51 = .ok (.ireturn, 1) := by decide +kernel
theorem dX9_reads_52 : decode cX9_reads 52 = .ok (.iinc 1 1, 3) := by decide +kernel
theorem dX9_reads_55 : decode cX9_reads 55 = .ok (.aload_n 0, 1) := by decide +kernel
theorem dX9_reads_56 : decode cX9_reads 56 = .ok (.invokevirtual 81, 3) := by decide +kernel
theorem dX9_reads_59 : decode cX9_reads 59 = .ok (.aload_n 0, 1) := by decide +kernel
theorem dX9_reads_60 : decode cX9_reads 60 = .ok (.getfield 75, 3) := by decide +kernel
theorem dX9_reads_63 : decode cX9_reads 63 = .ok (.ifCond .eq 7, 3) := by decide +kernel
theorem dX9_reads_66 : decode cX9_reads 66 = .ok (.iconst 1, 1) := by decide +kernel
theorem dX9_reads_67 : decode cX9_reads 67 = .ok (.goto 4, 3) := by decide +kernel
theorem dX9_reads_70 : decode cX9_reads 70 = .ok (.iconst 0, 1) := by decide +kernel
theorem dX9_reads_71 : decode cX9_reads 71 = .ok (.istore_n 2, 1) := by decide +kernel
theorem dX9_reads_72 : decode cX9_reads 72 = .ok (.iload_n 2, 1) := by decide +kernel
theorem dX9_reads_73 : decode cX9_reads 73 = .ok (.ifCond .eq (-38), 3) := by decide +kernel
theorem dX9_reads_76 : decode cX9_reads 76 = .ok (.aload_n 0, 1) := by decide +kernel
theorem dX9_reads_77 : decode cX9_reads 77 = .ok (.getfield 75, 3) := by decide +kernel
theorem dX9_reads_80 : decode cX9_reads 80 = .ok (.iconst 3, 1) := by decide +kernel
theorem dX9_reads_81 : decode cX9_reads 81 = .ok (.if_icmp .ne 23, 3) := by decide +kernel
theorem dX9_reads_84 : decode cX9_reads 84 = .ok (.aload_n 0, 1) := by decide +kernel
theorem dX9_reads_85 : decode cX9_reads 85 = .ok (.getfield 7, 3) := by decide +kernel
theorem dX9_reads_88 : decode cX9_reads 88 = .ok (.aload_n 0, 1) := by decide +kernel
theorem dX9_reads_89 : decode cX9_reads 89 = .ok (.getfield 65, 3) := by decide +kernel
theorem dX9_reads_92 : decode cX9_reads 92 = .ok (.iaload, 1) := by decide +kernel
theorem dX9_reads_93 : decode cX9_reads 93 = .ok (.bipush 59, 2) := by decide +kernel
theorem dX9_reads_95 : decode cX9_reads 95 = .ok (.if_icmp .ne 9, 3) := by decide +kernel
theorem dX9_reads_98 : decode cX9_reads 98 = .ok (.iload_n 1, 1) := by decide +kernel
theorem dX9_reads_99 : decode cX9_reads 99 = .ok (.bipush 14, 2) := by decide +kernel
theorem dX9_reads_101 : decode cX9_reads 101 = .ok (.if_icmp .ne (-66), 3) := by decide +kernel
theorem dX9_reads_104 : decode cX9_reads 104 = .ok (.iconst (-1), 1) := by decide +kernel
theorem dX9_reads_105 : decode cX9_reads 105 = .ok (.ireturn, 1) := by decide +kernel
theorem dX9_reads_106 : decode cX9_reads 106 = .ok (.iload_n 1, 1) := by decide +kernel
theorem dX9_reads_107 : decode cX9_reads 107 = .ok (.ireturn, 1) := by decide +kernel
theorem dX9_lays_0 : decode cX9_lays 0 = .ok (.iconst 0, 1) := by decide +kernel
theorem dX9_lays_1 : decode cX9_lays 1 = .ok (.istore_n 1, 1) := by decide +kernel
theorem dX9_lays_2 : decode cX9_lays 2 = .ok (.iload_n 1, 1) := by decide +kernel
theorem dX9_lays_3 : decode cX9_lays 3 = .ok (.bipush 8, 2) := by decide +kernel
theorem dX9_lays_5 : decode cX9_lays 5 = .ok (.if_icmp .ge 42, 3) := by decide +kernel
theorem dX9_lays_8 : decode cX9_lays 8 = .ok (.aload_n 0, 1) := by decide +kernel
theorem dX9_lays_9 : decode cX9_lays 9 = .ok (.getfield 19, 3) := by decide +kernel
theorem dX9_lays_12 : decode cX9_lays 12 = .ok (.iload_n 1, 1) := by decide +kernel
theorem dX9_lays_13 : decode cX9_lays 13 = .ok (.aload_n 0, 1) := by decide +kernel
theorem dX9_lays_14 : decode cX9_lays 14 = .ok (.getfield 13, 3) := by decide +kernel
theorem dX9_lays_17 : decode cX9_lays 17 = .ok (.bipush 27, 2) := by decide +kernel
theorem dX9_lays_19 : decode cX9_lays 19 = .ok (.iload_n 1, 1) := by decide +kernel
theorem dX9_lays_20 : decode cX9_lays 20 = .ok (.iadd, 1) := by decide +kernel
theorem dX9_lays_21 : decode cX9_lays 21 = .ok (.iaload, 1) := by decide +kernel
theorem dX9_lays_22 : decode cX9_lays 22 = .ok (.iastore, 1) := by decide +kernel
theorem dX9_lays_23 : decode cX9_lays 23 = .ok (.aload_n 0, 1) := by decide +kernel
theorem dX9_lays_24 : decode cX9_lays 24 = .ok (.getfield 19, 3) := by decide +kernel
theorem dX9_lays_27 : decode cX9_lays 27 = .ok (.bipush 8, 2) := by decide +kernel
theorem dX9_lays_29 : decode cX9_lays 29 = .ok (.iload_n 1, 1) := by decide +kernel
theorem dX9_lays_30 : decode cX9_lays 30 = .ok (.iadd, 1) := by decide +kernel
theorem dX9_lays_31 : decode cX9_lays 31 = .ok (.aload_n 0, 1) := by decide +kernel
theorem dX9_lays_32 : decode cX9_lays 32 = .ok (.getfield 13, 3) := by decide +kernel
theorem dX9_lays_35 : decode cX9_lays 35 = .ok (.bipush 19, 2) := by decide +kernel
theorem dX9_lays_37 : decode cX9_lays 37 = .ok (.iload_n 1, 1) := by decide +kernel
theorem dX9_lays_38 : decode cX9_lays 38 = .ok (.iadd, 1) := by decide +kernel
theorem dX9_lays_39 : decode cX9_lays 39 = .ok (.iaload, 1) := by decide +kernel
theorem dX9_lays_40 : decode cX9_lays 40 = .ok (.iastore, 1) := by decide +kernel
theorem dX9_lays_41 : decode cX9_lays 41 = .ok (.iinc 1 1, 3) := by decide +kernel
theorem dX9_lays_44 : decode cX9_lays 44 = .ok (.goto (-42), 3) := by decide +kernel
theorem dX9_lays_47 : decode cX9_lays 47 = .ok (.aload_n 0, 1) := by decide +kernel
theorem dX9_lays_48 : decode cX9_lays 48 = .ok (.getfield 19, 3) := by decide +kernel
theorem dX9_lays_51 : decode cX9_lays 51 = .ok (.bipush 16, 2) := by decide +kernel
theorem dX9_lays_53 : decode cX9_lays 53 = .ok (.iconst 0, 1) := by decide +kernel
theorem dX9_lays_54 : decode cX9_lays 54 = .ok (.iastore, 1) := by decide +kernel
theorem dX9_lays_55 : decode cX9_lays 55 = .ok (.aload_n 0, 1) := by decide +kernel
theorem dX9_lays_56 : decode cX9_lays 56 = .ok (.getfield 19, 3) := by decide +kernel
theorem dX9_lays_59 : decode cX9_lays 59 = .ok (.bipush 17, 2) := by decide +kernel
theorem dX9_lays_61 : decode cX9_lays 61 = .ok (.iconst (-1), 1) := by decide +kernel
theorem dX9_lays_62 : decode cX9_lays 62 = .ok (.iastore, 1) := by decide +kernel
theorem dX9_lays_63 : decode cX9_lays 63 = .ok (.aload_n 0, 1) := by decide +kernel
theorem dX9_lays_64 : decode cX9_lays 64 = .ok (.iconst 0, 1) := by decide +kernel
theorem dX9_lays_65 : decode cX9_lays 65 = .ok (.putfield 101, 3) := by decide +kernel
theorem dX9_lays_68 : decode cX9_lays 68 = .ok (.aload_n 0, 1) := by decide +kernel
theorem dX9_lays_69 : decode cX9_lays 69 = .ok (.iconst 0, 1) := by decide +kernel
theorem dX9_lays_70 : decode cX9_lays 70 = .ok (.putfield 104, 3) := by decide +kernel
theorem dX9_lays_73 : decode cX9_lays 73 = .ok (.aload_n 0, 1) := by decide +kernel
theorem dX9_lays_74 : decode cX9_lays 74 = .ok (.getfield 28, 3) := by decide +kernel
theorem dX9_lays_77 : decode cX9_lays 77 = .ok (.iconst 0, 1) := by decide +kernel
theorem dX9_lays_78 : decode cX9_lays 78 = .ok (.iconst 0, 1) := by decide +kernel
theorem dX9_lays_79 : decode cX9_lays 79 = .ok (.bastore, 1) := by decide +kernel
theorem dX9_lays_80 : decode cX9_lays 80 = .ok (.aload_n 0, 1) := by decide +kernel
theorem dX9_lays_81 : decode cX9_lays 81 = .ok (.getfield 28, 3) := by decide +kernel
theorem dX9_lays_84 : decode cX9_lays 84 = .ok (.iconst 1, 1) := by decide +kernel
theorem dX9_lays_85 : decode cX9_lays 85 = .ok (.iconst 0, 1) := by decide +kernel
theorem dX9_lays_86 : decode cX9_lays 86 = .ok (.bastore, 1) := by decide +kernel
theorem dX9_lays_87 : decode cX9_lays 87 = .ok (.return_, 1) := by decide +kernel
theorem dX9_fault_0 : decode cX9_fault 0 = .ok (.aload_n 0, 1) := by decide +kernel
theorem dX9_fault_1 : decode cX9_fault 1 = .ok (.invokevirtual 107, 3) := by decide +kernel
theorem dX9_fault_4 : decode cX9_fault 4 = .ok (.iconst (-1), 1) := by decide +kernel
theorem dX9_fault_5 : decode cX9_fault 5 = .ok (.if_icmp .ne 10, 3) := by decide +kernel
theorem dX9_fault_8 : decode cX9_fault 8 = .ok (.aload_n 0, 1) := by decide +kernel
theorem dX9_fault_9 : decode cX9_fault 9 = .ok (.getfield 65, 3) := by decide +kernel
theorem dX9_fault_12 : decode cX9_fault 12 = .ok (.goto 4, 3) := by decide +kernel
theorem dX9_fault_15 : decode cX9_fault 15 = .ok (.iconst (-1), 1) := by decide +kernel
theorem dX9_fault_16 : decode cX9_fault 16 = .ok (.ireturn, 1) := by decide +kernel
theorem dX9_town_0 : decode cX9_town 0 = .ok (.aload_n 0, 1) := by decide +kernel
theorem dX9_town_1 : decode cX9_town 1 = .ok (.invokevirtual 107, 3) := by decide +kernel
theorem dX9_town_4 : decode cX9_town 4 = .ok (.istore_n 1, 1) := by decide +kernel
theorem dX9_town_5 : decode cX9_town 5 = .ok (.iload_n 1, 1) := by decide +kernel
theorem dX9_town_6 : decode cX9_town 6 = .ok (.iconst (-1), 1) := by decide +kernel
theorem dX9_town_7 : decode cX9_town 7 = .ok (.if_icmp .ne 6, 3) := by decide +kernel
theorem dX9_town_10 : decode cX9_town 10 = .ok (.bipush (-4), 2) := by decide +kernel
theorem dX9_town_12 : decode cX9_town 12 = .ok (.ireturn, 1) := by decide +kernel
theorem dX9_town_13 : decode cX9_town 13 = .ok (.iconst 0, 1) := by decide +kernel
theorem dX9_town_14 : decode cX9_town 14 = .ok (.istore_n 2, 1) := by decide +kernel
theorem dX9_town_15 : decode cX9_town 15 = .ok (.iload_n 2, 1) := by decide +kernel
theorem dX9_town_16 : decode cX9_town 16 = .ok (.bipush 43, 2) := by decide +kernel
theorem dX9_town_18 : decode cX9_town 18 = .ok (.if_icmp .ge 21, 3) := by decide +kernel
theorem dX9_town_21 : decode cX9_town 21 = .ok (.aload_n 0, 1) := by decide +kernel
theorem dX9_town_22 : decode cX9_town 22 = .ok (.getfield 13, 3) := by decide +kernel
theorem dX9_town_25 : decode cX9_town 25 = .ok (.iload_n 2, 1) := by decide +kernel
theorem dX9_town_26 : decode cX9_town 26 = .ok (.aload_n 0, 1) := by decide +kernel
theorem dX9_town_27 : decode cX9_town 27 = .ok (.getfield 16, 3) := by decide +kernel
theorem dX9_town_30 : decode cX9_town 30 = .ok (.iload_n 2, 1) := by decide +kernel
theorem dX9_town_31 : decode cX9_town 31 = .ok (.iaload, 1) := by decide +kernel
theorem dX9_town_32 : decode cX9_town 32 = .ok (.iastore, 1) := by decide +kernel
theorem dX9_town_33 : decode cX9_town 33 = .ok (.iinc 2 1, 3) := by decide +kernel
theorem dX9_town_36 : decode cX9_town 36 = .ok (.goto (-21), 3) := by decide +kernel
theorem dX9_town_39 : decode cX9_town 39 = .ok (.aload_n 0, 1) := by decide +kernel
theorem dX9_town_40 : decode cX9_town 40 = .ok (.invokevirtual 48, 3) := by decide +kernel
theorem dX9_town_43 : decode cX9_town 43 = .ok (.aload_n 0, 1) := by decide +kernel
theorem dX9_town_44 : decode cX9_town 44 = .ok (.iconst 0, 1) := by decide +kernel
theorem dX9_town_45 : decode cX9_town 45 = .ok (.putfield 55, 3) := by decide +kernel
theorem dX9_town_48 : decode cX9_town 48 = .ok (.iload_n 1, 1) := by decide +kernel
theorem dX9_town_49 : decode cX9_town 49 = .ok (.ireturn, 1) := by decide +kernel
theorem dX9_wants_0 : decode cX9_wants 0 = .ok (.aload_n 0, 1) := by decide +kernel
theorem dX9_wants_1 : decode cX9_wants 1 = .ok (.getfield 13, 3) := by decide +kernel
theorem dX9_wants_4 : decode cX9_wants 4 = .ok (.iconst 3, 1) := by decide +kernel
theorem dX9_wants_5 : decode cX9_wants 5 = .ok (.iload_n 1, 1) := by decide +kernel
theorem dX9_wants_6 : decode cX9_wants 6 = .ok (.iadd, 1) := by decide +kernel
theorem dX9_wants_7 : decode cX9_wants 7 = .ok (.iaload, 1) := by decide +kernel
theorem dX9_wants_8 : decode cX9_wants 8 = .ok (.istore_n 2, 1) := by decide +kernel
theorem dX9_wants_9 : decode cX9_wants 9 = .ok (.iload_n 2, 1) := by decide +kernel
theorem dX9_wants_10 : decode cX9_wants 10 = .ok (.iconst 3, 1) := by decide +kernel
theorem dX9_wants_11 : decode cX9_wants 11 = .ok (.if_icmp .ne 7, 3) := by decide +kernel
theorem dX9_wants_14 : decode cX9_wants 14 = .ok (.iconst 0, 1) := by decide +kernel
theorem dX9_wants_15 : decode cX9_wants 15 = .ok (.goto 31, 3) := by decide +kernel
theorem dX9_wants_18 : decode cX9_wants 18 = .ok (.iload_n 2, 1) := by decide +kernel
theorem dX9_wants_19 : decode cX9_wants 19 = .ok (.iconst 1, 1) := by decide +kernel
theorem dX9_wants_20 : decode cX9_wants 20 = .ok (.if_icmp .ne 17, 3) := by decide +kernel
theorem dX9_wants_23 : decode cX9_wants 23 = .ok (.iconst 2, 1) := by decide +kernel
theorem dX9_wants_24 : decode cX9_wants 24 = .ok (.aload_n 0, 1) := by decide +kernel
theorem dX9_wants_25 : decode cX9_wants 25 = .ok (.getfield 13, 3) := by decide +kernel
theorem dX9_wants_28 : decode cX9_wants 28 = .ok (.bipush 11, 2) := by decide +kernel
theorem dX9_wants_30 : decode cX9_wants 30 = .ok (.iload_n 1, 1) := by decide +kernel
theorem dX9_wants_31 : decode cX9_wants 31 = .ok (.iadd, 1) := by decide +kernel
theorem dX9_wants_32 : decode cX9_wants 32 = .ok (.iaload, 1) := by decide +kernel
theorem dX9_wants_33 : decode cX9_wants 33 = .ok (.imul, 1) := by decide +kernel
theorem dX9_wants_34 : decode cX9_wants 34 = .ok (.goto 12, 3) := by decide +kernel
theorem dX9_wants_37 : decode cX9_wants 37 = .ok (.aload_n 0, 1) := by decide +kernel
theorem dX9_wants_38 : decode cX9_wants 38 = .ok (.getfield 13, 3) := by decide +kernel
theorem dX9_wants_41 : decode cX9_wants 41 = .ok (.bipush 11, 2) := by decide +kernel
theorem dX9_wants_43 : decode cX9_wants 43 = .ok (.iload_n 1, 1) := by decide +kernel
theorem dX9_wants_44 : decode cX9_wants 44 = .ok (.iadd, 1) := by decide +kernel
theorem dX9_wants_45 : decode cX9_wants 45 = .ok (.iaload, 1) := by decide +kernel
theorem dX9_wants_46 : decode cX9_wants 46 = .ok (.ireturn, 1) := by decide +kernel
theorem dX9_driestBut_0 : decode cX9_driestBut 0 = .ok (.iconst (-1), 1) := by decide +kernel
theorem dX9_driestBut_1 : decode cX9_driestBut 1 = .ok (.istore_n 2, 1) := by decide +kernel
theorem dX9_driestBut_2 : decode cX9_driestBut 2 = .ok (.iconst 0, 1) := by decide +kernel
theorem dX9_driestBut_3 : decode cX9_driestBut 3 = .ok (.istore_n 3, 1) := by decide +kernel
theorem dX9_driestBut_4 : decode cX9_driestBut 4 = .ok (.iload_n 3, 1) := by decide +kernel
theorem dX9_driestBut_5 : decode cX9_driestBut 5 = .ok (.aload_n 0, 1) := by decide +kernel
theorem dX9_driestBut_6 : decode cX9_driestBut 6 = .ok (.getfield 13, 3) := by decide +kernel
theorem dX9_driestBut_9 : decode cX9_driestBut 9 = .ok (.iconst 0, 1) := by decide +kernel
theorem dX9_driestBut_10 : decode cX9_driestBut 10 = .ok (.iaload, 1) := by decide +kernel
theorem dX9_driestBut_11 : decode cX9_driestBut 11 = .ok (.if_icmp .ge 40, 3) := by decide +kernel
theorem dX9_driestBut_14 : decode cX9_driestBut 14 = .ok (.iload_n 3, 1) := by decide +kernel
theorem dX9_driestBut_15 : decode cX9_driestBut 15 = .ok (.iload_n 1, 1) := by decide +kernel
theorem dX9_driestBut_16 : decode cX9_driestBut 16 = .ok (.if_icmp .eq 27, 3) := by decide +kernel
theorem dX9_driestBut_19 : decode cX9_driestBut 19 = .ok (.iload_n 2, 1) := by decide +kernel
theorem dX9_driestBut_20 : decode cX9_driestBut 20 = .ok (.iconst (-1), 1) := by decide +kernel
theorem dX9_driestBut_21 : decode cX9_driestBut 21 = .ok (.if_icmp .eq 18, 3) := by decide +kernel
theorem dX9_driestBut_24 : decode cX9_driestBut 24 = .ok (.aload_n 0, 1) := by decide +kernel
theorem dX9_driestBut_25 : decode cX9_driestBut 25 = .ok (.getfield 19, 3) := by decide +kernel
theorem dX9_driestBut_28 : decode cX9_driestBut 28 = .ok (.iload_n 3, 1) := by decide +kernel
theorem dX9_driestBut_29 : decode cX9_driestBut 29 = .ok (.iaload, 1) := by decide +kernel
theorem dX9_driestBut_30 : decode cX9_driestBut 30 = .ok (.aload_n 0, 1) := by decide +kernel
theorem dX9_driestBut_31 : decode cX9_driestBut 31 = .ok (.getfield 19, 3) := by decide +kernel
theorem dX9_driestBut_34 : decode cX9_driestBut 34 = .ok (.iload_n 2, 1) := by decide +kernel
theorem dX9_driestBut_35 : decode cX9_driestBut 35 = .ok (.iaload, 1) := by decide +kernel
theorem dX9_driestBut_36 : decode cX9_driestBut 36 = .ok (.if_icmp .ge 7, 3) := by decide +kernel
theorem dX9_driestBut_39 : decode cX9_driestBut 39 = .ok (.iload_n 3, 1) := by decide +kernel
theorem dX9_driestBut_40 : decode cX9_driestBut 40 = .ok (.goto 4, 3) := by decide +kernel
theorem dX9_driestBut_43 : decode cX9_driestBut 43 = .ok (.iload_n 2, 1) := by decide +kernel
theorem dX9_driestBut_44 : decode cX9_driestBut 44 = .ok (.istore_n 2, 1) := by decide +kernel
theorem dX9_driestBut_45 : decode cX9_driestBut 45 = .ok (.iinc 3 1, 3) := by decide +kernel
theorem dX9_driestBut_48 : decode cX9_driestBut 48 = .ok (.goto (-44), 3) := by decide +kernel
theorem dX9_driestBut_51 : decode cX9_driestBut 51 = .ok (.iload_n 2, 1) := by decide +kernel
theorem dX9_driestBut_52 : decode cX9_driestBut 52 = .ok (.ireturn, 1) := by decide +kernel
theorem dX9_choice_0 : decode cX9_choice 0 = .ok (.aload_n 0, 1) := by decide +kernel
theorem dX9_choice_1 : decode cX9_choice 1 = .ok (.getfield 13, 3) := by decide +kernel
theorem dX9_choice_4 : decode cX9_choice 4 = .ok (.iconst 3, 1) := by decide +kernel
theorem dX9_choice_5 : decode cX9_choice 5 = .ok (.iload_n 1, 1) := by decide +kernel
theorem dX9_choice_6 : decode cX9_choice 6 = .ok (.iadd, 1) := by decide +kernel
theorem dX9_choice_7 : decode cX9_choice 7 = .ok (.iaload, 1) := by decide +kernel
theorem dX9_choice_8 : decode cX9_choice 8 = .ok (.istore_n 2, 1) := by decide +kernel
theorem dX9_choice_9 : decode cX9_choice 9 = .ok (.iload_n 2, 1) := by decide +kernel
theorem dX9_choice_10 : decode cX9_choice 10 = .ok (.iconst 2, 1) := by decide +kernel
theorem dX9_choice_11 : decode cX9_choice 11 = .ok (.if_icmp .ne 5, 3) := by decide +kernel
theorem dX9_choice_14 : decode cX9_choice 14 = .ok (.iconst (-1), 1) := by decide +kernel
theorem dX9_choice_15 : decode cX9_choice 15 = .ok (.ireturn, 1) := by decide +kernel
theorem dX9_choice_16 : decode cX9_choice 16 = .ok (.iload_n 2, 1) := by decide +kernel
theorem dX9_choice_17 : decode cX9_choice 17 = .ok (.iconst 3, 1) := by decide +kernel
theorem dX9_choice_18 : decode cX9_choice 18 = .ok (.if_icmp .ne 11, 3) := by decide +kernel
theorem dX9_choice_21 : decode cX9_choice 21 = .ok (.aload_n 0, 1) := by decide +kernel
theorem dX9_choice_22 : decode cX9_choice 22 = .ok (.iload_n 1, 1) := by decide +kernel
theorem dX9_choice_23 : decode cX9_choice 23 = .ok (.invokevirtual 111, 3) := by decide +kernel
theorem dX9_choice_26 : decode cX9_choice 26 = .ok (.goto 26, 3) := by decide +kernel
theorem dX9_choice_29 : decode cX9_choice 29 = .ok (.aload_n 0, 1) := by decide +kernel
theorem dX9_choice_30 : decode cX9_choice 30 = .ok (.getfield 19, 3) := by decide +kernel
theorem dX9_choice_33 : decode cX9_choice 33 = .ok (.iload_n 1, 1) := by decide +kernel
theorem dX9_choice_34 : decode cX9_choice 34 = .ok (.iaload, 1) := by decide +kernel
theorem dX9_choice_35 : decode cX9_choice 35 = .ok (.aload_n 0, 1) := by decide +kernel
theorem dX9_choice_36 : decode cX9_choice 36 = .ok (.iload_n 1, 1) := by decide +kernel
theorem dX9_choice_37 : decode cX9_choice 37 = .ok (.invokevirtual 114, 3) := by decide +kernel
theorem dX9_choice_40 : decode cX9_choice 40 = .ok (.if_icmp .ge 7, 3) := by decide +kernel
theorem dX9_choice_43 : decode cX9_choice 43 = .ok (.iload_n 1, 1) := by decide +kernel
theorem dX9_choice_44 : decode cX9_choice 44 = .ok (.goto 8, 3) := by decide +kernel
theorem dX9_choice_47 : decode cX9_choice 47 = .ok (.aload_n 0, 1) := by decide +kernel
theorem dX9_choice_48 : decode cX9_choice 48 = .ok (.iconst (-1), 1) := by decide +kernel
theorem dX9_choice_49 : decode cX9_choice 49 = .ok (.invokevirtual 111, 3) := by decide +kernel
theorem dX9_choice_52 : decode cX9_choice 52 = .ok (.ireturn, 1) := by decide +kernel
theorem dX9_counts_0 : decode cX9_counts 0 = .ok (.iconst 0, 1) := by decide +kernel
theorem dX9_counts_1 : decode cX9_counts 1 = .ok (.istore_n 1, 1) := by decide +kernel
theorem dX9_counts_2 : decode cX9_counts 2 = .ok (.iload_n 1, 1) := by decide +kernel
theorem dX9_counts_3 : decode cX9_counts 3 = .ok (.bipush 8, 2) := by decide +kernel
theorem dX9_counts_5 : decode cX9_counts 5 = .ok (.if_icmp .ge 16, 3) := by decide +kernel
theorem dX9_counts_8 : decode cX9_counts 8 = .ok (.aload_n 0, 1) := by decide +kernel
theorem dX9_counts_9 : decode cX9_counts 9 = .ok (.getfield 35, 3) := by decide +kernel
theorem dX9_counts_12 : decode cX9_counts 12 = .ok (.iload_n 1, 1) := by decide +kernel
theorem dX9_counts_13 : decode cX9_counts 13 = .ok (.iconst 0, 1) := by decide +kernel
theorem dX9_counts_14 : decode cX9_counts 14 = .ok (.iastore, 1) := by decide +kernel
theorem dX9_counts_15 : decode cX9_counts 15 = .ok (.iinc 1 1, 3) := by decide +kernel
theorem dX9_counts_18 : decode cX9_counts 18 = .ok (.goto (-16), 3) := by decide +kernel
theorem dX9_counts_21 : decode cX9_counts 21 = .ok (.iconst 0, 1) := by decide +kernel
theorem dX9_counts_22 : decode cX9_counts 22 = .ok (.istore_n 1, 1) := by decide +kernel
theorem dX9_counts_23 : decode cX9_counts 23 = .ok (.iload_n 1, 1) := by decide +kernel
theorem dX9_counts_24 : decode cX9_counts 24 = .ok (.aload_n 0, 1) := by decide +kernel
theorem dX9_counts_25 : decode cX9_counts 25 = .ok (.getfield 13, 3) := by decide +kernel
theorem dX9_counts_28 : decode cX9_counts 28 = .ok (.iconst 0, 1) := by decide +kernel
theorem dX9_counts_29 : decode cX9_counts 29 = .ok (.iaload, 1) := by decide +kernel
theorem dX9_counts_30 : decode cX9_counts 30 = .ok (.if_icmp .ge 79, 3) := by decide +kernel
theorem dX9_counts_33 : decode cX9_counts 33 = .ok (.aload_n 0, 1) := by decide +kernel
theorem dX9_counts_34 : decode cX9_counts 34 = .ok (.getfield 117, 3) := by decide +kernel
theorem dX9_counts_37 : decode cX9_counts 37 = .ok (.iload_n 1, 1) := by decide +kernel
theorem dX9_counts_38 : decode cX9_counts 38 = .ok (.ishr, 1) := by decide +kernel
theorem dX9_counts_39 : decode cX9_counts 39 = .ok (.iconst 1, 1) := by decide +kernel
theorem dX9_counts_40 : decode cX9_counts 40 = .ok (.iand, 1) := by decide +kernel
theorem dX9_counts_41 : decode cX9_counts 41 = .ok (.iconst 1, 1) := by decide +kernel
theorem dX9_counts_42 : decode cX9_counts 42 = .ok (.if_icmp .ne 10, 3) := by decide +kernel
theorem dX9_counts_45 : decode cX9_counts 45 = .ok (.aload_n 0, 1) := by decide +kernel
theorem dX9_counts_46 : decode cX9_counts 46 = .ok (.getfield 38, 3) := by decide +kernel
theorem dX9_counts_49 : decode cX9_counts 49 = .ok (.goto 8, 3) := by decide +kernel
theorem dX9_counts_52 : decode cX9_counts 52 = .ok (.aload_n 0, 1) := by decide +kernel
theorem dX9_counts_53 : decode cX9_counts 53 = .ok (.iload_n 1, 1) := by decide +kernel
theorem dX9_counts_54 : decode cX9_counts 54 = .ok (.invokevirtual 120, 3) := by decide +kernel
theorem dX9_counts_57 : decode cX9_counts 57 = .ok (.istore_n 2, 1) := by decide +kernel
theorem dX9_counts_58 : decode cX9_counts 58 = .ok (.iload_n 2, 1) := by decide +kernel
theorem dX9_counts_59 : decode cX9_counts 59 = .ok (.iconst (-1), 1) := by decide +kernel
theorem dX9_counts_60 : decode cX9_counts 60 = .ok (.if_icmp .eq 43, 3) := by decide +kernel
theorem dX9_counts_63 : decode cX9_counts 63 = .ok (.iload_n 2, 1) := by decide +kernel
theorem dX9_counts_64 : decode cX9_counts 64 = .ok (.aload_n 0, 1) := by decide +kernel
theorem dX9_counts_65 : decode cX9_counts 65 = .ok (.getfield 19, 3) := by decide +kernel
theorem dX9_counts_68 : decode cX9_counts 68 = .ok (.bipush 17, 2) := by decide +kernel
theorem dX9_counts_70 : decode cX9_counts 70 = .ok (.iaload, 1) := by decide +kernel
theorem dX9_counts_71 : decode cX9_counts 71 = .ok (.if_icmp .eq 32, 3) := by decide +kernel
theorem dX9_counts_74 : decode cX9_counts 74 = .ok (.aload_n 0, 1) := by decide +kernel
theorem dX9_counts_75 : decode cX9_counts 75 = .ok (.getfield 123, 3) := by decide +kernel
theorem dX9_counts_78 : decode cX9_counts 78 = .ok (.iload_n 1, 1) := by decide +kernel
theorem dX9_counts_79 : decode cX9_counts 79 = .ok (.ishr, 1) := by decide +kernel
theorem dX9_counts_80 : decode cX9_counts 80 = .ok (.iconst 1, 1) := by decide +kernel
theorem dX9_counts_81 : decode cX9_counts 81 = .ok (.iand, 1) := by decide +kernel
theorem dX9_counts_82 : decode cX9_counts 82 = .ok (.ifCond .ne 21, 3) := by decide +kernel
theorem dX9_counts_85 : decode cX9_counts 85 = .ok (.aload_n 0, 1) := by decide +kernel
theorem dX9_counts_86 : decode cX9_counts 86 = .ok (.getfield 35, 3) := by decide +kernel
theorem dX9_counts_89 : decode cX9_counts 89 = .ok (.iload_n 2, 1) := by decide +kernel
theorem dX9_counts_90 : decode cX9_counts 90 = .ok (.dup2, 1) := by decide +kernel
theorem dX9_counts_91 : decode cX9_counts 91 = .ok (.iaload, 1) := by decide +kernel
theorem dX9_counts_92 : decode cX9_counts 92 = .ok (.aload_n 0, 1) := by decide +kernel
theorem dX9_counts_93 : decode cX9_counts 93 = .ok (.getfield 19, 3) := by decide +kernel
theorem dX9_counts_96 : decode cX9_counts 96 = .ok (.bipush 8, 2) := by decide +kernel
theorem dX9_counts_98 : decode cX9_counts 98 = .ok (.iload_n 1, 1) := by decide +kernel
theorem dX9_counts_99 : decode cX9_counts 99 = .ok (.iadd, 1) := by decide +kernel
theorem dX9_counts_100 : decode cX9_counts 100 = .ok (.iaload, 1) := by decide +kernel
theorem dX9_counts_101 : decode cX9_counts 101 = .ok (.iadd, 1) := by decide +kernel
theorem dX9_counts_102 : decode cX9_counts 102 = .ok (.iastore, 1) := by decide +kernel
theorem dX9_counts_103 : decode cX9_counts 103 = .ok (.iinc 1 1, 3) := by decide +kernel
theorem dX9_counts_106 : decode cX9_counts 106 = .ok (.goto (-83), 3) := by decide +kernel
theorem dX9_counts_109 : decode cX9_counts 109 = .ok (.return_, 1) := by decide +kernel
theorem dX9_carried_0 : decode cX9_carried 0 = .ok (.aload_n 0, 1) := by decide +kernel
theorem dX9_carried_1 : decode cX9_carried 1 = .ok (.invokevirtual 126, 3) := by decide +kernel
theorem dX9_carried_4 : decode cX9_carried 4 = .ok (.iconst (-1), 1) := by decide +kernel
theorem dX9_carried_5 : decode cX9_carried 5 = .ok (.istore_n 1, 1) := by decide +kernel
theorem dX9_carried_6 : decode cX9_carried 6 = .ok (.iconst 0, 1) := by decide +kernel
theorem dX9_carried_7 : decode cX9_carried 7 = .ok (.istore_n 2, 1) := by decide +kernel
theorem dX9_carried_8 : decode cX9_carried 8 = .ok (.iconst 0, 1) := by decide +kernel
theorem dX9_carried_9 : decode cX9_carried 9 = .ok (.istore_n 3, 1) := by decide +kernel
theorem dX9_carried_10 : decode cX9_carried 10 = .ok (.iload_n 3, 1) := by decide +kernel
theorem dX9_carried_11 : decode cX9_carried 11 = .ok (.aload_n 0, 1) := by decide +kernel
theorem dX9_carried_12 : decode cX9_carried 12 = .ok (.getfield 13, 3) := by decide +kernel
theorem dX9_carried_15 : decode cX9_carried 15 = .ok (.iconst 0, 1) := by decide +kernel
theorem dX9_carried_16 : decode cX9_carried 16 = .ok (.iaload, 1) := by decide +kernel
theorem dX9_carried_17 : decode cX9_carried 17 = .ok (.if_icmp .ge 60, 3) := by decide +kernel
theorem dX9_carried_20 : decode cX9_carried 20 = .ok (.aload_n 0, 1) := by decide +kernel
theorem dX9_carried_21 : decode cX9_carried 21 = .ok (.getfield 35, 3) := by decide +kernel
theorem dX9_carried_24 : decode cX9_carried 24 = .ok (.iload_n 3, 1) := by decide +kernel
theorem dX9_carried_25 : decode cX9_carried 25 = .ok (.iaload, 1) := by decide +kernel
theorem dX9_carried_26 : decode cX9_carried 26 = .ok (.iload_n 2, 1) := by decide +kernel
theorem dX9_carried_27 : decode cX9_carried 27 = .ok (.if_icmp .le 7, 3) := by decide +kernel
theorem dX9_carried_30 : decode cX9_carried 30 = .ok (.iload_n 3, 1) := by decide +kernel
theorem dX9_carried_31 : decode cX9_carried 31 = .ok (.goto 18, 3) := by decide +kernel
theorem dX9_carried_34 : decode cX9_carried 34 = .ok (.aload_n 0, 1) := by decide +kernel
theorem dX9_carried_35 : decode cX9_carried 35 = .ok (.getfield 35, 3) := by decide +kernel
theorem dX9_carried_38 : decode cX9_carried 38 = .ok (.iload_n 3, 1) := by decide +kernel
theorem dX9_carried_39 : decode cX9_carried 39 = .ok (.iaload, 1) := by decide +kernel
theorem dX9_carried_40 : decode cX9_carried 40 = .ok (.iload_n 2, 1) := by decide +kernel
theorem dX9_carried_41 : decode cX9_carried 41 = .ok (.if_icmp .ne 7, 3) := by decide +kernel
theorem dX9_carried_44 : decode cX9_carried 44 = .ok (.iconst (-1), 1) := by decide +kernel
theorem dX9_carried_45 : decode cX9_carried 45 = .ok (.goto 4, 3) := by decide +kernel
theorem dX9_carried_48 : decode cX9_carried 48 = .ok (.iload_n 1, 1) := by decide +kernel
theorem dX9_carried_49 : decode cX9_carried 49 = .ok (.istore_n 1, 1) := by decide +kernel
theorem dX9_carried_50 : decode cX9_carried 50 = .ok (.aload_n 0, 1) := by decide +kernel
theorem dX9_carried_51 : decode cX9_carried 51 = .ok (.getfield 35, 3) := by decide +kernel
theorem dX9_carried_54 : decode cX9_carried 54 = .ok (.iload_n 3, 1) := by decide +kernel
theorem dX9_carried_55 : decode cX9_carried 55 = .ok (.iaload, 1) := by decide +kernel
theorem dX9_carried_56 : decode cX9_carried 56 = .ok (.iload_n 2, 1) := by decide +kernel
theorem dX9_carried_57 : decode cX9_carried 57 = .ok (.if_icmp .le 12, 3) := by decide +kernel
theorem dX9_carried_60 : decode cX9_carried 60 = .ok (.aload_n 0, 1) := by decide +kernel
theorem dX9_carried_61 : decode cX9_carried 61 = .ok (.getfield 35, 3) := by decide +kernel
theorem dX9_carried_64 : decode cX9_carried 64 = .ok (.iload_n 3, 1) := by decide +kernel
theorem dX9_carried_65 : decode cX9_carried 65 = .ok (.iaload, 1) := by decide +kernel
theorem dX9_carried_66 : decode cX9_carried 66 = .ok (.goto 4, 3) := by decide +kernel
theorem dX9_carried_69 : decode cX9_carried 69 = .ok (.iload_n 2, 1) := by decide +kernel
theorem dX9_carried_70 : decode cX9_carried 70 = .ok (.istore_n 2, 1) := by decide +kernel
theorem dX9_carried_71 : decode cX9_carried 71 = .ok (.iinc 3 1, 3) := by decide +kernel
theorem dX9_carried_74 : decode cX9_carried 74 = .ok (.goto (-64), 3) := by decide +kernel
theorem dX9_carried_77 : decode cX9_carried 77 = .ok (.iload_n 1, 1) := by decide +kernel
theorem dX9_carried_78 : decode cX9_carried 78 = .ok (.ireturn, 1) := by decide +kernel
theorem dX9_street_0 : decode cX9_street 0 = .ok (.aload_n 0, 1) := by decide +kernel
theorem dX9_street_1 : decode cX9_street 1 = .ok (.iload_n 1, 1) := by decide +kernel
theorem dX9_street_2 : decode cX9_street 2 = .ok (.invokevirtual 129, 3) := by decide +kernel
theorem dX9_street_5 : decode cX9_street 5 = .ok (.ifCond .ne 6, 3) := by decide +kernel
theorem dX9_street_8 : decode cX9_street 8 = .ok (.bipush (-2), 2) := by decide +kernel
theorem dX9_street_10 : decode cX9_street 10 = .ok (.ireturn, 1) := by decide +kernel
theorem dX9_street_11 : decode cX9_street 11 = .ok (.aload_n 0, 1) := by decide +kernel
theorem dX9_street_12 : decode cX9_street 12 = .ok (.invokevirtual 126, 3) := by decide +kernel
theorem dX9_street_15 : decode cX9_street 15 = .ok (.iload_n 2, 1) := by decide +kernel
theorem dX9_street_16 : decode cX9_street 16 = .ok (.tableswitch 103 0 6 #[44, 53, 63, 73, 80, 90, 96], 44) := by decide +kernel
theorem dX9_street_60 : decode cX9_street 60 = .ok (.aload_n 0, 1) := by decide +kernel
theorem dX9_street_61 : decode cX9_street 61 = .ok (.getfield 13, 3) := by decide +kernel
theorem dX9_street_64 : decode cX9_street 64 = .ok (.iconst 3, 1) := by decide +kernel
theorem dX9_street_65 : decode cX9_street 65 = .ok (.iload_n 1, 1) := by decide +kernel
theorem dX9_street_66 : decode cX9_street 66 = .ok (.iadd, 1) := by decide +kernel
theorem dX9_street_67 : decode cX9_street 67 = .ok (.iaload, 1) := by decide +kernel
theorem dX9_street_68 : decode cX9_street 68 = .ok (.ireturn, 1) := by decide +kernel
theorem dX9_street_69 : decode cX9_street 69 = .ok (.aload_n 0, 1) := by decide +kernel
theorem dX9_street_70 : decode cX9_street 70 = .ok (.getfield 13, 3) := by decide +kernel
theorem dX9_street_73 : decode cX9_street 73 = .ok (.bipush 11, 2) := by decide +kernel
theorem dX9_street_75 : decode cX9_street 75 = .ok (.iload_n 1, 1) := by decide +kernel
theorem dX9_street_76 : decode cX9_street 76 = .ok (.iadd, 1) := by decide +kernel
theorem dX9_street_77 : decode cX9_street 77 = .ok (.iaload, 1) := by decide +kernel
theorem dX9_street_78 : decode cX9_street 78 = .ok (.ireturn, 1) := by decide +kernel
theorem dX9_street_79 : decode cX9_street 79 = .ok (.aload_n 0, 1) := by decide +kernel
theorem dX9_street_80 : decode cX9_street 80 = .ok (.getfield 19, 3) := by decide +kernel
theorem dX9_street_83 : decode cX9_street 83 = .ok (.bipush 8, 2) := by decide +kernel
theorem dX9_street_85 : decode cX9_street 85 = .ok (.iload_n 1, 1) := by decide +kernel
theorem dX9_street_86 : decode cX9_street 86 = .ok (.iadd, 1) := by decide +kernel
theorem dX9_street_87 : decode cX9_street 87 = .ok (.iaload, 1) := by decide +kernel
theorem dX9_street_88 : decode cX9_street 88 = .ok (.ireturn, 1) := by decide +kernel
theorem dX9_street_89 : decode cX9_street 89 = .ok (.aload_n 0, 1) := by decide +kernel
theorem dX9_street_90 : decode cX9_street 90 = .ok (.getfield 19, 3) := by decide +kernel
theorem dX9_street_93 : decode cX9_street 93 = .ok (.iload_n 1, 1) := by decide +kernel
theorem dX9_street_94 : decode cX9_street 94 = .ok (.iaload, 1) := by decide +kernel
theorem dX9_street_95 : decode cX9_street 95 = .ok (.ireturn, 1) := by decide +kernel
theorem dX9_street_96 : decode cX9_street 96 = .ok (.aload_n 0, 1) := by decide +kernel
theorem dX9_street_97 : decode cX9_street 97 = .ok (.getfield 13, 3) := by decide +kernel
theorem dX9_street_100 : decode cX9_street 100 = .ok (.bipush 35, 2) := by decide +kernel
theorem dX9_street_102 : decode cX9_street 102 = .ok (.iload_n 1, 1) := by decide +kernel
theorem dX9_street_103 : decode cX9_street 103 = .ok (.iadd, 1) := by decide +kernel
theorem dX9_street_104 : decode cX9_street 104 = .ok (.iaload, 1) := by decide +kernel
theorem dX9_street_105 : decode cX9_street 105 = .ok (.ireturn, 1) := by decide +kernel
theorem dX9_street_106 : decode cX9_street 106 = .ok (.aload_n 0, 1) := by decide +kernel
theorem dX9_street_107 : decode cX9_street 107 = .ok (.iload_n 1, 1) := by decide +kernel
theorem dX9_street_108 : decode cX9_street 108 = .ok (.invokevirtual 120, 3) := by decide +kernel
theorem dX9_street_111 : decode cX9_street 111 = .ok (.ireturn, 1) := by decide +kernel
theorem dX9_street_112 : decode cX9_street 112 = .ok (.aload_n 0, 1) := by decide +kernel
theorem dX9_street_113 : decode cX9_street 113 = .ok (.getfield 35, 3) := by decide +kernel
theorem dX9_street_116 : decode cX9_street 116 = .ok (.iload_n 1, 1) := by decide +kernel
theorem dX9_street_117 : decode cX9_street 117 = .ok (.iaload, 1) := by decide +kernel
theorem dX9_street_118 : decode cX9_street 118 = .ok (.ireturn, 1) := by decide +kernel
theorem dX9_street_119 : decode cX9_street 119 = .ok (.bipush (-3), 2) := by decide +kernel
theorem dX9_street_121 : decode cX9_street 121 = .ok (.ireturn, 1) := by decide +kernel
theorem dX9_as_0 : decode cX9_as 0 = .ok (.aload_n 0, 1) := by decide +kernel
theorem dX9_as_1 : decode cX9_as 1 = .ok (.iload_n 1, 1) := by decide +kernel
theorem dX9_as_2 : decode cX9_as 2 = .ok (.invokevirtual 129, 3) := by decide +kernel
theorem dX9_as_5 : decode cX9_as 5 = .ok (.ifCond .ne 6, 3) := by decide +kernel
theorem dX9_as_8 : decode cX9_as 8 = .ok (.bipush (-2), 2) := by decide +kernel
theorem dX9_as_10 : decode cX9_as 10 = .ok (.ireturn, 1) := by decide +kernel
theorem dX9_as_11 : decode cX9_as 11 = .ok (.iload_n 2, 1) := by decide +kernel
theorem dX9_as_12 : decode cX9_as 12 = .ok (.iconst 0, 1) := by decide +kernel
theorem dX9_as_13 : decode cX9_as 13 = .ok (.iconst 4, 1) := by decide +kernel
theorem dX9_as_14 : decode cX9_as 14 = .ok (.invokestatic 51, 3) := by decide +kernel
theorem dX9_as_17 : decode cX9_as 17 = .ok (.ifCond .ne 6, 3) := by decide +kernel
theorem dX9_as_20 : decode cX9_as 20 = .ok (.bipush (-3), 2) := by decide +kernel
theorem dX9_as_22 : decode cX9_as 22 = .ok (.ireturn, 1) := by decide +kernel
theorem dX9_as_23 : decode cX9_as 23 = .ok (.aload_n 0, 1) := by decide +kernel
theorem dX9_as_24 : decode cX9_as 24 = .ok (.getfield 13, 3) := by decide +kernel
theorem dX9_as_27 : decode cX9_as 27 = .ok (.iconst 3, 1) := by decide +kernel
theorem dX9_as_28 : decode cX9_as 28 = .ok (.iload_n 1, 1) := by decide +kernel
theorem dX9_as_29 : decode cX9_as 29 = .ok (.iadd, 1) := by decide +kernel
theorem dX9_as_30 : decode cX9_as 30 = .ok (.iaload, 1) := by decide +kernel
theorem dX9_as_31 : decode cX9_as 31 = .ok (.istore_n 3, 1) := by decide +kernel
theorem dX9_as_32 : decode cX9_as 32 = .ok (.iload_n 2, 1) := by decide +kernel
theorem dX9_as_33 : decode cX9_as 33 = .ok (.ifCond .eq 20, 3) := by decide +kernel
theorem dX9_as_36 : decode cX9_as 36 = .ok (.iload_n 2, 1) := by decide +kernel
theorem dX9_as_37 : decode cX9_as 37 = .ok (.iload_n 3, 1) := by decide +kernel
theorem dX9_as_38 : decode cX9_as 38 = .ok (.iconst 1, 1) := by decide +kernel
theorem dX9_as_39 : decode cX9_as 39 = .ok (.iadd, 1) := by decide +kernel
theorem dX9_as_40 : decode cX9_as 40 = .ok (.if_icmp .eq 13, 3) := by decide +kernel
theorem dX9_as_43 : decode cX9_as 43 = .ok (.iload_n 2, 1) := by decide +kernel
theorem dX9_as_44 : decode cX9_as 44 = .ok (.iconst 1, 1) := by decide +kernel
theorem dX9_as_45 : decode cX9_as 45 = .ok (.if_icmp .ne 12, 3) := by decide +kernel
theorem dX9_as_48 : decode cX9_as 48 = .ok (.iload_n 3, 1) := by decide +kernel
theorem dX9_as_49 : decode cX9_as 49 = .ok (.iconst 3, 1) := by decide +kernel
theorem dX9_as_50 : decode cX9_as 50 = .ok (.if_icmp .ge 7, 3) := by decide +kernel
theorem dX9_as_53 : decode cX9_as 53 = .ok (.iconst 1, 1) := by decide +kernel
theorem dX9_as_54 : decode cX9_as 54 = .ok (.goto 4, 3) := by decide +kernel
theorem dX9_as_57 : decode cX9_as 57 = .ok (.iconst 0, 1) := by decide +kernel
theorem dX9_as_58 : decode cX9_as 58 = .ok (.istore 4, 2) := by decide +kernel
theorem dX9_as_60 : decode cX9_as 60 = .ok (.iload 4, 2) := by decide +kernel
theorem dX9_as_62 : decode cX9_as 62 = .ok (.ifCond .eq 11, 3) := by decide +kernel
theorem dX9_as_65 : decode cX9_as 65 = .ok (.aload_n 0, 1) := by decide +kernel
theorem dX9_as_66 : decode cX9_as 66 = .ok (.iload_n 1, 1) := by decide +kernel
theorem dX9_as_67 : decode cX9_as 67 = .ok (.invokevirtual 114, 3) := by decide +kernel
theorem dX9_as_70 : decode cX9_as 70 = .ok (.goto 5, 3) := by decide +kernel
theorem dX9_as_73 : decode cX9_as 73 = .ok (.bipush (-4), 2) := by decide +kernel
theorem dX9_as_75 : decode cX9_as 75 = .ok (.ireturn, 1) := by decide +kernel
theorem dX9_keeps_0 : decode cX9_keeps 0 = .ok (.aload_n 0, 1) := by decide +kernel
theorem dX9_keeps_1 : decode cX9_keeps 1 = .ok (.getfield 101, 3) := by decide +kernel
theorem dX9_keeps_4 : decode cX9_keeps 4 = .ok (.bipush 8, 2) := by decide +kernel
theorem dX9_keeps_6 : decode cX9_keeps 6 = .ok (.if_icmp .ne 42, 3) := by decide +kernel
theorem dX9_keeps_9 : decode cX9_keeps 9 = .ok (.iconst 0, 1) := by decide +kernel
theorem dX9_keeps_10 : decode cX9_keeps 10 = .ok (.istore_n 1, 1) := by decide +kernel
theorem dX9_keeps_11 : decode cX9_keeps 11 = .ok (.iload_n 1, 1) := by decide +kernel
theorem dX9_keeps_12 : decode cX9_keeps 12 = .ok (.bipush 126, 2) := by decide +kernel
theorem dX9_keeps_14 : decode cX9_keeps 14 = .ok (.if_icmp .ge 24, 3) := by decide +kernel
theorem dX9_keeps_17 : decode cX9_keeps 17 = .ok (.aload_n 0, 1) := by decide +kernel
theorem dX9_keeps_18 : decode cX9_keeps 18 = .ok (.getfield 22, 3) := by decide +kernel
theorem dX9_keeps_21 : decode cX9_keeps 21 = .ok (.iload_n 1, 1) := by decide +kernel
theorem dX9_keeps_22 : decode cX9_keeps 22 = .ok (.aload_n 0, 1) := by decide +kernel
theorem dX9_keeps_23 : decode cX9_keeps 23 = .ok (.getfield 22, 3) := by decide +kernel
theorem dX9_keeps_26 : decode cX9_keeps 26 = .ok (.iload_n 1, 1) := by decide +kernel
theorem dX9_keeps_27 : decode cX9_keeps 27 = .ok (.bipush 18, 2) := by decide +kernel
theorem dX9_keeps_29 : decode cX9_keeps 29 = .ok (.iadd, 1) := by decide +kernel
theorem dX9_keeps_30 : decode cX9_keeps 30 = .ok (.iaload, 1) := by decide +kernel
theorem dX9_keeps_31 : decode cX9_keeps 31 = .ok (.iastore, 1) := by decide +kernel
theorem dX9_keeps_32 : decode cX9_keeps 32 = .ok (.iinc 1 1, 3) := by decide +kernel
theorem dX9_keeps_35 : decode cX9_keeps 35 = .ok (.goto (-24), 3) := by decide +kernel
theorem dX9_keeps_38 : decode cX9_keeps 38 = .ok (.aload_n 0, 1) := by decide +kernel
theorem dX9_keeps_39 : decode cX9_keeps 39 = .ok (.dup, 1) := by decide +kernel
theorem dX9_keeps_40 : decode cX9_keeps 40 = .ok (.getfield 101, 3) := by decide +kernel
theorem dX9_keeps_43 : decode cX9_keeps 43 = .ok (.iconst 1, 1) := by decide +kernel
theorem dX9_keeps_44 : decode cX9_keeps 44 = .ok (.isub, 1) := by decide +kernel
theorem dX9_keeps_45 : decode cX9_keeps 45 = .ok (.putfield 101, 3) := by decide +kernel
theorem dX9_keeps_48 : decode cX9_keeps 48 = .ok (.iconst 0, 1) := by decide +kernel
theorem dX9_keeps_49 : decode cX9_keeps 49 = .ok (.istore_n 1, 1) := by decide +kernel
theorem dX9_keeps_50 : decode cX9_keeps 50 = .ok (.iload_n 1, 1) := by decide +kernel
theorem dX9_keeps_51 : decode cX9_keeps 51 = .ok (.bipush 18, 2) := by decide +kernel
theorem dX9_keeps_53 : decode cX9_keeps 53 = .ok (.if_icmp .ge 29, 3) := by decide +kernel
theorem dX9_keeps_56 : decode cX9_keeps 56 = .ok (.aload_n 0, 1) := by decide +kernel
theorem dX9_keeps_57 : decode cX9_keeps 57 = .ok (.getfield 22, 3) := by decide +kernel
theorem dX9_keeps_60 : decode cX9_keeps 60 = .ok (.bipush 18, 2) := by decide +kernel
theorem dX9_keeps_62 : decode cX9_keeps 62 = .ok (.aload_n 0, 1) := by decide +kernel
theorem dX9_keeps_63 : decode cX9_keeps 63 = .ok (.getfield 101, 3) := by decide +kernel
theorem dX9_keeps_66 : decode cX9_keeps 66 = .ok (.imul, 1) := by decide +kernel
theorem dX9_keeps_67 : decode cX9_keeps 67 = .ok (.iload_n 1, 1) := by decide +kernel
theorem dX9_keeps_68 : decode cX9_keeps 68 = .ok (.iadd, 1) := by decide +kernel
theorem dX9_keeps_69 : decode cX9_keeps 69 = .ok (.aload_n 0, 1) := by decide +kernel
theorem dX9_keeps_70 : decode cX9_keeps 70 = .ok (.getfield 19, 3) := by decide +kernel
theorem dX9_keeps_73 : decode cX9_keeps 73 = .ok (.iload_n 1, 1) := by decide +kernel
theorem dX9_keeps_74 : decode cX9_keeps 74 = .ok (.iaload, 1) := by decide +kernel
theorem dX9_keeps_75 : decode cX9_keeps 75 = .ok (.iastore, 1) := by decide +kernel
theorem dX9_keeps_76 : decode cX9_keeps 76 = .ok (.iinc 1 1, 3) := by decide +kernel
theorem dX9_keeps_79 : decode cX9_keeps 79 = .ok (.goto (-29), 3) := by decide +kernel
theorem dX9_keeps_82 : decode cX9_keeps 82 = .ok (.aload_n 0, 1) := by decide +kernel
theorem dX9_keeps_83 : decode cX9_keeps 83 = .ok (.dup, 1) := by decide +kernel
theorem dX9_keeps_84 : decode cX9_keeps 84 = .ok (.getfield 101, 3) := by decide +kernel
theorem dX9_keeps_87 : decode cX9_keeps 87 = .ok (.iconst 1, 1) := by decide +kernel
theorem dX9_keeps_88 : decode cX9_keeps 88 = .ok (.iadd, 1) := by decide +kernel
theorem dX9_keeps_89 : decode cX9_keeps 89 = .ok (.putfield 101, 3) := by decide +kernel
theorem dX9_keeps_92 : decode cX9_keeps 92 = .ok (.return_, 1) := by decide +kernel
theorem dX9_falls_0 : decode cX9_falls 0 = .ok (.iconst 0, 1) := by decide +kernel
theorem dX9_falls_1 : decode cX9_falls 1 = .ok (.istore_n 2, 1) := by decide +kernel
theorem dX9_falls_2 : decode cX9_falls 2 = .ok (.iload_n 1, 1) := by decide +kernel
theorem dX9_falls_3 : decode cX9_falls 3 = .ok (.istore_n 3, 1) := by decide +kernel
theorem dX9_falls_4 : decode cX9_falls 4 = .ok (.aload_n 0, 1) := by decide +kernel
theorem dX9_falls_5 : decode cX9_falls 5 = .ok (.getfield 13, 3) := by decide +kernel
theorem dX9_falls_8 : decode cX9_falls 8 = .ok (.iconst 2, 1) := by decide +kernel
theorem dX9_falls_9 : decode cX9_falls 9 = .ok (.iaload, 1) := by decide +kernel
theorem dX9_falls_10 : decode cX9_falls 10 = .ok (.istore 4, 2) := by decide +kernel
theorem dX9_falls_12 : decode cX9_falls 12 = .ok (.iload_n 3, 1) := by decide +kernel
theorem dX9_falls_13 : decode cX9_falls 13 = .ok (.iconst (-1), 1) := by decide +kernel
theorem dX9_falls_14 : decode cX9_falls 14 = .ok (.if_icmp .eq 91, 3) := by decide +kernel
theorem dX9_falls_17 : decode cX9_falls 17 = .ok (.iload 4, 2) := by decide +kernel
theorem dX9_falls_19 : decode cX9_falls 19 = .ok (.ifCond .le 86, 3) := by decide +kernel
theorem dX9_falls_22 : decode cX9_falls 22 = .ok (.iload_n 2, 1) := by decide +kernel
theorem dX9_falls_23 : decode cX9_falls 23 = .ok (.iload_n 3, 1) := by decide +kernel
theorem dX9_falls_24 : decode cX9_falls 24 = .ok (.ishr, 1) := by decide +kernel
theorem dX9_falls_25 : decode cX9_falls 25 = .ok (.iconst 1, 1) := by decide +kernel
theorem dX9_falls_26 : decode cX9_falls 26 = .ok (.iand, 1) := by decide +kernel
theorem dX9_falls_27 : decode cX9_falls 27 = .ok (.ifCond .ne 78, 3) := by decide +kernel
theorem dX9_falls_30 : decode cX9_falls 30 = .ok (.iload_n 2, 1) := by decide +kernel
theorem dX9_falls_31 : decode cX9_falls 31 = .ok (.iconst 1, 1) := by decide +kernel
theorem dX9_falls_32 : decode cX9_falls 32 = .ok (.iload_n 3, 1) := by decide +kernel
theorem dX9_falls_33 : decode cX9_falls 33 = .ok (.ishl, 1) := by decide +kernel
theorem dX9_falls_34 : decode cX9_falls 34 = .ok (.ior, 1) := by decide +kernel
theorem dX9_falls_35 : decode cX9_falls 35 = .ok (.istore_n 2, 1) := by decide +kernel
theorem dX9_falls_36 : decode cX9_falls 36 = .ok (.aload_n 0, 1) := by decide +kernel
theorem dX9_falls_37 : decode cX9_falls 37 = .ok (.getfield 19, 3) := by decide +kernel
theorem dX9_falls_40 : decode cX9_falls 40 = .ok (.iload_n 3, 1) := by decide +kernel
theorem dX9_falls_41 : decode cX9_falls 41 = .ok (.dup2, 1) := by decide +kernel
theorem dX9_falls_42 : decode cX9_falls 42 = .ok (.iaload, 1) := by decide +kernel
theorem dX9_falls_43 : decode cX9_falls 43 = .ok (.iload 4, 2) := by decide +kernel
theorem dX9_falls_45 : decode cX9_falls 45 = .ok (.iadd, 1) := by decide +kernel
theorem dX9_falls_46 : decode cX9_falls 46 = .ok (.iastore, 1) := by decide +kernel
theorem dX9_falls_47 : decode cX9_falls 47 = .ok (.aload_n 0, 1) := by decide +kernel
theorem dX9_falls_48 : decode cX9_falls 48 = .ok (.getfield 19, 3) := by decide +kernel
theorem dX9_falls_51 : decode cX9_falls 51 = .ok (.iload_n 3, 1) := by decide +kernel
theorem dX9_falls_52 : decode cX9_falls 52 = .ok (.iaload, 1) := by decide +kernel
theorem dX9_falls_53 : decode cX9_falls 53 = .ok (.aload_n 0, 1) := by decide +kernel
theorem dX9_falls_54 : decode cX9_falls 54 = .ok (.getfield 13, 3) := by decide +kernel
theorem dX9_falls_57 : decode cX9_falls 57 = .ok (.iconst 1, 1) := by decide +kernel
theorem dX9_falls_58 : decode cX9_falls 58 = .ok (.iaload, 1) := by decide +kernel
theorem dX9_falls_59 : decode cX9_falls 59 = .ok (.if_icmp .le 19, 3) := by decide +kernel
theorem dX9_falls_62 : decode cX9_falls 62 = .ok (.aload_n 0, 1) := by decide +kernel
theorem dX9_falls_63 : decode cX9_falls 63 = .ok (.getfield 19, 3) := by decide +kernel
theorem dX9_falls_66 : decode cX9_falls 66 = .ok (.iload_n 3, 1) := by decide +kernel
theorem dX9_falls_67 : decode cX9_falls 67 = .ok (.iaload, 1) := by decide +kernel
theorem dX9_falls_68 : decode cX9_falls 68 = .ok (.aload_n 0, 1) := by decide +kernel
theorem dX9_falls_69 : decode cX9_falls 69 = .ok (.getfield 13, 3) := by decide +kernel
theorem dX9_falls_72 : decode cX9_falls 72 = .ok (.iconst 1, 1) := by decide +kernel
theorem dX9_falls_73 : decode cX9_falls 73 = .ok (.iaload, 1) := by decide +kernel
theorem dX9_falls_74 : decode cX9_falls 74 = .ok (.isub, 1) := by decide +kernel
theorem dX9_falls_75 : decode cX9_falls 75 = .ok (.goto 4, 3) := by decide +kernel
theorem dX9_falls_78 : decode cX9_falls 78 = .ok (.iconst 0, 1) := by decide +kernel
theorem dX9_falls_79 : decode cX9_falls 79 = .ok (.istore 4, 2) := by decide +kernel
theorem dX9_falls_81 : decode cX9_falls 81 = .ok (.aload_n 0, 1) := by decide +kernel
theorem dX9_falls_82 : decode cX9_falls 82 = .ok (.getfield 19, 3) := by decide +kernel
theorem dX9_falls_85 : decode cX9_falls 85 = .ok (.iload_n 3, 1) := by decide +kernel
theorem dX9_falls_86 : decode cX9_falls 86 = .ok (.dup2, 1) := by decide +kernel
theorem dX9_falls_87 : decode cX9_falls 87 = .ok (.iaload, 1) := by decide +kernel
theorem dX9_falls_88 : decode cX9_falls 88 = .ok (.iload 4, 2) := by decide +kernel
theorem dX9_falls_90 : decode cX9_falls 90 = .ok (.isub, 1) := by decide +kernel
theorem dX9_falls_91 : decode cX9_falls 91 = .ok (.iastore, 1) := by decide +kernel
theorem dX9_falls_92 : decode cX9_falls 92 = .ok (.aload_n 0, 1) := by decide +kernel
theorem dX9_falls_93 : decode cX9_falls 93 = .ok (.getfield 13, 3) := by decide +kernel
theorem dX9_falls_96 : decode cX9_falls 96 = .ok (.bipush 35, 2) := by decide +kernel
theorem dX9_falls_98 : decode cX9_falls 98 = .ok (.iload_n 3, 1) := by decide +kernel
theorem dX9_falls_99 : decode cX9_falls 99 = .ok (.iadd, 1) := by decide +kernel
theorem dX9_falls_100 : decode cX9_falls 100 = .ok (.iaload, 1) := by decide +kernel
theorem dX9_falls_101 : decode cX9_falls 101 = .ok (.istore_n 3, 1) := by decide +kernel
theorem dX9_falls_102 : decode cX9_falls 102 = .ok (.goto (-90), 3) := by decide +kernel
theorem dX9_falls_105 : decode cX9_falls 105 = .ok (.iload_n 2, 1) := by decide +kernel
theorem dX9_falls_106 : decode cX9_falls 106 = .ok (.ireturn, 1) := by decide +kernel
theorem dX9_rains_0 : decode cX9_rains 0 = .ok (.iload_n 1, 1) := by decide +kernel
theorem dX9_rains_1 : decode cX9_rains 1 = .ok (.iconst (-1), 1) := by decide +kernel
theorem dX9_rains_2 : decode cX9_rains 2 = .ok (.if_icmp .eq 9, 3) := by decide +kernel
theorem dX9_rains_5 : decode cX9_rains 5 = .ok (.aload_n 0, 1) := by decide +kernel
theorem dX9_rains_6 : decode cX9_rains 6 = .ok (.iload_n 1, 1) := by decide +kernel
theorem dX9_rains_7 : decode cX9_rains 7 = .ok (.invokevirtual 132, 3) := by decide +kernel
theorem dX9_rains_10 : decode cX9_rains 10 = .ok (.pop, 1) := by decide +kernel
theorem dX9_rains_11 : decode cX9_rains 11 = .ok (.iconst 0, 1) := by decide +kernel
theorem dX9_rains_12 : decode cX9_rains 12 = .ok (.istore_n 2, 1) := by decide +kernel
theorem dX9_rains_13 : decode cX9_rains 13 = .ok (.iload_n 2, 1) := by decide +kernel
theorem dX9_rains_14 : decode cX9_rains 14 = .ok (.aload_n 0, 1) := by decide +kernel
theorem dX9_rains_15 : decode cX9_rains 15 = .ok (.getfield 13, 3) := by decide +kernel
theorem dX9_rains_18 : decode cX9_rains 18 = .ok (.iconst 0, 1) := by decide +kernel
theorem dX9_rains_19 : decode cX9_rains 19 = .ok (.iaload, 1) := by decide +kernel
theorem dX9_rains_20 : decode cX9_rains 20 = .ok (.if_icmp .ge 32, 3) := by decide +kernel
theorem dX9_rains_23 : decode cX9_rains 23 = .ok (.aload_n 0, 1) := by decide +kernel
theorem dX9_rains_24 : decode cX9_rains 24 = .ok (.getfield 19, 3) := by decide +kernel
theorem dX9_rains_27 : decode cX9_rains 27 = .ok (.iload_n 2, 1) := by decide +kernel
theorem dX9_rains_28 : decode cX9_rains 28 = .ok (.dup2, 1) := by decide +kernel
theorem dX9_rains_29 : decode cX9_rains 29 = .ok (.iaload, 1) := by decide +kernel
theorem dX9_rains_30 : decode cX9_rains 30 = .ok (.aload_n 0, 1) := by decide +kernel
theorem dX9_rains_31 : decode cX9_rains 31 = .ok (.getfield 19, 3) := by decide +kernel
theorem dX9_rains_34 : decode cX9_rains 34 = .ok (.iload_n 2, 1) := by decide +kernel
theorem dX9_rains_35 : decode cX9_rains 35 = .ok (.iaload, 1) := by decide +kernel
theorem dX9_rains_36 : decode cX9_rains 36 = .ok (.ifCond .le 7, 3) := by decide +kernel
theorem dX9_rains_39 : decode cX9_rains 39 = .ok (.iconst 1, 1) := by decide +kernel
theorem dX9_rains_40 : decode cX9_rains 40 = .ok (.goto 4, 3) := by decide +kernel
theorem dX9_rains_43 : decode cX9_rains 43 = .ok (.iconst 0, 1) := by decide +kernel
theorem dX9_rains_44 : decode cX9_rains 44 = .ok (.isub, 1) := by decide +kernel
theorem dX9_rains_45 : decode cX9_rains 45 = .ok (.iastore, 1) := by decide +kernel
theorem dX9_rains_46 : decode cX9_rains 46 = .ok (.iinc 2 1, 3) := by decide +kernel
theorem dX9_rains_49 : decode cX9_rains 49 = .ok (.goto (-36), 3) := by decide +kernel
theorem dX9_rains_52 : decode cX9_rains 52 = .ok (.aload_n 0, 1) := by decide +kernel
theorem dX9_rains_53 : decode cX9_rains 53 = .ok (.getfield 19, 3) := by decide +kernel
theorem dX9_rains_56 : decode cX9_rains 56 = .ok (.bipush 17, 2) := by decide +kernel
theorem dX9_rains_58 : decode cX9_rains 58 = .ok (.iload_n 1, 1) := by decide +kernel
theorem dX9_rains_59 : decode cX9_rains 59 = .ok (.iastore, 1) := by decide +kernel
theorem dX9_rains_60 : decode cX9_rains 60 = .ok (.aload_n 0, 1) := by decide +kernel
theorem dX9_rains_61 : decode cX9_rains 61 = .ok (.getfield 19, 3) := by decide +kernel
theorem dX9_rains_64 : decode cX9_rains 64 = .ok (.bipush 16, 2) := by decide +kernel
theorem dX9_rains_66 : decode cX9_rains 66 = .ok (.dup2, 1) := by decide +kernel
theorem dX9_rains_67 : decode cX9_rains 67 = .ok (.iaload, 1) := by decide +kernel
theorem dX9_rains_68 : decode cX9_rains 68 = .ok (.iconst 1, 1) := by decide +kernel
theorem dX9_rains_69 : decode cX9_rains 69 = .ok (.iadd, 1) := by decide +kernel
theorem dX9_rains_70 : decode cX9_rains 70 = .ok (.iastore, 1) := by decide +kernel
theorem dX9_rains_71 : decode cX9_rains 71 = .ok (.return_, 1) := by decide +kernel
theorem dX9_day_0 : decode cX9_day 0 = .ok (.aload_n 0, 1) := by decide +kernel
theorem dX9_day_1 : decode cX9_day 1 = .ok (.getfield 19, 3) := by decide +kernel
theorem dX9_day_4 : decode cX9_day 4 = .ok (.bipush 16, 2) := by decide +kernel
theorem dX9_day_6 : decode cX9_day 6 = .ok (.iaload, 1) := by decide +kernel
theorem dX9_day_7 : decode cX9_day 7 = .ok (.sipush 999, 3) := by decide +kernel
theorem dX9_day_10 : decode cX9_day 10 = .ok (.if_icmp .ne 6, 3) := by decide +kernel
theorem dX9_day_13 : decode cX9_day 13 = .ok (.bipush (-5), 2) := by decide +kernel
theorem dX9_day_15 : decode cX9_day 15 = .ok (.ireturn, 1) := by decide +kernel
theorem dX9_day_16 : decode cX9_day 16 = .ok (.aload_n 0, 1) := by decide +kernel
theorem dX9_day_17 : decode cX9_day 17 = .ok (.invokevirtual 135, 3) := by decide +kernel
theorem dX9_day_20 : decode cX9_day 20 = .ok (.aload_n 0, 1) := by decide +kernel
theorem dX9_day_21 : decode cX9_day 21 = .ok (.aload_n 0, 1) := by decide +kernel
theorem dX9_day_22 : decode cX9_day 22 = .ok (.invokevirtual 138, 3) := by decide +kernel
theorem dX9_day_25 : decode cX9_day 25 = .ok (.invokevirtual 141, 3) := by decide +kernel
theorem dX9_day_28 : decode cX9_day 28 = .ok (.aload_n 0, 1) := by decide +kernel
theorem dX9_day_29 : decode cX9_day 29 = .ok (.getfield 19, 3) := by decide +kernel
theorem dX9_day_32 : decode cX9_day 32 = .ok (.bipush 17, 2) := by decide +kernel
theorem dX9_day_34 : decode cX9_day 34 = .ok (.iaload, 1) := by decide +kernel
theorem dX9_day_35 : decode cX9_day 35 = .ok (.ireturn, 1) := by decide +kernel
theorem dX9_hose_0 : decode cX9_hose 0 = .ok (.aload_n 0, 1) := by decide +kernel
theorem dX9_hose_1 : decode cX9_hose 1 = .ok (.iload_n 1, 1) := by decide +kernel
theorem dX9_hose_2 : decode cX9_hose 2 = .ok (.invokevirtual 129, 3) := by decide +kernel
theorem dX9_hose_5 : decode cX9_hose 5 = .ok (.ifCond .ne 6, 3) := by decide +kernel
theorem dX9_hose_8 : decode cX9_hose 8 = .ok (.bipush (-2), 2) := by decide +kernel
theorem dX9_hose_10 : decode cX9_hose 10 = .ok (.ireturn, 1) := by decide +kernel
theorem dX9_hose_11 : decode cX9_hose 11 = .ok (.iload_n 2, 1) := by decide +kernel
theorem dX9_hose_12 : decode cX9_hose 12 = .ok (.iconst 1, 1) := by decide +kernel
theorem dX9_hose_13 : decode cX9_hose 13 = .ok (.bipush 20, 2) := by decide +kernel
theorem dX9_hose_15 : decode cX9_hose 15 = .ok (.invokestatic 51, 3) := by decide +kernel
theorem dX9_hose_18 : decode cX9_hose 18 = .ok (.ifCond .ne 6, 3) := by decide +kernel
theorem dX9_hose_21 : decode cX9_hose 21 = .ok (.bipush (-3), 2) := by decide +kernel
theorem dX9_hose_23 : decode cX9_hose 23 = .ok (.ireturn, 1) := by decide +kernel
theorem dX9_hose_24 : decode cX9_hose 24 = .ok (.aload_n 0, 1) := by decide +kernel
theorem dX9_hose_25 : decode cX9_hose 25 = .ok (.invokevirtual 135, 3) := by decide +kernel
theorem dX9_hose_28 : decode cX9_hose 28 = .ok (.aload_n 0, 1) := by decide +kernel
theorem dX9_hose_29 : decode cX9_hose 29 = .ok (.getfield 19, 3) := by decide +kernel
theorem dX9_hose_32 : decode cX9_hose 32 = .ok (.iload_n 1, 1) := by decide +kernel
theorem dX9_hose_33 : decode cX9_hose 33 = .ok (.aload_n 0, 1) := by decide +kernel
theorem dX9_hose_34 : decode cX9_hose 34 = .ok (.getfield 19, 3) := by decide +kernel
theorem dX9_hose_37 : decode cX9_hose 37 = .ok (.iload_n 1, 1) := by decide +kernel
theorem dX9_hose_38 : decode cX9_hose 38 = .ok (.iaload, 1) := by decide +kernel
theorem dX9_hose_39 : decode cX9_hose 39 = .ok (.iload_n 2, 1) := by decide +kernel
theorem dX9_hose_40 : decode cX9_hose 40 = .ok (.iadd, 1) := by decide +kernel
theorem dX9_hose_41 : decode cX9_hose 41 = .ok (.bipush 99, 2) := by decide +kernel
theorem dX9_hose_43 : decode cX9_hose 43 = .ok (.if_icmp .le 8, 3) := by decide +kernel
theorem dX9_hose_46 : decode cX9_hose 46 = .ok (.bipush 99, 2) := by decide +kernel
theorem dX9_hose_48 : decode cX9_hose 48 = .ok (.goto 11, 3) := by decide +kernel
theorem dX9_hose_51 : decode cX9_hose 51 = .ok (.aload_n 0, 1) := by decide +kernel
theorem dX9_hose_52 : decode cX9_hose 52 = .ok (.getfield 19, 3) := by decide +kernel
theorem dX9_hose_55 : decode cX9_hose 55 = .ok (.iload_n 1, 1) := by decide +kernel
theorem dX9_hose_56 : decode cX9_hose 56 = .ok (.iaload, 1) := by decide +kernel
theorem dX9_hose_57 : decode cX9_hose 57 = .ok (.iload_n 2, 1) := by decide +kernel
theorem dX9_hose_58 : decode cX9_hose 58 = .ok (.iadd, 1) := by decide +kernel
theorem dX9_hose_59 : decode cX9_hose 59 = .ok (.iastore, 1) := by decide +kernel
theorem dX9_hose_60 : decode cX9_hose 60 = .ok (.aload_n 0, 1) := by decide +kernel
theorem dX9_hose_61 : decode cX9_hose 61 = .ok (.getfield 19, 3) := by decide +kernel
theorem dX9_hose_64 : decode cX9_hose 64 = .ok (.iload_n 1, 1) := by decide +kernel
theorem dX9_hose_65 : decode cX9_hose 65 = .ok (.iaload, 1) := by decide +kernel
theorem dX9_hose_66 : decode cX9_hose 66 = .ok (.ireturn, 1) := by decide +kernel
theorem dX9_poll_0 : decode cX9_poll 0 = .ok (.aload_n 0, 1) := by decide +kernel
theorem dX9_poll_1 : decode cX9_poll 1 = .ok (.iload_n 1, 1) := by decide +kernel
theorem dX9_poll_2 : decode cX9_poll 2 = .ok (.invokevirtual 129, 3) := by decide +kernel
theorem dX9_poll_5 : decode cX9_poll 5 = .ok (.ifCond .ne 6, 3) := by decide +kernel
theorem dX9_poll_8 : decode cX9_poll 8 = .ok (.bipush (-2), 2) := by decide +kernel
theorem dX9_poll_10 : decode cX9_poll 10 = .ok (.ireturn, 1) := by decide +kernel
theorem dX9_poll_11 : decode cX9_poll 11 = .ok (.iload_n 2, 1) := by decide +kernel
theorem dX9_poll_12 : decode cX9_poll 12 = .ok (.iconst 0, 1) := by decide +kernel
theorem dX9_poll_13 : decode cX9_poll 13 = .ok (.bipush 20, 2) := by decide +kernel
theorem dX9_poll_15 : decode cX9_poll 15 = .ok (.invokestatic 51, 3) := by decide +kernel
theorem dX9_poll_18 : decode cX9_poll 18 = .ok (.ifCond .ne 6, 3) := by decide +kernel
theorem dX9_poll_21 : decode cX9_poll 21 = .ok (.bipush (-3), 2) := by decide +kernel
theorem dX9_poll_23 : decode cX9_poll 23 = .ok (.ireturn, 1) := by decide +kernel
theorem dX9_poll_24 : decode cX9_poll 24 = .ok (.aload_n 0, 1) := by decide +kernel
theorem dX9_poll_25 : decode cX9_poll 25 = .ok (.invokevirtual 135, 3) := by decide +kernel
theorem dX9_poll_28 : decode cX9_poll 28 = .ok (.aload_n 0, 1) := by decide +kernel
theorem dX9_poll_29 : decode cX9_poll 29 = .ok (.getfield 19, 3) := by decide +kernel
theorem dX9_poll_32 : decode cX9_poll 32 = .ok (.bipush 8, 2) := by decide +kernel
theorem dX9_poll_34 : decode cX9_poll 34 = .ok (.iload_n 1, 1) := by decide +kernel
theorem dX9_poll_35 : decode cX9_poll 35 = .ok (.iadd, 1) := by decide +kernel
theorem dX9_poll_36 : decode cX9_poll 36 = .ok (.iaload, 1) := by decide +kernel
theorem dX9_poll_37 : decode cX9_poll 37 = .ok (.istore_n 3, 1) := by decide +kernel
theorem dX9_poll_38 : decode cX9_poll 38 = .ok (.aload_n 0, 1) := by decide +kernel
theorem dX9_poll_39 : decode cX9_poll 39 = .ok (.getfield 19, 3) := by decide +kernel
theorem dX9_poll_42 : decode cX9_poll 42 = .ok (.bipush 8, 2) := by decide +kernel
theorem dX9_poll_44 : decode cX9_poll 44 = .ok (.iload_n 1, 1) := by decide +kernel
theorem dX9_poll_45 : decode cX9_poll 45 = .ok (.iadd, 1) := by decide +kernel
theorem dX9_poll_46 : decode cX9_poll 46 = .ok (.iload_n 2, 1) := by decide +kernel
theorem dX9_poll_47 : decode cX9_poll 47 = .ok (.iastore, 1) := by decide +kernel
theorem dX9_poll_48 : decode cX9_poll 48 = .ok (.iload_n 3, 1) := by decide +kernel
theorem dX9_poll_49 : decode cX9_poll 49 = .ok (.ireturn, 1) := by decide +kernel
theorem dX9_undo_0 : decode cX9_undo 0 = .ok (.aload_n 0, 1) := by decide +kernel
theorem dX9_undo_1 : decode cX9_undo 1 = .ok (.getfield 101, 3) := by decide +kernel
theorem dX9_undo_4 : decode cX9_undo 4 = .ok (.ifCond .ne 6, 3) := by decide +kernel
theorem dX9_undo_7 : decode cX9_undo 7 = .ok (.bipush (-4), 2) := by decide +kernel
theorem dX9_undo_9 : decode cX9_undo 9 = .ok (.ireturn, 1) := by decide +kernel
theorem dX9_undo_10 : decode cX9_undo 10 = .ok (.aload_n 0, 1) := by decide +kernel
theorem dX9_undo_11 : decode cX9_undo 11 = .ok (.dup, 1) := by decide +kernel
theorem dX9_undo_12 : decode cX9_undo 12 = .ok (.getfield 101, 3) := by decide +kernel
theorem dX9_undo_15 : decode cX9_undo 15 = .ok (.iconst 1, 1) := by decide +kernel
theorem dX9_undo_16 : decode cX9_undo 16 = .ok (.isub, 1) := by decide +kernel
theorem dX9_undo_17 : decode cX9_undo 17 = .ok (.putfield 101, 3) := by decide +kernel
theorem dX9_undo_20 : decode cX9_undo 20 = .ok (.iconst 0, 1) := by decide +kernel
theorem dX9_undo_21 : decode cX9_undo 21 = .ok (.istore_n 1, 1) := by decide +kernel
theorem dX9_undo_22 : decode cX9_undo 22 = .ok (.iload_n 1, 1) := by decide +kernel
theorem dX9_undo_23 : decode cX9_undo 23 = .ok (.bipush 18, 2) := by decide +kernel
theorem dX9_undo_25 : decode cX9_undo 25 = .ok (.if_icmp .ge 29, 3) := by decide +kernel
theorem dX9_undo_28 : decode cX9_undo 28 = .ok (.aload_n 0, 1) := by decide +kernel
theorem dX9_undo_29 : decode cX9_undo 29 = .ok (.getfield 19, 3) := by decide +kernel
theorem dX9_undo_32 : decode cX9_undo 32 = .ok (.iload_n 1, 1) := by decide +kernel
theorem dX9_undo_33 : decode cX9_undo 33 = .ok (.aload_n 0, 1) := by decide +kernel
theorem dX9_undo_34 : decode cX9_undo 34 = .ok (.getfield 22, 3) := by decide +kernel
theorem dX9_undo_37 : decode cX9_undo 37 = .ok (.bipush 18, 2) := by decide +kernel
theorem dX9_undo_39 : decode cX9_undo 39 = .ok (.aload_n 0, 1) := by decide +kernel
theorem dX9_undo_40 : decode cX9_undo 40 = .ok (.getfield 101, 3) := by decide +kernel
theorem dX9_undo_43 : decode cX9_undo 43 = .ok (.imul, 1) := by decide +kernel
theorem dX9_undo_44 : decode cX9_undo 44 = .ok (.iload_n 1, 1) := by decide +kernel
theorem dX9_undo_45 : decode cX9_undo 45 = .ok (.iadd, 1) := by decide +kernel
theorem dX9_undo_46 : decode cX9_undo 46 = .ok (.iaload, 1) := by decide +kernel
theorem dX9_undo_47 : decode cX9_undo 47 = .ok (.iastore, 1) := by decide +kernel
theorem dX9_undo_48 : decode cX9_undo 48 = .ok (.iinc 1 1, 3) := by decide +kernel
theorem dX9_undo_51 : decode cX9_undo 51 = .ok (.goto (-29), 3) := by decide +kernel
theorem dX9_undo_54 : decode cX9_undo 54 = .ok (.aload_n 0, 1) := by decide +kernel
theorem dX9_undo_55 : decode cX9_undo 55 = .ok (.getfield 101, 3) := by decide +kernel
theorem dX9_undo_58 : decode cX9_undo 58 = .ok (.ireturn, 1) := by decide +kernel
theorem dX9_keep_0 : decode cX9_keep 0 = .ok (.iload_n 1, 1) := by decide +kernel
theorem dX9_keep_1 : decode cX9_keep 1 = .ok (.iconst 0, 1) := by decide +kernel
theorem dX9_keep_2 : decode cX9_keep 2 = .ok (.iconst 1, 1) := by decide +kernel
theorem dX9_keep_3 : decode cX9_keep 3 = .ok (.invokestatic 51, 3) := by decide +kernel
theorem dX9_keep_6 : decode cX9_keep 6 = .ok (.ifCond .ne 6, 3) := by decide +kernel
theorem dX9_keep_9 : decode cX9_keep 9 = .ok (.bipush (-2), 2) := by decide +kernel
theorem dX9_keep_11 : decode cX9_keep 11 = .ok (.ireturn, 1) := by decide +kernel
theorem dX9_keep_12 : decode cX9_keep 12 = .ok (.iconst 0, 1) := by decide +kernel
theorem dX9_keep_13 : decode cX9_keep 13 = .ok (.istore_n 2, 1) := by decide +kernel
theorem dX9_keep_14 : decode cX9_keep 14 = .ok (.iload_n 2, 1) := by decide +kernel
theorem dX9_keep_15 : decode cX9_keep 15 = .ok (.bipush 18, 2) := by decide +kernel
theorem dX9_keep_17 : decode cX9_keep 17 = .ok (.if_icmp .ge 26, 3) := by decide +kernel
theorem dX9_keep_20 : decode cX9_keep 20 = .ok (.aload_n 0, 1) := by decide +kernel
theorem dX9_keep_21 : decode cX9_keep 21 = .ok (.getfield 25, 3) := by decide +kernel
theorem dX9_keep_24 : decode cX9_keep 24 = .ok (.bipush 18, 2) := by decide +kernel
theorem dX9_keep_26 : decode cX9_keep 26 = .ok (.iload_n 1, 1) := by decide +kernel
theorem dX9_keep_27 : decode cX9_keep 27 = .ok (.imul, 1) := by decide +kernel
theorem dX9_keep_28 : decode cX9_keep 28 = .ok (.iload_n 2, 1) := by decide +kernel
theorem dX9_keep_29 : decode cX9_keep 29 = .ok (.iadd, 1) := by decide +kernel
theorem dX9_keep_30 : decode cX9_keep 30 = .ok (.aload_n 0, 1) := by decide +kernel
theorem dX9_keep_31 : decode cX9_keep 31 = .ok (.getfield 19, 3) := by decide +kernel
theorem dX9_keep_34 : decode cX9_keep 34 = .ok (.iload_n 2, 1) := by decide +kernel
theorem dX9_keep_35 : decode cX9_keep 35 = .ok (.iaload, 1) := by decide +kernel
theorem dX9_keep_36 : decode cX9_keep 36 = .ok (.iastore, 1) := by decide +kernel
theorem dX9_keep_37 : decode cX9_keep 37 = .ok (.iinc 2 1, 3) := by decide +kernel
theorem dX9_keep_40 : decode cX9_keep 40 = .ok (.goto (-26), 3) := by decide +kernel
theorem dX9_keep_43 : decode cX9_keep 43 = .ok (.aload_n 0, 1) := by decide +kernel
theorem dX9_keep_44 : decode cX9_keep 44 = .ok (.getfield 28, 3) := by decide +kernel
theorem dX9_keep_47 : decode cX9_keep 47 = .ok (.iload_n 1, 1) := by decide +kernel
theorem dX9_keep_48 : decode cX9_keep 48 = .ok (.iconst 1, 1) := by decide +kernel
theorem dX9_keep_49 : decode cX9_keep 49 = .ok (.bastore, 1) := by decide +kernel
theorem dX9_keep_50 : decode cX9_keep 50 = .ok (.aload_n 0, 1) := by decide +kernel
theorem dX9_keep_51 : decode cX9_keep 51 = .ok (.getfield 19, 3) := by decide +kernel
theorem dX9_keep_54 : decode cX9_keep 54 = .ok (.bipush 16, 2) := by decide +kernel
theorem dX9_keep_56 : decode cX9_keep 56 = .ok (.iaload, 1) := by decide +kernel
theorem dX9_keep_57 : decode cX9_keep 57 = .ok (.ireturn, 1) := by decide +kernel
theorem dX9_back_0 : decode cX9_back 0 = .ok (.iload_n 1, 1) := by decide +kernel
theorem dX9_back_1 : decode cX9_back 1 = .ok (.iconst 0, 1) := by decide +kernel
theorem dX9_back_2 : decode cX9_back 2 = .ok (.iconst 1, 1) := by decide +kernel
theorem dX9_back_3 : decode cX9_back 3 = .ok (.invokestatic 51, 3) := by decide +kernel
theorem dX9_back_6 : decode cX9_back 6 = .ok (.ifCond .ne 6, 3) := by decide +kernel
theorem dX9_back_9 : decode cX9_back 9 = .ok (.bipush (-2), 2) := by decide +kernel
theorem dX9_back_11 : decode cX9_back 11 = .ok (.ireturn, 1) := by decide +kernel
theorem dX9_back_12 : decode cX9_back 12 = .ok (.aload_n 0, 1) := by decide +kernel
theorem dX9_back_13 : decode cX9_back 13 = .ok (.getfield 28, 3) := by decide +kernel
theorem dX9_back_16 : decode cX9_back 16 = .ok (.iload_n 1, 1) := by decide +kernel
theorem dX9_back_17 : decode cX9_back 17 = .ok (.baload, 1) := by decide +kernel
theorem dX9_back_18 : decode cX9_back 18 = .ok (.ifCond .ne 6, 3) := by decide +kernel
theorem dX9_back_21 : decode cX9_back 21 = .ok (.bipush (-4), 2) := by decide +kernel
theorem dX9_back_23 : decode cX9_back 23 = .ok (.ireturn, 1) := by decide +kernel
theorem dX9_back_24 : decode cX9_back 24 = .ok (.iconst 0, 1) := by decide +kernel
theorem dX9_back_25 : decode cX9_back 25 = .ok (.istore_n 2, 1) := by decide +kernel
theorem dX9_back_26 : decode cX9_back 26 = .ok (.iload_n 2, 1) := by decide +kernel
theorem dX9_back_27 : decode cX9_back 27 = .ok (.bipush 18, 2) := by decide +kernel
theorem dX9_back_29 : decode cX9_back 29 = .ok (.if_icmp .ge 26, 3) := by decide +kernel
theorem dX9_back_32 : decode cX9_back 32 = .ok (.aload_n 0, 1) := by decide +kernel
theorem dX9_back_33 : decode cX9_back 33 = .ok (.getfield 19, 3) := by decide +kernel
theorem dX9_back_36 : decode cX9_back 36 = .ok (.iload_n 2, 1) := by decide +kernel
theorem dX9_back_37 : decode cX9_back 37 = .ok (.aload_n 0, 1) := by decide +kernel
theorem dX9_back_38 : decode cX9_back 38 = .ok (.getfield 25, 3) := by decide +kernel
theorem dX9_back_41 : decode cX9_back 41 = .ok (.bipush 18, 2) := by decide +kernel
theorem dX9_back_43 : decode cX9_back 43 = .ok (.iload_n 1, 1) := by decide +kernel
theorem dX9_back_44 : decode cX9_back 44 = .ok (.imul, 1) := by decide +kernel
theorem dX9_back_45 : decode cX9_back 45 = .ok (.iload_n 2, 1) := by decide +kernel
theorem dX9_back_46 : decode cX9_back 46 = .ok (.iadd, 1) := by decide +kernel
theorem dX9_back_47 : decode cX9_back 47 = .ok (.iaload, 1) := by decide +kernel
theorem dX9_back_48 : decode cX9_back 48 = .ok (.iastore, 1) := by decide +kernel
theorem dX9_back_49 : decode cX9_back 49 = .ok (.iinc 2 1, 3) := by decide +kernel
theorem dX9_back_52 : decode cX9_back 52 = .ok (.goto (-26), 3) := by decide +kernel
theorem dX9_back_55 : decode cX9_back 55 = .ok (.aload_n 0, 1) := by decide +kernel
theorem dX9_back_56 : decode cX9_back 56 = .ok (.iconst 0, 1) := by decide +kernel
theorem dX9_back_57 : decode cX9_back 57 = .ok (.putfield 101, 3) := by decide +kernel
theorem dX9_back_60 : decode cX9_back 60 = .ok (.aload_n 0, 1) := by decide +kernel
theorem dX9_back_61 : decode cX9_back 61 = .ok (.getfield 19, 3) := by decide +kernel
theorem dX9_back_64 : decode cX9_back 64 = .ok (.bipush 16, 2) := by decide +kernel
theorem dX9_back_66 : decode cX9_back 66 = .ok (.iaload, 1) := by decide +kernel
theorem dX9_back_67 : decode cX9_back 67 = .ok (.ireturn, 1) := by decide +kernel
