/-! decode rows: X1 -/
theorem dX1_init_0 : decode cX1_init 0 = .ok (.aload_n 0, 1) := by decide +kernel
theorem dX1_init_1 : decode cX1_init 1 = .ok (.invokespecial 1, 3) := by decide +kernel
theorem dX1_init_4 : decode cX1_init 4 = .ok (.aload_n 0, 1) := by decide +kernel
theorem dX1_init_5 : decode cX1_init 5 = .ok (.bipush 16, 2) := by decide +kernel
theorem dX1_init_7 : decode cX1_init 7 = .ok (.newarray .int, 2) := by decide +kernel
theorem dX1_init_9 : decode cX1_init 9 = .ok (.putfield 9, 3) := by decide +kernel
theorem dX1_init_12 : decode cX1_init 12 = .ok (.aload_n 0, 1) := by decide +kernel
theorem dX1_init_13 : decode cX1_init 13 = .ok (.aload_n 1, 1) := by decide +kernel
theorem dX1_init_14 : decode cX1_init 14 = .ok (.putfield 13, 3) := by decide +kernel
theorem dX1_init_17 : decode cX1_init 17 = .ok (.return_, 1) := by decide +kernel
theorem dX1_askAnew_0 : decode cX1_askAnew 0 = .ok (.aload_n 0, 1) := by decide +kernel
theorem dX1_askAnew_1 : decode cX1_askAnew 1 = .ok (.iconst 0, 1) := by decide +kernel
theorem dX1_askAnew_2 : decode cX1_askAnew 2 = .ok (.putfield 17, 3) := by decide +kernel
theorem dX1_askAnew_5 : decode cX1_askAnew 5 = .ok (.aload_n 0, 1) := by decide +kernel
theorem dX1_askAnew_6 : decode cX1_askAnew 6 = .ok (.iload_n 1, 1) := by decide +kernel
theorem dX1_askAnew_7 : decode cX1_askAnew 7 = .ok (.iload_n 2, 1) := by decide +kernel
theorem dX1_askAnew_8 : decode cX1_askAnew 8 = .ok (.iconst 0, 1) := by decide +kernel
theorem dX1_askAnew_9 : decode cX1_askAnew 9 = .ok (.invokevirtual 21, 3) := by decide +kernel
theorem dX1_askAnew_12 : decode cX1_askAnew 12 = .ok (.ireturn, 1) := by decide +kernel
theorem dX1_answer_0 : decode cX1_answer 0 = .ok (.iload_n 3, 1) := by decide +kernel
theorem dX1_answer_1 : decode cX1_answer 1 = .ok (.bipush 12, 2) := by decide +kernel
theorem dX1_answer_3 : decode cX1_answer 3 = .ok (.if_icmp .le 5, 3) := by decide +kernel
theorem dX1_answer_6 : decode cX1_answer 6 = .ok (.iconst 0, 1) := by decide +kernel
theorem dX1_answer_7 : decode cX1_answer 7 = .ok (.ireturn, 1) := by decide +kernel
theorem dX1_answer_8 : decode cX1_answer 8 = .ok (.aload_n 0, 1) := by decide +kernel
theorem dX1_answer_9 : decode cX1_answer 9 = .ok (.getfield 13, 3) := by decide +kernel
theorem dX1_answer_12 : decode cX1_answer 12 = .ok (.getfield 25, 3) := by decide +kernel
theorem dX1_answer_15 : decode cX1_answer 15 = .ok (.iload_n 1, 1) := by decide +kernel
theorem dX1_answer_16 : decode cX1_answer 16 = .ok (.iaload, 1) := by decide +kernel
theorem dX1_answer_17 : decode cX1_answer 17 = .ok (.iload_n 2, 1) := by decide +kernel
theorem dX1_answer_18 : decode cX1_answer 18 = .ok (.ifCond .ne 9, 3) := by decide +kernel
theorem dX1_answer_21 : decode cX1_answer 21 = .ok (.getstatic 30, 3) := by decide +kernel
theorem dX1_answer_24 : decode cX1_answer 24 = .ok (.goto 6, 3) := by decide +kernel
theorem dX1_answer_27 : decode cX1_answer 27 = .ok (.getstatic 35, 3) := by decide +kernel
theorem dX1_answer_30 : decode cX1_answer 30 = .ok (.invokestatic 38, 3) := by decide +kernel
theorem dX1_answer_33 : decode cX1_answer 33 = .ok (.istore 4, 2) := by decide +kernel
theorem dX1_answer_35 : decode cX1_answer 35 = .ok (.aload_n 0, 1) := by decide +kernel
theorem dX1_answer_36 : decode cX1_answer 36 = .ok (.iload 4, 2) := by decide +kernel
theorem dX1_answer_38 : decode cX1_answer 38 = .ok (.iload_n 1, 1) := by decide +kernel
theorem dX1_answer_39 : decode cX1_answer 39 = .ok (.iload_n 3, 1) := by decide +kernel
theorem dX1_answer_40 : decode cX1_answer 40 = .ok (.iconst 1, 1) := by decide +kernel
theorem dX1_answer_41 : decode cX1_answer 41 = .ok (.iadd, 1) := by decide +kernel
theorem dX1_answer_42 : decode cX1_answer 42 = .ok (.invokevirtual 42, 3) := by decide +kernel
theorem dX1_answer_45 : decode cX1_answer 45 = .ok (.ireturn, 1) := by decide +kernel
theorem dX1_runBody_0 : decode cX1_runBody 0 = .ok (.iload_n 3, 1) := by decide +kernel
theorem dX1_runBody_1 : decode cX1_runBody 1 = .ok (.bipush 12, 2) := by decide +kernel
theorem dX1_runBody_3 : decode cX1_runBody 3 = .ok (.if_icmp .le 5, 3) := by decide +kernel
theorem dX1_runBody_6 : decode cX1_runBody 6 = .ok (.iconst 0, 1) := by decide +kernel
theorem dX1_runBody_7 : decode cX1_runBody 7 = .ok (.ireturn, 1) := by decide +kernel
theorem dX1_runBody_8 : decode cX1_runBody 8 = .ok (.aload_n 0, 1) := by decide +kernel
theorem dX1_runBody_9 : decode cX1_runBody 9 = .ok (.iload_n 1, 1) := by decide +kernel
theorem dX1_runBody_10 : decode cX1_runBody 10 = .ok (.invokevirtual 45, 3) := by decide +kernel
theorem dX1_runBody_13 : decode cX1_runBody 13 = .ok (.iload_n 1, 1) := by decide +kernel
theorem dX1_runBody_14 : decode cX1_runBody 14 = .ok (.tableswitch 216 10 24 #[74, 84, 105, 117, 131, 216, 216, 216, 216, 216, 144, 146, 167, 182, 203], 74) := by decide +kernel
theorem dX1_runBody_88 : decode cX1_runBody 88 = .ok (.aload_n 0, 1) := by decide +kernel
theorem dX1_runBody_89 : decode cX1_runBody 89 = .ok (.getfield 13, 3) := by decide +kernel
theorem dX1_runBody_92 : decode cX1_runBody 92 = .ok (.getfield 49, 3) := by decide +kernel
theorem dX1_runBody_95 : decode cX1_runBody 95 = .ok (.iload_n 2, 1) := by decide +kernel
theorem dX1_runBody_96 : decode cX1_runBody 96 = .ok (.iaload, 1) := by decide +kernel
theorem dX1_runBody_97 : decode cX1_runBody 97 = .ok (.ireturn, 1) := by decide +kernel
theorem dX1_runBody_98 : decode cX1_runBody 98 = .ok (.aload_n 0, 1) := by decide +kernel
theorem dX1_runBody_99 : decode cX1_runBody 99 = .ok (.bipush 10, 2) := by decide +kernel
theorem dX1_runBody_101 : decode cX1_runBody 101 = .ok (.iload_n 2, 1) := by decide +kernel
theorem dX1_runBody_102 : decode cX1_runBody 102 = .ok (.iload_n 3, 1) := by decide +kernel
theorem dX1_runBody_103 : decode cX1_runBody 103 = .ok (.iconst 1, 1) := by decide +kernel
theorem dX1_runBody_104 : decode cX1_runBody 104 = .ok (.iadd, 1) := by decide +kernel
theorem dX1_runBody_105 : decode cX1_runBody 105 = .ok (.invokevirtual 42, 3) := by decide +kernel
theorem dX1_runBody_108 : decode cX1_runBody 108 = .ok (.aload_n 0, 1) := by decide +kernel
theorem dX1_runBody_109 : decode cX1_runBody 109 = .ok (.iload_n 2, 1) := by decide +kernel
theorem dX1_runBody_110 : decode cX1_runBody 110 = .ok (.iconst 1, 1) := by decide +kernel
theorem dX1_runBody_111 : decode cX1_runBody 111 = .ok (.iload_n 3, 1) := by decide +kernel
theorem dX1_runBody_112 : decode cX1_runBody 112 = .ok (.iconst 1, 1) := by decide +kernel
theorem dX1_runBody_113 : decode cX1_runBody 113 = .ok (.iadd, 1) := by decide +kernel
theorem dX1_runBody_114 : decode cX1_runBody 114 = .ok (.invokevirtual 21, 3) := by decide +kernel
theorem dX1_runBody_117 : decode cX1_runBody 117 = .ok (.iadd, 1) := by decide +kernel
theorem dX1_runBody_118 : decode cX1_runBody 118 = .ok (.ireturn, 1) := by decide +kernel
theorem dX1_runBody_119 : decode cX1_runBody 119 = .ok (.aload_n 0, 1) := by decide +kernel
theorem dX1_runBody_120 : decode cX1_runBody 120 = .ok (.bipush 11, 2) := by decide +kernel
theorem dX1_runBody_122 : decode cX1_runBody 122 = .ok (.iload_n 2, 1) := by decide +kernel
theorem dX1_runBody_123 : decode cX1_runBody 123 = .ok (.iload_n 3, 1) := by decide +kernel
theorem dX1_runBody_124 : decode cX1_runBody 124 = .ok (.iconst 1, 1) := by decide +kernel
theorem dX1_runBody_125 : decode cX1_runBody 125 = .ok (.iadd, 1) := by decide +kernel
theorem dX1_runBody_126 : decode cX1_runBody 126 = .ok (.invokevirtual 42, 3) := by decide +kernel
theorem dX1_runBody_129 : decode cX1_runBody 129 = .ok (.ineg, 1) := by decide +kernel
theorem dX1_runBody_130 : decode cX1_runBody 130 = .ok (.ireturn, 1) := by decide +kernel
theorem dX1_runBody_131 : decode cX1_runBody 131 = .ok (.aload_n 0, 1) := by decide +kernel
theorem dX1_runBody_132 : decode cX1_runBody 132 = .ok (.bipush 10, 2) := by decide +kernel
theorem dX1_runBody_134 : decode cX1_runBody 134 = .ok (.iload_n 2, 1) := by decide +kernel
theorem dX1_runBody_135 : decode cX1_runBody 135 = .ok (.iload_n 3, 1) := by decide +kernel
theorem dX1_runBody_136 : decode cX1_runBody 136 = .ok (.iconst 1, 1) := by decide +kernel
theorem dX1_runBody_137 : decode cX1_runBody 137 = .ok (.iadd, 1) := by decide +kernel
theorem dX1_runBody_138 : decode cX1_runBody 138 = .ok (.invokevirtual 42, 3) := by decide +kernel
theorem dX1_runBody_141 : decode cX1_runBody 141 = .ok (.bipush 100, 2) := by decide +kernel
theorem dX1_runBody_143 : decode cX1_runBody 143 = .ok (.isub, 1) := by decide +kernel
theorem dX1_runBody_144 : decode cX1_runBody 144 = .ok (.ireturn, 1) := by decide +kernel
theorem dX1_runBody_145 : decode cX1_runBody 145 = .ok (.iconst 2, 1) := by decide +kernel
theorem dX1_runBody_146 : decode cX1_runBody 146 = .ok (.aload_n 0, 1) := by decide +kernel
theorem dX1_runBody_147 : decode cX1_runBody 147 = .ok (.bipush 13, 2) := by decide +kernel
theorem dX1_runBody_149 : decode cX1_runBody 149 = .ok (.iload_n 2, 1) := by decide +kernel
theorem dX1_runBody_150 : decode cX1_runBody 150 = .ok (.iload_n 3, 1) := by decide +kernel
theorem dX1_runBody_151 : decode cX1_runBody 151 = .ok (.iconst 1, 1) := by decide +kernel
theorem dX1_runBody_152 : decode cX1_runBody 152 = .ok (.iadd, 1) := by decide +kernel
theorem dX1_runBody_153 : decode cX1_runBody 153 = .ok (.invokevirtual 42, 3) := by decide +kernel
theorem dX1_runBody_156 : decode cX1_runBody 156 = .ok (.imul, 1) := by decide +kernel
theorem dX1_runBody_157 : decode cX1_runBody 157 = .ok (.ireturn, 1) := by decide +kernel
theorem dX1_runBody_158 : decode cX1_runBody 158 = .ok (.iload_n 2, 1) := by decide +kernel
theorem dX1_runBody_159 : decode cX1_runBody 159 = .ok (.ireturn, 1) := by decide +kernel
theorem dX1_runBody_160 : decode cX1_runBody 160 = .ok (.aload_n 0, 1) := by decide +kernel
theorem dX1_runBody_161 : decode cX1_runBody 161 = .ok (.bipush 20, 2) := by decide +kernel
theorem dX1_runBody_163 : decode cX1_runBody 163 = .ok (.iload_n 2, 1) := by decide +kernel
theorem dX1_runBody_164 : decode cX1_runBody 164 = .ok (.iload_n 3, 1) := by decide +kernel
theorem dX1_runBody_165 : decode cX1_runBody 165 = .ok (.iconst 1, 1) := by decide +kernel
theorem dX1_runBody_166 : decode cX1_runBody 166 = .ok (.iadd, 1) := by decide +kernel
theorem dX1_runBody_167 : decode cX1_runBody 167 = .ok (.invokevirtual 42, 3) := by decide +kernel
theorem dX1_runBody_170 : decode cX1_runBody 170 = .ok (.aload_n 0, 1) := by decide +kernel
theorem dX1_runBody_171 : decode cX1_runBody 171 = .ok (.getfield 13, 3) := by decide +kernel
theorem dX1_runBody_174 : decode cX1_runBody 174 = .ok (.getfield 52, 3) := by decide +kernel
theorem dX1_runBody_177 : decode cX1_runBody 177 = .ok (.iload_n 2, 1) := by decide +kernel
theorem dX1_runBody_178 : decode cX1_runBody 178 = .ok (.iaload, 1) := by decide +kernel
theorem dX1_runBody_179 : decode cX1_runBody 179 = .ok (.iadd, 1) := by decide +kernel
theorem dX1_runBody_180 : decode cX1_runBody 180 = .ok (.ireturn, 1) := by decide +kernel
theorem dX1_runBody_181 : decode cX1_runBody 181 = .ok (.aload_n 0, 1) := by decide +kernel
theorem dX1_runBody_182 : decode cX1_runBody 182 = .ok (.bipush 21, 2) := by decide +kernel
theorem dX1_runBody_184 : decode cX1_runBody 184 = .ok (.iload_n 2, 1) := by decide +kernel
theorem dX1_runBody_185 : decode cX1_runBody 185 = .ok (.iload_n 3, 1) := by decide +kernel
theorem dX1_runBody_186 : decode cX1_runBody 186 = .ok (.iconst 1, 1) := by decide +kernel
theorem dX1_runBody_187 : decode cX1_runBody 187 = .ok (.iadd, 1) := by decide +kernel
theorem dX1_runBody_188 : decode cX1_runBody 188 = .ok (.invokevirtual 42, 3) := by decide +kernel
theorem dX1_runBody_191 : decode cX1_runBody 191 = .ok (.sipush 1000, 3) := by decide +kernel
theorem dX1_runBody_194 : decode cX1_runBody 194 = .ok (.isub, 1) := by decide +kernel
theorem dX1_runBody_195 : decode cX1_runBody 195 = .ok (.ireturn, 1) := by decide +kernel
theorem dX1_runBody_196 : decode cX1_runBody 196 = .ok (.aload_n 0, 1) := by decide +kernel
theorem dX1_runBody_197 : decode cX1_runBody 197 = .ok (.bipush 20, 2) := by decide +kernel
theorem dX1_runBody_199 : decode cX1_runBody 199 = .ok (.iload_n 2, 1) := by decide +kernel
theorem dX1_runBody_200 : decode cX1_runBody 200 = .ok (.iload_n 3, 1) := by decide +kernel
theorem dX1_runBody_201 : decode cX1_runBody 201 = .ok (.iconst 1, 1) := by decide +kernel
theorem dX1_runBody_202 : decode cX1_runBody 202 = .ok (.iadd, 1) := by decide +kernel
theorem dX1_runBody_203 : decode cX1_runBody 203 = .ok (.invokevirtual 42, 3) := by decide +kernel
theorem dX1_runBody_206 : decode cX1_runBody 206 = .ok (.aload_n 0, 1) := by decide +kernel
theorem dX1_runBody_207 : decode cX1_runBody 207 = .ok (.iload_n 2, 1) := by decide +kernel
theorem dX1_runBody_208 : decode cX1_runBody 208 = .ok (.iconst 0, 1) := by decide +kernel
theorem dX1_runBody_209 : decode cX1_runBody 209 = .ok (.iload_n 3, 1) := by decide +kernel
theorem dX1_runBody_210 : decode cX1_runBody 210 = .ok (.iconst 1, 1) := by decide +kernel
theorem dX1_runBody_211 : decode cX1_runBody 211 = .ok (.iadd, 1) := by decide +kernel
theorem dX1_runBody_212 : decode cX1_runBody 212 = .ok (.invokevirtual 21, 3) := by decide +kernel
theorem dX1_runBody_215 : decode cX1_runBody 215 = .ok (.isub, 1) := by decide +kernel
theorem dX1_runBody_216 : decode cX1_runBody 216 = .ok (.ireturn, 1) := by decide +kernel
theorem dX1_runBody_217 : decode cX1_runBody 217 = .ok (.iconst 2, 1) := by decide +kernel
theorem dX1_runBody_218 : decode cX1_runBody 218 = .ok (.aload_n 0, 1) := by decide +kernel
theorem dX1_runBody_219 : decode cX1_runBody 219 = .ok (.bipush 21, 2) := by decide +kernel
theorem dX1_runBody_221 : decode cX1_runBody 221 = .ok (.iload_n 2, 1) := by decide +kernel
theorem dX1_runBody_222 : decode cX1_runBody 222 = .ok (.iload_n 3, 1) := by decide +kernel
theorem dX1_runBody_223 : decode cX1_runBody 223 = .ok (.iconst 1, 1) := by decide +kernel
theorem dX1_runBody_224 : decode cX1_runBody 224 = .ok (.iadd, 1) := by decide +kernel
theorem dX1_runBody_225 : decode cX1_runBody 225 = .ok (.invokevirtual 42, 3) := by decide +kernel
theorem dX1_runBody_228 : decode cX1_runBody 228 = .ok (.imul, 1) := by decide +kernel
theorem dX1_runBody_229 : decode cX1_runBody 229 = .ok (.ireturn, 1) := by decide +kernel
theorem dX1_runBody_230 : decode cX1_runBody 230 = .ok (.iconst 0, 1) := by decide +kernel
theorem dX1_runBody_231 : decode cX1_runBody 231 = .ok (.ireturn, 1) := by decide +kernel
theorem dX1_leave_0 : decode cX1_leave 0 = .ok (.aload_n 0, 1) := by decide +kernel
theorem dX1_leave_1 : decode cX1_leave 1 = .ok (.getfield 17, 3) := by decide +kernel
theorem dX1_leave_4 : decode cX1_leave 4 = .ok (.bipush 16, 2) := by decide +kernel
theorem dX1_leave_6 : decode cX1_leave 6 = .ok (.if_icmp .ge 23, 3) := by decide +kernel
theorem dX1_leave_9 : decode cX1_leave 9 = .ok (.aload_n 0, 1) := by decide +kernel
theorem dX1_leave_10 : decode cX1_leave 10 = .ok (.getfield 9, 3) := by decide +kernel
theorem dX1_leave_13 : decode cX1_leave 13 = .ok (.aload_n 0, 1) := by decide +kernel
theorem dX1_leave_14 : decode cX1_leave 14 = .ok (.getfield 17, 3) := by decide +kernel
theorem dX1_leave_17 : decode cX1_leave 17 = .ok (.iload_n 1, 1) := by decide +kernel
theorem dX1_leave_18 : decode cX1_leave 18 = .ok (.iastore, 1) := by decide +kernel
theorem dX1_leave_19 : decode cX1_leave 19 = .ok (.aload_n 0, 1) := by decide +kernel
theorem dX1_leave_20 : decode cX1_leave 20 = .ok (.dup, 1) := by decide +kernel
theorem dX1_leave_21 : decode cX1_leave 21 = .ok (.getfield 17, 3) := by decide +kernel
theorem dX1_leave_24 : decode cX1_leave 24 = .ok (.iconst 1, 1) := by decide +kernel
theorem dX1_leave_25 : decode cX1_leave 25 = .ok (.iadd, 1) := by decide +kernel
theorem dX1_leave_26 : decode cX1_leave 26 = .ok (.putfield 17, 3) := by decide +kernel
theorem dX1_leave_29 : decode cX1_leave 29 = .ok (.return_, 1) := by decide +kernel
theorem dX1_nearestBody_0 : decode cX1_nearestBody 0 = .ok (.iload_n 0, 1) := by decide +kernel
theorem dX1_nearestBody_1 : decode cX1_nearestBody 1 = .ok (.istore_n 2, 1) := by decide +kernel
theorem dX1_nearestBody_2 : decode cX1_nearestBody 2 = .ok (.iconst 0, 1) := by decide +kernel
theorem dX1_nearestBody_3 : decode cX1_nearestBody 3 = .ok (.istore_n 3, 1) := by decide +kernel
theorem dX1_nearestBody_4 : decode cX1_nearestBody 4 = .ok (.iload_n 3, 1) := by decide +kernel
theorem dX1_nearestBody_5 : decode cX1_nearestBody 5 = .ok (.getstatic 55, 3) := by decide +kernel
theorem dX1_nearestBody_8 : decode cX1_nearestBody 8 = .ok (.arraylength, 1) := by decide +kernel
theorem dX1_nearestBody_9 : decode cX1_nearestBody 9 = .ok (.if_icmp .ge 25, 3) := by decide +kernel
theorem dX1_nearestBody_12 : decode cX1_nearestBody 12 = .ok (.iload_n 2, 1) := by decide +kernel
theorem dX1_nearestBody_13 : decode cX1_nearestBody 13 = .ok (.ifCond .le 21, 3) := by decide +kernel
theorem dX1_nearestBody_16 : decode cX1_nearestBody 16 = .ok (.aload_n 1, 1) := by decide +kernel
theorem dX1_nearestBody_17 : decode cX1_nearestBody 17 = .ok (.iload_n 2, 1) := by decide +kernel
theorem dX1_nearestBody_18 : decode cX1_nearestBody 18 = .ok (.iaload, 1) := by decide +kernel
theorem dX1_nearestBody_19 : decode cX1_nearestBody 19 = .ok (.ifCond .ne 15, 3) := by decide +kernel
theorem dX1_nearestBody_22 : decode cX1_nearestBody 22 = .ok (.getstatic 55, 3) := by decide +kernel
theorem dX1_nearestBody_25 : decode cX1_nearestBody 25 = .ok (.iload_n 2, 1) := by decide +kernel
theorem dX1_nearestBody_26 : decode cX1_nearestBody 26 = .ok (.iaload, 1) := by decide +kernel
theorem dX1_nearestBody_27 : decode cX1_nearestBody 27 = .ok (.istore_n 2, 1) := by decide +kernel
theorem dX1_nearestBody_28 : decode cX1_nearestBody 28 = .ok (.iinc 3 1, 3) := by decide +kernel
theorem dX1_nearestBody_31 : decode cX1_nearestBody 31 = .ok (.goto (-27), 3) := by decide +kernel
theorem dX1_nearestBody_34 : decode cX1_nearestBody 34 = .ok (.aload_n 1, 1) := by decide +kernel
theorem dX1_nearestBody_35 : decode cX1_nearestBody 35 = .ok (.iload_n 2, 1) := by decide +kernel
theorem dX1_nearestBody_36 : decode cX1_nearestBody 36 = .ok (.iaload, 1) := by decide +kernel
theorem dX1_nearestBody_37 : decode cX1_nearestBody 37 = .ok (.ireturn, 1) := by decide +kernel
