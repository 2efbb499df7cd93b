/-! decode rows -/
theorem dX3_init_0 : decode cX3_init 0 = .ok (.aload_n 0, 1) := by decide +kernel
theorem dX3_init_1 : decode cX3_init 1 = .ok (.invokespecial 3, 3) := by decide +kernel
theorem dX3_init_4 : decode cX3_init 4 = .ok (.aload_n 0, 1) := by decide +kernel
theorem dX3_init_5 : decode cX3_init 5 = .ok (.bipush 20, 2) := by decide +kernel
theorem dX3_init_7 : decode cX3_init 7 = .ok (.newarray .int, 2) := by decide +kernel
theorem dX3_init_9 : decode cX3_init 9 = .ok (.putfield 9, 3) := by decide +kernel
theorem dX3_init_12 : decode cX3_init 12 = .ok (.return_, 1) := by decide +kernel
theorem dX3_forget_0 : decode cX3_forget 0 = .ok (.aload_n 0, 1) := by decide +kernel
theorem dX3_forget_1 : decode cX3_forget 1 = .ok (.iconst 0, 1) := by decide +kernel
theorem dX3_forget_2 : decode cX3_forget 2 = .ok (.putfield 15, 3) := by decide +kernel
theorem dX3_forget_5 : decode cX3_forget 5 = .ok (.return_, 1) := by decide +kernel
theorem dX3_bodyAt_0 : decode cX3_bodyAt 0 = .ok (.iload_n 1, 1) := by decide +kernel
theorem dX3_bodyAt_1 : decode cX3_bodyAt 1 = .ok (.ifCond .lt 29, 3) := by decide +kernel
theorem dX3_bodyAt_4 : decode cX3_bodyAt 4 = .ok (.iload_n 1, 1) := by decide +kernel
theorem dX3_bodyAt_5 : decode cX3_bodyAt 5 = .ok (.aload_n 0, 1) := by decide +kernel
theorem dX3_bodyAt_6 : decode cX3_bodyAt 6 = .ok (.getfield 15, 3) := by decide +kernel
theorem dX3_bodyAt_9 : decode cX3_bodyAt 9 = .ok (.if_icmp .ge 21, 3) := by decide +kernel
theorem dX3_bodyAt_12 : decode cX3_bodyAt 12 = .ok (.iload_n 1, 1) := by decide +kernel
theorem dX3_bodyAt_13 : decode cX3_bodyAt 13 = .ok (.aload_n 0, 1) := by decide +kernel
theorem dX3_bodyAt_14 : decode cX3_bodyAt 14 = .ok (.getfield 9, 3) := by decide +kernel
theorem dX3_bodyAt_17 : decode cX3_bodyAt 17 = .ok (.arraylength, 1) := by decide +kernel
theorem dX3_bodyAt_18 : decode cX3_bodyAt 18 = .ok (.if_icmp .ge 12, 3) := by decide +kernel
theorem dX3_bodyAt_21 : decode cX3_bodyAt 21 = .ok (.aload_n 0, 1) := by decide +kernel
theorem dX3_bodyAt_22 : decode cX3_bodyAt 22 = .ok (.getfield 9, 3) := by decide +kernel
theorem dX3_bodyAt_25 : decode cX3_bodyAt 25 = .ok (.iload_n 1, 1) := by decide +kernel
theorem dX3_bodyAt_26 : decode cX3_bodyAt 26 = .ok (.iaload, 1) := by decide +kernel
theorem dX3_bodyAt_27 : decode cX3_bodyAt 27 = .ok (.goto 4, 3) := by decide +kernel
theorem dX3_bodyAt_30 : decode cX3_bodyAt 30 = .ok (.iconst (-1), 1) := by decide +kernel
theorem dX3_bodyAt_31 : decode cX3_bodyAt 31 = .ok (.ireturn, 1) := by decide +kernel
theorem dX3_perform_0 : decode cX3_perform 0 = .ok (.aload_n 0, 1) := by decide +kernel
theorem dX3_perform_1 : decode cX3_perform 1 = .ok (.aload_n 1, 1) := by decide +kernel
theorem dX3_perform_2 : decode cX3_perform 2 = .ok (.getfield 19, 3) := by decide +kernel
theorem dX3_perform_5 : decode cX3_perform 5 = .ok (.putfield 24, 3) := by decide +kernel
theorem dX3_perform_8 : decode cX3_perform 8 = .ok (.aload_n 0, 1) := by decide +kernel
theorem dX3_perform_9 : decode cX3_perform 9 = .ok (.aload_n 1, 1) := by decide +kernel
theorem dX3_perform_10 : decode cX3_perform 10 = .ok (.getfield 27, 3) := by decide +kernel
theorem dX3_perform_13 : decode cX3_perform 13 = .ok (.putfield 30, 3) := by decide +kernel
theorem dX3_perform_16 : decode cX3_perform 16 = .ok (.aload_n 0, 1) := by decide +kernel
theorem dX3_perform_17 : decode cX3_perform 17 = .ok (.aload_n 1, 1) := by decide +kernel
theorem dX3_perform_18 : decode cX3_perform 18 = .ok (.getfield 33, 3) := by decide +kernel
theorem dX3_perform_21 : decode cX3_perform 21 = .ok (.putfield 36, 3) := by decide +kernel
theorem dX3_perform_24 : decode cX3_perform 24 = .ok (.aload_n 0, 1) := by decide +kernel
theorem dX3_perform_25 : decode cX3_perform 25 = .ok (.aload_n 0, 1) := by decide +kernel
theorem dX3_perform_26 : decode cX3_perform 26 = .ok (.getfield 24, 3) := by decide +kernel
theorem dX3_perform_29 : decode cX3_perform 29 = .ok (.iload_n 2, 1) := by decide +kernel
theorem dX3_perform_30 : decode cX3_perform 30 = .ok (.iload_n 3, 1) := by decide +kernel
theorem dX3_perform_31 : decode cX3_perform 31 = .ok (.iconst 0, 1) := by decide +kernel
theorem dX3_perform_32 : decode cX3_perform 32 = .ok (.invokevirtual 39, 3) := by decide +kernel
theorem dX3_perform_35 : decode cX3_perform 35 = .ok (.ireturn, 1) := by decide +kernel
theorem dX3_begin_0 : decode cX3_begin 0 = .ok (.aload_n 0, 1) := by decide +kernel
theorem dX3_begin_1 : decode cX3_begin 1 = .ok (.getfield 15, 3) := by decide +kernel
theorem dX3_begin_4 : decode cX3_begin 4 = .ok (.ifCond .lt 25, 3) := by decide +kernel
theorem dX3_begin_7 : decode cX3_begin 7 = .ok (.aload_n 0, 1) := by decide +kernel
theorem dX3_begin_8 : decode cX3_begin 8 = .ok (.getfield 15, 3) := by decide +kernel
theorem dX3_begin_11 : decode cX3_begin 11 = .ok (.aload_n 0, 1) := by decide +kernel
theorem dX3_begin_12 : decode cX3_begin 12 = .ok (.getfield 9, 3) := by decide +kernel
theorem dX3_begin_15 : decode cX3_begin 15 = .ok (.arraylength, 1) := by decide +kernel
theorem dX3_begin_16 : decode cX3_begin 16 = .ok (.if_icmp .ge 13, 3) := by decide +kernel
theorem dX3_begin_19 : decode cX3_begin 19 = .ok (.aload_n 0, 1) := by decide +kernel
theorem dX3_begin_20 : decode cX3_begin 20 = .ok (.getfield 9, 3) := by decide +kernel
theorem dX3_begin_23 : decode cX3_begin 23 = .ok (.aload_n 0, 1) := by decide +kernel
theorem dX3_begin_24 : decode cX3_begin 24 = .ok (.getfield 15, 3) := by decide +kernel
theorem dX3_begin_27 : decode cX3_begin 27 = .ok (.iload_n 1, 1) := by decide +kernel
theorem dX3_begin_28 : decode cX3_begin 28 = .ok (.iastore, 1) := by decide +kernel
theorem dX3_begin_29 : decode cX3_begin 29 = .ok (.aload_n 0, 1) := by decide +kernel
theorem dX3_begin_30 : decode cX3_begin 30 = .ok (.dup, 1) := by decide +kernel
theorem dX3_begin_31 : decode cX3_begin 31 = .ok (.getfield 15, 3) := by decide +kernel
theorem dX3_begin_34 : decode cX3_begin 34 = .ok (.iconst 1, 1) := by decide +kernel
theorem dX3_begin_35 : decode cX3_begin 35 = .ok (.iadd, 1) := by decide +kernel
theorem dX3_begin_36 : decode cX3_begin 36 = .ok (.putfield 15, 3) := by decide +kernel
theorem dX3_begin_39 : decode cX3_begin 39 = .ok (.return_, 1) := by decide +kernel
theorem dX3_run_0 : decode cX3_run 0 = .ok (.iload 4, 2) := by decide +kernel
theorem dX3_run_2 : decode cX3_run 2 = .ok (.bipush 40, 2) := by decide +kernel
theorem dX3_run_4 : decode cX3_run 4 = .ok (.if_icmp .le 5, 3) := by decide +kernel
theorem dX3_run_7 : decode cX3_run 7 = .ok (.iconst 0, 1) := by decide +kernel
theorem dX3_run_8 : decode cX3_run 8 = .ok (.ireturn, 1) := by decide +kernel
theorem dX3_run_9 : decode cX3_run 9 = .ok (.iload_n 1, 1) := by decide +kernel
theorem dX3_run_10 : decode cX3_run 10 = .ok (.iload_n 2, 1) := by decide +kernel
theorem dX3_run_11 : decode cX3_run 11 = .ok (.invokestatic 43, 3) := by decide +kernel
theorem dX3_run_14 : decode cX3_run 14 = .ok (.istore 5, 2) := by decide +kernel
theorem dX3_run_16 : decode cX3_run 16 = .ok (.iload 5, 2) := by decide +kernel
theorem dX3_run_18 : decode cX3_run 18 = .ok (.iload_n 2, 1) := by decide +kernel
theorem dX3_run_19 : decode cX3_run 19 = .ok (.invokestatic 47, 3) := by decide +kernel
theorem dX3_run_22 : decode cX3_run 22 = .ok (.istore 6, 2) := by decide +kernel
theorem dX3_run_24 : decode cX3_run 24 = .ok (.aload_n 0, 1) := by decide +kernel
theorem dX3_run_25 : decode cX3_run 25 = .ok (.iload 6, 2) := by decide +kernel
theorem dX3_run_27 : decode cX3_run 27 = .ok (.invokevirtual 50, 3) := by decide +kernel
theorem dX3_run_30 : decode cX3_run 30 = .ok (.aload_n 0, 1) := by decide +kernel
theorem dX3_run_31 : decode cX3_run 31 = .ok (.iload 6, 2) := by decide +kernel
theorem dX3_run_33 : decode cX3_run 33 = .ok (.iload 5, 2) := by decide +kernel
theorem dX3_run_35 : decode cX3_run 35 = .ok (.invokestatic 54, 3) := by decide +kernel
theorem dX3_run_38 : decode cX3_run 38 = .ok (.iload_n 3, 1) := by decide +kernel
theorem dX3_run_39 : decode cX3_run 39 = .ok (.iload 4, 2) := by decide +kernel
theorem dX3_run_41 : decode cX3_run 41 = .ok (.iconst 1, 1) := by decide +kernel
theorem dX3_run_42 : decode cX3_run 42 = .ok (.iadd, 1) := by decide +kernel
theorem dX3_run_43 : decode cX3_run 43 = .ok (.invokevirtual 58, 3) := by decide +kernel
theorem dX3_run_46 : decode cX3_run 46 = .ok (.ireturn, 1) := by decide +kernel
theorem dX3_answer_0 : decode cX3_answer 0 = .ok (.iload_n 1, 1) := by decide +kernel
theorem dX3_answer_1 : decode cX3_answer 1 = .ok (.lookupswitch 256 #[(10, 99), (11, 106), (12, 121), (20, 152), (30, 167), (40, 179), (50, 191), (51, 202), (60, 217), (70, 229), (71, 241)], 99) := by decide +kernel
theorem dX3_answer_100 : decode cX3_answer 100 = .ok (.iload_n 3, 1) := by decide +kernel
theorem dX3_answer_101 : decode cX3_answer 101 = .ok (.aload_n 0, 1) := by decide +kernel
theorem dX3_answer_102 : decode cX3_answer 102 = .ok (.getfield 30, 3) := by decide +kernel
theorem dX3_answer_105 : decode cX3_answer 105 = .ok (.iadd, 1) := by decide +kernel
theorem dX3_answer_106 : decode cX3_answer 106 = .ok (.ireturn, 1) := by decide +kernel
theorem dX3_answer_107 : decode cX3_answer 107 = .ok (.aload_n 0, 1) := by decide +kernel
theorem dX3_answer_108 : decode cX3_answer 108 = .ok (.aload_n 0, 1) := by decide +kernel
theorem dX3_answer_109 : decode cX3_answer 109 = .ok (.getfield 24, 3) := by decide +kernel
theorem dX3_answer_112 : decode cX3_answer 112 = .ok (.iconst 0, 1) := by decide +kernel
theorem dX3_answer_113 : decode cX3_answer 113 = .ok (.iload_n 3, 1) := by decide +kernel
theorem dX3_answer_114 : decode cX3_answer 114 = .ok (.iload 4, 2) := by decide +kernel
theorem dX3_answer_116 : decode cX3_answer 116 = .ok (.invokevirtual 39, 3) := by decide +kernel
theorem dX3_answer_119 : decode cX3_answer 119 = .ok (.iconst 2, 1) := by decide +kernel
theorem dX3_answer_120 : decode cX3_answer 120 = .ok (.imul, 1) := by decide +kernel
theorem dX3_answer_121 : decode cX3_answer 121 = .ok (.ireturn, 1) := by decide +kernel
theorem dX3_answer_122 : decode cX3_answer 122 = .ok (.aload_n 0, 1) := by decide +kernel
theorem dX3_answer_123 : decode cX3_answer 123 = .ok (.aload_n 0, 1) := by decide +kernel
theorem dX3_answer_124 : decode cX3_answer 124 = .ok (.getfield 24, 3) := by decide +kernel
theorem dX3_answer_127 : decode cX3_answer 127 = .ok (.iconst 1, 1) := by decide +kernel
theorem dX3_answer_128 : decode cX3_answer 128 = .ok (.iload_n 3, 1) := by decide +kernel
theorem dX3_answer_129 : decode cX3_answer 129 = .ok (.iload 4, 2) := by decide +kernel
theorem dX3_answer_131 : decode cX3_answer 131 = .ok (.invokevirtual 39, 3) := by decide +kernel
theorem dX3_answer_134 : decode cX3_answer 134 = .ok (.aload_n 0, 1) := by decide +kernel
theorem dX3_answer_135 : decode cX3_answer 135 = .ok (.aload_n 0, 1) := by decide +kernel
theorem dX3_answer_136 : decode cX3_answer 136 = .ok (.getfield 24, 3) := by decide +kernel
theorem dX3_answer_139 : decode cX3_answer 139 = .ok (.iconst 0, 1) := by decide +kernel
theorem dX3_answer_140 : decode cX3_answer 140 = .ok (.iload_n 3, 1) := by decide +kernel
theorem dX3_answer_141 : decode cX3_answer 141 = .ok (.aload_n 0, 1) := by decide +kernel
theorem dX3_answer_142 : decode cX3_answer 142 = .ok (.getfield 36, 3) := by decide +kernel
theorem dX3_answer_145 : decode cX3_answer 145 = .ok (.isub, 1) := by decide +kernel
theorem dX3_answer_146 : decode cX3_answer 146 = .ok (.iload 4, 2) := by decide +kernel
theorem dX3_answer_148 : decode cX3_answer 148 = .ok (.invokevirtual 39, 3) := by decide +kernel
theorem dX3_answer_151 : decode cX3_answer 151 = .ok (.ixor, 1) := by decide +kernel
theorem dX3_answer_152 : decode cX3_answer 152 = .ok (.ireturn, 1) := by decide +kernel
theorem dX3_answer_153 : decode cX3_answer 153 = .ok (.aload_n 0, 1) := by decide +kernel
theorem dX3_answer_154 : decode cX3_answer 154 = .ok (.iload_n 2, 1) := by decide +kernel
theorem dX3_answer_155 : decode cX3_answer 155 = .ok (.iconst 1, 1) := by decide +kernel
theorem dX3_answer_156 : decode cX3_answer 156 = .ok (.iload_n 3, 1) := by decide +kernel
theorem dX3_answer_157 : decode cX3_answer 157 = .ok (.iload 4, 2) := by decide +kernel
theorem dX3_answer_159 : decode cX3_answer 159 = .ok (.invokevirtual 39, 3) := by decide +kernel
theorem dX3_answer_162 : decode cX3_answer 162 = .ok (.aload_n 0, 1) := by decide +kernel
theorem dX3_answer_163 : decode cX3_answer 163 = .ok (.getfield 36, 3) := by decide +kernel
theorem dX3_answer_166 : decode cX3_answer 166 = .ok (.iadd, 1) := by decide +kernel
theorem dX3_answer_167 : decode cX3_answer 167 = .ok (.ireturn, 1) := by decide +kernel
theorem dX3_answer_168 : decode cX3_answer 168 = .ok (.aload_n 0, 1) := by decide +kernel
theorem dX3_answer_169 : decode cX3_answer 169 = .ok (.iload_n 2, 1) := by decide +kernel
theorem dX3_answer_170 : decode cX3_answer 170 = .ok (.iconst 0, 1) := by decide +kernel
theorem dX3_answer_171 : decode cX3_answer 171 = .ok (.iload_n 3, 1) := by decide +kernel
theorem dX3_answer_172 : decode cX3_answer 172 = .ok (.iload 4, 2) := by decide +kernel
theorem dX3_answer_174 : decode cX3_answer 174 = .ok (.invokevirtual 39, 3) := by decide +kernel
theorem dX3_answer_177 : decode cX3_answer 177 = .ok (.iconst 3, 1) := by decide +kernel
theorem dX3_answer_178 : decode cX3_answer 178 = .ok (.imul, 1) := by decide +kernel
theorem dX3_answer_179 : decode cX3_answer 179 = .ok (.ireturn, 1) := by decide +kernel
theorem dX3_answer_180 : decode cX3_answer 180 = .ok (.aload_n 0, 1) := by decide +kernel
theorem dX3_answer_181 : decode cX3_answer 181 = .ok (.iload_n 2, 1) := by decide +kernel
theorem dX3_answer_182 : decode cX3_answer 182 = .ok (.iconst 0, 1) := by decide +kernel
theorem dX3_answer_183 : decode cX3_answer 183 = .ok (.iload_n 3, 1) := by decide +kernel
theorem dX3_answer_184 : decode cX3_answer 184 = .ok (.iconst 1, 1) := by decide +kernel
theorem dX3_answer_185 : decode cX3_answer 185 = .ok (.iadd, 1) := by decide +kernel
theorem dX3_answer_186 : decode cX3_answer 186 = .ok (.iload 4, 2) := by decide +kernel
theorem dX3_answer_188 : decode cX3_answer 188 = .ok (.invokevirtual 39, 3) := by decide +kernel
theorem dX3_answer_191 : decode cX3_answer 191 = .ok (.ireturn, 1) := by decide +kernel
theorem dX3_answer_192 : decode cX3_answer 192 = .ok (.aload_n 0, 1) := by decide +kernel
theorem dX3_answer_193 : decode cX3_answer 193 = .ok (.iload_n 2, 1) := by decide +kernel
theorem dX3_answer_194 : decode cX3_answer 194 = .ok (.iconst 2, 1) := by decide +kernel
theorem dX3_answer_195 : decode cX3_answer 195 = .ok (.iload_n 3, 1) := by decide +kernel
theorem dX3_answer_196 : decode cX3_answer 196 = .ok (.iload 4, 2) := by decide +kernel
theorem dX3_answer_198 : decode cX3_answer 198 = .ok (.invokevirtual 39, 3) := by decide +kernel
theorem dX3_answer_201 : decode cX3_answer 201 = .ok (.ineg, 1) := by decide +kernel
theorem dX3_answer_202 : decode cX3_answer 202 = .ok (.ireturn, 1) := by decide +kernel
theorem dX3_answer_203 : decode cX3_answer 203 = .ok (.aload_n 0, 1) := by decide +kernel
theorem dX3_answer_204 : decode cX3_answer 204 = .ok (.iload_n 2, 1) := by decide +kernel
theorem dX3_answer_205 : decode cX3_answer 205 = .ok (.iconst 0, 1) := by decide +kernel
theorem dX3_answer_206 : decode cX3_answer 206 = .ok (.iload_n 3, 1) := by decide +kernel
theorem dX3_answer_207 : decode cX3_answer 207 = .ok (.iload 4, 2) := by decide +kernel
theorem dX3_answer_209 : decode cX3_answer 209 = .ok (.invokevirtual 39, 3) := by decide +kernel
theorem dX3_answer_212 : decode cX3_answer 212 = .ok (.aload_n 0, 1) := by decide +kernel
theorem dX3_answer_213 : decode cX3_answer 213 = .ok (.getfield 30, 3) := by decide +kernel
theorem dX3_answer_216 : decode cX3_answer 216 = .ok (.isub, 1) := by decide +kernel
theorem dX3_answer_217 : decode cX3_answer 217 = .ok (.ireturn, 1) := by decide +kernel
theorem dX3_answer_218 : decode cX3_answer 218 = .ok (.aload_n 0, 1) := by decide +kernel
theorem dX3_answer_219 : decode cX3_answer 219 = .ok (.iload_n 2, 1) := by decide +kernel
theorem dX3_answer_220 : decode cX3_answer 220 = .ok (.iconst 2, 1) := by decide +kernel
theorem dX3_answer_221 : decode cX3_answer 221 = .ok (.iload_n 3, 1) := by decide +kernel
theorem dX3_answer_222 : decode cX3_answer 222 = .ok (.iload 4, 2) := by decide +kernel
theorem dX3_answer_224 : decode cX3_answer 224 = .ok (.invokevirtual 39, 3) := by decide +kernel
theorem dX3_answer_227 : decode cX3_answer 227 = .ok (.iconst 5, 1) := by decide +kernel
theorem dX3_answer_228 : decode cX3_answer 228 = .ok (.ixor, 1) := by decide +kernel
theorem dX3_answer_229 : decode cX3_answer 229 = .ok (.ireturn, 1) := by decide +kernel
theorem dX3_answer_230 : decode cX3_answer 230 = .ok (.aload_n 0, 1) := by decide +kernel
theorem dX3_answer_231 : decode cX3_answer 231 = .ok (.iload_n 2, 1) := by decide +kernel
theorem dX3_answer_232 : decode cX3_answer 232 = .ok (.iconst 0, 1) := by decide +kernel
theorem dX3_answer_233 : decode cX3_answer 233 = .ok (.iload_n 3, 1) := by decide +kernel
theorem dX3_answer_234 : decode cX3_answer 234 = .ok (.iload 4, 2) := by decide +kernel
theorem dX3_answer_236 : decode cX3_answer 236 = .ok (.invokevirtual 39, 3) := by decide +kernel
theorem dX3_answer_239 : decode cX3_answer 239 = .ok (.iconst 2, 1) := by decide +kernel
theorem dX3_answer_240 : decode cX3_answer 240 = .ok (.imul, 1) := by decide +kernel
theorem dX3_answer_241 : decode cX3_answer 241 = .ok (.ireturn, 1) := by decide +kernel
theorem dX3_answer_242 : decode cX3_answer 242 = .ok (.aload_n 0, 1) := by decide +kernel
theorem dX3_answer_243 : decode cX3_answer 243 = .ok (.iload_n 2, 1) := by decide +kernel
theorem dX3_answer_244 : decode cX3_answer 244 = .ok (.iconst 1, 1) := by decide +kernel
theorem dX3_answer_245 : decode cX3_answer 245 = .ok (.iload_n 3, 1) := by decide +kernel
theorem dX3_answer_246 : decode cX3_answer 246 = .ok (.aload_n 0, 1) := by decide +kernel
theorem dX3_answer_247 : decode cX3_answer 247 = .ok (.getfield 36, 3) := by decide +kernel
theorem dX3_answer_250 : decode cX3_answer 250 = .ok (.isub, 1) := by decide +kernel
theorem dX3_answer_251 : decode cX3_answer 251 = .ok (.iload 4, 2) := by decide +kernel
theorem dX3_answer_253 : decode cX3_answer 253 = .ok (.invokevirtual 39, 3) := by decide +kernel
theorem dX3_answer_256 : decode cX3_answer 256 = .ok (.ireturn, 1) := by decide +kernel
theorem dX3_answer_257 : decode cX3_answer 257 = .ok (.iconst 0, 1) := by decide +kernel
theorem dX3_answer_258 : decode cX3_answer 258 = .ok (.ireturn, 1) := by decide +kernel
theorem dX3_ownerOf_0 : decode cX3_ownerOf 0 = .ok (.iload_n 0, 1) := by decide +kernel
theorem dX3_ownerOf_1 : decode cX3_ownerOf 1 = .ok (.istore_n 2, 1) := by decide +kernel
theorem dX3_ownerOf_2 : decode cX3_ownerOf 2 = .ok (.iconst 0, 1) := by decide +kernel
theorem dX3_ownerOf_3 : decode cX3_ownerOf 3 = .ok (.istore_n 3, 1) := by decide +kernel
theorem dX3_ownerOf_4 : decode cX3_ownerOf 4 = .ok (.iload_n 3, 1) := by decide +kernel
theorem dX3_ownerOf_5 : decode cX3_ownerOf 5 = .ok (.bipush 7, 2) := by decide +kernel
theorem dX3_ownerOf_7 : decode cX3_ownerOf 7 = .ok (.if_icmp .ge 22, 3) := by decide +kernel
theorem dX3_ownerOf_10 : decode cX3_ownerOf 10 = .ok (.iload_n 2, 1) := by decide +kernel
theorem dX3_ownerOf_11 : decode cX3_ownerOf 11 = .ok (.iload_n 1, 1) := by decide +kernel
theorem dX3_ownerOf_12 : decode cX3_ownerOf 12 = .ok (.invokestatic 47, 3) := by decide +kernel
theorem dX3_ownerOf_15 : decode cX3_ownerOf 15 = .ok (.ifCond .ne 14, 3) := by decide +kernel
theorem dX3_ownerOf_18 : decode cX3_ownerOf 18 = .ok (.iload_n 2, 1) := by decide +kernel
theorem dX3_ownerOf_19 : decode cX3_ownerOf 19 = .ok (.invokestatic 54, 3) := by decide +kernel
theorem dX3_ownerOf_22 : decode cX3_ownerOf 22 = .ok (.istore_n 2, 1) := by decide +kernel
theorem dX3_ownerOf_23 : decode cX3_ownerOf 23 = .ok (.iinc 3 1, 3) := by decide +kernel
theorem dX3_ownerOf_26 : decode cX3_ownerOf 26 = .ok (.goto (-22), 3) := by decide +kernel
theorem dX3_ownerOf_29 : decode cX3_ownerOf 29 = .ok (.iload_n 2, 1) := by decide +kernel
theorem dX3_ownerOf_30 : decode cX3_ownerOf 30 = .ok (.ireturn, 1) := by decide +kernel
theorem dX3_bodyOf_0 : decode cX3_bodyOf 0 = .ok (.iload_n 0, 1) := by decide +kernel
theorem dX3_bodyOf_1 : decode cX3_bodyOf 1 = .ok (.iconst 3, 1) := by decide +kernel
theorem dX3_bodyOf_2 : decode cX3_bodyOf 2 = .ok (.imul, 1) := by decide +kernel
theorem dX3_bodyOf_3 : decode cX3_bodyOf 3 = .ok (.iload_n 1, 1) := by decide +kernel
theorem dX3_bodyOf_4 : decode cX3_bodyOf 4 = .ok (.iadd, 1) := by decide +kernel
theorem dX3_bodyOf_5 : decode cX3_bodyOf 5 = .ok (.istore_n 2, 1) := by decide +kernel
theorem dX3_bodyOf_6 : decode cX3_bodyOf 6 = .ok (.iload_n 0, 1) := by decide +kernel
theorem dX3_bodyOf_7 : decode cX3_bodyOf 7 = .ok (.ifCond .lt 32, 3) := by decide +kernel
theorem dX3_bodyOf_10 : decode cX3_bodyOf 10 = .ok (.iload_n 1, 1) := by decide +kernel
theorem dX3_bodyOf_11 : decode cX3_bodyOf 11 = .ok (.ifCond .lt 28, 3) := by decide +kernel
theorem dX3_bodyOf_14 : decode cX3_bodyOf 14 = .ok (.iload_n 1, 1) := by decide +kernel
theorem dX3_bodyOf_15 : decode cX3_bodyOf 15 = .ok (.iconst 3, 1) := by decide +kernel
theorem dX3_bodyOf_16 : decode cX3_bodyOf 16 = .ok (.if_icmp .ge 23, 3) := by decide +kernel
theorem dX3_bodyOf_19 : decode cX3_bodyOf 19 = .ok (.iload_n 2, 1) := by decide +kernel
theorem dX3_bodyOf_20 : decode cX3_bodyOf 20 = .ok (.ifCond .lt 19, 3) := by decide +kernel
theorem dX3_bodyOf_23 : decode cX3_bodyOf 23 = .ok (.iload_n 2, 1) := by decide +kernel
theorem dX3_bodyOf_24 : decode cX3_bodyOf 24 = .ok (.getstatic 61, 3) := by decide +kernel
theorem dX3_bodyOf_27 : decode cX3_bodyOf 27 = .ok (.arraylength, 1) := by decide +kernel
theorem dX3_bodyOf_28 : decode cX3_bodyOf 28 = .ok (.if_icmp .ge 11, 3) := by decide +kernel
theorem dX3_bodyOf_31 : decode cX3_bodyOf 31 = .ok (.getstatic 61, 3) := by decide +kernel
theorem dX3_bodyOf_34 : decode cX3_bodyOf 34 = .ok (.iload_n 2, 1) := by decide +kernel
theorem dX3_bodyOf_35 : decode cX3_bodyOf 35 = .ok (.iaload, 1) := by decide +kernel
theorem dX3_bodyOf_36 : decode cX3_bodyOf 36 = .ok (.goto 4, 3) := by decide +kernel
theorem dX3_bodyOf_39 : decode cX3_bodyOf 39 = .ok (.iconst 0, 1) := by decide +kernel
theorem dX3_bodyOf_40 : decode cX3_bodyOf 40 = .ok (.ireturn, 1) := by decide +kernel
