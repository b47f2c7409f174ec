abbrev b_W_cell : ByteArray := method_2_code
def y_W_cell : MethodName := ⟨"AgedMarksLaw", "cell", "([II)I"⟩
theorem d_W_cell_0 : decode b_W_cell 0 = .ok (.iload_n 1, 1) := by decide +kernel
theorem d_W_cell_1 : decode b_W_cell 1 = .ok (.aload_n 0, 1) := by decide +kernel
theorem d_W_cell_2 : decode b_W_cell 2 = .ok (.arraylength, 1) := by decide +kernel
theorem d_W_cell_3 : decode b_W_cell 3 = .ok (.if_icmp .ge 9, 3) := by decide +kernel
theorem d_W_cell_6 : decode b_W_cell 6 = .ok (.aload_n 0, 1) := by decide +kernel
theorem d_W_cell_7 : decode b_W_cell 7 = .ok (.iload_n 1, 1) := by decide +kernel
theorem d_W_cell_8 : decode b_W_cell 8 = .ok (.iaload, 1) := by decide +kernel
theorem d_W_cell_9 : decode b_W_cell 9 = .ok (.goto 4, 3) := by decide +kernel
theorem d_W_cell_12 : decode b_W_cell 12 = .ok (.iconst 0, 1) := by decide +kernel
theorem d_W_cell_13 : decode b_W_cell 13 = .ok (.ireturn, 1) := by decide +kernel
abbrev b_W_run : ByteArray := method_3_code
def y_W_run : MethodName := ⟨"AgedMarksLaw", "run", "(LAgedMarks;I[J)I"⟩
theorem d_W_run_0 : decode b_W_run 0 = .ok (.aload_n 2, 1) := by decide +kernel
theorem d_W_run_1 : decode b_W_run 1 = .ok (.iconst 0, 1) := by decide +kernel
theorem d_W_run_2 : decode b_W_run 2 = .ok (.aload_n 0, 1) := by decide +kernel
theorem d_W_run_3 : decode b_W_run 3 = .ok (.iload_n 1, 1) := by decide +kernel
theorem d_W_run_4 : decode b_W_run 4 = .ok (.invokevirtual 7, 3) := by decide +kernel
theorem d_W_run_7 : decode b_W_run 7 = .ok (.i2l, 1) := by decide +kernel
theorem d_W_run_8 : decode b_W_run 8 = .ok (.lastore, 1) := by decide +kernel
theorem d_W_run_9 : decode b_W_run 9 = .ok (.goto 9, 3) := by decide +kernel
theorem d_W_run_12 : decode b_W_run 12 = .ok (.astore_n 3, 1) := by decide +kernel
theorem d_W_run_13 : decode b_W_run 13 = .ok (.iconst 1, 1) := by decide +kernel
theorem d_W_run_14 : decode b_W_run 14 = .ok (.ireturn, 1) := by decide +kernel
theorem d_W_run_15 : decode b_W_run 15 = .ok (.astore_n 3, 1) := by decide +kernel
theorem d_W_run_16 : decode b_W_run 16 = .ok (.iconst 2, 1) := by decide +kernel
theorem d_W_run_17 : decode b_W_run 17 = .ok (.ireturn, 1) := by decide +kernel
theorem d_W_run_18 : decode b_W_run 18 = .ok (.iconst 0, 1) := by decide +kernel
theorem d_W_run_19 : decode b_W_run 19 = .ok (.ireturn, 1) := by decide +kernel
abbrev b_W_go : ByteArray := method_4_code
def y_W_go : MethodName := ⟨"AgedMarksLaw", "go", "(LAgedMarks;J[J)I"⟩
theorem d_W_go_0 : decode b_W_go 0 = .ok (.aload_n 3, 1) := by decide +kernel
theorem d_W_go_1 : decode b_W_go 1 = .ok (.iconst 0, 1) := by decide +kernel
theorem d_W_go_2 : decode b_W_go 2 = .ok (.aload_n 0, 1) := by decide +kernel
theorem d_W_go_3 : decode b_W_go 3 = .ok (.lload_n 1, 1) := by decide +kernel
theorem d_W_go_4 : decode b_W_go 4 = .ok (.invokevirtual 17, 3) := by decide +kernel
theorem d_W_go_7 : decode b_W_go 7 = .ok (.lastore, 1) := by decide +kernel
theorem d_W_go_8 : decode b_W_go 8 = .ok (.goto 7, 3) := by decide +kernel
theorem d_W_go_11 : decode b_W_go 11 = .ok (.astore 4, 2) := by decide +kernel
theorem d_W_go_13 : decode b_W_go 13 = .ok (.iconst 1, 1) := by decide +kernel
theorem d_W_go_14 : decode b_W_go 14 = .ok (.ireturn, 1) := by decide +kernel
theorem d_W_go_15 : decode b_W_go 15 = .ok (.iconst 0, 1) := by decide +kernel
theorem d_W_go_16 : decode b_W_go 16 = .ok (.ireturn, 1) := by decide +kernel
abbrev b_W_back : ByteArray := method_5_code
def y_W_back : MethodName := ⟨"AgedMarksLaw", "back", "(LAgedMarks;J[J)I"⟩
theorem d_W_back_0 : decode b_W_back 0 = .ok (.aload_n 3, 1) := by decide +kernel
theorem d_W_back_1 : decode b_W_back 1 = .ok (.iconst 0, 1) := by decide +kernel
theorem d_W_back_2 : decode b_W_back 2 = .ok (.aload_n 0, 1) := by decide +kernel
theorem d_W_back_3 : decode b_W_back 3 = .ok (.lload_n 1, 1) := by decide +kernel
theorem d_W_back_4 : decode b_W_back 4 = .ok (.invokevirtual 21, 3) := by decide +kernel
theorem d_W_back_7 : decode b_W_back 7 = .ok (.lastore, 1) := by decide +kernel
theorem d_W_back_8 : decode b_W_back 8 = .ok (.goto 7, 3) := by decide +kernel
theorem d_W_back_11 : decode b_W_back 11 = .ok (.astore 4, 2) := by decide +kernel
theorem d_W_back_13 : decode b_W_back 13 = .ok (.iconst 1, 1) := by decide +kernel
theorem d_W_back_14 : decode b_W_back 14 = .ok (.ireturn, 1) := by decide +kernel
theorem d_W_back_15 : decode b_W_back 15 = .ok (.iconst 0, 1) := by decide +kernel
theorem d_W_back_16 : decode b_W_back 16 = .ok (.ireturn, 1) := by decide +kernel
abbrev b_W_mark : ByteArray := method_6_code
def y_W_mark : MethodName := ⟨"AgedMarksLaw", "mark", "(LAgedMarks;II[J)I"⟩
theorem d_W_mark_0 : decode b_W_mark 0 = .ok (.aload_n 3, 1) := by decide +kernel
theorem d_W_mark_1 : decode b_W_mark 1 = .ok (.iconst 0, 1) := by decide +kernel
theorem d_W_mark_2 : decode b_W_mark 2 = .ok (.aload_n 0, 1) := by decide +kernel
theorem d_W_mark_3 : decode b_W_mark 3 = .ok (.iload_n 1, 1) := by decide +kernel
theorem d_W_mark_4 : decode b_W_mark 4 = .ok (.iload_n 2, 1) := by decide +kernel
theorem d_W_mark_5 : decode b_W_mark 5 = .ok (.invokevirtual 24, 3) := by decide +kernel
theorem d_W_mark_8 : decode b_W_mark 8 = .ok (.lastore, 1) := by decide +kernel
theorem d_W_mark_9 : decode b_W_mark 9 = .ok (.goto 11, 3) := by decide +kernel
theorem d_W_mark_12 : decode b_W_mark 12 = .ok (.astore 4, 2) := by decide +kernel
theorem d_W_mark_14 : decode b_W_mark 14 = .ok (.iconst 1, 1) := by decide +kernel
theorem d_W_mark_15 : decode b_W_mark 15 = .ok (.ireturn, 1) := by decide +kernel
theorem d_W_mark_16 : decode b_W_mark 16 = .ok (.astore 4, 2) := by decide +kernel
theorem d_W_mark_18 : decode b_W_mark 18 = .ok (.iconst 2, 1) := by decide +kernel
theorem d_W_mark_19 : decode b_W_mark 19 = .ok (.ireturn, 1) := by decide +kernel
theorem d_W_mark_20 : decode b_W_mark 20 = .ok (.iconst 0, 1) := by decide +kernel
theorem d_W_mark_21 : decode b_W_mark 21 = .ok (.ireturn, 1) := by decide +kernel
abbrev b_W_law : ByteArray := code
def y_W_law : MethodName := ⟨"AgedMarksLaw", "law", "([I)Z"⟩
theorem d_W_law_0 : decode b_W_law 0 = .ok (.new 8, 3) := by decide +kernel
theorem d_W_law_3 : decode b_W_law 3 = .ok (.dup, 1) := by decide +kernel
theorem d_W_law_4 : decode b_W_law 4 = .ok (.aload_n 0, 1) := by decide +kernel
theorem d_W_law_5 : decode b_W_law 5 = .ok (.iconst 0, 1) := by decide +kernel
theorem d_W_law_6 : decode b_W_law 6 = .ok (.invokestatic 30, 3) := by decide +kernel
theorem d_W_law_9 : decode b_W_law 9 = .ok (.aload_n 0, 1) := by decide +kernel
theorem d_W_law_10 : decode b_W_law 10 = .ok (.iconst 1, 1) := by decide +kernel
theorem d_W_law_11 : decode b_W_law 11 = .ok (.invokestatic 30, 3) := by decide +kernel
theorem d_W_law_14 : decode b_W_law 14 = .ok (.invokespecial 36, 3) := by decide +kernel
theorem d_W_law_17 : decode b_W_law 17 = .ok (.astore_n 1, 1) := by decide +kernel
theorem d_W_law_18 : decode b_W_law 18 = .ok (.new 39, 3) := by decide +kernel
theorem d_W_law_21 : decode b_W_law 21 = .ok (.dup, 1) := by decide +kernel
theorem d_W_law_22 : decode b_W_law 22 = .ok (.aload_n 0, 1) := by decide +kernel
theorem d_W_law_23 : decode b_W_law 23 = .ok (.iconst 0, 1) := by decide +kernel
theorem d_W_law_24 : decode b_W_law 24 = .ok (.invokestatic 30, 3) := by decide +kernel
theorem d_W_law_27 : decode b_W_law 27 = .ok (.aload_n 0, 1) := by decide +kernel
theorem d_W_law_28 : decode b_W_law 28 = .ok (.iconst 1, 1) := by decide +kernel
theorem d_W_law_29 : decode b_W_law 29 = .ok (.invokestatic 30, 3) := by decide +kernel
theorem d_W_law_32 : decode b_W_law 32 = .ok (.invokespecial 41, 3) := by decide +kernel
theorem d_W_law_35 : decode b_W_law 35 = .ok (.astore_n 2, 1) := by decide +kernel
theorem d_W_law_36 : decode b_W_law 36 = .ok (.iconst 1, 1) := by decide +kernel
theorem d_W_law_37 : decode b_W_law 37 = .ok (.newarray .long, 2) := by decide +kernel
theorem d_W_law_39 : decode b_W_law 39 = .ok (.astore_n 3, 1) := by decide +kernel
theorem d_W_law_40 : decode b_W_law 40 = .ok (.iconst 2, 1) := by decide +kernel
theorem d_W_law_41 : decode b_W_law 41 = .ok (.istore 4, 2) := by decide +kernel
theorem d_W_law_43 : decode b_W_law 43 = .ok (.iload 4, 2) := by decide +kernel
theorem d_W_law_45 : decode b_W_law 45 = .ok (.aload_n 0, 1) := by decide +kernel
theorem d_W_law_46 : decode b_W_law 46 = .ok (.arraylength, 1) := by decide +kernel
theorem d_W_law_47 : decode b_W_law 47 = .ok (.iconst 3, 1) := by decide +kernel
theorem d_W_law_48 : decode b_W_law 48 = .ok (.isub, 1) := by decide +kernel
theorem d_W_law_49 : decode b_W_law 49 = .ok (.if_icmp .gt 436, 3) := by decide +kernel
theorem d_W_law_52 : decode b_W_law 52 = .ok (.aload_n 0, 1) := by decide +kernel
theorem d_W_law_53 : decode b_W_law 53 = .ok (.iload 4, 2) := by decide +kernel
theorem d_W_law_55 : decode b_W_law 55 = .ok (.iaload, 1) := by decide +kernel
theorem d_W_law_56 : decode b_W_law 56 = .ok (.bipush 7, 2) := by decide +kernel
theorem d_W_law_58 : decode b_W_law 58 = .ok (.iand, 1) := by decide +kernel
theorem d_W_law_59 : decode b_W_law 59 = .ok (.tableswitch 420 0 7 #[45, 101, 188, 275, 288, 355, 380, 394], 45) := by decide +kernel
theorem d_W_law_104 : decode b_W_law 104 = .ok (.aload_n 1, 1) := by decide +kernel
theorem d_W_law_105 : decode b_W_law 105 = .ok (.aload_n 0, 1) := by decide +kernel
theorem d_W_law_106 : decode b_W_law 106 = .ok (.iload 4, 2) := by decide +kernel
theorem d_W_law_108 : decode b_W_law 108 = .ok (.iconst 1, 1) := by decide +kernel
theorem d_W_law_109 : decode b_W_law 109 = .ok (.iadd, 1) := by decide +kernel
theorem d_W_law_110 : decode b_W_law 110 = .ok (.iaload, 1) := by decide +kernel
theorem d_W_law_111 : decode b_W_law 111 = .ok (.aload_n 3, 1) := by decide +kernel
theorem d_W_law_112 : decode b_W_law 112 = .ok (.invokestatic 42, 3) := by decide +kernel
theorem d_W_law_115 : decode b_W_law 115 = .ok (.istore 5, 2) := by decide +kernel
theorem d_W_law_117 : decode b_W_law 117 = .ok (.aload_n 2, 1) := by decide +kernel
theorem d_W_law_118 : decode b_W_law 118 = .ok (.aload_n 0, 1) := by decide +kernel
theorem d_W_law_119 : decode b_W_law 119 = .ok (.iload 4, 2) := by decide +kernel
theorem d_W_law_121 : decode b_W_law 121 = .ok (.iconst 1, 1) := by decide +kernel
theorem d_W_law_122 : decode b_W_law 122 = .ok (.iadd, 1) := by decide +kernel
theorem d_W_law_123 : decode b_W_law 123 = .ok (.iaload, 1) := by decide +kernel
theorem d_W_law_124 : decode b_W_law 124 = .ok (.invokevirtual 45, 3) := by decide +kernel
theorem d_W_law_127 : decode b_W_law 127 = .ok (.istore 6, 2) := by decide +kernel
theorem d_W_law_129 : decode b_W_law 129 = .ok (.aload_n 2, 1) := by decide +kernel
theorem d_W_law_130 : decode b_W_law 130 = .ok (.invokevirtual 46, 3) := by decide +kernel
theorem d_W_law_133 : decode b_W_law 133 = .ok (.iload 5, 2) := by decide +kernel
theorem d_W_law_135 : decode b_W_law 135 = .ok (.if_icmp .eq 5, 3) := by decide +kernel
theorem d_W_law_138 : decode b_W_law 138 = .ok (.iconst 0, 1) := by decide +kernel
theorem d_W_law_139 : decode b_W_law 139 = .ok (.ireturn, 1) := by decide +kernel
theorem d_W_law_140 : decode b_W_law 140 = .ok (.iload 5, 2) := by decide +kernel
theorem d_W_law_142 : decode b_W_law 142 = .ok (.ifCond .ne 15, 3) := by decide +kernel
theorem d_W_law_145 : decode b_W_law 145 = .ok (.aload_n 3, 1) := by decide +kernel
theorem d_W_law_146 : decode b_W_law 146 = .ok (.iconst 0, 1) := by decide +kernel
theorem d_W_law_147 : decode b_W_law 147 = .ok (.laload, 1) := by decide +kernel
theorem d_W_law_148 : decode b_W_law 148 = .ok (.iload 6, 2) := by decide +kernel
theorem d_W_law_150 : decode b_W_law 150 = .ok (.i2l, 1) := by decide +kernel
theorem d_W_law_151 : decode b_W_law 151 = .ok (.lcmp, 1) := by decide +kernel
theorem d_W_law_152 : decode b_W_law 152 = .ok (.ifCond .eq 5, 3) := by decide +kernel
theorem d_W_law_155 : decode b_W_law 155 = .ok (.iconst 0, 1) := by decide +kernel
theorem d_W_law_156 : decode b_W_law 156 = .ok (.ireturn, 1) := by decide +kernel
theorem d_W_law_157 : decode b_W_law 157 = .ok (.goto 322, 3) := by decide +kernel
theorem d_W_law_160 : decode b_W_law 160 = .ok (.aload_n 1, 1) := by decide +kernel
theorem d_W_law_161 : decode b_W_law 161 = .ok (.aload_n 0, 1) := by decide +kernel
theorem d_W_law_162 : decode b_W_law 162 = .ok (.iload 4, 2) := by decide +kernel
theorem d_W_law_164 : decode b_W_law 164 = .ok (.iconst 1, 1) := by decide +kernel
theorem d_W_law_165 : decode b_W_law 165 = .ok (.iadd, 1) := by decide +kernel
theorem d_W_law_166 : decode b_W_law 166 = .ok (.iaload, 1) := by decide +kernel
theorem d_W_law_167 : decode b_W_law 167 = .ok (.i2l, 1) := by decide +kernel
theorem d_W_law_168 : decode b_W_law 168 = .ok (.bipush 32, 2) := by decide +kernel
theorem d_W_law_170 : decode b_W_law 170 = .ok (.lshl, 1) := by decide +kernel
theorem d_W_law_171 : decode b_W_law 171 = .ok (.aload_n 0, 1) := by decide +kernel
theorem d_W_law_172 : decode b_W_law 172 = .ok (.iload 4, 2) := by decide +kernel
theorem d_W_law_174 : decode b_W_law 174 = .ok (.iconst 2, 1) := by decide +kernel
theorem d_W_law_175 : decode b_W_law 175 = .ok (.iadd, 1) := by decide +kernel
theorem d_W_law_176 : decode b_W_law 176 = .ok (.iaload, 1) := by decide +kernel
theorem d_W_law_177 : decode b_W_law 177 = .ok (.i2l, 1) := by decide +kernel
theorem d_W_law_178 : decode b_W_law 178 = .ok (.ldc2_w 50, 3) := by decide +kernel
theorem d_W_law_181 : decode b_W_law 181 = .ok (.land, 1) := by decide +kernel
theorem d_W_law_182 : decode b_W_law 182 = .ok (.lor, 1) := by decide +kernel
theorem d_W_law_183 : decode b_W_law 183 = .ok (.aload_n 3, 1) := by decide +kernel
theorem d_W_law_184 : decode b_W_law 184 = .ok (.invokestatic 52, 3) := by decide +kernel
theorem d_W_law_187 : decode b_W_law 187 = .ok (.istore 5, 2) := by decide +kernel
theorem d_W_law_189 : decode b_W_law 189 = .ok (.aload_n 2, 1) := by decide +kernel
theorem d_W_law_190 : decode b_W_law 190 = .ok (.aload_n 0, 1) := by decide +kernel
theorem d_W_law_191 : decode b_W_law 191 = .ok (.iload 4, 2) := by decide +kernel
theorem d_W_law_193 : decode b_W_law 193 = .ok (.iconst 1, 1) := by decide +kernel
theorem d_W_law_194 : decode b_W_law 194 = .ok (.iadd, 1) := by decide +kernel
theorem d_W_law_195 : decode b_W_law 195 = .ok (.iaload, 1) := by decide +kernel
theorem d_W_law_196 : decode b_W_law 196 = .ok (.i2l, 1) := by decide +kernel
theorem d_W_law_197 : decode b_W_law 197 = .ok (.bipush 32, 2) := by decide +kernel
theorem d_W_law_199 : decode b_W_law 199 = .ok (.lshl, 1) := by decide +kernel
theorem d_W_law_200 : decode b_W_law 200 = .ok (.aload_n 0, 1) := by decide +kernel
theorem d_W_law_201 : decode b_W_law 201 = .ok (.iload 4, 2) := by decide +kernel
theorem d_W_law_203 : decode b_W_law 203 = .ok (.iconst 2, 1) := by decide +kernel
theorem d_W_law_204 : decode b_W_law 204 = .ok (.iadd, 1) := by decide +kernel
theorem d_W_law_205 : decode b_W_law 205 = .ok (.iaload, 1) := by decide +kernel
theorem d_W_law_206 : decode b_W_law 206 = .ok (.i2l, 1) := by decide +kernel
theorem d_W_law_207 : decode b_W_law 207 = .ok (.ldc2_w 50, 3) := by decide +kernel
theorem d_W_law_210 : decode b_W_law 210 = .ok (.land, 1) := by decide +kernel
theorem d_W_law_211 : decode b_W_law 211 = .ok (.lor, 1) := by decide +kernel
theorem d_W_law_212 : decode b_W_law 212 = .ok (.invokevirtual 55, 3) := by decide +kernel
theorem d_W_law_215 : decode b_W_law 215 = .ok (.lstore 6, 2) := by decide +kernel
theorem d_W_law_217 : decode b_W_law 217 = .ok (.aload_n 2, 1) := by decide +kernel
theorem d_W_law_218 : decode b_W_law 218 = .ok (.invokevirtual 46, 3) := by decide +kernel
theorem d_W_law_221 : decode b_W_law 221 = .ok (.iload 5, 2) := by decide +kernel
theorem d_W_law_223 : decode b_W_law 223 = .ok (.if_icmp .eq 5, 3) := by decide +kernel
theorem d_W_law_226 : decode b_W_law 226 = .ok (.iconst 0, 1) := by decide +kernel
theorem d_W_law_227 : decode b_W_law 227 = .ok (.ireturn, 1) := by decide +kernel
theorem d_W_law_228 : decode b_W_law 228 = .ok (.iload 5, 2) := by decide +kernel
theorem d_W_law_230 : decode b_W_law 230 = .ok (.ifCond .ne 14, 3) := by decide +kernel
theorem d_W_law_233 : decode b_W_law 233 = .ok (.aload_n 3, 1) := by decide +kernel
theorem d_W_law_234 : decode b_W_law 234 = .ok (.iconst 0, 1) := by decide +kernel
theorem d_W_law_235 : decode b_W_law 235 = .ok (.laload, 1) := by decide +kernel
theorem d_W_law_236 : decode b_W_law 236 = .ok (.lload 6, 2) := by decide +kernel
theorem d_W_law_238 : decode b_W_law 238 = .ok (.lcmp, 1) := by decide +kernel
theorem d_W_law_239 : decode b_W_law 239 = .ok (.ifCond .eq 5, 3) := by decide +kernel
theorem d_W_law_242 : decode b_W_law 242 = .ok (.iconst 0, 1) := by decide +kernel
theorem d_W_law_243 : decode b_W_law 243 = .ok (.ireturn, 1) := by decide +kernel
theorem d_W_law_244 : decode b_W_law 244 = .ok (.goto 235, 3) := by decide +kernel
theorem d_W_law_247 : decode b_W_law 247 = .ok (.aload_n 1, 1) := by decide +kernel
theorem d_W_law_248 : decode b_W_law 248 = .ok (.aload_n 0, 1) := by decide +kernel
theorem d_W_law_249 : decode b_W_law 249 = .ok (.iload 4, 2) := by decide +kernel
theorem d_W_law_251 : decode b_W_law 251 = .ok (.iconst 1, 1) := by decide +kernel
theorem d_W_law_252 : decode b_W_law 252 = .ok (.iadd, 1) := by decide +kernel
theorem d_W_law_253 : decode b_W_law 253 = .ok (.iaload, 1) := by decide +kernel
theorem d_W_law_254 : decode b_W_law 254 = .ok (.i2l, 1) := by decide +kernel
theorem d_W_law_255 : decode b_W_law 255 = .ok (.bipush 32, 2) := by decide +kernel
theorem d_W_law_257 : decode b_W_law 257 = .ok (.lshl, 1) := by decide +kernel
theorem d_W_law_258 : decode b_W_law 258 = .ok (.aload_n 0, 1) := by decide +kernel
theorem d_W_law_259 : decode b_W_law 259 = .ok (.iload 4, 2) := by decide +kernel
theorem d_W_law_261 : decode b_W_law 261 = .ok (.iconst 2, 1) := by decide +kernel
theorem d_W_law_262 : decode b_W_law 262 = .ok (.iadd, 1) := by decide +kernel
theorem d_W_law_263 : decode b_W_law 263 = .ok (.iaload, 1) := by decide +kernel
theorem d_W_law_264 : decode b_W_law 264 = .ok (.i2l, 1) := by decide +kernel
theorem d_W_law_265 : decode b_W_law 265 = .ok (.ldc2_w 50, 3) := by decide +kernel
theorem d_W_law_268 : decode b_W_law 268 = .ok (.land, 1) := by decide +kernel
theorem d_W_law_269 : decode b_W_law 269 = .ok (.lor, 1) := by decide +kernel
theorem d_W_law_270 : decode b_W_law 270 = .ok (.aload_n 3, 1) := by decide +kernel
theorem d_W_law_271 : decode b_W_law 271 = .ok (.invokestatic 56, 3) := by decide +kernel
theorem d_W_law_274 : decode b_W_law 274 = .ok (.istore 5, 2) := by decide +kernel
theorem d_W_law_276 : decode b_W_law 276 = .ok (.aload_n 2, 1) := by decide +kernel
theorem d_W_law_277 : decode b_W_law 277 = .ok (.aload_n 0, 1) := by decide +kernel
theorem d_W_law_278 : decode b_W_law 278 = .ok (.iload 4, 2) := by decide +kernel
theorem d_W_law_280 : decode b_W_law 280 = .ok (.iconst 1, 1) := by decide +kernel
theorem d_W_law_281 : decode b_W_law 281 = .ok (.iadd, 1) := by decide +kernel
theorem d_W_law_282 : decode b_W_law 282 = .ok (.iaload, 1) := by decide +kernel
theorem d_W_law_283 : decode b_W_law 283 = .ok (.i2l, 1) := by decide +kernel
theorem d_W_law_284 : decode b_W_law 284 = .ok (.bipush 32, 2) := by decide +kernel
theorem d_W_law_286 : decode b_W_law 286 = .ok (.lshl, 1) := by decide +kernel
theorem d_W_law_287 : decode b_W_law 287 = .ok (.aload_n 0, 1) := by decide +kernel
theorem d_W_law_288 : decode b_W_law 288 = .ok (.iload 4, 2) := by decide +kernel
theorem d_W_law_290 : decode b_W_law 290 = .ok (.iconst 2, 1) := by decide +kernel
theorem d_W_law_291 : decode b_W_law 291 = .ok (.iadd, 1) := by decide +kernel
theorem d_W_law_292 : decode b_W_law 292 = .ok (.iaload, 1) := by decide +kernel
theorem d_W_law_293 : decode b_W_law 293 = .ok (.i2l, 1) := by decide +kernel
theorem d_W_law_294 : decode b_W_law 294 = .ok (.ldc2_w 50, 3) := by decide +kernel
theorem d_W_law_297 : decode b_W_law 297 = .ok (.land, 1) := by decide +kernel
theorem d_W_law_298 : decode b_W_law 298 = .ok (.lor, 1) := by decide +kernel
theorem d_W_law_299 : decode b_W_law 299 = .ok (.invokevirtual 58, 3) := by decide +kernel
theorem d_W_law_302 : decode b_W_law 302 = .ok (.lstore 6, 2) := by decide +kernel
theorem d_W_law_304 : decode b_W_law 304 = .ok (.aload_n 2, 1) := by decide +kernel
theorem d_W_law_305 : decode b_W_law 305 = .ok (.invokevirtual 46, 3) := by decide +kernel
theorem d_W_law_308 : decode b_W_law 308 = .ok (.iload 5, 2) := by decide +kernel
theorem d_W_law_310 : decode b_W_law 310 = .ok (.if_icmp .eq 5, 3) := by decide +kernel
theorem d_W_law_313 : decode b_W_law 313 = .ok (.iconst 0, 1) := by decide +kernel
theorem d_W_law_314 : decode b_W_law 314 = .ok (.ireturn, 1) := by decide +kernel
theorem d_W_law_315 : decode b_W_law 315 = .ok (.iload 5, 2) := by decide +kernel
theorem d_W_law_317 : decode b_W_law 317 = .ok (.ifCond .ne 14, 3) := by decide +kernel
theorem d_W_law_320 : decode b_W_law 320 = .ok (.aload_n 3, 1) := by decide +kernel
theorem d_W_law_321 : decode b_W_law 321 = .ok (.iconst 0, 1) := by decide +kernel
theorem d_W_law_322 : decode b_W_law 322 = .ok (.laload, 1) := by decide +kernel
theorem d_W_law_323 : decode b_W_law 323 = .ok (.lload 6, 2) := by decide +kernel
theorem d_W_law_325 : decode b_W_law 325 = .ok (.lcmp, 1) := by decide +kernel
theorem d_W_law_326 : decode b_W_law 326 = .ok (.ifCond .eq 5, 3) := by decide +kernel
theorem d_W_law_329 : decode b_W_law 329 = .ok (.iconst 0, 1) := by decide +kernel
theorem d_W_law_330 : decode b_W_law 330 = .ok (.ireturn, 1) := by decide +kernel
theorem d_W_law_331 : decode b_W_law 331 = .ok (.goto 148, 3) := by decide +kernel
theorem d_W_law_334 : decode b_W_law 334 = .ok (.aload_n 1, 1) := by decide +kernel
theorem d_W_law_335 : decode b_W_law 335 = .ok (.invokevirtual 59, 3) := by decide +kernel
theorem d_W_law_338 : decode b_W_law 338 = .ok (.aload_n 2, 1) := by decide +kernel
theorem d_W_law_339 : decode b_W_law 339 = .ok (.invokevirtual 62, 3) := by decide +kernel
theorem d_W_law_342 : decode b_W_law 342 = .ok (.if_icmp .eq 137, 3) := by decide +kernel
theorem d_W_law_345 : decode b_W_law 345 = .ok (.iconst 0, 1) := by decide +kernel
theorem d_W_law_346 : decode b_W_law 346 = .ok (.ireturn, 1) := by decide +kernel
theorem d_W_law_347 : decode b_W_law 347 = .ok (.aload_n 1, 1) := by decide +kernel
theorem d_W_law_348 : decode b_W_law 348 = .ok (.aload_n 0, 1) := by decide +kernel
theorem d_W_law_349 : decode b_W_law 349 = .ok (.iload 4, 2) := by decide +kernel
theorem d_W_law_351 : decode b_W_law 351 = .ok (.iconst 1, 1) := by decide +kernel
theorem d_W_law_352 : decode b_W_law 352 = .ok (.iadd, 1) := by decide +kernel
theorem d_W_law_353 : decode b_W_law 353 = .ok (.iaload, 1) := by decide +kernel
theorem d_W_law_354 : decode b_W_law 354 = .ok (.aload_n 0, 1) := by decide +kernel
theorem d_W_law_355 : decode b_W_law 355 = .ok (.iload 4, 2) := by decide +kernel
theorem d_W_law_357 : decode b_W_law 357 = .ok (.iconst 2, 1) := by decide +kernel
theorem d_W_law_358 : decode b_W_law 358 = .ok (.iadd, 1) := by decide +kernel
theorem d_W_law_359 : decode b_W_law 359 = .ok (.iaload, 1) := by decide +kernel
theorem d_W_law_360 : decode b_W_law 360 = .ok (.aload_n 3, 1) := by decide +kernel
theorem d_W_law_361 : decode b_W_law 361 = .ok (.invokestatic 63, 3) := by decide +kernel
theorem d_W_law_364 : decode b_W_law 364 = .ok (.istore 5, 2) := by decide +kernel
theorem d_W_law_366 : decode b_W_law 366 = .ok (.aload_n 2, 1) := by decide +kernel
theorem d_W_law_367 : decode b_W_law 367 = .ok (.aload_n 0, 1) := by decide +kernel
theorem d_W_law_368 : decode b_W_law 368 = .ok (.iload 4, 2) := by decide +kernel
theorem d_W_law_370 : decode b_W_law 370 = .ok (.iconst 1, 1) := by decide +kernel
theorem d_W_law_371 : decode b_W_law 371 = .ok (.iadd, 1) := by decide +kernel
theorem d_W_law_372 : decode b_W_law 372 = .ok (.iaload, 1) := by decide +kernel
theorem d_W_law_373 : decode b_W_law 373 = .ok (.aload_n 0, 1) := by decide +kernel
theorem d_W_law_374 : decode b_W_law 374 = .ok (.iload 4, 2) := by decide +kernel
theorem d_W_law_376 : decode b_W_law 376 = .ok (.iconst 2, 1) := by decide +kernel
theorem d_W_law_377 : decode b_W_law 377 = .ok (.iadd, 1) := by decide +kernel
theorem d_W_law_378 : decode b_W_law 378 = .ok (.iaload, 1) := by decide +kernel
theorem d_W_law_379 : decode b_W_law 379 = .ok (.invokevirtual 66, 3) := by decide +kernel
theorem d_W_law_382 : decode b_W_law 382 = .ok (.lstore 6, 2) := by decide +kernel
theorem d_W_law_384 : decode b_W_law 384 = .ok (.aload_n 2, 1) := by decide +kernel
theorem d_W_law_385 : decode b_W_law 385 = .ok (.invokevirtual 46, 3) := by decide +kernel
theorem d_W_law_388 : decode b_W_law 388 = .ok (.iload 5, 2) := by decide +kernel
theorem d_W_law_390 : decode b_W_law 390 = .ok (.if_icmp .eq 5, 3) := by decide +kernel
theorem d_W_law_393 : decode b_W_law 393 = .ok (.iconst 0, 1) := by decide +kernel
theorem d_W_law_394 : decode b_W_law 394 = .ok (.ireturn, 1) := by decide +kernel
theorem d_W_law_395 : decode b_W_law 395 = .ok (.iload 5, 2) := by decide +kernel
theorem d_W_law_397 : decode b_W_law 397 = .ok (.ifCond .ne 14, 3) := by decide +kernel
theorem d_W_law_400 : decode b_W_law 400 = .ok (.aload_n 3, 1) := by decide +kernel
theorem d_W_law_401 : decode b_W_law 401 = .ok (.iconst 0, 1) := by decide +kernel
theorem d_W_law_402 : decode b_W_law 402 = .ok (.laload, 1) := by decide +kernel
theorem d_W_law_403 : decode b_W_law 403 = .ok (.lload 6, 2) := by decide +kernel
theorem d_W_law_405 : decode b_W_law 405 = .ok (.lcmp, 1) := by decide +kernel
theorem d_W_law_406 : decode b_W_law 406 = .ok (.ifCond .eq 5, 3) := by decide +kernel
theorem d_W_law_409 : decode b_W_law 409 = .ok (.iconst 0, 1) := by decide +kernel
theorem d_W_law_410 : decode b_W_law 410 = .ok (.ireturn, 1) := by decide +kernel
theorem d_W_law_411 : decode b_W_law 411 = .ok (.goto 68, 3) := by decide +kernel
theorem d_W_law_414 : decode b_W_law 414 = .ok (.aload_n 1, 1) := by decide +kernel
theorem d_W_law_415 : decode b_W_law 415 = .ok (.aload_n 0, 1) := by decide +kernel
theorem d_W_law_416 : decode b_W_law 416 = .ok (.iload 4, 2) := by decide +kernel
theorem d_W_law_418 : decode b_W_law 418 = .ok (.iconst 1, 1) := by decide +kernel
theorem d_W_law_419 : decode b_W_law 419 = .ok (.iadd, 1) := by decide +kernel
theorem d_W_law_420 : decode b_W_law 420 = .ok (.iaload, 1) := by decide +kernel
theorem d_W_law_421 : decode b_W_law 421 = .ok (.invokevirtual 67, 3) := by decide +kernel
theorem d_W_law_424 : decode b_W_law 424 = .ok (.aload_n 2, 1) := by decide +kernel
theorem d_W_law_425 : decode b_W_law 425 = .ok (.aload_n 0, 1) := by decide +kernel
theorem d_W_law_426 : decode b_W_law 426 = .ok (.iload 4, 2) := by decide +kernel
theorem d_W_law_428 : decode b_W_law 428 = .ok (.iconst 1, 1) := by decide +kernel
theorem d_W_law_429 : decode b_W_law 429 = .ok (.iadd, 1) := by decide +kernel
theorem d_W_law_430 : decode b_W_law 430 = .ok (.iaload, 1) := by decide +kernel
theorem d_W_law_431 : decode b_W_law 431 = .ok (.invokevirtual 70, 3) := by decide +kernel
theorem d_W_law_434 : decode b_W_law 434 = .ok (.if_icmp .eq 45, 3) := by decide +kernel
theorem d_W_law_437 : decode b_W_law 437 = .ok (.iconst 0, 1) := by decide +kernel
theorem d_W_law_438 : decode b_W_law 438 = .ok (.ireturn, 1) := by decide +kernel
theorem d_W_law_439 : decode b_W_law 439 = .ok (.aload_n 1, 1) := by decide +kernel
theorem d_W_law_440 : decode b_W_law 440 = .ok (.invokevirtual 71, 3) := by decide +kernel
theorem d_W_law_443 : decode b_W_law 443 = .ok (.aload_n 2, 1) := by decide +kernel
theorem d_W_law_444 : decode b_W_law 444 = .ok (.invokevirtual 75, 3) := by decide +kernel
theorem d_W_law_447 : decode b_W_law 447 = .ok (.lcmp, 1) := by decide +kernel
theorem d_W_law_448 : decode b_W_law 448 = .ok (.ifCond .eq 31, 3) := by decide +kernel
theorem d_W_law_451 : decode b_W_law 451 = .ok (.iconst 0, 1) := by decide +kernel
theorem d_W_law_452 : decode b_W_law 452 = .ok (.ireturn, 1) := by decide +kernel
theorem d_W_law_453 : decode b_W_law 453 = .ok (.aload_n 1, 1) := by decide +kernel
theorem d_W_law_454 : decode b_W_law 454 = .ok (.aload_n 0, 1) := by decide +kernel
theorem d_W_law_455 : decode b_W_law 455 = .ok (.iload 4, 2) := by decide +kernel
theorem d_W_law_457 : decode b_W_law 457 = .ok (.iconst 1, 1) := by decide +kernel
theorem d_W_law_458 : decode b_W_law 458 = .ok (.iadd, 1) := by decide +kernel
theorem d_W_law_459 : decode b_W_law 459 = .ok (.iaload, 1) := by decide +kernel
theorem d_W_law_460 : decode b_W_law 460 = .ok (.invokevirtual 76, 3) := by decide +kernel
theorem d_W_law_463 : decode b_W_law 463 = .ok (.aload_n 2, 1) := by decide +kernel
theorem d_W_law_464 : decode b_W_law 464 = .ok (.aload_n 0, 1) := by decide +kernel
theorem d_W_law_465 : decode b_W_law 465 = .ok (.iload 4, 2) := by decide +kernel
theorem d_W_law_467 : decode b_W_law 467 = .ok (.iconst 1, 1) := by decide +kernel
theorem d_W_law_468 : decode b_W_law 468 = .ok (.iadd, 1) := by decide +kernel
theorem d_W_law_469 : decode b_W_law 469 = .ok (.iaload, 1) := by decide +kernel
theorem d_W_law_470 : decode b_W_law 470 = .ok (.invokevirtual 80, 3) := by decide +kernel
theorem d_W_law_473 : decode b_W_law 473 = .ok (.lcmp, 1) := by decide +kernel
theorem d_W_law_474 : decode b_W_law 474 = .ok (.ifCond .eq 5, 3) := by decide +kernel
theorem d_W_law_477 : decode b_W_law 477 = .ok (.iconst 0, 1) := by decide +kernel
theorem d_W_law_478 : decode b_W_law 478 = .ok (.ireturn, 1) := by decide +kernel
theorem d_W_law_479 : decode b_W_law 479 = .ok (.iinc 4 3, 3) := by decide +kernel
theorem d_W_law_482 : decode b_W_law 482 = .ok (.goto (-439), 3) := by decide +kernel
theorem d_W_law_485 : decode b_W_law 485 = .ok (.iconst 1, 1) := by decide +kernel
theorem d_W_law_486 : decode b_W_law 486 = .ok (.ireturn, 1) := by decide +kernel
