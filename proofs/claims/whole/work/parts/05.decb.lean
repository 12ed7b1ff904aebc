theorem d_Copy_doStep_0 : decode b_Copy_doStep 0 = .ok (.aload_n 0, 1) := by decide +kernel
theorem d_Copy_doStep_1 : decode b_Copy_doStep 1 = .ok (.getfield 18, 3) := by decide +kernel
theorem d_Copy_doStep_4 : decode b_Copy_doStep 4 = .ok (.aload_n 1, 1) := by decide +kernel
theorem d_Copy_doStep_5 : decode b_Copy_doStep 5 = .ok (.getfield 32, 3) := by decide +kernel
theorem d_Copy_doStep_8 : decode b_Copy_doStep 8 = .ok (.invokestatic 37, 3) := by decide +kernel
theorem d_Copy_doStep_11 : decode b_Copy_doStep 11 = .ok (.ifCond .ne 5, 3) := by decide +kernel
theorem d_Copy_doStep_14 : decode b_Copy_doStep 14 = .ok (.iconst 2, 1) := by decide +kernel
theorem d_Copy_doStep_15 : decode b_Copy_doStep 15 = .ok (.ireturn, 1) := by decide +kernel
theorem d_Copy_doStep_16 : decode b_Copy_doStep 16 = .ok (.aload_n 1, 1) := by decide +kernel
theorem d_Copy_doStep_17 : decode b_Copy_doStep 17 = .ok (.getfield 41, 3) := by decide +kernel
theorem d_Copy_doStep_20 : decode b_Copy_doStep 20 = .ok (.aload_n 0, 1) := by decide +kernel
theorem d_Copy_doStep_21 : decode b_Copy_doStep 21 = .ok (.getfield 18, 3) := by decide +kernel
theorem d_Copy_doStep_24 : decode b_Copy_doStep 24 = .ok (.iaload, 1) := by decide +kernel
theorem d_Copy_doStep_25 : decode b_Copy_doStep 25 = .ok (.istore_n 3, 1) := by decide +kernel
theorem d_Copy_doStep_26 : decode b_Copy_doStep 26 = .ok (.aload_n 1, 1) := by decide +kernel
theorem d_Copy_doStep_27 : decode b_Copy_doStep 27 = .ok (.getfield 45, 3) := by decide +kernel
theorem d_Copy_doStep_30 : decode b_Copy_doStep 30 = .ok (.aload_n 0, 1) := by decide +kernel
theorem d_Copy_doStep_31 : decode b_Copy_doStep 31 = .ok (.getfield 18, 3) := by decide +kernel
theorem d_Copy_doStep_34 : decode b_Copy_doStep 34 = .ok (.iaload, 1) := by decide +kernel
theorem d_Copy_doStep_35 : decode b_Copy_doStep 35 = .ok (.istore 4, 2) := by decide +kernel
theorem d_Copy_doStep_37 : decode b_Copy_doStep 37 = .ok (.aload_n 0, 1) := by decide +kernel
theorem d_Copy_doStep_38 : decode b_Copy_doStep 38 = .ok (.dup, 1) := by decide +kernel
theorem d_Copy_doStep_39 : decode b_Copy_doStep 39 = .ok (.getfield 18, 3) := by decide +kernel
theorem d_Copy_doStep_42 : decode b_Copy_doStep 42 = .ok (.iconst 1, 1) := by decide +kernel
theorem d_Copy_doStep_43 : decode b_Copy_doStep 43 = .ok (.iadd, 1) := by decide +kernel
theorem d_Copy_doStep_44 : decode b_Copy_doStep 44 = .ok (.putfield 18, 3) := by decide +kernel
theorem d_Copy_doStep_47 : decode b_Copy_doStep 47 = .ok (.iload_n 3, 1) := by decide +kernel
theorem d_Copy_doStep_48 : decode b_Copy_doStep 48 = .ok (.tableswitch 172 4 15 #[64, 91, 118, 172, 172, 123, 172, 172, 143, 172, 170, 165], 64) := by decide +kernel
theorem d_Copy_doStep_112 : decode b_Copy_doStep 112 = .ok (.aload_n 0, 1) := by decide +kernel
theorem d_Copy_doStep_113 : decode b_Copy_doStep 113 = .ok (.getfield 9, 3) := by decide +kernel
theorem d_Copy_doStep_116 : decode b_Copy_doStep 116 = .ok (.bipush 16, 2) := by decide +kernel
theorem d_Copy_doStep_118 : decode b_Copy_doStep 118 = .ok (.aload_n 0, 1) := by decide +kernel
theorem d_Copy_doStep_119 : decode b_Copy_doStep 119 = .ok (.getfield 9, 3) := by decide +kernel
theorem d_Copy_doStep_122 : decode b_Copy_doStep 122 = .ok (.bipush 16, 2) := by decide +kernel
theorem d_Copy_doStep_124 : decode b_Copy_doStep 124 = .ok (.laload, 1) := by decide +kernel
theorem d_Copy_doStep_125 : decode b_Copy_doStep 125 = .ok (.aload_n 0, 1) := by decide +kernel
theorem d_Copy_doStep_126 : decode b_Copy_doStep 126 = .ok (.getfield 9, 3) := by decide +kernel
theorem d_Copy_doStep_129 : decode b_Copy_doStep 129 = .ok (.bipush 17, 2) := by decide +kernel
theorem d_Copy_doStep_131 : decode b_Copy_doStep 131 = .ok (.laload, 1) := by decide +kernel
theorem d_Copy_doStep_132 : decode b_Copy_doStep 132 = .ok (.ladd, 1) := by decide +kernel
theorem d_Copy_doStep_133 : decode b_Copy_doStep 133 = .ok (.lastore, 1) := by decide +kernel
theorem d_Copy_doStep_134 : decode b_Copy_doStep 134 = .ok (.aload_n 0, 1) := by decide +kernel
theorem d_Copy_doStep_135 : decode b_Copy_doStep 135 = .ok (.invokevirtual 48, 3) := by decide +kernel
theorem d_Copy_doStep_138 : decode b_Copy_doStep 138 = .ok (.ireturn, 1) := by decide +kernel
theorem d_Copy_doStep_139 : decode b_Copy_doStep 139 = .ok (.aload_n 0, 1) := by decide +kernel
theorem d_Copy_doStep_140 : decode b_Copy_doStep 140 = .ok (.getfield 9, 3) := by decide +kernel
theorem d_Copy_doStep_143 : decode b_Copy_doStep 143 = .ok (.bipush 16, 2) := by decide +kernel
theorem d_Copy_doStep_145 : decode b_Copy_doStep 145 = .ok (.aload_n 0, 1) := by decide +kernel
theorem d_Copy_doStep_146 : decode b_Copy_doStep 146 = .ok (.getfield 9, 3) := by decide +kernel
theorem d_Copy_doStep_149 : decode b_Copy_doStep 149 = .ok (.bipush 16, 2) := by decide +kernel
theorem d_Copy_doStep_151 : decode b_Copy_doStep 151 = .ok (.laload, 1) := by decide +kernel
theorem d_Copy_doStep_152 : decode b_Copy_doStep 152 = .ok (.aload_n 0, 1) := by decide +kernel
theorem d_Copy_doStep_153 : decode b_Copy_doStep 153 = .ok (.getfield 9, 3) := by decide +kernel
theorem d_Copy_doStep_156 : decode b_Copy_doStep 156 = .ok (.bipush 17, 2) := by decide +kernel
theorem d_Copy_doStep_158 : decode b_Copy_doStep 158 = .ok (.laload, 1) := by decide +kernel
theorem d_Copy_doStep_159 : decode b_Copy_doStep 159 = .ok (.lsub, 1) := by decide +kernel
theorem d_Copy_doStep_160 : decode b_Copy_doStep 160 = .ok (.lastore, 1) := by decide +kernel
theorem d_Copy_doStep_161 : decode b_Copy_doStep 161 = .ok (.aload_n 0, 1) := by decide +kernel
theorem d_Copy_doStep_162 : decode b_Copy_doStep 162 = .ok (.invokevirtual 48, 3) := by decide +kernel
theorem d_Copy_doStep_165 : decode b_Copy_doStep 165 = .ok (.ireturn, 1) := by decide +kernel
theorem d_Copy_doStep_166 : decode b_Copy_doStep 166 = .ok (.aload_n 0, 1) := by decide +kernel
theorem d_Copy_doStep_167 : decode b_Copy_doStep 167 = .ok (.invokevirtual 52, 3) := by decide +kernel
theorem d_Copy_doStep_170 : decode b_Copy_doStep 170 = .ok (.ireturn, 1) := by decide +kernel
theorem d_Copy_doStep_171 : decode b_Copy_doStep 171 = .ok (.aload_n 0, 1) := by decide +kernel
theorem d_Copy_doStep_172 : decode b_Copy_doStep 172 = .ok (.getfield 9, 3) := by decide +kernel
theorem d_Copy_doStep_175 : decode b_Copy_doStep 175 = .ok (.bipush 16, 2) := by decide +kernel
theorem d_Copy_doStep_177 : decode b_Copy_doStep 177 = .ok (.aload_n 0, 1) := by decide +kernel
theorem d_Copy_doStep_178 : decode b_Copy_doStep 178 = .ok (.getfield 9, 3) := by decide +kernel
theorem d_Copy_doStep_181 : decode b_Copy_doStep 181 = .ok (.bipush 16, 2) := by decide +kernel
theorem d_Copy_doStep_183 : decode b_Copy_doStep 183 = .ok (.laload, 1) := by decide +kernel
theorem d_Copy_doStep_184 : decode b_Copy_doStep 184 = .ok (.lneg, 1) := by decide +kernel
theorem d_Copy_doStep_185 : decode b_Copy_doStep 185 = .ok (.lastore, 1) := by decide +kernel
theorem d_Copy_doStep_186 : decode b_Copy_doStep 186 = .ok (.aload_n 0, 1) := by decide +kernel
theorem d_Copy_doStep_187 : decode b_Copy_doStep 187 = .ok (.invokevirtual 48, 3) := by decide +kernel
theorem d_Copy_doStep_190 : decode b_Copy_doStep 190 = .ok (.ireturn, 1) := by decide +kernel
theorem d_Copy_doStep_191 : decode b_Copy_doStep 191 = .ok (.aload_n 0, 1) := by decide +kernel
theorem d_Copy_doStep_192 : decode b_Copy_doStep 192 = .ok (.getfield 9, 3) := by decide +kernel
theorem d_Copy_doStep_195 : decode b_Copy_doStep 195 = .ok (.bipush 16, 2) := by decide +kernel
theorem d_Copy_doStep_197 : decode b_Copy_doStep 197 = .ok (.aload_n 2, 1) := by decide +kernel
theorem d_Copy_doStep_198 : decode b_Copy_doStep 198 = .ok (.iload 4, 2) := by decide +kernel
theorem d_Copy_doStep_200 : decode b_Copy_doStep 200 = .ok (.iaload, 1) := by decide +kernel
theorem d_Copy_doStep_201 : decode b_Copy_doStep 201 = .ok (.i2l, 1) := by decide +kernel
theorem d_Copy_doStep_202 : decode b_Copy_doStep 202 = .ok (.aload_n 0, 1) := by decide +kernel
theorem d_Copy_doStep_203 : decode b_Copy_doStep 203 = .ok (.getfield 22, 3) := by decide +kernel
theorem d_Copy_doStep_206 : decode b_Copy_doStep 206 = .ok (.lmul, 1) := by decide +kernel
theorem d_Copy_doStep_207 : decode b_Copy_doStep 207 = .ok (.lastore, 1) := by decide +kernel
theorem d_Copy_doStep_208 : decode b_Copy_doStep 208 = .ok (.aload_n 0, 1) := by decide +kernel
theorem d_Copy_doStep_209 : decode b_Copy_doStep 209 = .ok (.invokevirtual 48, 3) := by decide +kernel
theorem d_Copy_doStep_212 : decode b_Copy_doStep 212 = .ok (.ireturn, 1) := by decide +kernel
theorem d_Copy_doStep_213 : decode b_Copy_doStep 213 = .ok (.aload_n 0, 1) := by decide +kernel
theorem d_Copy_doStep_214 : decode b_Copy_doStep 214 = .ok (.invokevirtual 55, 3) := by decide +kernel
theorem d_Copy_doStep_217 : decode b_Copy_doStep 217 = .ok (.ireturn, 1) := by decide +kernel
theorem d_Copy_doStep_218 : decode b_Copy_doStep 218 = .ok (.iconst 1, 1) := by decide +kernel
theorem d_Copy_doStep_219 : decode b_Copy_doStep 219 = .ok (.ireturn, 1) := by decide +kernel
theorem d_Copy_doStep_220 : decode b_Copy_doStep 220 = .ok (.aload_n 0, 1) := by decide +kernel
theorem d_Copy_doStep_221 : decode b_Copy_doStep 221 = .ok (.iload_n 3, 1) := by decide +kernel
theorem d_Copy_doStep_222 : decode b_Copy_doStep 222 = .ok (.iload 4, 2) := by decide +kernel
theorem d_Copy_doStep_224 : decode b_Copy_doStep 224 = .ok (.invokevirtual 58, 3) := by decide +kernel
theorem d_Copy_doStep_227 : decode b_Copy_doStep 227 = .ok (.iconst 0, 1) := by decide +kernel
theorem d_Copy_doStep_228 : decode b_Copy_doStep 228 = .ok (.ireturn, 1) := by decide +kernel
theorem d_Copy_move_0 : decode b_Copy_move 0 = .ok (.iload_n 1, 1) := by decide +kernel
theorem d_Copy_move_1 : decode b_Copy_move 1 = .ok (.tableswitch 260 0 13 #[71, 88, 104, 120, 260, 260, 260, 137, 173, 260, 209, 217, 260, 244], 71) := by decide +kernel
theorem d_Copy_move_72 : decode b_Copy_move 72 = .ok (.aload_n 0, 1) := by decide +kernel
theorem d_Copy_move_73 : decode b_Copy_move 73 = .ok (.getfield 9, 3) := by decide +kernel
theorem d_Copy_move_76 : decode b_Copy_move 76 = .ok (.bipush 16, 2) := by decide +kernel
theorem d_Copy_move_78 : decode b_Copy_move 78 = .ok (.iload_n 2, 1) := by decide +kernel
theorem d_Copy_move_79 : decode b_Copy_move 79 = .ok (.i2l, 1) := by decide +kernel
theorem d_Copy_move_80 : decode b_Copy_move 80 = .ok (.aload_n 0, 1) := by decide +kernel
theorem d_Copy_move_81 : decode b_Copy_move 81 = .ok (.getfield 22, 3) := by decide +kernel
theorem d_Copy_move_84 : decode b_Copy_move 84 = .ok (.lmul, 1) := by decide +kernel
theorem d_Copy_move_85 : decode b_Copy_move 85 = .ok (.lastore, 1) := by decide +kernel
theorem d_Copy_move_86 : decode b_Copy_move 86 = .ok (.goto 175, 3) := by decide +kernel
theorem d_Copy_move_89 : decode b_Copy_move 89 = .ok (.aload_n 0, 1) := by decide +kernel
theorem d_Copy_move_90 : decode b_Copy_move 90 = .ok (.getfield 9, 3) := by decide +kernel
theorem d_Copy_move_93 : decode b_Copy_move 93 = .ok (.bipush 16, 2) := by decide +kernel
theorem d_Copy_move_95 : decode b_Copy_move 95 = .ok (.aload_n 0, 1) := by decide +kernel
theorem d_Copy_move_96 : decode b_Copy_move 96 = .ok (.getfield 9, 3) := by decide +kernel
theorem d_Copy_move_99 : decode b_Copy_move 99 = .ok (.iload_n 2, 1) := by decide +kernel
theorem d_Copy_move_100 : decode b_Copy_move 100 = .ok (.laload, 1) := by decide +kernel
theorem d_Copy_move_101 : decode b_Copy_move 101 = .ok (.lastore, 1) := by decide +kernel
theorem d_Copy_move_102 : decode b_Copy_move 102 = .ok (.goto 159, 3) := by decide +kernel
theorem d_Copy_move_105 : decode b_Copy_move 105 = .ok (.aload_n 0, 1) := by decide +kernel
theorem d_Copy_move_106 : decode b_Copy_move 106 = .ok (.getfield 9, 3) := by decide +kernel
theorem d_Copy_move_109 : decode b_Copy_move 109 = .ok (.iload_n 2, 1) := by decide +kernel
theorem d_Copy_move_110 : decode b_Copy_move 110 = .ok (.aload_n 0, 1) := by decide +kernel
theorem d_Copy_move_111 : decode b_Copy_move 111 = .ok (.getfield 9, 3) := by decide +kernel
theorem d_Copy_move_114 : decode b_Copy_move 114 = .ok (.bipush 16, 2) := by decide +kernel
theorem d_Copy_move_116 : decode b_Copy_move 116 = .ok (.laload, 1) := by decide +kernel
theorem d_Copy_move_117 : decode b_Copy_move 117 = .ok (.lastore, 1) := by decide +kernel
theorem d_Copy_move_118 : decode b_Copy_move 118 = .ok (.goto 143, 3) := by decide +kernel
theorem d_Copy_move_121 : decode b_Copy_move 121 = .ok (.aload_n 0, 1) := by decide +kernel
theorem d_Copy_move_122 : decode b_Copy_move 122 = .ok (.getfield 9, 3) := by decide +kernel
theorem d_Copy_move_125 : decode b_Copy_move 125 = .ok (.bipush 17, 2) := by decide +kernel
theorem d_Copy_move_127 : decode b_Copy_move 127 = .ok (.aload_n 0, 1) := by decide +kernel
theorem d_Copy_move_128 : decode b_Copy_move 128 = .ok (.getfield 9, 3) := by decide +kernel
theorem d_Copy_move_131 : decode b_Copy_move 131 = .ok (.bipush 16, 2) := by decide +kernel
theorem d_Copy_move_133 : decode b_Copy_move 133 = .ok (.laload, 1) := by decide +kernel
theorem d_Copy_move_134 : decode b_Copy_move 134 = .ok (.lastore, 1) := by decide +kernel
theorem d_Copy_move_135 : decode b_Copy_move 135 = .ok (.goto 126, 3) := by decide +kernel
theorem d_Copy_move_138 : decode b_Copy_move 138 = .ok (.aload_n 0, 1) := by decide +kernel
theorem d_Copy_move_139 : decode b_Copy_move 139 = .ok (.getfield 9, 3) := by decide +kernel
theorem d_Copy_move_142 : decode b_Copy_move 142 = .ok (.bipush 16, 2) := by decide +kernel
theorem d_Copy_move_144 : decode b_Copy_move 144 = .ok (.aload_n 0, 1) := by decide +kernel
theorem d_Copy_move_145 : decode b_Copy_move 145 = .ok (.getfield 9, 3) := by decide +kernel
theorem d_Copy_move_148 : decode b_Copy_move 148 = .ok (.bipush 16, 2) := by decide +kernel
theorem d_Copy_move_150 : decode b_Copy_move 150 = .ok (.laload, 1) := by decide +kernel
theorem d_Copy_move_151 : decode b_Copy_move 151 = .ok (.aload_n 0, 1) := by decide +kernel
theorem d_Copy_move_152 : decode b_Copy_move 152 = .ok (.getfield 9, 3) := by decide +kernel
theorem d_Copy_move_155 : decode b_Copy_move 155 = .ok (.bipush 17, 2) := by decide +kernel
theorem d_Copy_move_157 : decode b_Copy_move 157 = .ok (.laload, 1) := by decide +kernel
theorem d_Copy_move_158 : decode b_Copy_move 158 = .ok (.lcmp, 1) := by decide +kernel
theorem d_Copy_move_159 : decode b_Copy_move 159 = .ok (.ifCond .ge 10, 3) := by decide +kernel
theorem d_Copy_move_162 : decode b_Copy_move 162 = .ok (.aload_n 0, 1) := by decide +kernel
theorem d_Copy_move_163 : decode b_Copy_move 163 = .ok (.getfield 22, 3) := by decide +kernel
theorem d_Copy_move_166 : decode b_Copy_move 166 = .ok (.goto 4, 3) := by decide +kernel
theorem d_Copy_move_169 : decode b_Copy_move 169 = .ok (.lconst 0, 1) := by decide +kernel
theorem d_Copy_move_170 : decode b_Copy_move 170 = .ok (.lastore, 1) := by decide +kernel
theorem d_Copy_move_171 : decode b_Copy_move 171 = .ok (.goto 90, 3) := by decide +kernel
theorem d_Copy_move_174 : decode b_Copy_move 174 = .ok (.aload_n 0, 1) := by decide +kernel
theorem d_Copy_move_175 : decode b_Copy_move 175 = .ok (.getfield 9, 3) := by decide +kernel
theorem d_Copy_move_178 : decode b_Copy_move 178 = .ok (.bipush 16, 2) := by decide +kernel
theorem d_Copy_move_180 : decode b_Copy_move 180 = .ok (.aload_n 0, 1) := by decide +kernel
theorem d_Copy_move_181 : decode b_Copy_move 181 = .ok (.getfield 9, 3) := by decide +kernel
theorem d_Copy_move_184 : decode b_Copy_move 184 = .ok (.bipush 16, 2) := by decide +kernel
theorem d_Copy_move_186 : decode b_Copy_move 186 = .ok (.laload, 1) := by decide +kernel
theorem d_Copy_move_187 : decode b_Copy_move 187 = .ok (.aload_n 0, 1) := by decide +kernel
theorem d_Copy_move_188 : decode b_Copy_move 188 = .ok (.getfield 9, 3) := by decide +kernel
theorem d_Copy_move_191 : decode b_Copy_move 191 = .ok (.bipush 17, 2) := by decide +kernel
theorem d_Copy_move_193 : decode b_Copy_move 193 = .ok (.laload, 1) := by decide +kernel
theorem d_Copy_move_194 : decode b_Copy_move 194 = .ok (.lcmp, 1) := by decide +kernel
theorem d_Copy_move_195 : decode b_Copy_move 195 = .ok (.ifCond .ne 10, 3) := by decide +kernel
theorem d_Copy_move_198 : decode b_Copy_move 198 = .ok (.aload_n 0, 1) := by decide +kernel
theorem d_Copy_move_199 : decode b_Copy_move 199 = .ok (.getfield 22, 3) := by decide +kernel
theorem d_Copy_move_202 : decode b_Copy_move 202 = .ok (.goto 4, 3) := by decide +kernel
theorem d_Copy_move_205 : decode b_Copy_move 205 = .ok (.lconst 0, 1) := by decide +kernel
theorem d_Copy_move_206 : decode b_Copy_move 206 = .ok (.lastore, 1) := by decide +kernel
theorem d_Copy_move_207 : decode b_Copy_move 207 = .ok (.goto 54, 3) := by decide +kernel
theorem d_Copy_move_210 : decode b_Copy_move 210 = .ok (.aload_n 0, 1) := by decide +kernel
theorem d_Copy_move_211 : decode b_Copy_move 211 = .ok (.iload_n 2, 1) := by decide +kernel
theorem d_Copy_move_212 : decode b_Copy_move 212 = .ok (.putfield 18, 3) := by decide +kernel
theorem d_Copy_move_215 : decode b_Copy_move 215 = .ok (.goto 46, 3) := by decide +kernel
theorem d_Copy_move_218 : decode b_Copy_move 218 = .ok (.aload_n 0, 1) := by decide +kernel
theorem d_Copy_move_219 : decode b_Copy_move 219 = .ok (.aload_n 0, 1) := by decide +kernel
theorem d_Copy_move_220 : decode b_Copy_move 220 = .ok (.getfield 9, 3) := by decide +kernel
theorem d_Copy_move_223 : decode b_Copy_move 223 = .ok (.bipush 16, 2) := by decide +kernel
theorem d_Copy_move_225 : decode b_Copy_move 225 = .ok (.laload, 1) := by decide +kernel
theorem d_Copy_move_226 : decode b_Copy_move 226 = .ok (.lconst 0, 1) := by decide +kernel
theorem d_Copy_move_227 : decode b_Copy_move 227 = .ok (.lcmp, 1) := by decide +kernel
theorem d_Copy_move_228 : decode b_Copy_move 228 = .ok (.ifCond .ne 7, 3) := by decide +kernel
theorem d_Copy_move_231 : decode b_Copy_move 231 = .ok (.iload_n 2, 1) := by decide +kernel
theorem d_Copy_move_232 : decode b_Copy_move 232 = .ok (.goto 7, 3) := by decide +kernel
theorem d_Copy_move_235 : decode b_Copy_move 235 = .ok (.aload_n 0, 1) := by decide +kernel
theorem d_Copy_move_236 : decode b_Copy_move 236 = .ok (.getfield 18, 3) := by decide +kernel
theorem d_Copy_move_239 : decode b_Copy_move 239 = .ok (.putfield 18, 3) := by decide +kernel
theorem d_Copy_move_242 : decode b_Copy_move 242 = .ok (.goto 19, 3) := by decide +kernel
theorem d_Copy_move_245 : decode b_Copy_move 245 = .ok (.aload_n 0, 1) := by decide +kernel
theorem d_Copy_move_246 : decode b_Copy_move 246 = .ok (.getfield 15, 3) := by decide +kernel
theorem d_Copy_move_249 : decode b_Copy_move 249 = .ok (.iload_n 2, 1) := by decide +kernel
theorem d_Copy_move_250 : decode b_Copy_move 250 = .ok (.aload_n 0, 1) := by decide +kernel
theorem d_Copy_move_251 : decode b_Copy_move 251 = .ok (.getfield 9, 3) := by decide +kernel
theorem d_Copy_move_254 : decode b_Copy_move 254 = .ok (.bipush 16, 2) := by decide +kernel
theorem d_Copy_move_256 : decode b_Copy_move 256 = .ok (.laload, 1) := by decide +kernel
theorem d_Copy_move_257 : decode b_Copy_move 257 = .ok (.lastore, 1) := by decide +kernel
theorem d_Copy_move_258 : decode b_Copy_move 258 = .ok (.goto 3, 3) := by decide +kernel
theorem d_Copy_move_261 : decode b_Copy_move 261 = .ok (.return_, 1) := by decide +kernel
