theorem d_Law_law_165 : decode code 165 = .ok (.iadd, 1) := by decide +kernel
theorem d_Law_law_166 : decode code 166 = .ok (.iaload, 1) := by decide +kernel
theorem d_Law_law_167 : decode code 167 = .ok (.aload_n 0, 1) := by decide +kernel
theorem d_Law_law_168 : decode code 168 = .ok (.iload 4, 2) := by decide +kernel
theorem d_Law_law_170 : decode code 170 = .ok (.iconst 2, 1) := by decide +kernel
theorem d_Law_law_171 : decode code 171 = .ok (.iadd, 1) := by decide +kernel
theorem d_Law_law_172 : decode code 172 = .ok (.iaload, 1) := by decide +kernel
theorem d_Law_law_173 : decode code 173 = .ok (.invokevirtual 42, 3) := by decide +kernel
theorem d_Law_law_176 : decode code 176 = .ok (.aload_n 2, 1) := by decide +kernel
theorem d_Law_law_177 : decode code 177 = .ok (.aload_n 0, 1) := by decide +kernel
theorem d_Law_law_178 : decode code 178 = .ok (.iload 4, 2) := by decide +kernel
theorem d_Law_law_180 : decode code 180 = .ok (.iconst 1, 1) := by decide +kernel
theorem d_Law_law_181 : decode code 181 = .ok (.iadd, 1) := by decide +kernel
theorem d_Law_law_182 : decode code 182 = .ok (.iaload, 1) := by decide +kernel
theorem d_Law_law_183 : decode code 183 = .ok (.aload_n 0, 1) := by decide +kernel
theorem d_Law_law_184 : decode code 184 = .ok (.iload 4, 2) := by decide +kernel
theorem d_Law_law_186 : decode code 186 = .ok (.iconst 2, 1) := by decide +kernel
theorem d_Law_law_187 : decode code 187 = .ok (.iadd, 1) := by decide +kernel
theorem d_Law_law_188 : decode code 188 = .ok (.iaload, 1) := by decide +kernel
theorem d_Law_law_189 : decode code 189 = .ok (.invokevirtual 46, 3) := by decide +kernel
theorem d_Law_law_192 : decode code 192 = .ok (.if_icmp .eq 196, 3) := by decide +kernel
theorem d_Law_law_195 : decode code 195 = .ok (.iconst 0, 1) := by decide +kernel
theorem d_Law_law_196 : decode code 196 = .ok (.ireturn, 1) := by decide +kernel
theorem d_Law_law_197 : decode code 197 = .ok (.aload_n 1, 1) := by decide +kernel
theorem d_Law_law_198 : decode code 198 = .ok (.invokevirtual 47, 3) := by decide +kernel
theorem d_Law_law_201 : decode code 201 = .ok (.aload_n 2, 1) := by decide +kernel
theorem d_Law_law_202 : decode code 202 = .ok (.invokevirtual 50, 3) := by decide +kernel
theorem d_Law_law_205 : decode code 205 = .ok (.if_icmp .eq 183, 3) := by decide +kernel
theorem d_Law_law_208 : decode code 208 = .ok (.iconst 0, 1) := by decide +kernel
theorem d_Law_law_209 : decode code 209 = .ok (.ireturn, 1) := by decide +kernel
theorem d_Law_law_210 : decode code 210 = .ok (.aload_n 1, 1) := by decide +kernel
theorem d_Law_law_211 : decode code 211 = .ok (.aload_n 0, 1) := by decide +kernel
theorem d_Law_law_212 : decode code 212 = .ok (.iload 4, 2) := by decide +kernel
theorem d_Law_law_214 : decode code 214 = .ok (.iconst 1, 1) := by decide +kernel
theorem d_Law_law_215 : decode code 215 = .ok (.iadd, 1) := by decide +kernel
theorem d_Law_law_216 : decode code 216 = .ok (.iaload, 1) := by decide +kernel
theorem d_Law_law_217 : decode code 217 = .ok (.aload_n 0, 1) := by decide +kernel
theorem d_Law_law_218 : decode code 218 = .ok (.iload 4, 2) := by decide +kernel
theorem d_Law_law_220 : decode code 220 = .ok (.iconst 2, 1) := by decide +kernel
theorem d_Law_law_221 : decode code 221 = .ok (.iadd, 1) := by decide +kernel
theorem d_Law_law_222 : decode code 222 = .ok (.iaload, 1) := by decide +kernel
theorem d_Law_law_223 : decode code 223 = .ok (.aload_n 0, 1) := by decide +kernel
theorem d_Law_law_224 : decode code 224 = .ok (.iload 4, 2) := by decide +kernel
theorem d_Law_law_226 : decode code 226 = .ok (.iconst 3, 1) := by decide +kernel
theorem d_Law_law_227 : decode code 227 = .ok (.iadd, 1) := by decide +kernel
theorem d_Law_law_228 : decode code 228 = .ok (.iaload, 1) := by decide +kernel
theorem d_Law_law_229 : decode code 229 = .ok (.aload_n 0, 1) := by decide +kernel
theorem d_Law_law_230 : decode code 230 = .ok (.iload 4, 2) := by decide +kernel
theorem d_Law_law_232 : decode code 232 = .ok (.iconst 4, 1) := by decide +kernel
theorem d_Law_law_233 : decode code 233 = .ok (.iadd, 1) := by decide +kernel
theorem d_Law_law_234 : decode code 234 = .ok (.iaload, 1) := by decide +kernel
theorem d_Law_law_235 : decode code 235 = .ok (.invokevirtual 51, 3) := by decide +kernel
theorem d_Law_law_238 : decode code 238 = .ok (.aload_n 2, 1) := by decide +kernel
theorem d_Law_law_239 : decode code 239 = .ok (.aload_n 0, 1) := by decide +kernel
theorem d_Law_law_240 : decode code 240 = .ok (.iload 4, 2) := by decide +kernel
theorem d_Law_law_242 : decode code 242 = .ok (.iconst 1, 1) := by decide +kernel
theorem d_Law_law_243 : decode code 243 = .ok (.iadd, 1) := by decide +kernel
theorem d_Law_law_244 : decode code 244 = .ok (.iaload, 1) := by decide +kernel
theorem d_Law_law_245 : decode code 245 = .ok (.aload_n 0, 1) := by decide +kernel
theorem d_Law_law_246 : decode code 246 = .ok (.iload 4, 2) := by decide +kernel
theorem d_Law_law_248 : decode code 248 = .ok (.iconst 2, 1) := by decide +kernel
theorem d_Law_law_249 : decode code 249 = .ok (.iadd, 1) := by decide +kernel
theorem d_Law_law_250 : decode code 250 = .ok (.iaload, 1) := by decide +kernel
theorem d_Law_law_251 : decode code 251 = .ok (.aload_n 0, 1) := by decide +kernel
theorem d_Law_law_252 : decode code 252 = .ok (.iload 4, 2) := by decide +kernel
theorem d_Law_law_254 : decode code 254 = .ok (.iconst 3, 1) := by decide +kernel
theorem d_Law_law_255 : decode code 255 = .ok (.iadd, 1) := by decide +kernel
theorem d_Law_law_256 : decode code 256 = .ok (.iaload, 1) := by decide +kernel
theorem d_Law_law_257 : decode code 257 = .ok (.aload_n 0, 1) := by decide +kernel
theorem d_Law_law_258 : decode code 258 = .ok (.iload 4, 2) := by decide +kernel
theorem d_Law_law_260 : decode code 260 = .ok (.iconst 4, 1) := by decide +kernel
theorem d_Law_law_261 : decode code 261 = .ok (.iadd, 1) := by decide +kernel
theorem d_Law_law_262 : decode code 262 = .ok (.iaload, 1) := by decide +kernel
theorem d_Law_law_263 : decode code 263 = .ok (.invokevirtual 55, 3) := by decide +kernel
theorem d_Law_law_266 : decode code 266 = .ok (.if_icmp .eq 122, 3) := by decide +kernel
theorem d_Law_law_269 : decode code 269 = .ok (.iconst 0, 1) := by decide +kernel
theorem d_Law_law_270 : decode code 270 = .ok (.ireturn, 1) := by decide +kernel
theorem d_Law_law_271 : decode code 271 = .ok (.aload_n 1, 1) := by decide +kernel
theorem d_Law_law_272 : decode code 272 = .ok (.aload_n 0, 1) := by decide +kernel
theorem d_Law_law_273 : decode code 273 = .ok (.iload 4, 2) := by decide +kernel
