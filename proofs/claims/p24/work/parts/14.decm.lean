theorem dL_law_148 : decode cL_law 148 = .ok (.iload 13, 2) := by decide +kernel
theorem dL_law_150 : decode cL_law 150 = .ok (.iload 12, 2) := by decide +kernel
theorem dL_law_152 : decode cL_law 152 = .ok (.aload_n 2, 1) := by decide +kernel
theorem dL_law_153 : decode cL_law 153 = .ok (.aload_n 3, 1) := by decide +kernel
theorem dL_law_154 : decode cL_law 154 = .ok (.aload 4, 2) := by decide +kernel
theorem dL_law_156 : decode cL_law 156 = .ok (.aload 5, 2) := by decide +kernel
theorem dL_law_158 : decode cL_law 158 = .ok (.aload 6, 2) := by decide +kernel
theorem dL_law_160 : decode cL_law 160 = .ok (.aload 7, 2) := by decide +kernel
theorem dL_law_162 : decode cL_law 162 = .ok (.aload 8, 2) := by decide +kernel
theorem dL_law_164 : decode cL_law 164 = .ok (.aload 9, 2) := by decide +kernel
theorem dL_law_166 : decode cL_law 166 = .ok (.invokestatic 143, 3) := by decide +kernel
theorem dL_law_169 : decode cL_law 169 = .ok (.goto 83, 3) := by decide +kernel
theorem dL_law_172 : decode cL_law 172 = .ok (.iload 13, 2) := by decide +kernel
theorem dL_law_174 : decode cL_law 174 = .ok (.bipush 9, 2) := by decide +kernel
theorem dL_law_176 : decode cL_law 176 = .ok (.if_icmp .ge 27, 3) := by decide +kernel
theorem dL_law_179 : decode cL_law 179 = .ok (.aload_n 1, 1) := by decide +kernel
theorem dL_law_180 : decode cL_law 180 = .ok (.iconst 0, 1) := by decide +kernel
theorem dL_law_181 : decode cL_law 181 = .ok (.iload 12, 2) := by decide +kernel
theorem dL_law_183 : decode cL_law 183 = .ok (.aload_n 2, 1) := by decide +kernel
theorem dL_law_184 : decode cL_law 184 = .ok (.aload_n 3, 1) := by decide +kernel
theorem dL_law_185 : decode cL_law 185 = .ok (.aload 4, 2) := by decide +kernel
theorem dL_law_187 : decode cL_law 187 = .ok (.aload 5, 2) := by decide +kernel
theorem dL_law_189 : decode cL_law 189 = .ok (.aload 6, 2) := by decide +kernel
theorem dL_law_191 : decode cL_law 191 = .ok (.aload 7, 2) := by decide +kernel
theorem dL_law_193 : decode cL_law 193 = .ok (.aload 8, 2) := by decide +kernel
theorem dL_law_195 : decode cL_law 195 = .ok (.aload 9, 2) := by decide +kernel
theorem dL_law_197 : decode cL_law 197 = .ok (.invokestatic 143, 3) := by decide +kernel
theorem dL_law_200 : decode cL_law 200 = .ok (.goto 52, 3) := by decide +kernel
theorem dL_law_203 : decode cL_law 203 = .ok (.iload 13, 2) := by decide +kernel
theorem dL_law_205 : decode cL_law 205 = .ok (.bipush 14, 2) := by decide +kernel
theorem dL_law_207 : decode cL_law 207 = .ok (.if_icmp .ge 27, 3) := by decide +kernel
theorem dL_law_210 : decode cL_law 210 = .ok (.aload_n 1, 1) := by decide +kernel
theorem dL_law_211 : decode cL_law 211 = .ok (.iconst 5, 1) := by decide +kernel
theorem dL_law_212 : decode cL_law 212 = .ok (.iload 12, 2) := by decide +kernel
theorem dL_law_214 : decode cL_law 214 = .ok (.aload_n 2, 1) := by decide +kernel
theorem dL_law_215 : decode cL_law 215 = .ok (.aload_n 3, 1) := by decide +kernel
theorem dL_law_216 : decode cL_law 216 = .ok (.aload 4, 2) := by decide +kernel
theorem dL_law_218 : decode cL_law 218 = .ok (.aload 5, 2) := by decide +kernel
theorem dL_law_220 : decode cL_law 220 = .ok (.aload 6, 2) := by decide +kernel
theorem dL_law_222 : decode cL_law 222 = .ok (.aload 7, 2) := by decide +kernel
theorem dL_law_224 : decode cL_law 224 = .ok (.aload 8, 2) := by decide +kernel
theorem dL_law_226 : decode cL_law 226 = .ok (.aload 9, 2) := by decide +kernel
theorem dL_law_228 : decode cL_law 228 = .ok (.invokestatic 143, 3) := by decide +kernel
theorem dL_law_231 : decode cL_law 231 = .ok (.goto 21, 3) := by decide +kernel
theorem dL_law_234 : decode cL_law 234 = .ok (.aload_n 1, 1) := by decide +kernel
theorem dL_law_235 : decode cL_law 235 = .ok (.iload 12, 2) := by decide +kernel
theorem dL_law_237 : decode cL_law 237 = .ok (.aload_n 2, 1) := by decide +kernel
theorem dL_law_238 : decode cL_law 238 = .ok (.aload_n 3, 1) := by decide +kernel
theorem dL_law_239 : decode cL_law 239 = .ok (.aload 4, 2) := by decide +kernel
theorem dL_law_241 : decode cL_law 241 = .ok (.aload 6, 2) := by decide +kernel
theorem dL_law_243 : decode cL_law 243 = .ok (.aload 7, 2) := by decide +kernel
theorem dL_law_245 : decode cL_law 245 = .ok (.aload 8, 2) := by decide +kernel
theorem dL_law_247 : decode cL_law 247 = .ok (.aload 9, 2) := by decide +kernel
theorem dL_law_249 : decode cL_law 249 = .ok (.invokestatic 147, 3) := by decide +kernel
theorem dL_law_252 : decode cL_law 252 = .ok (.istore 14, 2) := by decide +kernel
theorem dL_law_254 : decode cL_law 254 = .ok (.iload 14, 2) := by decide +kernel
theorem dL_law_256 : decode cL_law 256 = .ok (.ifCond .eq 33, 3) := by decide +kernel
theorem dL_law_259 : decode cL_law 259 = .ok (.iload 10, 2) := by decide +kernel
theorem dL_law_261 : decode cL_law 261 = .ok (.iconst 3, 1) := by decide +kernel
theorem dL_law_262 : decode cL_law 262 = .ok (.irem, 1) := by decide +kernel
theorem dL_law_263 : decode cL_law 263 = .ok (.ifCond .ne 28, 3) := by decide +kernel
theorem dL_law_266 : decode cL_law 266 = .ok (.aload_n 1, 1) := by decide +kernel
theorem dL_law_267 : decode cL_law 267 = .ok (.iload 12, 2) := by decide +kernel
theorem dL_law_269 : decode cL_law 269 = .ok (.aload_n 2, 1) := by decide +kernel
theorem dL_law_270 : decode cL_law 270 = .ok (.aload_n 3, 1) := by decide +kernel
theorem dL_law_271 : decode cL_law 271 = .ok (.aload 4, 2) := by decide +kernel
theorem dL_law_273 : decode cL_law 273 = .ok (.aload 5, 2) := by decide +kernel
theorem dL_law_275 : decode cL_law 275 = .ok (.aload 6, 2) := by decide +kernel
theorem dL_law_277 : decode cL_law 277 = .ok (.aload 7, 2) := by decide +kernel
theorem dL_law_279 : decode cL_law 279 = .ok (.aload 8, 2) := by decide +kernel
theorem dL_law_281 : decode cL_law 281 = .ok (.aload 9, 2) := by decide +kernel
theorem dL_law_283 : decode cL_law 283 = .ok (.invokestatic 151, 3) := by decide +kernel
theorem dL_law_286 : decode cL_law 286 = .ok (.ifCond .ne 5, 3) := by decide +kernel
theorem dL_law_289 : decode cL_law 289 = .ok (.iconst 0, 1) := by decide +kernel
theorem dL_law_290 : decode cL_law 290 = .ok (.ireturn, 1) := by decide +kernel
theorem dL_law_291 : decode cL_law 291 = .ok (.iinc 10 1, 3) := by decide +kernel
theorem dL_law_294 : decode cL_law 294 = .ok (.goto (-233), 3) := by decide +kernel
theorem dL_law_297 : decode cL_law 297 = .ok (.iconst 1, 1) := by decide +kernel
theorem dL_law_298 : decode cL_law 298 = .ok (.ireturn, 1) := by decide +kernel
