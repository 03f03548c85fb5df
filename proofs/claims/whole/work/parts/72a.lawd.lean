theorem dl_0 : decode code 0 = .ok (.new 8, 3) := by decide +kernel
theorem dl_3 : decode code 3 = .ok (.dup, 1) := by decide +kernel
theorem dl_4 : decode code 4 = .ok (.invokespecial 15, 3) := by decide +kernel
theorem dl_7 : decode code 7 = .ok (.astore_n 1, 1) := by decide +kernel
theorem dl_8 : decode code 8 = .ok (.new 16, 3) := by decide +kernel
theorem dl_11 : decode code 11 = .ok (.dup, 1) := by decide +kernel
theorem dl_12 : decode code 12 = .ok (.invokespecial 18, 3) := by decide +kernel
theorem dl_15 : decode code 15 = .ok (.astore_n 2, 1) := by decide +kernel
theorem dl_16 : decode code 16 = .ok (.iconst 1, 1) := by decide +kernel
theorem dl_17 : decode code 17 = .ok (.newarray .long, 2) := by decide +kernel
theorem dl_19 : decode code 19 = .ok (.astore_n 3, 1) := by decide +kernel
theorem dl_20 : decode code 20 = .ok (.iconst 0, 1) := by decide +kernel
theorem dl_21 : decode code 21 = .ok (.istore 4, 2) := by decide +kernel
theorem dl_23 : decode code 23 = .ok (.iload 4, 2) := by decide +kernel
theorem dl_25 : decode code 25 = .ok (.aload_n 0, 1) := by decide +kernel
theorem dl_26 : decode code 26 = .ok (.arraylength, 1) := by decide +kernel
theorem dl_27 : decode code 27 = .ok (.iconst 5, 1) := by decide +kernel
theorem dl_28 : decode code 28 = .ok (.isub, 1) := by decide +kernel
theorem dl_29 : decode code 29 = .ok (.if_icmp .gt 966, 3) := by decide +kernel
theorem dl_32 : decode code 32 = .ok (.aload_n 0, 1) := by decide +kernel
theorem dl_33 : decode code 33 = .ok (.iload 4, 2) := by decide +kernel
theorem dl_35 : decode code 35 = .ok (.iaload, 1) := by decide +kernel
theorem dl_36 : decode code 36 = .ok (.bipush 31, 2) := by decide +kernel
theorem dl_38 : decode code 38 = .ok (.iand, 1) := by decide +kernel
theorem dl_39 : decode code 39 = .ok (.tableswitch 950 0 21 #[101, 138, 163, 212, 277, 330, 367, 404, 441, 466, 515, 583, 596, 609, 622, 699, 736, 773, 798, 835, 900, 925], 101) := by decide +kernel
theorem dl_140 : decode code 140 = .ok (.aload_n 1, 1) := by decide +kernel
theorem dl_141 : decode code 141 = .ok (.aload_n 0, 1) := by decide +kernel
theorem dl_142 : decode code 142 = .ok (.iload 4, 2) := by decide +kernel
theorem dl_144 : decode code 144 = .ok (.iconst 1, 1) := by decide +kernel
theorem dl_145 : decode code 145 = .ok (.iadd, 1) := by decide +kernel
theorem dl_146 : decode code 146 = .ok (.iaload, 1) := by decide +kernel
theorem dl_147 : decode code 147 = .ok (.aload_n 0, 1) := by decide +kernel
theorem dl_148 : decode code 148 = .ok (.iload 4, 2) := by decide +kernel
theorem dl_150 : decode code 150 = .ok (.iconst 2, 1) := by decide +kernel
theorem dl_151 : decode code 151 = .ok (.iadd, 1) := by decide +kernel
theorem dl_152 : decode code 152 = .ok (.iaload, 1) := by decide +kernel
theorem dl_153 : decode code 153 = .ok (.invokevirtual 19, 3) := by decide +kernel
theorem dl_156 : decode code 156 = .ok (.aload_n 2, 1) := by decide +kernel
theorem dl_157 : decode code 157 = .ok (.aload_n 0, 1) := by decide +kernel
theorem dl_158 : decode code 158 = .ok (.iload 4, 2) := by decide +kernel
theorem dl_160 : decode code 160 = .ok (.iconst 1, 1) := by decide +kernel
theorem dl_161 : decode code 161 = .ok (.iadd, 1) := by decide +kernel
theorem dl_162 : decode code 162 = .ok (.iaload, 1) := by decide +kernel
theorem dl_163 : decode code 163 = .ok (.aload_n 0, 1) := by decide +kernel
theorem dl_164 : decode code 164 = .ok (.iload 4, 2) := by decide +kernel
theorem dl_166 : decode code 166 = .ok (.iconst 2, 1) := by decide +kernel
theorem dl_167 : decode code 167 = .ok (.iadd, 1) := by decide +kernel
theorem dl_168 : decode code 168 = .ok (.iaload, 1) := by decide +kernel
theorem dl_169 : decode code 169 = .ok (.invokevirtual 22, 3) := by decide +kernel
theorem dl_172 : decode code 172 = .ok (.if_icmp .eq 817, 3) := by decide +kernel
theorem dl_175 : decode code 175 = .ok (.iconst 0, 1) := by decide +kernel
theorem dl_176 : decode code 176 = .ok (.ireturn, 1) := by decide +kernel
theorem dl_177 : decode code 177 = .ok (.aload_n 1, 1) := by decide +kernel
theorem dl_178 : decode code 178 = .ok (.aload_n 0, 1) := by decide +kernel
theorem dl_179 : decode code 179 = .ok (.iload 4, 2) := by decide +kernel
theorem dl_181 : decode code 181 = .ok (.iconst 1, 1) := by decide +kernel
theorem dl_182 : decode code 182 = .ok (.iadd, 1) := by decide +kernel
theorem dl_183 : decode code 183 = .ok (.iaload, 1) := by decide +kernel
theorem dl_184 : decode code 184 = .ok (.invokevirtual 23, 3) := by decide +kernel
theorem dl_187 : decode code 187 = .ok (.aload_n 2, 1) := by decide +kernel
theorem dl_188 : decode code 188 = .ok (.aload_n 0, 1) := by decide +kernel
theorem dl_189 : decode code 189 = .ok (.iload 4, 2) := by decide +kernel
theorem dl_191 : decode code 191 = .ok (.iconst 1, 1) := by decide +kernel
theorem dl_192 : decode code 192 = .ok (.iadd, 1) := by decide +kernel
theorem dl_193 : decode code 193 = .ok (.iaload, 1) := by decide +kernel
theorem dl_194 : decode code 194 = .ok (.invokevirtual 27, 3) := by decide +kernel
theorem dl_197 : decode code 197 = .ok (.if_icmp .eq 792, 3) := by decide +kernel
theorem dl_200 : decode code 200 = .ok (.iconst 0, 1) := by decide +kernel
theorem dl_201 : decode code 201 = .ok (.ireturn, 1) := by decide +kernel
theorem dl_202 : decode code 202 = .ok (.aload_n 1, 1) := by decide +kernel
theorem dl_203 : decode code 203 = .ok (.aload_n 0, 1) := by decide +kernel
theorem dl_204 : decode code 204 = .ok (.iload 4, 2) := by decide +kernel
theorem dl_206 : decode code 206 = .ok (.iconst 1, 1) := by decide +kernel
theorem dl_207 : decode code 207 = .ok (.iadd, 1) := by decide +kernel
theorem dl_208 : decode code 208 = .ok (.iaload, 1) := by decide +kernel
theorem dl_209 : decode code 209 = .ok (.aload_n 0, 1) := by decide +kernel
theorem dl_210 : decode code 210 = .ok (.iload 4, 2) := by decide +kernel
theorem dl_212 : decode code 212 = .ok (.iconst 2, 1) := by decide +kernel
theorem dl_213 : decode code 213 = .ok (.iadd, 1) := by decide +kernel
theorem dl_214 : decode code 214 = .ok (.iaload, 1) := by decide +kernel
theorem dl_215 : decode code 215 = .ok (.aload_n 0, 1) := by decide +kernel
theorem dl_216 : decode code 216 = .ok (.iload 4, 2) := by decide +kernel
theorem dl_218 : decode code 218 = .ok (.iconst 3, 1) := by decide +kernel
theorem dl_219 : decode code 219 = .ok (.iadd, 1) := by decide +kernel
theorem dl_220 : decode code 220 = .ok (.iaload, 1) := by decide +kernel
theorem dl_221 : decode code 221 = .ok (.invokevirtual 28, 3) := by decide +kernel
theorem dl_224 : decode code 224 = .ok (.aload_n 2, 1) := by decide +kernel
theorem dl_225 : decode code 225 = .ok (.aload_n 0, 1) := by decide +kernel
theorem dl_226 : decode code 226 = .ok (.iload 4, 2) := by decide +kernel
theorem dl_228 : decode code 228 = .ok (.iconst 1, 1) := by decide +kernel
theorem dl_229 : decode code 229 = .ok (.iadd, 1) := by decide +kernel
theorem dl_230 : decode code 230 = .ok (.iaload, 1) := by decide +kernel
theorem dl_231 : decode code 231 = .ok (.aload_n 0, 1) := by decide +kernel
theorem dl_232 : decode code 232 = .ok (.iload 4, 2) := by decide +kernel
theorem dl_234 : decode code 234 = .ok (.iconst 2, 1) := by decide +kernel
theorem dl_235 : decode code 235 = .ok (.iadd, 1) := by decide +kernel
theorem dl_236 : decode code 236 = .ok (.iaload, 1) := by decide +kernel
theorem dl_237 : decode code 237 = .ok (.aload_n 0, 1) := by decide +kernel
theorem dl_238 : decode code 238 = .ok (.iload 4, 2) := by decide +kernel
theorem dl_240 : decode code 240 = .ok (.iconst 3, 1) := by decide +kernel
theorem dl_241 : decode code 241 = .ok (.iadd, 1) := by decide +kernel
theorem dl_242 : decode code 242 = .ok (.iaload, 1) := by decide +kernel
theorem dl_243 : decode code 243 = .ok (.invokevirtual 32, 3) := by decide +kernel
theorem dl_246 : decode code 246 = .ok (.if_icmp .eq 743, 3) := by decide +kernel
theorem dl_249 : decode code 249 = .ok (.iconst 0, 1) := by decide +kernel
theorem dl_250 : decode code 250 = .ok (.ireturn, 1) := by decide +kernel
theorem dl_251 : decode code 251 = .ok (.aload_n 1, 1) := by decide +kernel
theorem dl_252 : decode code 252 = .ok (.aload_n 0, 1) := by decide +kernel
theorem dl_253 : decode code 253 = .ok (.iload 4, 2) := by decide +kernel
theorem dl_255 : decode code 255 = .ok (.iconst 1, 1) := by decide +kernel
theorem dl_256 : decode code 256 = .ok (.iadd, 1) := by decide +kernel
theorem dl_257 : decode code 257 = .ok (.iaload, 1) := by decide +kernel
theorem dl_258 : decode code 258 = .ok (.aload_n 0, 1) := by decide +kernel
theorem dl_259 : decode code 259 = .ok (.iload 4, 2) := by decide +kernel
theorem dl_261 : decode code 261 = .ok (.iconst 2, 1) := by decide +kernel
theorem dl_262 : decode code 262 = .ok (.iadd, 1) := by decide +kernel
theorem dl_263 : decode code 263 = .ok (.iaload, 1) := by decide +kernel
theorem dl_264 : decode code 264 = .ok (.aload_n 0, 1) := by decide +kernel
theorem dl_265 : decode code 265 = .ok (.iload 4, 2) := by decide +kernel
theorem dl_267 : decode code 267 = .ok (.iconst 3, 1) := by decide +kernel
theorem dl_268 : decode code 268 = .ok (.iadd, 1) := by decide +kernel
theorem dl_269 : decode code 269 = .ok (.iaload, 1) := by decide +kernel
theorem dl_270 : decode code 270 = .ok (.ifCond .eq 7, 3) := by decide +kernel
theorem dl_273 : decode code 273 = .ok (.iconst 1, 1) := by decide +kernel
theorem dl_274 : decode code 274 = .ok (.goto 4, 3) := by decide +kernel
theorem dl_277 : decode code 277 = .ok (.iconst 0, 1) := by decide +kernel
theorem dl_278 : decode code 278 = .ok (.invokevirtual 33, 3) := by decide +kernel
theorem dl_281 : decode code 281 = .ok (.aload_n 2, 1) := by decide +kernel
theorem dl_282 : decode code 282 = .ok (.aload_n 0, 1) := by decide +kernel
theorem dl_283 : decode code 283 = .ok (.iload 4, 2) := by decide +kernel
theorem dl_285 : decode code 285 = .ok (.iconst 1, 1) := by decide +kernel
theorem dl_286 : decode code 286 = .ok (.iadd, 1) := by decide +kernel
theorem dl_287 : decode code 287 = .ok (.iaload, 1) := by decide +kernel
theorem dl_288 : decode code 288 = .ok (.aload_n 0, 1) := by decide +kernel
theorem dl_289 : decode code 289 = .ok (.iload 4, 2) := by decide +kernel
theorem dl_291 : decode code 291 = .ok (.iconst 2, 1) := by decide +kernel
theorem dl_292 : decode code 292 = .ok (.iadd, 1) := by decide +kernel
theorem dl_293 : decode code 293 = .ok (.iaload, 1) := by decide +kernel
theorem dl_294 : decode code 294 = .ok (.aload_n 0, 1) := by decide +kernel
theorem dl_295 : decode code 295 = .ok (.iload 4, 2) := by decide +kernel
theorem dl_297 : decode code 297 = .ok (.iconst 3, 1) := by decide +kernel
theorem dl_298 : decode code 298 = .ok (.iadd, 1) := by decide +kernel
theorem dl_299 : decode code 299 = .ok (.iaload, 1) := by decide +kernel
theorem dl_300 : decode code 300 = .ok (.ifCond .eq 7, 3) := by decide +kernel
theorem dl_303 : decode code 303 = .ok (.iconst 1, 1) := by decide +kernel
theorem dl_304 : decode code 304 = .ok (.goto 4, 3) := by decide +kernel
theorem dl_307 : decode code 307 = .ok (.iconst 0, 1) := by decide +kernel
theorem dl_308 : decode code 308 = .ok (.invokevirtual 37, 3) := by decide +kernel
theorem dl_311 : decode code 311 = .ok (.if_icmp .eq 678, 3) := by decide +kernel
theorem dl_314 : decode code 314 = .ok (.iconst 0, 1) := by decide +kernel
theorem dl_315 : decode code 315 = .ok (.ireturn, 1) := by decide +kernel
theorem dl_316 : decode code 316 = .ok (.aload_n 1, 1) := by decide +kernel
theorem dl_317 : decode code 317 = .ok (.aload_n 0, 1) := by decide +kernel
theorem dl_318 : decode code 318 = .ok (.iload 4, 2) := by decide +kernel
theorem dl_320 : decode code 320 = .ok (.iconst 1, 1) := by decide +kernel
theorem dl_321 : decode code 321 = .ok (.iadd, 1) := by decide +kernel
theorem dl_322 : decode code 322 = .ok (.iaload, 1) := by decide +kernel
theorem dl_323 : decode code 323 = .ok (.aload_n 0, 1) := by decide +kernel
theorem dl_324 : decode code 324 = .ok (.iload 4, 2) := by decide +kernel
theorem dl_326 : decode code 326 = .ok (.iconst 2, 1) := by decide +kernel
