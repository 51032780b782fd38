theorem d_Law_law_180 : decode code 180 = .ok (.ireturn, 1) := by decide +kernel
theorem d_Law_law_181 : decode code 181 = .ok (.goto 1082, 3) := by decide +kernel
theorem d_Law_law_184 : decode code 184 = .ok (.aload_n 1, 1) := by decide +kernel
theorem d_Law_law_185 : decode code 185 = .ok (.aload_n 0, 1) := by decide +kernel
theorem d_Law_law_186 : decode code 186 = .ok (.iload 4, 2) := by decide +kernel
theorem d_Law_law_188 : decode code 188 = .ok (.iconst 1, 1) := by decide +kernel
theorem d_Law_law_189 : decode code 189 = .ok (.iadd, 1) := by decide +kernel
theorem d_Law_law_190 : decode code 190 = .ok (.iaload, 1) := by decide +kernel
theorem d_Law_law_191 : decode code 191 = .ok (.aload_n 0, 1) := by decide +kernel
theorem d_Law_law_192 : decode code 192 = .ok (.iload 4, 2) := by decide +kernel
theorem d_Law_law_194 : decode code 194 = .ok (.iconst 2, 1) := by decide +kernel
theorem d_Law_law_195 : decode code 195 = .ok (.iadd, 1) := by decide +kernel
theorem d_Law_law_196 : decode code 196 = .ok (.iaload, 1) := by decide +kernel
theorem d_Law_law_197 : decode code 197 = .ok (.aload_n 0, 1) := by decide +kernel
theorem d_Law_law_198 : decode code 198 = .ok (.iload 4, 2) := by decide +kernel
theorem d_Law_law_200 : decode code 200 = .ok (.iconst 3, 1) := by decide +kernel
theorem d_Law_law_201 : decode code 201 = .ok (.iadd, 1) := by decide +kernel
theorem d_Law_law_202 : decode code 202 = .ok (.iaload, 1) := by decide +kernel
theorem d_Law_law_203 : decode code 203 = .ok (.i2l, 1) := by decide +kernel
theorem d_Law_law_204 : decode code 204 = .ok (.bipush 32, 2) := by decide +kernel
theorem d_Law_law_206 : decode code 206 = .ok (.lshl, 1) := by decide +kernel
theorem d_Law_law_207 : decode code 207 = .ok (.aload_n 0, 1) := by decide +kernel
theorem d_Law_law_208 : decode code 208 = .ok (.iload 4, 2) := by decide +kernel
theorem d_Law_law_210 : decode code 210 = .ok (.iconst 4, 1) := by decide +kernel
theorem d_Law_law_211 : decode code 211 = .ok (.iadd, 1) := by decide +kernel
theorem d_Law_law_212 : decode code 212 = .ok (.iaload, 1) := by decide +kernel
theorem d_Law_law_213 : decode code 213 = .ok (.i2l, 1) := by decide +kernel
theorem d_Law_law_214 : decode code 214 = .ok (.ldc2_w 75, 3) := by decide +kernel
theorem d_Law_law_217 : decode code 217 = .ok (.land, 1) := by decide +kernel
theorem d_Law_law_218 : decode code 218 = .ok (.lor, 1) := by decide +kernel
theorem d_Law_law_219 : decode code 219 = .ok (.aload_n 3, 1) := by decide +kernel
theorem d_Law_law_220 : decode code 220 = .ok (.invokestatic 77, 3) := by decide +kernel
theorem d_Law_law_223 : decode code 223 = .ok (.istore 5, 2) := by decide +kernel
theorem d_Law_law_225 : decode code 225 = .ok (.aload_n 2, 1) := by decide +kernel
theorem d_Law_law_226 : decode code 226 = .ok (.aload_n 0, 1) := by decide +kernel
theorem d_Law_law_227 : decode code 227 = .ok (.iload 4, 2) := by decide +kernel
theorem d_Law_law_229 : decode code 229 = .ok (.iconst 1, 1) := by decide +kernel
theorem d_Law_law_230 : decode code 230 = .ok (.iadd, 1) := by decide +kernel
theorem d_Law_law_231 : decode code 231 = .ok (.iaload, 1) := by decide +kernel
theorem d_Law_law_232 : decode code 232 = .ok (.aload_n 0, 1) := by decide +kernel
theorem d_Law_law_233 : decode code 233 = .ok (.iload 4, 2) := by decide +kernel
theorem d_Law_law_235 : decode code 235 = .ok (.iconst 2, 1) := by decide +kernel
theorem d_Law_law_236 : decode code 236 = .ok (.iadd, 1) := by decide +kernel
theorem d_Law_law_237 : decode code 237 = .ok (.iaload, 1) := by decide +kernel
theorem d_Law_law_238 : decode code 238 = .ok (.aload_n 0, 1) := by decide +kernel
theorem d_Law_law_239 : decode code 239 = .ok (.iload 4, 2) := by decide +kernel
theorem d_Law_law_241 : decode code 241 = .ok (.iconst 3, 1) := by decide +kernel
theorem d_Law_law_242 : decode code 242 = .ok (.iadd, 1) := by decide +kernel
theorem d_Law_law_243 : decode code 243 = .ok (.iaload, 1) := by decide +kernel
theorem d_Law_law_244 : decode code 244 = .ok (.i2l, 1) := by decide +kernel
theorem d_Law_law_245 : decode code 245 = .ok (.bipush 32, 2) := by decide +kernel
theorem d_Law_law_247 : decode code 247 = .ok (.lshl, 1) := by decide +kernel
theorem d_Law_law_248 : decode code 248 = .ok (.aload_n 0, 1) := by decide +kernel
theorem d_Law_law_249 : decode code 249 = .ok (.iload 4, 2) := by decide +kernel
theorem d_Law_law_251 : decode code 251 = .ok (.iconst 4, 1) := by decide +kernel
theorem d_Law_law_252 : decode code 252 = .ok (.iadd, 1) := by decide +kernel
theorem d_Law_law_253 : decode code 253 = .ok (.iaload, 1) := by decide +kernel
theorem d_Law_law_254 : decode code 254 = .ok (.i2l, 1) := by decide +kernel
theorem d_Law_law_255 : decode code 255 = .ok (.ldc2_w 75, 3) := by decide +kernel
theorem d_Law_law_258 : decode code 258 = .ok (.land, 1) := by decide +kernel
theorem d_Law_law_259 : decode code 259 = .ok (.lor, 1) := by decide +kernel
theorem d_Law_law_260 : decode code 260 = .ok (.invokevirtual 80, 3) := by decide +kernel
theorem d_Law_law_263 : decode code 263 = .ok (.istore 6, 2) := by decide +kernel
theorem d_Law_law_265 : decode code 265 = .ok (.aload_n 2, 1) := by decide +kernel
theorem d_Law_law_266 : decode code 266 = .ok (.invokevirtual 71, 3) := by decide +kernel
theorem d_Law_law_269 : decode code 269 = .ok (.iload 5, 2) := by decide +kernel
theorem d_Law_law_271 : decode code 271 = .ok (.if_icmp .eq 5, 3) := by decide +kernel
theorem d_Law_law_274 : decode code 274 = .ok (.iconst 0, 1) := by decide +kernel
theorem d_Law_law_275 : decode code 275 = .ok (.ireturn, 1) := by decide +kernel
theorem d_Law_law_276 : decode code 276 = .ok (.iload 5, 2) := by decide +kernel
theorem d_Law_law_278 : decode code 278 = .ok (.ifCond .ne 22, 3) := by decide +kernel
theorem d_Law_law_281 : decode code 281 = .ok (.aload_n 3, 1) := by decide +kernel
theorem d_Law_law_282 : decode code 282 = .ok (.iconst 0, 1) := by decide +kernel
theorem d_Law_law_283 : decode code 283 = .ok (.laload, 1) := by decide +kernel
theorem d_Law_law_284 : decode code 284 = .ok (.iload 6, 2) := by decide +kernel
theorem d_Law_law_286 : decode code 286 = .ok (.ifCond .eq 7, 3) := by decide +kernel
theorem d_Law_law_289 : decode code 289 = .ok (.lconst 1, 1) := by decide +kernel
theorem d_Law_law_290 : decode code 290 = .ok (.goto 4, 3) := by decide +kernel
theorem d_Law_law_293 : decode code 293 = .ok (.lconst 0, 1) := by decide +kernel
theorem d_Law_law_294 : decode code 294 = .ok (.lcmp, 1) := by decide +kernel
theorem d_Law_law_295 : decode code 295 = .ok (.ifCond .eq 5, 3) := by decide +kernel
theorem d_Law_law_298 : decode code 298 = .ok (.iconst 0, 1) := by decide +kernel
theorem d_Law_law_299 : decode code 299 = .ok (.ireturn, 1) := by decide +kernel
theorem d_Law_law_300 : decode code 300 = .ok (.goto 963, 3) := by decide +kernel
theorem d_Law_law_303 : decode code 303 = .ok (.aload_n 1, 1) := by decide +kernel
theorem d_Law_law_304 : decode code 304 = .ok (.aload_n 0, 1) := by decide +kernel
theorem d_Law_law_305 : decode code 305 = .ok (.iload 4, 2) := by decide +kernel
theorem d_Law_law_307 : decode code 307 = .ok (.iconst 1, 1) := by decide +kernel
theorem d_Law_law_308 : decode code 308 = .ok (.iadd, 1) := by decide +kernel
theorem d_Law_law_309 : decode code 309 = .ok (.iaload, 1) := by decide +kernel
theorem d_Law_law_310 : decode code 310 = .ok (.aload_n 0, 1) := by decide +kernel
theorem d_Law_law_311 : decode code 311 = .ok (.iload 4, 2) := by decide +kernel
theorem d_Law_law_313 : decode code 313 = .ok (.iconst 2, 1) := by decide +kernel
theorem d_Law_law_314 : decode code 314 = .ok (.iadd, 1) := by decide +kernel
theorem d_Law_law_315 : decode code 315 = .ok (.iaload, 1) := by decide +kernel
theorem d_Law_law_316 : decode code 316 = .ok (.aload_n 3, 1) := by decide +kernel
theorem d_Law_law_317 : decode code 317 = .ok (.invokestatic 81, 3) := by decide +kernel
theorem d_Law_law_320 : decode code 320 = .ok (.istore 5, 2) := by decide +kernel
theorem d_Law_law_322 : decode code 322 = .ok (.aload_n 2, 1) := by decide +kernel
theorem d_Law_law_323 : decode code 323 = .ok (.aload_n 0, 1) := by decide +kernel
