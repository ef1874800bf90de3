theorem d_LA_law_204 : decode code 204 = .ok (.iload_n 3, 1) := by decide +kernel
theorem d_LA_law_205 : decode code 205 = .ok (.iconst 1, 1) := by decide +kernel
theorem d_LA_law_206 : decode code 206 = .ok (.iadd, 1) := by decide +kernel
theorem d_LA_law_207 : decode code 207 = .ok (.iaload, 1) := by decide +kernel
theorem d_LA_law_208 : decode code 208 = .ok (.aload_n 0, 1) := by decide +kernel
theorem d_LA_law_209 : decode code 209 = .ok (.iload_n 3, 1) := by decide +kernel
theorem d_LA_law_210 : decode code 210 = .ok (.iconst 2, 1) := by decide +kernel
theorem d_LA_law_211 : decode code 211 = .ok (.iadd, 1) := by decide +kernel
theorem d_LA_law_212 : decode code 212 = .ok (.iaload, 1) := by decide +kernel
theorem d_LA_law_213 : decode code 213 = .ok (.invokevirtual 26, 3) := by decide +kernel
theorem d_LA_law_216 : decode code 216 = .ok (.if_icmp .eq 354, 3) := by decide +kernel
theorem d_LA_law_219 : decode code 219 = .ok (.iconst 0, 1) := by decide +kernel
theorem d_LA_law_220 : decode code 220 = .ok (.ireturn, 1) := by decide +kernel
theorem d_LA_law_221 : decode code 221 = .ok (.aload_n 1, 1) := by decide +kernel
theorem d_LA_law_222 : decode code 222 = .ok (.aload_n 0, 1) := by decide +kernel
theorem d_LA_law_223 : decode code 223 = .ok (.iload_n 3, 1) := by decide +kernel
theorem d_LA_law_224 : decode code 224 = .ok (.iconst 1, 1) := by decide +kernel
theorem d_LA_law_225 : decode code 225 = .ok (.iadd, 1) := by decide +kernel
theorem d_LA_law_226 : decode code 226 = .ok (.iaload, 1) := by decide +kernel
theorem d_LA_law_227 : decode code 227 = .ok (.aload_n 0, 1) := by decide +kernel
theorem d_LA_law_228 : decode code 228 = .ok (.iload_n 3, 1) := by decide +kernel
theorem d_LA_law_229 : decode code 229 = .ok (.iconst 2, 1) := by decide +kernel
theorem d_LA_law_230 : decode code 230 = .ok (.iadd, 1) := by decide +kernel
theorem d_LA_law_231 : decode code 231 = .ok (.iaload, 1) := by decide +kernel
theorem d_LA_law_232 : decode code 232 = .ok (.invokevirtual 27, 3) := by decide +kernel
theorem d_LA_law_235 : decode code 235 = .ok (.aload_n 2, 1) := by decide +kernel
theorem d_LA_law_236 : decode code 236 = .ok (.aload_n 0, 1) := by decide +kernel
theorem d_LA_law_237 : decode code 237 = .ok (.iload_n 3, 1) := by decide +kernel
theorem d_LA_law_238 : decode code 238 = .ok (.iconst 1, 1) := by decide +kernel
theorem d_LA_law_239 : decode code 239 = .ok (.iadd, 1) := by decide +kernel
theorem d_LA_law_240 : decode code 240 = .ok (.iaload, 1) := by decide +kernel
theorem d_LA_law_241 : decode code 241 = .ok (.aload_n 0, 1) := by decide +kernel
theorem d_LA_law_242 : decode code 242 = .ok (.iload_n 3, 1) := by decide +kernel
theorem d_LA_law_243 : decode code 243 = .ok (.iconst 2, 1) := by decide +kernel
theorem d_LA_law_244 : decode code 244 = .ok (.iadd, 1) := by decide +kernel
theorem d_LA_law_245 : decode code 245 = .ok (.iaload, 1) := by decide +kernel
theorem d_LA_law_246 : decode code 246 = .ok (.invokevirtual 30, 3) := by decide +kernel
theorem d_LA_law_249 : decode code 249 = .ok (.if_icmp .eq 321, 3) := by decide +kernel
theorem d_LA_law_252 : decode code 252 = .ok (.iconst 0, 1) := by decide +kernel
theorem d_LA_law_253 : decode code 253 = .ok (.ireturn, 1) := by decide +kernel
theorem d_LA_law_254 : decode code 254 = .ok (.aload_n 1, 1) := by decide +kernel
theorem d_LA_law_255 : decode code 255 = .ok (.aload_n 0, 1) := by decide +kernel
theorem d_LA_law_256 : decode code 256 = .ok (.iload_n 3, 1) := by decide +kernel
theorem d_LA_law_257 : decode code 257 = .ok (.iconst 1, 1) := by decide +kernel
theorem d_LA_law_258 : decode code 258 = .ok (.iadd, 1) := by decide +kernel
theorem d_LA_law_259 : decode code 259 = .ok (.iaload, 1) := by decide +kernel
theorem d_LA_law_260 : decode code 260 = .ok (.aload_n 0, 1) := by decide +kernel
theorem d_LA_law_261 : decode code 261 = .ok (.iload_n 3, 1) := by decide +kernel
theorem d_LA_law_262 : decode code 262 = .ok (.iconst 2, 1) := by decide +kernel
theorem d_LA_law_263 : decode code 263 = .ok (.iadd, 1) := by decide +kernel
theorem d_LA_law_264 : decode code 264 = .ok (.iaload, 1) := by decide +kernel
theorem d_LA_law_265 : decode code 265 = .ok (.aload_n 0, 1) := by decide +kernel
theorem d_LA_law_266 : decode code 266 = .ok (.iload_n 3, 1) := by decide +kernel
theorem d_LA_law_267 : decode code 267 = .ok (.iconst 3, 1) := by decide +kernel
theorem d_LA_law_268 : decode code 268 = .ok (.iadd, 1) := by decide +kernel
theorem d_LA_law_269 : decode code 269 = .ok (.iaload, 1) := by decide +kernel
theorem d_LA_law_270 : decode code 270 = .ok (.invokevirtual 31, 3) := by decide +kernel
theorem d_LA_law_273 : decode code 273 = .ok (.aload_n 2, 1) := by decide +kernel
theorem d_LA_law_274 : decode code 274 = .ok (.aload_n 0, 1) := by decide +kernel
theorem d_LA_law_275 : decode code 275 = .ok (.iload_n 3, 1) := by decide +kernel
theorem d_LA_law_276 : decode code 276 = .ok (.iconst 1, 1) := by decide +kernel
theorem d_LA_law_277 : decode code 277 = .ok (.iadd, 1) := by decide +kernel
theorem d_LA_law_278 : decode code 278 = .ok (.iaload, 1) := by decide +kernel
theorem d_LA_law_279 : decode code 279 = .ok (.aload_n 0, 1) := by decide +kernel
theorem d_LA_law_280 : decode code 280 = .ok (.iload_n 3, 1) := by decide +kernel
theorem d_LA_law_281 : decode code 281 = .ok (.iconst 2, 1) := by decide +kernel
theorem d_LA_law_282 : decode code 282 = .ok (.iadd, 1) := by decide +kernel
theorem d_LA_law_283 : decode code 283 = .ok (.iaload, 1) := by decide +kernel
theorem d_LA_law_284 : decode code 284 = .ok (.aload_n 0, 1) := by decide +kernel
theorem d_LA_law_285 : decode code 285 = .ok (.iload_n 3, 1) := by decide +kernel
theorem d_LA_law_286 : decode code 286 = .ok (.iconst 3, 1) := by decide +kernel
theorem d_LA_law_287 : decode code 287 = .ok (.iadd, 1) := by decide +kernel
theorem d_LA_law_288 : decode code 288 = .ok (.iaload, 1) := by decide +kernel
theorem d_LA_law_289 : decode code 289 = .ok (.invokevirtual 34, 3) := by decide +kernel
theorem d_LA_law_292 : decode code 292 = .ok (.if_icmp .eq 278, 3) := by decide +kernel
theorem d_LA_law_295 : decode code 295 = .ok (.iconst 0, 1) := by decide +kernel
theorem d_LA_law_296 : decode code 296 = .ok (.ireturn, 1) := by decide +kernel
theorem d_LA_law_297 : decode code 297 = .ok (.aload_n 1, 1) := by decide +kernel
theorem d_LA_law_298 : decode code 298 = .ok (.aload_n 0, 1) := by decide +kernel
theorem d_LA_law_299 : decode code 299 = .ok (.iload_n 3, 1) := by decide +kernel
theorem d_LA_law_300 : decode code 300 = .ok (.iconst 1, 1) := by decide +kernel
theorem d_LA_law_301 : decode code 301 = .ok (.iadd, 1) := by decide +kernel
theorem d_LA_law_302 : decode code 302 = .ok (.iaload, 1) := by decide +kernel
theorem d_LA_law_303 : decode code 303 = .ok (.invokevirtual 35, 3) := by decide +kernel
theorem d_LA_law_306 : decode code 306 = .ok (.aload_n 2, 1) := by decide +kernel
theorem d_LA_law_307 : decode code 307 = .ok (.aload_n 0, 1) := by decide +kernel
theorem d_LA_law_308 : decode code 308 = .ok (.iload_n 3, 1) := by decide +kernel
theorem d_LA_law_309 : decode code 309 = .ok (.iconst 1, 1) := by decide +kernel
theorem d_LA_law_310 : decode code 310 = .ok (.iadd, 1) := by decide +kernel
theorem d_LA_law_311 : decode code 311 = .ok (.iaload, 1) := by decide +kernel
theorem d_LA_law_312 : decode code 312 = .ok (.invokevirtual 39, 3) := by decide +kernel
theorem d_LA_law_315 : decode code 315 = .ok (.if_icmp .eq 255, 3) := by decide +kernel
theorem d_LA_law_318 : decode code 318 = .ok (.iconst 0, 1) := by decide +kernel
theorem d_LA_law_319 : decode code 319 = .ok (.ireturn, 1) := by decide +kernel
theorem d_LA_law_320 : decode code 320 = .ok (.aload_n 1, 1) := by decide +kernel
theorem d_LA_law_321 : decode code 321 = .ok (.aload_n 0, 1) := by decide +kernel
theorem d_LA_law_322 : decode code 322 = .ok (.iload_n 3, 1) := by decide +kernel
theorem d_LA_law_323 : decode code 323 = .ok (.iconst 1, 1) := by decide +kernel
theorem d_LA_law_324 : decode code 324 = .ok (.iadd, 1) := by decide +kernel
theorem d_LA_law_325 : decode code 325 = .ok (.iaload, 1) := by decide +kernel
