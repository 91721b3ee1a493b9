theorem dX11_init_234 : decode cX11_init 234 = .ok (.ldc 50, 2) := by decide +kernel
theorem dX11_init_236 : decode cX11_init 236 = .ok (.if_icmp .ge 88, 3) := by decide +kernel
theorem dX11_init_239 : decode cX11_init 239 = .ok (.iconst 0, 1) := by decide +kernel
theorem dX11_init_240 : decode cX11_init 240 = .ok (.istore_n 2, 1) := by decide +kernel
theorem dX11_init_241 : decode cX11_init 241 = .ok (.iload_n 1, 1) := by decide +kernel
theorem dX11_init_242 : decode cX11_init 242 = .ok (.istore_n 3, 1) := by decide +kernel
theorem dX11_init_243 : decode cX11_init 243 = .ok (.iload_n 3, 1) := by decide +kernel
theorem dX11_init_244 : decode cX11_init 244 = .ok (.ifCond .le 18, 3) := by decide +kernel
theorem dX11_init_247 : decode cX11_init 247 = .ok (.iload_n 2, 1) := by decide +kernel
theorem dX11_init_248 : decode cX11_init 248 = .ok (.iload_n 3, 1) := by decide +kernel
theorem dX11_init_249 : decode cX11_init 249 = .ok (.bipush 9, 2) := by decide +kernel
theorem dX11_init_251 : decode cX11_init 251 = .ok (.irem, 1) := by decide +kernel
theorem dX11_init_252 : decode cX11_init 252 = .ok (.iadd, 1) := by decide +kernel
theorem dX11_init_253 : decode cX11_init 253 = .ok (.istore_n 2, 1) := by decide +kernel
theorem dX11_init_254 : decode cX11_init 254 = .ok (.iload_n 3, 1) := by decide +kernel
theorem dX11_init_255 : decode cX11_init 255 = .ok (.bipush 9, 2) := by decide +kernel
theorem dX11_init_257 : decode cX11_init 257 = .ok (.idiv, 1) := by decide +kernel
theorem dX11_init_258 : decode cX11_init 258 = .ok (.istore_n 3, 1) := by decide +kernel
theorem dX11_init_259 : decode cX11_init 259 = .ok (.goto (-16), 3) := by decide +kernel
theorem dX11_init_262 : decode cX11_init 262 = .ok (.aload_n 0, 1) := by decide +kernel
theorem dX11_init_263 : decode cX11_init 263 = .ok (.getfield 51, 3) := by decide +kernel
theorem dX11_init_266 : decode cX11_init 266 = .ok (.iload_n 1, 1) := by decide +kernel
theorem dX11_init_267 : decode cX11_init 267 = .ok (.iconst (-1), 1) := by decide +kernel
theorem dX11_init_268 : decode cX11_init 268 = .ok (.iastore, 1) := by decide +kernel
theorem dX11_init_269 : decode cX11_init 269 = .ok (.iload_n 2, 1) := by decide +kernel
theorem dX11_init_270 : decode cX11_init 270 = .ok (.bipush 8, 2) := by decide +kernel
theorem dX11_init_272 : decode cX11_init 272 = .ok (.if_icmp .le 6, 3) := by decide +kernel
theorem dX11_init_275 : decode cX11_init 275 = .ok (.goto 43, 3) := by decide +kernel
theorem dX11_init_278 : decode cX11_init 278 = .ok (.aload_n 0, 1) := by decide +kernel
theorem dX11_init_279 : decode cX11_init 279 = .ok (.getfield 51, 3) := by decide +kernel
theorem dX11_init_282 : decode cX11_init 282 = .ok (.iload_n 1, 1) := by decide +kernel
theorem dX11_init_283 : decode cX11_init 283 = .ok (.aload_n 0, 1) := by decide +kernel
theorem dX11_init_284 : decode cX11_init 284 = .ok (.getfield 94, 3) := by decide +kernel
theorem dX11_init_287 : decode cX11_init 287 = .ok (.iastore, 1) := by decide +kernel
theorem dX11_init_288 : decode cX11_init 288 = .ok (.aload_n 0, 1) := by decide +kernel
theorem dX11_init_289 : decode cX11_init 289 = .ok (.getfield 44, 3) := by decide +kernel
theorem dX11_init_292 : decode cX11_init 292 = .ok (.aload_n 0, 1) := by decide +kernel
theorem dX11_init_293 : decode cX11_init 293 = .ok (.getfield 94, 3) := by decide +kernel
theorem dX11_init_296 : decode cX11_init 296 = .ok (.iload_n 1, 1) := by decide +kernel
theorem dX11_init_297 : decode cX11_init 297 = .ok (.iastore, 1) := by decide +kernel
theorem dX11_init_298 : decode cX11_init 298 = .ok (.aload_n 0, 1) := by decide +kernel
theorem dX11_init_299 : decode cX11_init 299 = .ok (.getfield 47, 3) := by decide +kernel
theorem dX11_init_302 : decode cX11_init 302 = .ok (.aload_n 0, 1) := by decide +kernel
theorem dX11_init_303 : decode cX11_init 303 = .ok (.getfield 94, 3) := by decide +kernel
theorem dX11_init_306 : decode cX11_init 306 = .ok (.iload_n 2, 1) := by decide +kernel
theorem dX11_init_307 : decode cX11_init 307 = .ok (.iastore, 1) := by decide +kernel
theorem dX11_init_308 : decode cX11_init 308 = .ok (.aload_n 0, 1) := by decide +kernel
theorem dX11_init_309 : decode cX11_init 309 = .ok (.dup, 1) := by decide +kernel
theorem dX11_init_310 : decode cX11_init 310 = .ok (.getfield 94, 3) := by decide +kernel
theorem dX11_init_313 : decode cX11_init 313 = .ok (.iconst 1, 1) := by decide +kernel
theorem dX11_init_314 : decode cX11_init 314 = .ok (.iadd, 1) := by decide +kernel
theorem dX11_init_315 : decode cX11_init 315 = .ok (.putfield 94, 3) := by decide +kernel
theorem dX11_init_318 : decode cX11_init 318 = .ok (.iinc 1 1, 3) := by decide +kernel
theorem dX11_init_321 : decode cX11_init 321 = .ok (.goto (-88), 3) := by decide +kernel
theorem dX11_init_324 : decode cX11_init 324 = .ok (.return_, 1) := by decide +kernel
theorem dX11_isNode_0 : decode cX11_isNode 0 = .ok (.iload_n 0, 1) := by decide +kernel
theorem dX11_isNode_1 : decode cX11_isNode 1 = .ok (.ifCond .lt 13, 3) := by decide +kernel
theorem dX11_isNode_4 : decode cX11_isNode 4 = .ok (.iload_n 0, 1) := by decide +kernel
theorem dX11_isNode_5 : decode cX11_isNode 5 = .ok (.bipush 16, 2) := by decide +kernel
theorem dX11_isNode_7 : decode cX11_isNode 7 = .ok (.if_icmp .ge 7, 3) := by decide +kernel
