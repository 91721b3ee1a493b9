theorem dX11_make_194 : decode cX11_make 194 = .ok (.iload 5, 2) := by decide +kernel
theorem dX11_make_196 : decode cX11_make 196 = .ok (.iadd, 1) := by decide +kernel
theorem dX11_make_197 : decode cX11_make 197 = .ok (.baload, 1) := by decide +kernel
theorem dX11_make_198 : decode cX11_make 198 = .ok (.ifCond .ne 24, 3) := by decide +kernel
theorem dX11_make_201 : decode cX11_make 201 = .ok (.aload_n 0, 1) := by decide +kernel
theorem dX11_make_202 : decode cX11_make 202 = .ok (.getfield 55, 3) := by decide +kernel
theorem dX11_make_205 : decode cX11_make 205 = .ok (.aload_n 0, 1) := by decide +kernel
theorem dX11_make_206 : decode cX11_make 206 = .ok (.aload_n 0, 1) := by decide +kernel
theorem dX11_make_207 : decode cX11_make 207 = .ok (.getfield 23, 3) := by decide +kernel
theorem dX11_make_210 : decode cX11_make 210 = .ok (.iload_n 3, 1) := by decide +kernel
theorem dX11_make_211 : decode cX11_make 211 = .ok (.iaload, 1) := by decide +kernel
theorem dX11_make_212 : decode cX11_make 212 = .ok (.invokevirtual 135, 3) := by decide +kernel
theorem dX11_make_215 : decode cX11_make 215 = .ok (.iload 5, 2) := by decide +kernel
theorem dX11_make_217 : decode cX11_make 217 = .ok (.iadd, 1) := by decide +kernel
theorem dX11_make_218 : decode cX11_make 218 = .ok (.baload, 1) := by decide +kernel
theorem dX11_make_219 : decode cX11_make 219 = .ok (.ifCond .eq 7, 3) := by decide +kernel
theorem dX11_make_222 : decode cX11_make 222 = .ok (.iconst 1, 1) := by decide +kernel
theorem dX11_make_223 : decode cX11_make 223 = .ok (.goto 4, 3) := by decide +kernel
theorem dX11_make_226 : decode cX11_make 226 = .ok (.iconst 0, 1) := by decide +kernel
theorem dX11_make_227 : decode cX11_make 227 = .ok (.bastore, 1) := by decide +kernel
theorem dX11_make_228 : decode cX11_make 228 = .ok (.iinc 5 1, 3) := by decide +kernel
theorem dX11_make_231 : decode cX11_make 231 = .ok (.goto (-69), 3) := by decide +kernel
theorem dX11_make_234 : decode cX11_make 234 = .ok (.goto 86, 3) := by decide +kernel
theorem dX11_make_237 : decode cX11_make 237 = .ok (.aload_n 0, 1) := by decide +kernel
theorem dX11_make_238 : decode cX11_make 238 = .ok (.getfield 26, 3) := by decide +kernel
theorem dX11_make_241 : decode cX11_make 241 = .ok (.iload_n 3, 1) := by decide +kernel
theorem dX11_make_242 : decode cX11_make 242 = .ok (.iaload, 1) := by decide +kernel
theorem dX11_make_243 : decode cX11_make 243 = .ok (.ifCond .lt 18, 3) := by decide +kernel
theorem dX11_make_246 : decode cX11_make 246 = .ok (.aload_n 0, 1) := by decide +kernel
theorem dX11_make_247 : decode cX11_make 247 = .ok (.getfield 26, 3) := by decide +kernel
theorem dX11_make_250 : decode cX11_make 250 = .ok (.iload_n 3, 1) := by decide +kernel
theorem dX11_make_251 : decode cX11_make 251 = .ok (.iaload, 1) := by decide +kernel
theorem dX11_make_252 : decode cX11_make 252 = .ok (.aload_n 0, 1) := by decide +kernel
theorem dX11_make_253 : decode cX11_make 253 = .ok (.getfield 23, 3) := by decide +kernel
theorem dX11_make_256 : decode cX11_make 256 = .ok (.iload_n 3, 1) := by decide +kernel
theorem dX11_make_257 : decode cX11_make 257 = .ok (.iaload, 1) := by decide +kernel
theorem dX11_make_258 : decode cX11_make 258 = .ok (.if_icmp .lt 62, 3) := by decide +kernel
theorem dX11_make_261 : decode cX11_make 261 = .ok (.aload_n 0, 1) := by decide +kernel
theorem dX11_make_262 : decode cX11_make 262 = .ok (.aload_n 0, 1) := by decide +kernel
theorem dX11_make_263 : decode cX11_make 263 = .ok (.aload_n 0, 1) := by decide +kernel
theorem dX11_make_264 : decode cX11_make 264 = .ok (.getfield 20, 3) := by decide +kernel
theorem dX11_make_267 : decode cX11_make 267 = .ok (.iload_n 3, 1) := by decide +kernel
theorem dX11_make_268 : decode cX11_make 268 = .ok (.iaload, 1) := by decide +kernel
theorem dX11_make_269 : decode cX11_make 269 = .ok (.invokevirtual 135, 3) := by decide +kernel
theorem dX11_make_272 : decode cX11_make 272 = .ok (.iload 4, 2) := by decide +kernel
theorem dX11_make_274 : decode cX11_make 274 = .ok (.aload_n 0, 1) := by decide +kernel
theorem dX11_make_275 : decode cX11_make 275 = .ok (.getfield 23, 3) := by decide +kernel
theorem dX11_make_278 : decode cX11_make 278 = .ok (.iload_n 3, 1) := by decide +kernel
theorem dX11_make_279 : decode cX11_make 279 = .ok (.iaload, 1) := by decide +kernel
theorem dX11_make_280 : decode cX11_make 280 = .ok (.invokestatic 146, 3) := by decide +kernel
theorem dX11_make_283 : decode cX11_make 283 = .ok (.aload_n 0, 1) := by decide +kernel
theorem dX11_make_284 : decode cX11_make 284 = .ok (.getfield 26, 3) := by decide +kernel
theorem dX11_make_287 : decode cX11_make 287 = .ok (.iload_n 3, 1) := by decide +kernel
theorem dX11_make_288 : decode cX11_make 288 = .ok (.iaload, 1) := by decide +kernel
theorem dX11_make_289 : decode cX11_make 289 = .ok (.ifCond .ge 8, 3) := by decide +kernel
theorem dX11_make_292 : decode cX11_make 292 = .ok (.bipush 9, 2) := by decide +kernel
theorem dX11_make_294 : decode cX11_make 294 = .ok (.goto 12, 3) := by decide +kernel
theorem dX11_make_297 : decode cX11_make 297 = .ok (.aload_n 0, 1) := by decide +kernel
theorem dX11_make_298 : decode cX11_make 298 = .ok (.getfield 26, 3) := by decide +kernel
theorem dX11_make_301 : decode cX11_make 301 = .ok (.iload_n 3, 1) := by decide +kernel
