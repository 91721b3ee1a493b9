theorem dX11_repeat_162 : decode cX11_repeat 162 = .ok (.ifCond .eq 67, 3) := by decide +kernel
theorem dX11_repeat_165 : decode cX11_repeat 165 = .ok (.aload_n 0, 1) := by decide +kernel
theorem dX11_repeat_166 : decode cX11_repeat 166 = .ok (.getfield 55, 3) := by decide +kernel
theorem dX11_repeat_169 : decode cX11_repeat 169 = .ok (.iload_n 1, 1) := by decide +kernel
theorem dX11_repeat_170 : decode cX11_repeat 170 = .ok (.iload 7, 2) := by decide +kernel
theorem dX11_repeat_172 : decode cX11_repeat 172 = .ok (.iadd, 1) := by decide +kernel
theorem dX11_repeat_173 : decode cX11_repeat 173 = .ok (.baload, 1) := by decide +kernel
theorem dX11_repeat_174 : decode cX11_repeat 174 = .ok (.ifCond .eq 49, 3) := by decide +kernel
theorem dX11_repeat_177 : decode cX11_repeat 177 = .ok (.aload_n 0, 1) := by decide +kernel
theorem dX11_repeat_178 : decode cX11_repeat 178 = .ok (.getfield 47, 3) := by decide +kernel
theorem dX11_repeat_181 : decode cX11_repeat 181 = .ok (.iload 6, 2) := by decide +kernel
theorem dX11_repeat_183 : decode cX11_repeat 183 = .ok (.iaload, 1) := by decide +kernel
theorem dX11_repeat_184 : decode cX11_repeat 184 = .ok (.aload_n 0, 1) := by decide +kernel
theorem dX11_repeat_185 : decode cX11_repeat 185 = .ok (.getfield 47, 3) := by decide +kernel
theorem dX11_repeat_188 : decode cX11_repeat 188 = .ok (.iload 7, 2) := by decide +kernel
theorem dX11_repeat_190 : decode cX11_repeat 190 = .ok (.iaload, 1) := by decide +kernel
theorem dX11_repeat_191 : decode cX11_repeat 191 = .ok (.iadd, 1) := by decide +kernel
theorem dX11_repeat_192 : decode cX11_repeat 192 = .ok (.bipush 9, 2) := by decide +kernel
theorem dX11_repeat_194 : decode cX11_repeat 194 = .ok (.if_icmp .ge 29, 3) := by decide +kernel
theorem dX11_repeat_197 : decode cX11_repeat 197 = .ok (.aload_n 0, 1) := by decide +kernel
theorem dX11_repeat_198 : decode cX11_repeat 198 = .ok (.getfield 74, 3) := by decide +kernel
theorem dX11_repeat_201 : decode cX11_repeat 201 = .ok (.aload_n 0, 1) := by decide +kernel
theorem dX11_repeat_202 : decode cX11_repeat 202 = .ok (.getfield 51, 3) := by decide +kernel
theorem dX11_repeat_205 : decode cX11_repeat 205 = .ok (.aload_n 0, 1) := by decide +kernel
theorem dX11_repeat_206 : decode cX11_repeat 206 = .ok (.getfield 44, 3) := by decide +kernel
theorem dX11_repeat_209 : decode cX11_repeat 209 = .ok (.iload 6, 2) := by decide +kernel
theorem dX11_repeat_211 : decode cX11_repeat 211 = .ok (.iaload, 1) := by decide +kernel
theorem dX11_repeat_212 : decode cX11_repeat 212 = .ok (.aload_n 0, 1) := by decide +kernel
theorem dX11_repeat_213 : decode cX11_repeat 213 = .ok (.getfield 44, 3) := by decide +kernel
theorem dX11_repeat_216 : decode cX11_repeat 216 = .ok (.iload 7, 2) := by decide +kernel
theorem dX11_repeat_218 : decode cX11_repeat 218 = .ok (.iaload, 1) := by decide +kernel
theorem dX11_repeat_219 : decode cX11_repeat 219 = .ok (.iadd, 1) := by decide +kernel
theorem dX11_repeat_220 : decode cX11_repeat 220 = .ok (.iaload, 1) := by decide +kernel
theorem dX11_repeat_221 : decode cX11_repeat 221 = .ok (.iconst 1, 1) := by decide +kernel
theorem dX11_repeat_222 : decode cX11_repeat 222 = .ok (.bastore, 1) := by decide +kernel
theorem dX11_repeat_223 : decode cX11_repeat 223 = .ok (.iinc 7 1, 3) := by decide +kernel
theorem dX11_repeat_226 : decode cX11_repeat 226 = .ok (.goto (-80), 3) := by decide +kernel
theorem dX11_repeat_229 : decode cX11_repeat 229 = .ok (.iinc 6 1, 3) := by decide +kernel
theorem dX11_repeat_232 : decode cX11_repeat 232 = .ok (.goto (-98), 3) := by decide +kernel
theorem dX11_repeat_235 : decode cX11_repeat 235 = .ok (.iconst 0, 1) := by decide +kernel
theorem dX11_repeat_236 : decode cX11_repeat 236 = .ok (.istore 6, 2) := by decide +kernel
theorem dX11_repeat_238 : decode cX11_repeat 238 = .ok (.iload 6, 2) := by decide +kernel
theorem dX11_repeat_240 : decode cX11_repeat 240 = .ok (.aload_n 0, 1) := by decide +kernel
theorem dX11_repeat_241 : decode cX11_repeat 241 = .ok (.getfield 94, 3) := by decide +kernel
theorem dX11_repeat_244 : decode cX11_repeat 244 = .ok (.if_icmp .ge 23, 3) := by decide +kernel
theorem dX11_repeat_247 : decode cX11_repeat 247 = .ok (.aload_n 0, 1) := by decide +kernel
theorem dX11_repeat_248 : decode cX11_repeat 248 = .ok (.getfield 71, 3) := by decide +kernel
theorem dX11_repeat_251 : decode cX11_repeat 251 = .ok (.iload 6, 2) := by decide +kernel
theorem dX11_repeat_253 : decode cX11_repeat 253 = .ok (.aload_n 0, 1) := by decide +kernel
theorem dX11_repeat_254 : decode cX11_repeat 254 = .ok (.getfield 74, 3) := by decide +kernel
theorem dX11_repeat_257 : decode cX11_repeat 257 = .ok (.iload 6, 2) := by decide +kernel
theorem dX11_repeat_259 : decode cX11_repeat 259 = .ok (.baload, 1) := by decide +kernel
theorem dX11_repeat_260 : decode cX11_repeat 260 = .ok (.bastore, 1) := by decide +kernel
theorem dX11_repeat_261 : decode cX11_repeat 261 = .ok (.iinc 6 1, 3) := by decide +kernel
theorem dX11_repeat_264 : decode cX11_repeat 264 = .ok (.goto (-26), 3) := by decide +kernel
theorem dX11_repeat_267 : decode cX11_repeat 267 = .ok (.iinc 5 1, 3) := by decide +kernel
theorem dX11_repeat_270 : decode cX11_repeat 270 = .ok (.goto (-232), 3) := by decide +kernel
theorem dX11_repeat_273 : decode cX11_repeat 273 = .ok (.return_, 1) := by decide +kernel
theorem dX11_isOut_0 : decode cX11_isOut 0 = .ok (.aload_n 0, 1) := by decide +kernel
theorem dX11_isOut_1 : decode cX11_isOut 1 = .ok (.getfield 17, 3) := by decide +kernel
