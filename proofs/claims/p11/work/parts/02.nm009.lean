theorem dX11_expression_172 : decode cX11_expression 172 = .ok (.iload_n 2, 1) := by decide +kernel
theorem dX11_expression_173 : decode cX11_expression 173 = .ok (.iastore, 1) := by decide +kernel
theorem dX11_expression_174 : decode cX11_expression 174 = .ok (.aload_n 0, 1) := by decide +kernel
theorem dX11_expression_175 : decode cX11_expression 175 = .ok (.getfield 23, 3) := by decide +kernel
theorem dX11_expression_178 : decode cX11_expression 178 = .ok (.aload_n 0, 1) := by decide +kernel
theorem dX11_expression_179 : decode cX11_expression 179 = .ok (.getfield 97, 3) := by decide +kernel
theorem dX11_expression_182 : decode cX11_expression 182 = .ok (.iload_n 3, 1) := by decide +kernel
theorem dX11_expression_183 : decode cX11_expression 183 = .ok (.iastore, 1) := by decide +kernel
theorem dX11_expression_184 : decode cX11_expression 184 = .ok (.aload_n 0, 1) := by decide +kernel
theorem dX11_expression_185 : decode cX11_expression 185 = .ok (.getfield 26, 3) := by decide +kernel
theorem dX11_expression_188 : decode cX11_expression 188 = .ok (.aload_n 0, 1) := by decide +kernel
theorem dX11_expression_189 : decode cX11_expression 189 = .ok (.getfield 97, 3) := by decide +kernel
theorem dX11_expression_192 : decode cX11_expression 192 = .ok (.iload 4, 2) := by decide +kernel
theorem dX11_expression_194 : decode cX11_expression 194 = .ok (.iastore, 1) := by decide +kernel
theorem dX11_expression_195 : decode cX11_expression 195 = .ok (.aload_n 0, 1) := by decide +kernel
theorem dX11_expression_196 : decode cX11_expression 196 = .ok (.dup, 1) := by decide +kernel
theorem dX11_expression_197 : decode cX11_expression 197 = .ok (.getfield 97, 3) := by decide +kernel
theorem dX11_expression_200 : decode cX11_expression 200 = .ok (.iconst 1, 1) := by decide +kernel
theorem dX11_expression_201 : decode cX11_expression 201 = .ok (.iadd, 1) := by decide +kernel
theorem dX11_expression_202 : decode cX11_expression 202 = .ok (.putfield 97, 3) := by decide +kernel
theorem dX11_expression_205 : decode cX11_expression 205 = .ok (.aload_n 0, 1) := by decide +kernel
theorem dX11_expression_206 : decode cX11_expression 206 = .ok (.getfield 97, 3) := by decide +kernel
theorem dX11_expression_209 : decode cX11_expression 209 = .ok (.iconst 1, 1) := by decide +kernel
theorem dX11_expression_210 : decode cX11_expression 210 = .ok (.isub, 1) := by decide +kernel
theorem dX11_expression_211 : decode cX11_expression 211 = .ok (.ireturn, 1) := by decide +kernel
theorem dX11_findPlaces_0 : decode cX11_findPlaces 0 = .ok (.iconst 0, 1) := by decide +kernel
theorem dX11_findPlaces_1 : decode cX11_findPlaces 1 = .ok (.istore_n 2, 1) := by decide +kernel
theorem dX11_findPlaces_2 : decode cX11_findPlaces 2 = .ok (.iload_n 2, 1) := by decide +kernel
theorem dX11_findPlaces_3 : decode cX11_findPlaces 3 = .ok (.bipush 60, 2) := by decide +kernel
theorem dX11_findPlaces_5 : decode cX11_findPlaces 5 = .ok (.if_icmp .ge 25, 3) := by decide +kernel
theorem dX11_findPlaces_8 : decode cX11_findPlaces 8 = .ok (.aload_n 0, 1) := by decide +kernel
theorem dX11_findPlaces_9 : decode cX11_findPlaces 9 = .ok (.getfield 59, 3) := by decide +kernel
theorem dX11_findPlaces_12 : decode cX11_findPlaces 12 = .ok (.iload_n 2, 1) := by decide +kernel
theorem dX11_findPlaces_13 : decode cX11_findPlaces 13 = .ok (.iload_n 2, 1) := by decide +kernel
theorem dX11_findPlaces_14 : decode cX11_findPlaces 14 = .ok (.iload_n 1, 1) := by decide +kernel
theorem dX11_findPlaces_15 : decode cX11_findPlaces 15 = .ok (.if_icmp .ne 7, 3) := by decide +kernel
theorem dX11_findPlaces_18 : decode cX11_findPlaces 18 = .ok (.iconst 1, 1) := by decide +kernel
theorem dX11_findPlaces_19 : decode cX11_findPlaces 19 = .ok (.goto 4, 3) := by decide +kernel
theorem dX11_findPlaces_22 : decode cX11_findPlaces 22 = .ok (.iconst 0, 1) := by decide +kernel
theorem dX11_findPlaces_23 : decode cX11_findPlaces 23 = .ok (.bastore, 1) := by decide +kernel
theorem dX11_findPlaces_24 : decode cX11_findPlaces 24 = .ok (.iinc 2 1, 3) := by decide +kernel
theorem dX11_findPlaces_27 : decode cX11_findPlaces 27 = .ok (.goto (-25), 3) := by decide +kernel
theorem dX11_findPlaces_30 : decode cX11_findPlaces 30 = .ok (.iload_n 1, 1) := by decide +kernel
theorem dX11_findPlaces_31 : decode cX11_findPlaces 31 = .ok (.istore_n 2, 1) := by decide +kernel
theorem dX11_findPlaces_32 : decode cX11_findPlaces 32 = .ok (.iload_n 2, 1) := by decide +kernel
theorem dX11_findPlaces_33 : decode cX11_findPlaces 33 = .ok (.ifCond .lt 75, 3) := by decide +kernel
theorem dX11_findPlaces_36 : decode cX11_findPlaces 36 = .ok (.aload_n 0, 1) := by decide +kernel
theorem dX11_findPlaces_37 : decode cX11_findPlaces 37 = .ok (.getfield 59, 3) := by decide +kernel
theorem dX11_findPlaces_40 : decode cX11_findPlaces 40 = .ok (.iload_n 2, 1) := by decide +kernel
theorem dX11_findPlaces_41 : decode cX11_findPlaces 41 = .ok (.baload, 1) := by decide +kernel
theorem dX11_findPlaces_42 : decode cX11_findPlaces 42 = .ok (.ifCond .eq 60, 3) := by decide +kernel
theorem dX11_findPlaces_45 : decode cX11_findPlaces 45 = .ok (.aload_n 0, 1) := by decide +kernel
theorem dX11_findPlaces_46 : decode cX11_findPlaces 46 = .ok (.getfield 17, 3) := by decide +kernel
theorem dX11_findPlaces_49 : decode cX11_findPlaces 49 = .ok (.iload_n 2, 1) := by decide +kernel
theorem dX11_findPlaces_50 : decode cX11_findPlaces 50 = .ok (.iaload, 1) := by decide +kernel
theorem dX11_findPlaces_51 : decode cX11_findPlaces 51 = .ok (.iconst 2, 1) := by decide +kernel
theorem dX11_findPlaces_52 : decode cX11_findPlaces 52 = .ok (.if_icmp .lt 50, 3) := by decide +kernel
theorem dX11_findPlaces_55 : decode cX11_findPlaces 55 = .ok (.aload_n 0, 1) := by decide +kernel
theorem dX11_findPlaces_56 : decode cX11_findPlaces 56 = .ok (.getfield 17, 3) := by decide +kernel
theorem dX11_findPlaces_59 : decode cX11_findPlaces 59 = .ok (.iload_n 2, 1) := by decide +kernel
