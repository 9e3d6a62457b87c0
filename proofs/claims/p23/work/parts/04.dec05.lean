set_option maxRecDepth 20000 in
theorem ggL_act_X4_more : GoodIn wsL_act wsX4_more := goodIn_r _ [147, 22] (by decide +kernel) (by decide +kernel)
set_option maxRecDepth 20000 in
theorem gL_act_X4_more : GoodIn wsL_act (va_wsS RL 48 yX4_more wsX4_more) := goodIn_app (goodIn_of _ (by decide +kernel)) ggL_act_X4_more
set_option maxRecDepth 20000 in
theorem ggL_act_X3_say : GoodIn wsL_act wsX3_say := goodIn_ca (goodIn_ca (goodIn_r _ [151, 59, 60, 35, 152, 153, 154, 155, 156, 28, 157, 68, 69, 34, 158, 80, 81, 82, 39, 83, 44, 159, 160, 161, 162, 163, 164, 165, 166, 167, 168, 169, 170, 171, 172, 173, 174, 43, 175, 176, 177, 63, 178, 91, 92, 179, 180, 181, 182, 183, 184, 185, 186, 48, 187, 188, 189, 50, 190, 191, 192, 193, 194, 195, 196, 197, 198, 90, 199, 200, 201, 73, 202, 203, 204, 205, 206, 207, 208, 209, 242, 243, 244, 252, 253, 254, 255, 256, 246, 247, 248, 249, 250, 251, 245] (by decide +kernel) (by decide +kernel)) (goodIn_sub (fun _ h => List.mem_cons_of_mem _ (List.mem_append_left _ (List.mem_append_right _ h))) (by decide +kernel))) (goodIn_sub (fun _ h => List.mem_cons_of_mem _ (List.mem_append_right _ h)) (by decide +kernel))
set_option maxRecDepth 20000 in
theorem gL_act_X3_say : GoodIn wsL_act (wsV RL 52 RX3 yX3_say wsX3_say) := goodIn_app (goodIn_of _ (by decide +kernel)) ggL_act_X3_say
set_option maxRecDepth 20000 in
theorem ggL_act_X3_hush : GoodIn wsL_act wsX3_hush := goodIn_ca (goodIn_r _ [213, 152, 35, 153, 154, 155, 156, 28, 157, 68, 69, 34, 158, 80, 81, 82, 39, 83, 44, 159, 160, 161, 162, 163, 164, 165, 166, 167, 168, 169, 170, 171, 172, 173, 174, 43, 214, 215, 216, 48, 217, 218, 219, 185, 186, 187, 188, 189, 50, 190, 191, 192, 193, 63, 194, 92, 195, 196, 197, 198, 90, 199, 200, 201, 73, 202, 203, 204, 205, 206, 207, 208, 209, 252, 253, 254, 255, 256, 242, 243, 244, 246, 247, 248, 249, 250, 251, 245] (by decide +kernel) (by decide +kernel)) (goodIn_sub (fun _ h => List.mem_cons_of_mem _ (List.mem_append_right _ h)) (by decide +kernel))
set_option maxRecDepth 20000 in
theorem gL_act_X3_hush : GoodIn wsL_act (wsV RL 56 RX3 yX3_hush wsX3_hush) := goodIn_app (goodIn_of _ (by decide +kernel)) ggL_act_X3_hush
set_option maxRecDepth 20000 in
theorem ggL_act_X3_setDelay : GoodIn wsL_act wsX3_setDelay := goodIn_ca (goodIn_ca (goodIn_r _ [223, 224, 35, 153, 154, 155, 156, 28, 157, 68, 69, 34, 158, 80, 81, 82, 39, 83, 44, 159, 160, 161, 162, 163, 164, 165, 166, 167, 168, 169, 170, 171, 172, 173, 174, 43, 225, 226, 227, 228, 30, 31, 32, 33, 214, 215, 216, 48, 217, 218, 219, 185, 186, 187, 188, 189, 50, 190, 191, 192, 193, 63, 194, 92, 195, 196, 197, 198, 90, 199, 200, 201, 73, 202, 203, 204, 205, 206, 207, 208, 209, 252, 253, 254, 255, 256, 242, 243, 244, 246, 247, 248, 245, 249, 250, 251] (by decide +kernel) (by decide +kernel)) (goodIn_sub (fun _ h => List.mem_cons_of_mem _ (List.mem_append_right _ h)) (by decide +kernel))) (goodIn_sub (fun _ h => List.mem_cons_of_mem _ (List.mem_append_left _ (List.mem_append_left _ (List.mem_append_right _ h)))) (by decide +kernel))
set_option maxRecDepth 20000 in
theorem gL_act_X3_setDelay : GoodIn wsL_act (wsV RL 59 RX3 yX3_setDelay wsX3_setDelay) := goodIn_app (goodIn_of _ (by decide +kernel)) ggL_act_X3_setDelay
set_option maxRecDepth 20000 in
theorem ggL_act_X3_setStrength : GoodIn wsL_act wsX3_setStrength := goodIn_ca (goodIn_ca (goodIn_r _ [232, 153, 35, 154, 155, 156, 28, 157, 68, 69, 34, 158, 80, 81, 82, 39, 83, 44, 159, 160, 161, 162, 163, 164, 165, 166, 167, 168, 169, 170, 171, 172, 173, 174, 43, 76, 77, 78, 79, 30, 31, 214, 215, 216, 48, 217, 218, 219, 185, 186, 187, 188, 189, 50, 190, 191, 192, 193, 63, 194, 92, 195, 196, 197, 198, 90, 199, 200, 201, 73, 202, 203, 204, 205, 206, 207, 208, 209, 252, 253, 254, 255, 256, 242, 243, 244, 246, 247, 248, 249, 250, 251, 245] (by decide +kernel) (by decide +kernel)) (goodIn_sub (fun _ h => List.mem_cons_of_mem _ (List.mem_append_right _ h)) (by decide +kernel))) (goodIn_sub (fun _ h => List.mem_cons_of_mem _ (List.mem_append_left _ (List.mem_append_left _ (List.mem_append_right _ h)))) (by decide +kernel))
set_option maxRecDepth 20000 in
theorem gL_act_X3_setStrength : GoodIn wsL_act (wsV RL 62 RX3 yX3_setStrength wsX3_setStrength) := goodIn_app (goodIn_of _ (by decide +kernel)) ggL_act_X3_setStrength
set_option maxRecDepth 20000 in
theorem ggL_act_X3_setStorm : GoodIn wsL_act wsX3_setStorm := goodIn_ca (goodIn_ca (goodIn_r _ [236, 68, 69, 30, 31, 35, 237, 242, 243, 244, 249, 250, 251] (by decide +kernel) (by decide +kernel)) (goodIn_sub (fun _ h => List.mem_cons_of_mem _ (List.mem_append_right _ h)) (by decide +kernel))) (goodIn_sub (fun _ h => List.mem_cons_of_mem _ (List.mem_append_left _ (List.mem_append_left _ (List.mem_append_right _ h)))) (by decide +kernel))
set_option maxRecDepth 20000 in
theorem gL_act_X3_setStorm : GoodIn wsL_act (wsV RL 68 RX3 yX3_setStorm wsX3_setStorm) := goodIn_app (goodIn_of _ (by decide +kernel)) ggL_act_X3_setStorm
theorem dL_act_0 : decode cL_act 0 = .ok (.aload_n 1, 1) := by decide +kernel
theorem dL_act_1 : decode cL_act 1 = .ok (.getfield 9, 3) := by decide +kernel
theorem dL_act_4 : decode cL_act 4 = .ok (.arraylength, 1) := by decide +kernel
theorem dL_act_5 : decode cL_act 5 = .ok (.istore_n 3, 1) := by decide +kernel
theorem dL_act_6 : decode cL_act 6 = .ok (.aload_n 1, 1) := by decide +kernel
theorem dL_act_7 : decode cL_act 7 = .ok (.invokevirtual 15, 3) := by decide +kernel
theorem dL_act_10 : decode cL_act 10 = .ok (.istore 4, 2) := by decide +kernel
theorem dL_act_12 : decode cL_act 12 = .ok (.iload_n 3, 1) := by decide +kernel
theorem dL_act_13 : decode cL_act 13 = .ok (.ifCond .ne 7, 3) := by decide +kernel
theorem dL_act_16 : decode cL_act 16 = .ok (.iconst (-1), 1) := by decide +kernel
theorem dL_act_17 : decode cL_act 17 = .ok (.goto 10, 3) := by decide +kernel
theorem dL_act_20 : decode cL_act 20 = .ok (.iload_n 2, 1) := by decide +kernel
theorem dL_act_21 : decode cL_act 21 = .ok (.iconst 4, 1) := by decide +kernel
theorem dL_act_22 : decode cL_act 22 = .ok (.ishr, 1) := by decide +kernel
theorem dL_act_23 : decode cL_act 23 = .ok (.iload_n 3, 1) := by decide +kernel
theorem dL_act_24 : decode cL_act 24 = .ok (.invokestatic 19, 3) := by decide +kernel
theorem dL_act_27 : decode cL_act 27 = .ok (.istore 5, 2) := by decide +kernel
theorem dL_act_29 : decode cL_act 29 = .ok (.iload_n 2, 1) := by decide +kernel
theorem dL_act_30 : decode cL_act 30 = .ok (.bipush 14, 2) := by decide +kernel
theorem dL_act_32 : decode cL_act 32 = .ok (.invokestatic 19, 3) := by decide +kernel
theorem dL_act_35 : decode cL_act 35 = .ok (.tableswitch 560 0 10 #[57, 123, 123, 234, 234, 234, 234, 382, 436, 436, 497], 57) := by decide +kernel
theorem dL_act_92 : decode cL_act 92 = .ok (.iload_n 2, 1) := by decide +kernel
theorem dL_act_93 : decode cL_act 93 = .ok (.iconst 4, 1) := by decide +kernel
theorem dL_act_94 : decode cL_act 94 = .ok (.ishr, 1) := by decide +kernel
theorem dL_act_95 : decode cL_act 95 = .ok (.iconst 4, 1) := by decide +kernel
theorem dL_act_96 : decode cL_act 96 = .ok (.invokestatic 19, 3) := by decide +kernel
theorem dL_act_99 : decode cL_act 99 = .ok (.ifCond .le 5, 3) := by decide +kernel
theorem dL_act_102 : decode cL_act 102 = .ok (.iconst 1, 1) := by decide +kernel
theorem dL_act_103 : decode cL_act 103 = .ok (.ireturn, 1) := by decide +kernel
theorem dL_act_104 : decode cL_act 104 = .ok (.iload_n 2, 1) := by decide +kernel
theorem dL_act_105 : decode cL_act 105 = .ok (.bipush 6, 2) := by decide +kernel
theorem dL_act_107 : decode cL_act 107 = .ok (.ishr, 1) := by decide +kernel
theorem dL_act_108 : decode cL_act 108 = .ok (.iconst 5, 1) := by decide +kernel
theorem dL_act_109 : decode cL_act 109 = .ok (.invokestatic 19, 3) := by decide +kernel
theorem dL_act_112 : decode cL_act 112 = .ok (.istore 7, 2) := by decide +kernel
theorem dL_act_114 : decode cL_act 114 = .ok (.aload_n 1, 1) := by decide +kernel
theorem dL_act_115 : decode cL_act 115 = .ok (.iconst 1, 1) := by decide +kernel
theorem dL_act_116 : decode cL_act 116 = .ok (.iload 7, 2) := by decide +kernel
theorem dL_act_118 : decode cL_act 118 = .ok (.ishl, 1) := by decide +kernel
theorem dL_act_119 : decode cL_act 119 = .ok (.invokestatic 25, 3) := by decide +kernel
theorem dL_act_122 : decode cL_act 122 = .ok (.putfield 29, 3) := by decide +kernel
theorem dL_act_125 : decode cL_act 125 = .ok (.aload_n 1, 1) := by decide +kernel
theorem dL_act_126 : decode cL_act 126 = .ok (.iconst 0, 1) := by decide +kernel
theorem dL_act_127 : decode cL_act 127 = .ok (.anewarray 32, 3) := by decide +kernel
theorem dL_act_130 : decode cL_act 130 = .ok (.putfield 9, 3) := by decide +kernel
theorem dL_act_133 : decode cL_act 133 = .ok (.aload_n 1, 1) := by decide +kernel
theorem dL_act_134 : decode cL_act 134 = .ok (.iconst 0, 1) := by decide +kernel
theorem dL_act_135 : decode cL_act 135 = .ok (.anewarray 32, 3) := by decide +kernel
theorem dL_act_138 : decode cL_act 138 = .ok (.putfield 34, 3) := by decide +kernel
theorem dL_act_141 : decode cL_act 141 = .ok (.aload_n 0, 1) := by decide +kernel
theorem dL_act_142 : decode cL_act 142 = .ok (.iload 7, 2) := by decide +kernel
theorem dL_act_144 : decode cL_act 144 = .ok (.invokevirtual 37, 3) := by decide +kernel
theorem dL_act_147 : decode cL_act 147 = .ok (.iload 4, 2) := by decide +kernel
theorem dL_act_149 : decode cL_act 149 = .ok (.if_icmp .ne 7, 3) := by decide +kernel
theorem dL_act_152 : decode cL_act 152 = .ok (.iconst 1, 1) := by decide +kernel
theorem dL_act_153 : decode cL_act 153 = .ok (.goto 4, 3) := by decide +kernel
theorem dL_act_156 : decode cL_act 156 = .ok (.iconst 0, 1) := by decide +kernel
theorem dL_act_157 : decode cL_act 157 = .ok (.ireturn, 1) := by decide +kernel
theorem dL_act_158 : decode cL_act 158 = .ok (.iload_n 2, 1) := by decide +kernel
theorem dL_act_159 : decode cL_act 159 = .ok (.iconst 5, 1) := by decide +kernel
theorem dL_act_160 : decode cL_act 160 = .ok (.ishr, 1) := by decide +kernel
theorem dL_act_161 : decode cL_act 161 = .ok (.iload 4, 2) := by decide +kernel
theorem dL_act_163 : decode cL_act 163 = .ok (.invokestatic 19, 3) := by decide +kernel
theorem dL_act_166 : decode cL_act 166 = .ok (.istore 7, 2) := by decide +kernel
theorem dL_act_168 : decode cL_act 168 = .ok (.iconst 1, 1) := by decide +kernel
theorem dL_act_169 : decode cL_act 169 = .ok (.iload_n 2, 1) := by decide +kernel
theorem dL_act_170 : decode cL_act 170 = .ok (.bipush 7, 2) := by decide +kernel
theorem dL_act_172 : decode cL_act 172 = .ok (.ishr, 1) := by decide +kernel
theorem dL_act_173 : decode cL_act 173 = .ok (.bipush 9, 2) := by decide +kernel
theorem dL_act_175 : decode cL_act 175 = .ok (.invokestatic 19, 3) := by decide +kernel
theorem dL_act_178 : decode cL_act 178 = .ok (.iadd, 1) := by decide +kernel
theorem dL_act_179 : decode cL_act 179 = .ok (.istore 8, 2) := by decide +kernel
theorem dL_act_181 : decode cL_act 181 = .ok (.aload_n 0, 1) := by decide +kernel
theorem dL_act_182 : decode cL_act 182 = .ok (.iload 7, 2) := by decide +kernel
theorem dL_act_184 : decode cL_act 184 = .ok (.iload 8, 2) := by decide +kernel
theorem dL_act_186 : decode cL_act 186 = .ok (.invokevirtual 43, 3) := by decide +kernel
theorem dL_act_189 : decode cL_act 189 = .ok (.istore 6, 2) := by decide +kernel
theorem dL_act_191 : decode cL_act 191 = .ok (.goto 8, 3) := by decide +kernel
theorem dL_act_194 : decode cL_act 194 = .ok (.astore 9, 2) := by decide +kernel
theorem dL_act_196 : decode cL_act 196 = .ok (.iconst (-1), 1) := by decide +kernel
theorem dL_act_197 : decode cL_act 197 = .ok (.istore 6, 2) := by decide +kernel
theorem dL_act_199 : decode cL_act 199 = .ok (.iload_n 3, 1) := by decide +kernel
theorem dL_act_200 : decode cL_act 200 = .ok (.bipush 8, 2) := by decide +kernel
theorem dL_act_202 : decode cL_act 202 = .ok (.if_icmp .ge 45, 3) := by decide +kernel
theorem dL_act_205 : decode cL_act 205 = .ok (.aload_n 1, 1) := by decide +kernel
theorem dL_act_206 : decode cL_act 206 = .ok (.aload_n 1, 1) := by decide +kernel
theorem dL_act_207 : decode cL_act 207 = .ok (.getfield 9, 3) := by decide +kernel
theorem dL_act_210 : decode cL_act 210 = .ok (.iconst 3, 1) := by decide +kernel
theorem dL_act_211 : decode cL_act 211 = .ok (.newarray .int, 2) := by decide +kernel
theorem dL_act_213 : decode cL_act 213 = .ok (.dup, 1) := by decide +kernel
theorem dL_act_214 : decode cL_act 214 = .ok (.iconst 0, 1) := by decide +kernel
theorem dL_act_215 : decode cL_act 215 = .ok (.iload 7, 2) := by decide +kernel
theorem dL_act_217 : decode cL_act 217 = .ok (.iastore, 1) := by decide +kernel
theorem dL_act_218 : decode cL_act 218 = .ok (.dup, 1) := by decide +kernel
theorem dL_act_219 : decode cL_act 219 = .ok (.iconst 1, 1) := by decide +kernel
theorem dL_act_220 : decode cL_act 220 = .ok (.iload 8, 2) := by decide +kernel
theorem dL_act_222 : decode cL_act 222 = .ok (.iastore, 1) := by decide +kernel
theorem dL_act_223 : decode cL_act 223 = .ok (.dup, 1) := by decide +kernel
theorem dL_act_224 : decode cL_act 224 = .ok (.iconst 2, 1) := by decide +kernel
theorem dL_act_225 : decode cL_act 225 = .ok (.iconst 0, 1) := by decide +kernel
theorem dL_act_226 : decode cL_act 226 = .ok (.iastore, 1) := by decide +kernel
theorem dL_act_227 : decode cL_act 227 = .ok (.invokestatic 48, 3) := by decide +kernel
theorem dL_act_230 : decode cL_act 230 = .ok (.putfield 9, 3) := by decide +kernel
theorem dL_act_233 : decode cL_act 233 = .ok (.aload_n 1, 1) := by decide +kernel
theorem dL_act_234 : decode cL_act 234 = .ok (.aload_n 1, 1) := by decide +kernel
theorem dL_act_235 : decode cL_act 235 = .ok (.getfield 34, 3) := by decide +kernel
theorem dL_act_238 : decode cL_act 238 = .ok (.iconst 0, 1) := by decide +kernel
theorem dL_act_239 : decode cL_act 239 = .ok (.newarray .int, 2) := by decide +kernel
theorem dL_act_241 : decode cL_act 241 = .ok (.invokestatic 48, 3) := by decide +kernel
theorem dL_act_244 : decode cL_act 244 = .ok (.putfield 34, 3) := by decide +kernel
theorem dL_act_247 : decode cL_act 247 = .ok (.iload 6, 2) := by decide +kernel
theorem dL_act_249 : decode cL_act 249 = .ok (.iload_n 3, 1) := by decide +kernel
theorem dL_act_250 : decode cL_act 250 = .ok (.bipush 8, 2) := by decide +kernel
theorem dL_act_252 : decode cL_act 252 = .ok (.if_icmp .ge 7, 3) := by decide +kernel
theorem dL_act_255 : decode cL_act 255 = .ok (.iload_n 3, 1) := by decide +kernel
theorem dL_act_256 : decode cL_act 256 = .ok (.goto 4, 3) := by decide +kernel
theorem dL_act_259 : decode cL_act 259 = .ok (.iconst (-1), 1) := by decide +kernel
theorem dL_act_260 : decode cL_act 260 = .ok (.if_icmp .ne 7, 3) := by decide +kernel
theorem dL_act_263 : decode cL_act 263 = .ok (.iconst 1, 1) := by decide +kernel
theorem dL_act_264 : decode cL_act 264 = .ok (.goto 4, 3) := by decide +kernel
theorem dL_act_267 : decode cL_act 267 = .ok (.iconst 0, 1) := by decide +kernel
theorem dL_act_268 : decode cL_act 268 = .ok (.ireturn, 1) := by decide +kernel
theorem dL_act_269 : decode cL_act 269 = .ok (.iload_n 3, 1) := by decide +kernel
theorem dL_act_270 : decode cL_act 270 = .ok (.ifCond .ne 5, 3) := by decide +kernel
theorem dL_act_273 : decode cL_act 273 = .ok (.iconst 1, 1) := by decide +kernel
theorem dL_act_274 : decode cL_act 274 = .ok (.ireturn, 1) := by decide +kernel
theorem dL_act_275 : decode cL_act 275 = .ok (.aload_n 1, 1) := by decide +kernel
theorem dL_act_276 : decode cL_act 276 = .ok (.getfield 34, 3) := by decide +kernel
theorem dL_act_279 : decode cL_act 279 = .ok (.iload 5, 2) := by decide +kernel
theorem dL_act_281 : decode cL_act 281 = .ok (.aaload, 1) := by decide +kernel
theorem dL_act_282 : decode cL_act 282 = .ok (.arraylength, 1) := by decide +kernel
theorem dL_act_283 : decode cL_act 283 = .ok (.istore 7, 2) := by decide +kernel
theorem dL_act_285 : decode cL_act 285 = .ok (.iload_n 2, 1) := by decide +kernel
theorem dL_act_286 : decode cL_act 286 = .ok (.bipush 7, 2) := by decide +kernel
theorem dL_act_288 : decode cL_act 288 = .ok (.ishr, 1) := by decide +kernel
theorem dL_act_289 : decode cL_act 289 = .ok (.iconst 2, 1) := by decide +kernel
theorem dL_act_290 : decode cL_act 290 = .ok (.invokestatic 19, 3) := by decide +kernel
theorem dL_act_293 : decode cL_act 293 = .ok (.ifCond .ne 7, 3) := by decide +kernel
theorem dL_act_296 : decode cL_act 296 = .ok (.iconst 1, 1) := by decide +kernel
theorem dL_act_297 : decode cL_act 297 = .ok (.goto 4, 3) := by decide +kernel
theorem dL_act_300 : decode cL_act 300 = .ok (.iconst 0, 1) := by decide +kernel
theorem dL_act_301 : decode cL_act 301 = .ok (.istore 8, 2) := by decide +kernel
theorem dL_act_303 : decode cL_act 303 = .ok (.iload 7, 2) := by decide +kernel
theorem dL_act_305 : decode cL_act 305 = .ok (.bipush 12, 2) := by decide +kernel
theorem dL_act_307 : decode cL_act 307 = .ok (.if_icmp .ge 66, 3) := by decide +kernel
theorem dL_act_310 : decode cL_act 310 = .ok (.iload 7, 2) := by decide +kernel
theorem dL_act_312 : decode cL_act 312 = .ok (.iconst 1, 1) := by decide +kernel
theorem dL_act_313 : decode cL_act 313 = .ok (.iadd, 1) := by decide +kernel
theorem dL_act_314 : decode cL_act 314 = .ok (.newarray .int, 2) := by decide +kernel
theorem dL_act_316 : decode cL_act 316 = .ok (.astore 9, 2) := by decide +kernel
theorem dL_act_318 : decode cL_act 318 = .ok (.iconst 0, 1) := by decide +kernel
theorem dL_act_319 : decode cL_act 319 = .ok (.istore 10, 2) := by decide +kernel
theorem dL_act_321 : decode cL_act 321 = .ok (.iload 10, 2) := by decide +kernel
theorem dL_act_323 : decode cL_act 323 = .ok (.iload 7, 2) := by decide +kernel
theorem dL_act_325 : decode cL_act 325 = .ok (.if_icmp .ge 24, 3) := by decide +kernel
theorem dL_act_328 : decode cL_act 328 = .ok (.aload 9, 2) := by decide +kernel
theorem dL_act_330 : decode cL_act 330 = .ok (.iload 10, 2) := by decide +kernel
theorem dL_act_332 : decode cL_act 332 = .ok (.aload_n 1, 1) := by decide +kernel
theorem dL_act_333 : decode cL_act 333 = .ok (.getfield 34, 3) := by decide +kernel
theorem dL_act_336 : decode cL_act 336 = .ok (.iload 5, 2) := by decide +kernel
theorem dL_act_338 : decode cL_act 338 = .ok (.aaload, 1) := by decide +kernel
theorem dL_act_339 : decode cL_act 339 = .ok (.iload 10, 2) := by decide +kernel
theorem dL_act_341 : decode cL_act 341 = .ok (.iaload, 1) := by decide +kernel
theorem dL_act_342 : decode cL_act 342 = .ok (.iastore, 1) := by decide +kernel
theorem dL_act_343 : decode cL_act 343 = .ok (.iinc 10 1, 3) := by decide +kernel
theorem dL_act_346 : decode cL_act 346 = .ok (.goto (-25), 3) := by decide +kernel
theorem dL_act_349 : decode cL_act 349 = .ok (.aload 9, 2) := by decide +kernel
theorem dL_act_351 : decode cL_act 351 = .ok (.iload 7, 2) := by decide +kernel
theorem dL_act_353 : decode cL_act 353 = .ok (.iload 8, 2) := by decide +kernel
theorem dL_act_355 : decode cL_act 355 = .ok (.ifCond .eq 7, 3) := by decide +kernel
theorem dL_act_358 : decode cL_act 358 = .ok (.iconst 1, 1) := by decide +kernel
theorem dL_act_359 : decode cL_act 359 = .ok (.goto 4, 3) := by decide +kernel
theorem dL_act_362 : decode cL_act 362 = .ok (.iconst (-1), 1) := by decide +kernel
theorem dL_act_363 : decode cL_act 363 = .ok (.iastore, 1) := by decide +kernel
theorem dL_act_364 : decode cL_act 364 = .ok (.aload_n 1, 1) := by decide +kernel
theorem dL_act_365 : decode cL_act 365 = .ok (.getfield 34, 3) := by decide +kernel
theorem dL_act_368 : decode cL_act 368 = .ok (.iload 5, 2) := by decide +kernel
theorem dL_act_370 : decode cL_act 370 = .ok (.aload 9, 2) := by decide +kernel
theorem dL_act_372 : decode cL_act 372 = .ok (.aastore, 1) := by decide +kernel
theorem dL_act_373 : decode cL_act 373 = .ok (.aload_n 0, 1) := by decide +kernel
theorem dL_act_374 : decode cL_act 374 = .ok (.iload 5, 2) := by decide +kernel
theorem dL_act_376 : decode cL_act 376 = .ok (.iload 8, 2) := by decide +kernel
theorem dL_act_378 : decode cL_act 378 = .ok (.invokevirtual 52, 3) := by decide +kernel
theorem dL_act_381 : decode cL_act 381 = .ok (.istore 6, 2) := by decide +kernel
theorem dL_act_383 : decode cL_act 383 = .ok (.goto 8, 3) := by decide +kernel
theorem dL_act_386 : decode cL_act 386 = .ok (.astore 9, 2) := by decide +kernel
theorem dL_act_388 : decode cL_act 388 = .ok (.iconst (-1), 1) := by decide +kernel
theorem dL_act_389 : decode cL_act 389 = .ok (.istore 6, 2) := by decide +kernel
theorem dL_act_391 : decode cL_act 391 = .ok (.iload 6, 2) := by decide +kernel
theorem dL_act_393 : decode cL_act 393 = .ok (.iload 7, 2) := by decide +kernel
theorem dL_act_395 : decode cL_act 395 = .ok (.bipush 12, 2) := by decide +kernel
theorem dL_act_397 : decode cL_act 397 = .ok (.if_icmp .ge 10, 3) := by decide +kernel
theorem dL_act_400 : decode cL_act 400 = .ok (.iload 7, 2) := by decide +kernel
theorem dL_act_402 : decode cL_act 402 = .ok (.iconst 1, 1) := by decide +kernel
theorem dL_act_403 : decode cL_act 403 = .ok (.iadd, 1) := by decide +kernel
theorem dL_act_404 : decode cL_act 404 = .ok (.goto 4, 3) := by decide +kernel
theorem dL_act_407 : decode cL_act 407 = .ok (.iconst (-1), 1) := by decide +kernel
theorem dL_act_408 : decode cL_act 408 = .ok (.if_icmp .ne 7, 3) := by decide +kernel
theorem dL_act_411 : decode cL_act 411 = .ok (.iconst 1, 1) := by decide +kernel
theorem dL_act_412 : decode cL_act 412 = .ok (.goto 4, 3) := by decide +kernel
theorem dL_act_415 : decode cL_act 415 = .ok (.iconst 0, 1) := by decide +kernel
theorem dL_act_416 : decode cL_act 416 = .ok (.ireturn, 1) := by decide +kernel
theorem dL_act_417 : decode cL_act 417 = .ok (.iload_n 3, 1) := by decide +kernel
theorem dL_act_418 : decode cL_act 418 = .ok (.ifCond .eq 14, 3) := by decide +kernel
theorem dL_act_421 : decode cL_act 421 = .ok (.iload_n 2, 1) := by decide +kernel
theorem dL_act_422 : decode cL_act 422 = .ok (.bipush 6, 2) := by decide +kernel
theorem dL_act_424 : decode cL_act 424 = .ok (.ishr, 1) := by decide +kernel
theorem dL_act_425 : decode cL_act 425 = .ok (.iconst 4, 1) := by decide +kernel
theorem dL_act_426 : decode cL_act 426 = .ok (.invokestatic 19, 3) := by decide +kernel
theorem dL_act_429 : decode cL_act 429 = .ok (.ifCond .le 5, 3) := by decide +kernel
theorem dL_act_432 : decode cL_act 432 = .ok (.iconst 1, 1) := by decide +kernel
theorem dL_act_433 : decode cL_act 433 = .ok (.ireturn, 1) := by decide +kernel
theorem dL_act_434 : decode cL_act 434 = .ok (.aload_n 1, 1) := by decide +kernel
theorem dL_act_435 : decode cL_act 435 = .ok (.getfield 34, 3) := by decide +kernel
theorem dL_act_438 : decode cL_act 438 = .ok (.iload 5, 2) := by decide +kernel
theorem dL_act_440 : decode cL_act 440 = .ok (.aaload, 1) := by decide +kernel
theorem dL_act_441 : decode cL_act 441 = .ok (.arraylength, 1) := by decide +kernel
theorem dL_act_442 : decode cL_act 442 = .ok (.istore 7, 2) := by decide +kernel
theorem dL_act_444 : decode cL_act 444 = .ok (.aload_n 1, 1) := by decide +kernel
theorem dL_act_445 : decode cL_act 445 = .ok (.getfield 34, 3) := by decide +kernel
theorem dL_act_448 : decode cL_act 448 = .ok (.iload 5, 2) := by decide +kernel
theorem dL_act_450 : decode cL_act 450 = .ok (.iconst 0, 1) := by decide +kernel
theorem dL_act_451 : decode cL_act 451 = .ok (.newarray .int, 2) := by decide +kernel
theorem dL_act_453 : decode cL_act 453 = .ok (.aastore, 1) := by decide +kernel
theorem dL_act_454 : decode cL_act 454 = .ok (.aload_n 0, 1) := by decide +kernel
theorem dL_act_455 : decode cL_act 455 = .ok (.iload 5, 2) := by decide +kernel
theorem dL_act_457 : decode cL_act 457 = .ok (.invokevirtual 56, 3) := by decide +kernel
theorem dL_act_460 : decode cL_act 460 = .ok (.iload 7, 2) := by decide +kernel
theorem dL_act_462 : decode cL_act 462 = .ok (.if_icmp .ne 7, 3) := by decide +kernel
theorem dL_act_465 : decode cL_act 465 = .ok (.iconst 1, 1) := by decide +kernel
theorem dL_act_466 : decode cL_act 466 = .ok (.goto 4, 3) := by decide +kernel
theorem dL_act_469 : decode cL_act 469 = .ok (.iconst 0, 1) := by decide +kernel
theorem dL_act_470 : decode cL_act 470 = .ok (.ireturn, 1) := by decide +kernel
theorem dL_act_471 : decode cL_act 471 = .ok (.iload_n 3, 1) := by decide +kernel
theorem dL_act_472 : decode cL_act 472 = .ok (.ifCond .ne 5, 3) := by decide +kernel
theorem dL_act_475 : decode cL_act 475 = .ok (.iconst 1, 1) := by decide +kernel
theorem dL_act_476 : decode cL_act 476 = .ok (.ireturn, 1) := by decide +kernel
theorem dL_act_477 : decode cL_act 477 = .ok (.aload_n 1, 1) := by decide +kernel
theorem dL_act_478 : decode cL_act 478 = .ok (.getfield 9, 3) := by decide +kernel
theorem dL_act_481 : decode cL_act 481 = .ok (.iload 5, 2) := by decide +kernel
theorem dL_act_483 : decode cL_act 483 = .ok (.aaload, 1) := by decide +kernel
theorem dL_act_484 : decode cL_act 484 = .ok (.iconst 2, 1) := by decide +kernel
theorem dL_act_485 : decode cL_act 485 = .ok (.iaload, 1) := by decide +kernel
theorem dL_act_486 : decode cL_act 486 = .ok (.istore 7, 2) := by decide +kernel
theorem dL_act_488 : decode cL_act 488 = .ok (.aload_n 1, 1) := by decide +kernel
theorem dL_act_489 : decode cL_act 489 = .ok (.getfield 9, 3) := by decide +kernel
theorem dL_act_492 : decode cL_act 492 = .ok (.iload 5, 2) := by decide +kernel
theorem dL_act_494 : decode cL_act 494 = .ok (.aaload, 1) := by decide +kernel
theorem dL_act_495 : decode cL_act 495 = .ok (.iconst 2, 1) := by decide +kernel
theorem dL_act_496 : decode cL_act 496 = .ok (.iload_n 2, 1) := by decide +kernel
theorem dL_act_497 : decode cL_act 497 = .ok (.bipush 7, 2) := by decide +kernel
theorem dL_act_499 : decode cL_act 499 = .ok (.ishr, 1) := by decide +kernel
theorem dL_act_500 : decode cL_act 500 = .ok (.iload 4, 2) := by decide +kernel
theorem dL_act_502 : decode cL_act 502 = .ok (.invokestatic 19, 3) := by decide +kernel
theorem dL_act_505 : decode cL_act 505 = .ok (.iastore, 1) := by decide +kernel
theorem dL_act_506 : decode cL_act 506 = .ok (.aload_n 0, 1) := by decide +kernel
theorem dL_act_507 : decode cL_act 507 = .ok (.iload 5, 2) := by decide +kernel
theorem dL_act_509 : decode cL_act 509 = .ok (.aload_n 1, 1) := by decide +kernel
theorem dL_act_510 : decode cL_act 510 = .ok (.getfield 9, 3) := by decide +kernel
theorem dL_act_513 : decode cL_act 513 = .ok (.iload 5, 2) := by decide +kernel
theorem dL_act_515 : decode cL_act 515 = .ok (.aaload, 1) := by decide +kernel
theorem dL_act_516 : decode cL_act 516 = .ok (.iconst 2, 1) := by decide +kernel
theorem dL_act_517 : decode cL_act 517 = .ok (.iaload, 1) := by decide +kernel
theorem dL_act_518 : decode cL_act 518 = .ok (.invokevirtual 59, 3) := by decide +kernel
theorem dL_act_521 : decode cL_act 521 = .ok (.iload 7, 2) := by decide +kernel
theorem dL_act_523 : decode cL_act 523 = .ok (.if_icmp .ne 7, 3) := by decide +kernel
theorem dL_act_526 : decode cL_act 526 = .ok (.iconst 1, 1) := by decide +kernel
theorem dL_act_527 : decode cL_act 527 = .ok (.goto 4, 3) := by decide +kernel
theorem dL_act_530 : decode cL_act 530 = .ok (.iconst 0, 1) := by decide +kernel
theorem dL_act_531 : decode cL_act 531 = .ok (.ireturn, 1) := by decide +kernel
theorem dL_act_532 : decode cL_act 532 = .ok (.iload_n 3, 1) := by decide +kernel
theorem dL_act_533 : decode cL_act 533 = .ok (.ifCond .ne 5, 3) := by decide +kernel
theorem dL_act_536 : decode cL_act 536 = .ok (.iconst 1, 1) := by decide +kernel
theorem dL_act_537 : decode cL_act 537 = .ok (.ireturn, 1) := by decide +kernel
theorem dL_act_538 : decode cL_act 538 = .ok (.aload_n 1, 1) := by decide +kernel
theorem dL_act_539 : decode cL_act 539 = .ok (.getfield 9, 3) := by decide +kernel
theorem dL_act_542 : decode cL_act 542 = .ok (.iload 5, 2) := by decide +kernel
theorem dL_act_544 : decode cL_act 544 = .ok (.aaload, 1) := by decide +kernel
theorem dL_act_545 : decode cL_act 545 = .ok (.iconst 1, 1) := by decide +kernel
theorem dL_act_546 : decode cL_act 546 = .ok (.iaload, 1) := by decide +kernel
theorem dL_act_547 : decode cL_act 547 = .ok (.istore 7, 2) := by decide +kernel
theorem dL_act_549 : decode cL_act 549 = .ok (.aload_n 1, 1) := by decide +kernel
theorem dL_act_550 : decode cL_act 550 = .ok (.getfield 9, 3) := by decide +kernel
theorem dL_act_553 : decode cL_act 553 = .ok (.iload 5, 2) := by decide +kernel
theorem dL_act_555 : decode cL_act 555 = .ok (.aaload, 1) := by decide +kernel
theorem dL_act_556 : decode cL_act 556 = .ok (.iconst 1, 1) := by decide +kernel
theorem dL_act_557 : decode cL_act 557 = .ok (.iconst 1, 1) := by decide +kernel
theorem dL_act_558 : decode cL_act 558 = .ok (.iload_n 2, 1) := by decide +kernel
theorem dL_act_559 : decode cL_act 559 = .ok (.bipush 7, 2) := by decide +kernel
theorem dL_act_561 : decode cL_act 561 = .ok (.ishr, 1) := by decide +kernel
theorem dL_act_562 : decode cL_act 562 = .ok (.bipush 9, 2) := by decide +kernel
theorem dL_act_564 : decode cL_act 564 = .ok (.invokestatic 19, 3) := by decide +kernel
theorem dL_act_567 : decode cL_act 567 = .ok (.iadd, 1) := by decide +kernel
theorem dL_act_568 : decode cL_act 568 = .ok (.iastore, 1) := by decide +kernel
theorem dL_act_569 : decode cL_act 569 = .ok (.aload_n 0, 1) := by decide +kernel
theorem dL_act_570 : decode cL_act 570 = .ok (.iload 5, 2) := by decide +kernel
theorem dL_act_572 : decode cL_act 572 = .ok (.aload_n 1, 1) := by decide +kernel
theorem dL_act_573 : decode cL_act 573 = .ok (.getfield 9, 3) := by decide +kernel
theorem dL_act_576 : decode cL_act 576 = .ok (.iload 5, 2) := by decide +kernel
theorem dL_act_578 : decode cL_act 578 = .ok (.aaload, 1) := by decide +kernel
theorem dL_act_579 : decode cL_act 579 = .ok (.iconst 1, 1) := by decide +kernel
theorem dL_act_580 : decode cL_act 580 = .ok (.iaload, 1) := by decide +kernel
theorem dL_act_581 : decode cL_act 581 = .ok (.invokevirtual 62, 3) := by decide +kernel
theorem dL_act_584 : decode cL_act 584 = .ok (.iload 7, 2) := by decide +kernel
theorem dL_act_586 : decode cL_act 586 = .ok (.if_icmp .ne 7, 3) := by decide +kernel
theorem dL_act_589 : decode cL_act 589 = .ok (.iconst 1, 1) := by decide +kernel
theorem dL_act_590 : decode cL_act 590 = .ok (.goto 4, 3) := by decide +kernel
theorem dL_act_593 : decode cL_act 593 = .ok (.iconst 0, 1) := by decide +kernel
theorem dL_act_594 : decode cL_act 594 = .ok (.ireturn, 1) := by decide +kernel
theorem dL_act_595 : decode cL_act 595 = .ok (.iload_n 2, 1) := by decide +kernel
theorem dL_act_596 : decode cL_act 596 = .ok (.iconst 4, 1) := by decide +kernel
theorem dL_act_597 : decode cL_act 597 = .ok (.ishr, 1) := by decide +kernel
theorem dL_act_598 : decode cL_act 598 = .ok (.bipush 20, 2) := by decide +kernel
theorem dL_act_600 : decode cL_act 600 = .ok (.invokestatic 19, 3) := by decide +kernel
theorem dL_act_603 : decode cL_act 603 = .ok (.istore 7, 2) := by decide +kernel
theorem dL_act_605 : decode cL_act 605 = .ok (.aload_n 1, 1) := by decide +kernel
theorem dL_act_606 : decode cL_act 606 = .ok (.getfield 65, 3) := by decide +kernel
theorem dL_act_609 : decode cL_act 609 = .ok (.iload 7, 2) := by decide +kernel
theorem dL_act_611 : decode cL_act 611 = .ok (.iaload, 1) := by decide +kernel
theorem dL_act_612 : decode cL_act 612 = .ok (.istore 8, 2) := by decide +kernel
theorem dL_act_614 : decode cL_act 614 = .ok (.aload_n 1, 1) := by decide +kernel
theorem dL_act_615 : decode cL_act 615 = .ok (.getfield 65, 3) := by decide +kernel
theorem dL_act_618 : decode cL_act 618 = .ok (.iload 7, 2) := by decide +kernel
theorem dL_act_620 : decode cL_act 620 = .ok (.iload_n 2, 1) := by decide +kernel
theorem dL_act_621 : decode cL_act 621 = .ok (.bipush 6, 2) := by decide +kernel
theorem dL_act_623 : decode cL_act 623 = .ok (.ishr, 1) := by decide +kernel
theorem dL_act_624 : decode cL_act 624 = .ok (.iload_n 2, 1) := by decide +kernel
theorem dL_act_625 : decode cL_act 625 = .ok (.bipush 8, 2) := by decide +kernel
theorem dL_act_627 : decode cL_act 627 = .ok (.ishr, 1) := by decide +kernel
theorem dL_act_628 : decode cL_act 628 = .ok (.iconst 3, 1) := by decide +kernel
theorem dL_act_629 : decode cL_act 629 = .ok (.invokestatic 19, 3) := by decide +kernel
theorem dL_act_632 : decode cL_act 632 = .ok (.ifCond .ne 9, 3) := by decide +kernel
theorem dL_act_635 : decode cL_act 635 = .ok (.sipush 199, 3) := by decide +kernel
theorem dL_act_638 : decode cL_act 638 = .ok (.goto 5, 3) := by decide +kernel
theorem dL_act_641 : decode cL_act 641 = .ok (.bipush 9, 2) := by decide +kernel
theorem dL_act_643 : decode cL_act 643 = .ok (.invokestatic 19, 3) := by decide +kernel
theorem dL_act_646 : decode cL_act 646 = .ok (.iload_n 2, 1) := by decide +kernel
theorem dL_act_647 : decode cL_act 647 = .ok (.bipush 8, 2) := by decide +kernel
theorem dL_act_649 : decode cL_act 649 = .ok (.ishr, 1) := by decide +kernel
theorem dL_act_650 : decode cL_act 650 = .ok (.iconst 3, 1) := by decide +kernel
theorem dL_act_651 : decode cL_act 651 = .ok (.invokestatic 19, 3) := by decide +kernel
theorem dL_act_654 : decode cL_act 654 = .ok (.ifCond .ne 8, 3) := by decide +kernel
theorem dL_act_657 : decode cL_act 657 = .ok (.bipush 99, 2) := by decide +kernel
theorem dL_act_659 : decode cL_act 659 = .ok (.goto 4, 3) := by decide +kernel
theorem dL_act_662 : decode cL_act 662 = .ok (.iconst 4, 1) := by decide +kernel
theorem dL_act_663 : decode cL_act 663 = .ok (.isub, 1) := by decide +kernel
theorem dL_act_664 : decode cL_act 664 = .ok (.iastore, 1) := by decide +kernel
theorem dL_act_665 : decode cL_act 665 = .ok (.aload_n 0, 1) := by decide +kernel
theorem dL_act_666 : decode cL_act 666 = .ok (.iload 7, 2) := by decide +kernel
theorem dL_act_668 : decode cL_act 668 = .ok (.aload_n 1, 1) := by decide +kernel
theorem dL_act_669 : decode cL_act 669 = .ok (.getfield 65, 3) := by decide +kernel
theorem dL_act_672 : decode cL_act 672 = .ok (.iload 7, 2) := by decide +kernel
theorem dL_act_674 : decode cL_act 674 = .ok (.iaload, 1) := by decide +kernel
theorem dL_act_675 : decode cL_act 675 = .ok (.invokevirtual 68, 3) := by decide +kernel
theorem dL_act_678 : decode cL_act 678 = .ok (.iload 8, 2) := by decide +kernel
theorem dL_act_680 : decode cL_act 680 = .ok (.if_icmp .ne 7, 3) := by decide +kernel
theorem dL_act_683 : decode cL_act 683 = .ok (.iconst 1, 1) := by decide +kernel
theorem dL_act_684 : decode cL_act 684 = .ok (.goto 4, 3) := by decide +kernel
theorem dL_act_687 : decode cL_act 687 = .ok (.iconst 0, 1) := by decide +kernel
theorem dL_act_688 : decode cL_act 688 = .ok (.ireturn, 1) := by decide +kernel
set_option maxRecDepth 20000 in
theorem ggL_build_X4_init : GoodIn wsL_build wsX4_init := goodIn_r _ [6, 7, 8, 9, 10, 11, 12, 13, 14, 15, 16, 17, 3, 18, 19, 254, 255, 256, 257] (by decide +kernel) (by decide +kernel)
set_option maxRecDepth 20000 in
theorem gL_build_X4_init_n71 : GoodIn wsL_build (wsX4_init) := ggL_build_X4_init
set_option maxRecDepth 20000 in
theorem ggL_build_L_cell : GoodIn wsL_build wsL_cell := goodIn_r _ [23, 24] (by decide +kernel) (by decide +kernel)
set_option maxRecDepth 20000 in
theorem gL_build_L_cell : GoodIn wsL_build (va_wsS RL 72 yL_cell wsL_cell) := goodIn_app (goodIn_of _ (by decide +kernel)) ggL_build_L_cell
set_option maxRecDepth 20000 in
theorem ggL_build_L_below : GoodIn wsL_build wsL_below := goodIn_r _ [27, 28] (by decide +kernel) (by decide +kernel)
set_option maxRecDepth 20000 in
theorem gL_build_L_below : GoodIn wsL_build (va_wsS RL 19 yL_below wsL_below) := goodIn_app (goodIn_of _ (by decide +kernel)) ggL_build_L_below
theorem q_gcons {big a : List Cond} {c : Cond} (h1 : c ∈ big) (hg : goodWord c = true) (h : GoodIn big a) : GoodIn big (c :: a) := fun w hw => (List.mem_cons.mp hw).elim (fun e => e ▸ ⟨h1, good_of_word hg⟩) (h w)
theorem q_act_b : (Cond.codeWith yL_act cL_act 11 (some .boolean) [(181, 191, 194, 46), (373, 383, 386, 46)]) ∈ wsL_build := List.mem_cons_of_mem _ (List.mem_append_left _ (List.mem_append_left _ (List.mem_append_left _ (List.mem_append_left _ (List.mem_append_left _ (List.mem_append_left _ (List.mem_append_left _ (List.mem_append_left _ (List.mem_append_left _ (List.mem_append_right _ (List.mem_append_left _ (List.Mem.tail _ (List.Mem.tail _ (List.Mem.tail _ (List.Mem.tail _ (List.Mem.tail _ (List.Mem.tail _ (List.Mem.head _))))))))))))))))))
theorem q_act_l : (Cond.codeWith yL_act cL_act 11 (some .boolean) [(181, 191, 194, 46), (373, 383, 386, 46)]) ∈ wsL_law := List.mem_append_left _ (List.mem_append_left _ (List.mem_append_left _ (List.mem_append_left _ (List.mem_append_left _ (List.mem_append_left _ (List.mem_append_left _ (List.mem_append_left _ (List.mem_append_left _ (List.mem_append_left _ (List.mem_append_right _ (List.mem_append_right _ (List.mem_append_right _ (List.mem_append_left _ (List.Mem.tail _ (List.Mem.tail _ (List.Mem.tail _ (List.Mem.tail _ (List.Mem.tail _ (List.Mem.tail _ (List.Mem.tail _ (List.Mem.tail _ (List.Mem.tail _ (List.Mem.tail _ (List.Mem.tail _ (List.Mem.tail _ (List.Mem.tail _ (List.Mem.tail _ (List.Mem.head _))))))))))))))))))))))))))))
set_option maxRecDepth 20000 in
theorem ggL_build_L_act : GoodIn wsL_build wsL_act := goodIn_ca (goodIn_ca (goodIn_ca (q_gcons q_act_b (by decide +kernel) (goodIn_r _ [32, 33, 34, 35, 36, 14, 37, 38, 39, 40, 3, 41, 10, 25, 26, 22, 27, 28, 42, 17, 18, 11, 19, 16, 43, 44, 45, 46, 47, 48, 49, 50, 51, 52, 53, 54, 55, 56, 57, 58, 59, 60, 61, 62, 63, 64, 65, 66, 67, 68, 69, 70, 71, 72, 73, 74, 75, 76, 77, 78, 79, 80, 81, 82, 83, 84, 85, 86, 87, 88, 89, 90, 91, 92, 93, 94, 95, 96, 97, 98, 99, 100, 101, 102, 103, 104, 105, 8, 9, 106, 107, 108, 109, 110, 111, 112, 113, 114, 115, 116, 117, 118, 119, 120, 121, 122, 123, 124, 125, 126, 127, 128, 129, 130, 131, 132, 133, 134, 135, 136, 137, 138, 139, 140, 141, 142, 143, 144, 145, 146, 147, 148, 149, 150, 151, 152, 153, 154, 155, 156, 157, 158, 159, 160, 161, 162, 163, 164, 165, 166, 167, 168, 169, 170, 171, 172, 173, 174, 175, 176, 177, 178, 179, 180, 181, 182, 183, 184, 185, 186, 187, 188, 189, 190, 191, 192, 193, 194, 195, 196, 197, 198, 199, 200, 201, 202, 203, 204, 205, 206, 207, 208, 209, 210, 211, 212, 213, 214, 215, 216, 217, 218, 219, 220, 221, 222, 223, 224, 225, 226, 227, 228, 229, 230, 231, 232, 233, 234, 235, 236, 237, 238, 239, 240, 241, 242, 243, 244, 245, 246, 247, 248, 249, 250, 251, 252, 253, 254, 255, 256, 257, 258, 259, 260, 261, 262, 263, 264, 265, 266, 267, 268, 269, 270, 271, 272] (by decide +kernel) (by decide +kernel))) (goodIn_sub (fun _ h => List.mem_cons_of_mem _ (List.mem_append_left _ (List.mem_append_left _ (List.mem_append_right _ h)))) (by decide +kernel))) (goodIn_sub (fun _ h => List.mem_cons_of_mem _ (List.mem_append_left _ (List.mem_append_right _ h))) (by decide +kernel))) (goodIn_sub (fun _ h => List.mem_cons_of_mem _ (List.mem_append_right _ h)) (by decide +kernel))
set_option maxRecDepth 20000 in
theorem gL_build_L_act : GoodIn wsL_build (va_wsS RL 77 yL_act wsL_act) := goodIn_app (goodIn_of _ (by decide +kernel)) ggL_build_L_act
theorem dL_build_0 : decode cL_build 0 = .ok (.new 10, 3) := by decide +kernel
theorem dL_build_3 : decode cL_build 3 = .ok (.dup, 1) := by decide +kernel
theorem dL_build_4 : decode cL_build 4 = .ok (.invokespecial 71, 3) := by decide +kernel
theorem dL_build_7 : decode cL_build 7 = .ok (.astore_n 2, 1) := by decide +kernel
theorem dL_build_8 : decode cL_build 8 = .ok (.iconst 0, 1) := by decide +kernel
theorem dL_build_9 : decode cL_build 9 = .ok (.istore_n 3, 1) := by decide +kernel
theorem dL_build_10 : decode cL_build 10 = .ok (.iload_n 3, 1) := by decide +kernel
theorem dL_build_11 : decode cL_build 11 = .ok (.bipush 34, 2) := by decide +kernel
theorem dL_build_13 : decode cL_build 13 = .ok (.if_icmp .ge 82, 3) := by decide +kernel
theorem dL_build_16 : decode cL_build 16 = .ok (.aload_n 1, 1) := by decide +kernel
theorem dL_build_17 : decode cL_build 17 = .ok (.iload_n 3, 1) := by decide +kernel
theorem dL_build_18 : decode cL_build 18 = .ok (.bipush 16, 2) := by decide +kernel
theorem dL_build_20 : decode cL_build 20 = .ok (.irem, 1) := by decide +kernel
theorem dL_build_21 : decode cL_build 21 = .ok (.invokestatic 72, 3) := by decide +kernel
theorem dL_build_24 : decode cL_build 24 = .ok (.iload_n 3, 1) := by decide +kernel
theorem dL_build_25 : decode cL_build 25 = .ok (.bipush 16, 2) := by decide +kernel
theorem dL_build_27 : decode cL_build 27 = .ok (.idiv, 1) := by decide +kernel
theorem dL_build_28 : decode cL_build 28 = .ok (.iconst 4, 1) := by decide +kernel
theorem dL_build_29 : decode cL_build 29 = .ok (.imul, 1) := by decide +kernel
theorem dL_build_30 : decode cL_build 30 = .ok (.ishr, 1) := by decide +kernel
theorem dL_build_31 : decode cL_build 31 = .ok (.bipush 59, 2) := by decide +kernel
theorem dL_build_33 : decode cL_build 33 = .ok (.iload_n 3, 1) := by decide +kernel
theorem dL_build_34 : decode cL_build 34 = .ok (.imul, 1) := by decide +kernel
theorem dL_build_35 : decode cL_build 35 = .ok (.iadd, 1) := by decide +kernel
theorem dL_build_36 : decode cL_build 36 = .ok (.istore 4, 2) := by decide +kernel
theorem dL_build_38 : decode cL_build 38 = .ok (.iload_n 3, 1) := by decide +kernel
theorem dL_build_39 : decode cL_build 39 = .ok (.bipush 18, 2) := by decide +kernel
theorem dL_build_41 : decode cL_build 41 = .ok (.if_icmp .ge 36, 3) := by decide +kernel
theorem dL_build_44 : decode cL_build 44 = .ok (.bipush 14, 2) := by decide +kernel
theorem dL_build_46 : decode cL_build 46 = .ok (.iconst 4, 1) := by decide +kernel
theorem dL_build_47 : decode cL_build 47 = .ok (.iload 4, 2) := by decide +kernel
theorem dL_build_49 : decode cL_build 49 = .ok (.ldc 76, 2) := by decide +kernel
theorem dL_build_51 : decode cL_build 51 = .ok (.invokestatic 19, 3) := by decide +kernel
theorem dL_build_54 : decode cL_build 54 = .ok (.imul, 1) := by decide +kernel
theorem dL_build_55 : decode cL_build 55 = .ok (.imul, 1) := by decide +kernel
theorem dL_build_56 : decode cL_build 56 = .ok (.iload_n 3, 1) := by decide +kernel
theorem dL_build_57 : decode cL_build 57 = .ok (.ifCond .ne 7, 3) := by decide +kernel
theorem dL_build_60 : decode cL_build 60 = .ok (.iconst 0, 1) := by decide +kernel
theorem dL_build_61 : decode cL_build 61 = .ok (.goto 13, 3) := by decide +kernel
theorem dL_build_64 : decode cL_build 64 = .ok (.iload_n 3, 1) := by decide +kernel
theorem dL_build_65 : decode cL_build 65 = .ok (.iconst 5, 1) := by decide +kernel
theorem dL_build_66 : decode cL_build 66 = .ok (.if_icmp .ge 7, 3) := by decide +kernel
theorem dL_build_69 : decode cL_build 69 = .ok (.iconst 1, 1) := by decide +kernel
theorem dL_build_70 : decode cL_build 70 = .ok (.goto 4, 3) := by decide +kernel
theorem dL_build_73 : decode cL_build 73 = .ok (.iconst 3, 1) := by decide +kernel
theorem dL_build_74 : decode cL_build 74 = .ok (.iadd, 1) := by decide +kernel
theorem dL_build_75 : decode cL_build 75 = .ok (.istore 4, 2) := by decide +kernel
theorem dL_build_77 : decode cL_build 77 = .ok (.aload_n 0, 1) := by decide +kernel
theorem dL_build_78 : decode cL_build 78 = .ok (.aload_n 2, 1) := by decide +kernel
theorem dL_build_79 : decode cL_build 79 = .ok (.iload 4, 2) := by decide +kernel
theorem dL_build_81 : decode cL_build 81 = .ok (.invokestatic 77, 3) := by decide +kernel
theorem dL_build_84 : decode cL_build 84 = .ok (.ifCond .ne 5, 3) := by decide +kernel
theorem dL_build_87 : decode cL_build 87 = .ok (.aconst_null, 1) := by decide +kernel
theorem dL_build_88 : decode cL_build 88 = .ok (.areturn, 1) := by decide +kernel
theorem dL_build_89 : decode cL_build 89 = .ok (.iinc 3 1, 3) := by decide +kernel
theorem dL_build_92 : decode cL_build 92 = .ok (.goto (-82), 3) := by decide +kernel
theorem dL_build_95 : decode cL_build 95 = .ok (.aload_n 2, 1) := by decide +kernel
theorem dL_build_96 : decode cL_build 96 = .ok (.areturn, 1) := by decide +kernel
set_option maxRecDepth 20000 in
theorem ggL_law_X3_init : GoodIn wsL_law wsX3_init := goodIn_r _ [13, 14, 15, 16, 17, 18, 19, 20, 21, 22, 23, 24, 25, 26, 27, 28, 29, 30, 31, 32, 33, 34, 35, 36, 37, 38, 39, 40, 41, 42, 43, 44, 45, 46, 47, 48, 49, 50, 51, 52, 53, 54, 55, 487, 480, 481, 482, 488, 489, 490, 491, 492, 493] (by decide +kernel) (by decide +kernel)
set_option maxRecDepth 20000 in
theorem gL_law_X3_init : GoodIn wsL_law (wsX3_init) := ggL_law_X3_init
set_option maxRecDepth 20000 in
theorem ggL_law_L_build : GoodIn wsL_law wsL_build := goodIn_ca (goodIn_ca (goodIn_ca (goodIn_app (a := [Cond.code yL_build cL_build 5 (some (.object "FlagChipsLaw$Sim"))]) (goodIn_r _ [59] (by decide +kernel) (by decide +kernel)) (goodIn_app (goodIn_app (goodIn_app (goodIn_app (goodIn_app (goodIn_app (goodIn_app (goodIn_r wsL_build_r1 [60, 61, 62, 63, 64, 65, 66, 15, 16, 67, 68, 69, 70, 37, 71, 72, 73, 74, 75, 76, 77, 58, 78, 79] (by decide +kernel) (by decide +kernel)) (goodIn_app (show GoodIn wsL_law wsL_build_r2 from (goodIn_app (a := ([Cond.methodLink RL 19 yL_below, Cond.static yL_below, Cond.code yL_below cL_below 2 (some .int), Cond.constant RL 7 (2147483647), Cond.methodLink RL 77 yL_act, Cond.static yL_act] : List Cond)) (b := (Cond.codeWith yL_act cL_act 11 (some .boolean) [(181, 191, 194, 46), (373, 383, 386, 46)]) :: ([Cond.classLink RL 46 "java/lang/IllegalStateException", Cond.fieldLink RL 9 "FlagChipsLaw$Sim" "hills" "[[I", Cond.fieldLink RL 29 "FlagChipsLaw$Sim" "chips" "[[I", Cond.classLink RL 32 "[I", Cond.fieldLink RL 34 "FlagChipsLaw$Sim" "words" "[[I", Cond.fieldLink RL 65 "FlagChipsLaw$Sim" "storms" "[I", Cond.methodLink RL 15 yX4_length, Cond.instanceMethod yX4_length, Cond.selects RX4 yX4_length yX4_length, Cond.code yX4_length cX4_length 1 (some .int), Cond.methodLink RL 25 yX4_table, Cond.methodLink RL 37 yX3_setCodes, Cond.instanceMethod yX3_setCodes, Cond.selects RX3 yX3_setCodes yX3_setCodes, Cond.initialized RX3, Cond.code yX3_setCodes cX3_setCodes 3 (some .int), Cond.classLink RX3 32 "java/lang/IllegalArgumentException"] : List Cond)) (goodIn_r _ [80, 81, 82, 83, 84, 85] (by decide +kernel) (by decide +kernel)) (q_gcons q_act_l (by decide +kernel) (goodIn_r _ [87, 88, 89, 90, 91, 10, 92, 93, 94, 95, 96, 97, 98, 99, 2, 100, 101] (by decide +kernel) (by decide +kernel))))) (goodIn_app (goodIn_r wsL_build_r3 [102, 20, 103, 28, 24, 104, 105, 106, 27, 107, 108, 109, 45, 110, 111, 112, 113, 23, 114, 39, 115, 116, 117, 118] (by decide +kernel) (by decide +kernel)) (goodIn_app (goodIn_r wsL_build_r4 [119, 120, 121, 122, 123, 124, 125, 126, 127, 128, 129, 130, 131, 132, 133, 134, 135, 136, 19, 137, 32, 138, 139, 140] (by decide +kernel) (by decide +kernel)) (goodIn_app (goodIn_r wsL_build_r5 [141, 142, 143, 144, 145, 146, 147, 148, 149, 150, 151, 152, 153, 154, 155, 156, 157, 158, 159, 160, 161, 162, 163, 164] (by decide +kernel) (by decide +kernel)) (goodIn_app (goodIn_r wsL_build_r6 [165, 166, 167, 168, 169, 170, 44, 171, 8, 5, 9, 172, 173, 174, 175, 176, 177, 178, 179, 180, 181, 182, 183, 184] (by decide +kernel) (by decide +kernel)) (goodIn_app (goodIn_r wsL_build_r7 [185, 186, 187, 188, 189, 190, 191, 192, 193, 194, 195, 196, 197, 198, 199, 200, 201, 202, 203, 204, 205, 206, 207, 208] (by decide +kernel) (by decide +kernel)) (goodIn_app (goodIn_r wsL_build_r8 [209, 210, 211, 212, 213, 214, 215, 216, 217, 218, 219, 220, 221, 222, 223, 224, 225, 226, 227, 228, 229, 230, 231, 232] (by decide +kernel) (by decide +kernel)) (goodIn_app (goodIn_r wsL_build_r9 [233, 234, 235, 236, 237, 238, 239, 240, 241, 242, 243, 40, 244, 245, 246, 247, 248, 249, 250, 251, 252, 253, 254, 255] (by decide +kernel) (by decide +kernel)) (goodIn_app (goodIn_r wsL_build_r10 [256, 257, 258, 259, 260, 261, 262, 263, 264, 265, 266, 267, 268, 269, 270, 271, 272, 273, 274, 275, 276, 277, 278, 279] (by decide +kernel) (by decide +kernel)) (goodIn_r wsL_build_r11 [280, 281, 282, 283, 284, 285, 286, 287, 288, 289, 290, 291, 292] (by decide +kernel) (by decide +kernel)))))))))))) (goodIn_r wsX40 [483, 484, 485, 486] (by decide +kernel) (by decide +kernel))) (goodIn_r wsX30 [480, 481, 482] (by decide +kernel) (by decide +kernel))) (goodIn_r wsX00 [487] (by decide +kernel) (by decide +kernel))) (goodIn_r wsJx4a65c0 [491, 492, 493] (by decide +kernel) (by decide +kernel))) (goodIn_r wsX20 [488, 489, 490] (by decide +kernel) (by decide +kernel))) (goodIn_r wsX10 [494, 495, 496, 497, 498] (by decide +kernel) (by decide +kernel)))) (goodIn_sub (fun _ h => List.mem_append_left _ (List.mem_append_left _ (List.mem_append_right _ h))) (by decide +kernel))) (goodIn_sub (fun _ h => List.mem_append_left _ (List.mem_append_right _ h)) (by decide +kernel))) (goodIn_sub (fun _ h => List.mem_append_right _ h) (by decide +kernel))
set_option maxRecDepth 20000 in
theorem gL_law_L_build : GoodIn wsL_law (va_wsS RL 82 yL_build wsL_build) := goodIn_app (goodIn_of _ (by decide +kernel)) ggL_law_L_build
set_option maxRecDepth 20000 in
theorem ggL_law_L_cell : GoodIn wsL_law wsL_cell := goodIn_r _ [78, 79] (by decide +kernel) (by decide +kernel)
set_option maxRecDepth 20000 in
theorem gL_law_L_cell : GoodIn wsL_law (va_wsS RL 72 yL_cell wsL_cell) := goodIn_app (goodIn_of _ (by decide +kernel)) ggL_law_L_cell
set_option maxRecDepth 20000 in
theorem ggL_law_L_act : GoodIn wsL_law wsL_act := goodIn_ca (goodIn_ca (goodIn_ca (q_gcons q_act_l (by decide +kernel) (goodIn_r _ [87, 88, 89, 90, 91, 37, 10, 92, 93, 94, 62, 95, 67, 80, 81, 58, 82, 83, 96, 73, 74, 68, 75, 72, 97, 98, 99, 2, 100, 101, 102, 20, 103, 28, 24, 104, 105, 106, 27, 107, 108, 109, 45, 110, 111, 112, 113, 23, 114, 39, 115, 116, 117, 118, 119, 120, 121, 122, 123, 124, 125, 126, 127, 128, 129, 130, 131, 132, 133, 134, 135, 136, 19, 137, 32, 138, 139, 140, 141, 142, 143, 144, 145, 146, 147, 148, 149, 15, 16, 150, 151, 152, 153, 154, 155, 156, 157, 158, 159, 160, 161, 162, 163, 164, 165, 166, 167, 168, 169, 170, 44, 171, 8, 5, 9, 172, 173, 174, 175, 176, 177, 178, 179, 180, 181, 182, 183, 184, 185, 186, 187, 188, 189, 190, 191, 192, 193, 194, 195, 196, 197, 198, 199, 200, 201, 202, 203, 204, 205, 206, 207, 208, 209, 210, 211, 212, 213, 214, 215, 216, 217, 218, 219, 220, 221, 222, 223, 224, 225, 226, 227, 228, 229, 230, 231, 232, 233, 234, 235, 236, 237, 238, 239, 240, 241, 242, 243, 40, 244, 245, 246, 247, 248, 249, 250, 251, 252, 253, 254, 255, 256, 257, 258, 259, 260, 261, 262, 263, 264, 265, 266, 267, 268, 269, 270, 271, 272, 273, 274, 275, 276, 277, 278, 279, 280, 281, 282, 283, 284, 285, 286, 287, 288, 289, 290, 291, 292, 483, 484, 485, 486, 480, 481, 482, 487, 491, 492, 493, 488, 489, 490, 494, 495, 496, 497, 498] (by decide +kernel) (by decide +kernel))) (goodIn_sub (fun _ h => List.mem_append_left _ (List.mem_append_left _ (List.mem_append_right _ h))) (by decide +kernel))) (goodIn_sub (fun _ h => List.mem_append_left _ (List.mem_append_right _ h)) (by decide +kernel))) (goodIn_sub (fun _ h => List.mem_append_right _ h) (by decide +kernel))
set_option maxRecDepth 20000 in
theorem gL_law_L_act : GoodIn wsL_law (va_wsS RL 77 yL_act wsL_act) := goodIn_app (goodIn_of _ (by decide +kernel)) ggL_law_L_act
set_option maxRecDepth 20000 in
theorem ggL_law_X3_count : GoodIn wsL_law wsX3_count := goodIn_ca (goodIn_r _ [296, 132, 133, 20, 103, 28, 24, 142, 143, 144, 27, 145, 110, 297, 298, 299, 2, 300, 214, 208, 215, 216, 217, 218, 219, 220, 221, 222, 223, 224, 225, 226, 227, 228, 229, 230, 45, 301, 302, 303, 304, 305, 306, 307, 23, 308, 273, 309, 310, 311, 312, 245, 40, 244, 250, 251, 252, 127, 253, 150, 313, 314, 315, 316, 317, 318, 319, 320, 38, 39, 254, 255, 256, 19, 257, 258, 259, 260, 261, 262, 263, 264, 321, 322, 323, 324, 325, 247, 248, 249, 152, 326, 327, 328, 329, 330, 8, 5, 9, 331, 332, 333, 334, 151, 335, 336, 337, 338, 339, 340, 4, 6, 341, 342, 343, 344, 345, 346, 347, 348, 349, 350, 480, 481, 482, 487, 491, 492, 493, 494, 495, 496, 497, 498, 488, 489, 490] (by decide +kernel) (by decide +kernel)) (goodIn_sub (fun _ h => List.mem_append_right _ h) (by decide +kernel))
set_option maxRecDepth 20000 in
theorem gL_law_X3_count : GoodIn wsL_law (wsV RL 86 RX3 yX3_count wsX3_count) := goodIn_app (goodIn_of _ (by decide +kernel)) ggL_law_X3_count
set_option maxRecDepth 20000 in
theorem ggL_law_X3_about : GoodIn wsL_law wsX3_about := goodIn_ca (goodIn_r _ [354, 132, 133, 350, 209, 279, 208, 24, 20, 103, 210, 211, 212, 2, 213, 28, 214, 142, 143, 144, 27, 145, 110, 215, 216, 217, 218, 219, 220, 221, 222, 223, 224, 225, 226, 227, 228, 229, 230, 45, 305, 306, 307, 23, 308, 273, 309, 310, 311, 312, 245, 40, 244, 250, 251, 252, 127, 253, 150, 313, 314, 315, 316, 317, 318, 319, 320, 38, 39, 254, 255, 256, 19, 257, 258, 259, 260, 261, 262, 263, 264, 321, 322, 323, 324, 325, 247, 248, 249, 152, 331, 332, 333, 334, 151, 335, 355, 356, 357, 358, 340, 4, 5, 6, 494, 495, 496, 497, 498, 480, 481, 482, 487, 491, 492, 493, 488, 489, 490] (by decide +kernel) (by decide +kernel)) (goodIn_sub (fun _ h => List.mem_append_right _ h) (by decide +kernel))
set_option maxRecDepth 20000 in
theorem gL_law_X3_about : GoodIn wsL_law (wsV RL 89 RX3 yX3_about wsX3_about) := goodIn_app (goodIn_of _ (by decide +kernel)) ggL_law_X3_about
set_option maxRecDepth 20000 in
theorem ggL_law_X3_word : GoodIn wsL_law wsX3_word := goodIn_ca (goodIn_r _ [362, 132, 133, 208, 24, 210, 211, 212, 2, 213, 28, 214, 142, 143, 144, 27, 145, 110, 215, 216, 217, 218, 219, 220, 221, 222, 223, 224, 225, 226, 227, 228, 229, 230, 45, 363, 247, 248, 127, 249, 152, 364, 310, 311, 23, 312, 245, 40, 244, 250, 251, 252, 253, 150, 313, 314, 315, 316, 317, 318, 319, 320, 38, 39, 254, 255, 256, 19, 257, 258, 259, 260, 261, 262, 263, 264, 365, 322, 323, 324, 325, 494, 495, 496, 497, 498, 480, 481, 482, 491, 492, 493, 488, 489, 490, 487] (by decide +kernel) (by decide +kernel)) (goodIn_sub (fun _ h => List.mem_append_right _ h) (by decide +kernel))
set_option maxRecDepth 20000 in
theorem gL_law_X3_word : GoodIn wsL_law (wsV RL 92 RX3 yX3_word wsX3_word) := goodIn_app (goodIn_of _ (by decide +kernel)) ggL_law_X3_word
set_option maxRecDepth 20000 in
theorem ggL_law_X3_hear : GoodIn wsL_law wsX3_hear := goodIn_ca (goodIn_ca (goodIn_r _ [369, 24, 128, 129, 130, 2, 131, 132, 133, 20, 134, 135, 136, 19, 137, 32, 370, 371, 372, 373, 101, 102, 374, 314, 315, 23, 316, 40, 244, 317, 318, 319, 320, 38, 39, 254, 255, 256, 257, 258, 259, 260, 261, 262, 263, 264, 480, 481, 482, 487, 488, 489, 490] (by decide +kernel) (by decide +kernel)) (goodIn_sub (fun _ h => List.mem_append_right _ h) (by decide +kernel))) (goodIn_sub (fun _ h => List.mem_append_left _ (List.mem_append_left _ (List.mem_append_right _ h))) (by decide +kernel))
set_option maxRecDepth 20000 in
theorem gL_law_X3_hear : GoodIn wsL_law (wsV RL 96 RX3 yX3_hear wsX3_hear) := goodIn_app (goodIn_of _ (by decide +kernel)) ggL_law_X3_hear
set_option maxRecDepth 20000 in
theorem ggL_law_X3_sky : GoodIn wsL_law wsX3_sky := goodIn_ca (goodIn_r _ [378, 24, 370, 371, 372, 2, 373, 101, 102, 379, 318, 319, 23, 320, 38, 39, 480, 481, 482, 488, 489, 490] (by decide +kernel) (by decide +kernel)) (goodIn_sub (fun _ h => List.mem_append_left _ (List.mem_append_left _ (List.mem_append_right _ h))) (by decide +kernel))
set_option maxRecDepth 20000 in
theorem gL_law_X3_sky : GoodIn wsL_law (wsV RL 107 RX3 yX3_sky wsX3_sky) := goodIn_app (goodIn_of _ (by decide +kernel)) ggL_law_X3_sky
set_option maxRecDepth 20000 in
theorem ggL_law_L_below : GoodIn wsL_law wsL_below := goodIn_r _ [82, 83] (by decide +kernel) (by decide +kernel)
set_option maxRecDepth 20000 in
theorem gL_law_L_below : GoodIn wsL_law (va_wsS RL 19 yL_below wsL_below) := goodIn_app (goodIn_of _ (by decide +kernel)) ggL_law_L_below
set_option maxRecDepth 20000 in
theorem ggL_law_X3_digest : GoodIn wsL_law wsX3_digest := goodIn_ca (goodIn_r _ [383, 384, 385, 24, 292, 28, 386, 294, 295, 2, 296, 132, 133, 20, 103, 142, 143, 144, 27, 145, 110, 297, 298, 299, 300, 214, 208, 215, 216, 217, 218, 219, 220, 221, 222, 223, 224, 225, 226, 227, 228, 229, 230, 45, 301, 302, 303, 304, 305, 306, 307, 23, 308, 273, 309, 310, 311, 312, 245, 40, 244, 250, 251, 252, 127, 253, 150, 313, 314, 315, 316, 317, 318, 319, 320, 38, 39, 254, 255, 256, 19, 257, 258, 259, 260, 261, 262, 263, 264, 321, 322, 323, 324, 325, 247, 248, 249, 152, 326, 327, 328, 329, 330, 8, 5, 9, 331, 332, 333, 334, 151, 335, 336, 337, 338, 339, 340, 4, 6, 341, 342, 343, 344, 345, 346, 347, 348, 349, 350, 387, 388, 389, 390, 391, 352, 353, 354, 209, 279, 210, 211, 212, 213, 355, 356, 357, 358, 392, 360, 361, 362, 363, 364, 365, 480, 481, 482, 488, 489, 490, 487, 491, 492, 493, 494, 495, 496, 497, 498] (by decide +kernel) (by decide +kernel)) (goodIn_sub (fun _ h => List.mem_append_right _ h) (by decide +kernel))
set_option maxRecDepth 20000 in
theorem gL_law_X3_digest : GoodIn wsL_law (wsV RL 110 RX3 yX3_digest wsX3_digest) := goodIn_app (goodIn_of _ (by decide +kernel)) ggL_law_X3_digest
set_option maxRecDepth 20000 in
theorem ggL_law_X3_alike : GoodIn wsL_law wsX3_alike := goodIn_ca (goodIn_ca (goodIn_r _ [396, 101, 102, 20, 128, 129, 130, 2, 131, 132, 133, 134, 135, 136, 19, 137, 32, 397, 398, 399, 400, 401, 4, 5, 6, 402, 255, 256, 257, 258, 259, 260, 261, 262, 263, 264, 480, 481, 482, 487] (by decide +kernel) (by decide +kernel)) (goodIn_sub (fun _ h => List.mem_append_left _ (List.mem_append_left _ (List.mem_append_right _ h))) (by decide +kernel))) (goodIn_sub (fun _ h => List.mem_append_right _ h) (by decide +kernel))
set_option maxRecDepth 20000 in
theorem gL_law_X3_alike : GoodIn wsL_law (wsV RL 114 RX3 yX3_alike wsX3_alike) := goodIn_app (goodIn_of _ (by decide +kernel)) ggL_law_X3_alike
set_option maxRecDepth 20000 in
theorem ggL_law_X3_shift : GoodIn wsL_law wsX3_shift := goodIn_ca (goodIn_r _ [406, 20, 103, 128, 129, 130, 2, 131, 132, 133, 134, 135, 136, 19, 137, 32, 397, 398, 399, 400, 401, 4, 5, 6, 402, 255, 256, 257, 258, 259, 260, 261, 262, 263, 264, 480, 481, 482, 487] (by decide +kernel) (by decide +kernel)) (goodIn_sub (fun _ h => List.mem_append_right _ h) (by decide +kernel))
set_option maxRecDepth 20000 in
theorem gL_law_X3_shift : GoodIn wsL_law (wsV RL 117 RX3 yX3_shift wsX3_shift) := goodIn_app (goodIn_of _ (by decide +kernel)) ggL_law_X3_shift
set_option maxRecDepth 20000 in
theorem ggL_law_X3_advise : GoodIn wsL_law wsX3_advise := goodIn_ca (goodIn_r _ [410, 20, 103, 280, 281, 282, 2, 283, 101, 102, 346, 347, 348, 349, 28, 214, 350, 142, 143, 144, 27, 145, 110, 215, 216, 217, 218, 219, 220, 221, 222, 223, 224, 225, 226, 227, 228, 229, 230, 45, 411, 412, 413, 414, 279, 209, 397, 398, 399, 19, 400, 32, 401, 4, 5, 6, 402, 255, 256, 257, 258, 259, 260, 261, 262, 263, 264, 480, 481, 482, 487, 494, 495, 496, 497, 498, 491, 492, 493] (by decide +kernel) (by decide +kernel)) (goodIn_sub (fun _ h => List.mem_append_left _ (List.mem_append_left _ (List.mem_append_right _ h))) (by decide +kernel))
set_option maxRecDepth 20000 in
theorem gL_law_X3_advise : GoodIn wsL_law (wsV RL 120 RX3 yX3_advise wsX3_advise) := goodIn_app (goodIn_of _ (by decide +kernel)) ggL_law_X3_advise
set_option maxRecDepth 20000 in
theorem ggL_law_X4_isTaken : GoodIn wsL_law wsX4_isTaken := goodIn_r _ [418, 69, 483, 484, 485, 486] (by decide +kernel) (by decide +kernel)
set_option maxRecDepth 20000 in
theorem gL_law_X4_isTaken : GoodIn wsL_law (wsV RL 123 RX4 yX4_isTaken wsX4_isTaken) := goodIn_app (goodIn_of _ (by decide +kernel)) ggL_law_X4_isTaken
set_option maxRecDepth 20000 in
theorem ggL_law_X3_tune : GoodIn wsL_law wsX3_tune := goodIn_ca (goodIn_r _ [422, 210, 211, 212, 2, 213, 132, 133, 28, 214, 142, 143, 144, 27, 145, 110, 215, 216, 217, 218, 219, 220, 221, 222, 223, 224, 225, 226, 227, 228, 229, 230, 45, 423, 424, 425, 426, 209, 24, 269, 270, 271, 23, 272, 273, 274, 241, 242, 243, 40, 244, 39, 245, 246, 247, 248, 127, 249, 152, 250, 251, 252, 253, 150, 254, 255, 256, 19, 257, 258, 259, 260, 261, 262, 263, 264, 301, 302, 303, 304, 305, 306, 307, 308, 309, 310, 311, 312, 313, 314, 315, 316, 317, 318, 319, 320, 38, 321, 322, 323, 324, 325, 480, 481, 482, 491, 492, 493, 494, 495, 496, 497, 498, 488, 489, 490, 487] (by decide +kernel) (by decide +kernel)) (goodIn_sub (fun _ h => List.mem_append_right _ h) (by decide +kernel))
set_option maxRecDepth 20000 in
theorem gL_law_X3_tune : GoodIn wsL_law (wsV RL 127 RX3 yX3_tune wsX3_tune) := goodIn_app (goodIn_of _ (by decide +kernel)) ggL_law_X3_tune
set_option maxRecDepth 20000 in
theorem ggL_law_X3_would : GoodIn wsL_law wsX3_would := goodIn_ca (goodIn_ca (goodIn_r _ [430, 210, 211, 212, 2, 213, 132, 133, 28, 214, 142, 143, 144, 27, 145, 110, 215, 216, 217, 218, 219, 220, 221, 222, 223, 224, 225, 226, 227, 228, 229, 230, 45, 138, 139, 140, 141, 101, 102, 423, 424, 425, 426, 209, 24, 269, 270, 271, 23, 272, 273, 274, 241, 242, 243, 40, 244, 39, 245, 246, 247, 248, 127, 249, 152, 250, 251, 252, 253, 150, 254, 255, 256, 19, 257, 258, 259, 260, 261, 262, 263, 264, 301, 302, 303, 304, 305, 306, 307, 308, 309, 310, 311, 312, 313, 314, 315, 316, 317, 318, 319, 320, 38, 321, 322, 323, 324, 325, 480, 481, 482, 491, 492, 493, 494, 495, 496, 497, 498, 488, 489, 490, 487] (by decide +kernel) (by decide +kernel)) (goodIn_sub (fun _ h => List.mem_append_right _ h) (by decide +kernel))) (goodIn_sub (fun _ h => List.mem_append_left _ (List.mem_append_left _ (List.mem_append_right _ h))) (by decide +kernel))
set_option maxRecDepth 20000 in
theorem gL_law_X3_would : GoodIn wsL_law (wsV RL 130 RX3 yX3_would wsX3_would) := goodIn_app (goodIn_of _ (by decide +kernel)) ggL_law_X3_would
theorem q_same_l : (Cond.code yX4_isSame cX4_isSame 11 (some .boolean)) ∈ wsL_law := List.mem_append_left _ (List.mem_append_left _ (List.mem_append_left _ (List.mem_append_left _ (List.mem_append_left _ (List.mem_append_left _ (List.mem_append_left _ (List.mem_append_left _ (List.mem_append_left _ (List.mem_append_left _ (List.mem_append_right _ (List.mem_append_right _ (List.mem_append_right _ (List.mem_append_right _ (List.mem_append_right _ (List.mem_append_right _ (List.mem_append_right _ (List.mem_append_right _ (List.mem_append_right _ (List.mem_append_right _ (List.mem_append_right _ (List.mem_append_right _ (List.mem_append_right _ (List.mem_append_right _ (List.mem_append_right _ (List.mem_append_right _ (List.mem_append_right _ (List.mem_append_right _ (List.mem_append_left _ (List.Mem.tail _ (List.Mem.tail _ (List.Mem.head _)))))))))))))))))))))))))))))))
set_option maxRecDepth 20000 in
theorem ggL_law_X4_isSame : GoodIn wsL_law wsX4_isSame := goodIn_ca (q_gcons q_same_l (by decide +kernel) (goodIn_r _ [435, 4, 5, 6, 436, 8, 9, 69, 70, 437, 438, 195, 196, 37, 439, 440, 441, 62, 442, 71, 67, 443, 444, 445, 446, 447, 448, 449, 450, 451, 93, 94, 95, 452, 416, 417, 418, 453, 454, 455, 456, 457, 458, 459, 460, 461, 360, 361, 2, 362, 132, 133, 208, 24, 210, 211, 212, 213, 28, 214, 142, 143, 144, 27, 145, 110, 215, 216, 217, 218, 219, 220, 221, 222, 223, 224, 225, 226, 227, 228, 229, 230, 45, 363, 247, 248, 127, 249, 152, 364, 310, 311, 23, 312, 245, 40, 244, 250, 251, 252, 253, 150, 313, 314, 315, 316, 317, 318, 319, 320, 38, 39, 254, 255, 256, 19, 257, 258, 259, 260, 261, 262, 263, 264, 365, 322, 323, 324, 325, 462, 463, 464, 465, 466, 352, 353, 354, 350, 209, 279, 20, 103, 305, 306, 307, 308, 273, 309, 321, 331, 332, 333, 334, 151, 335, 355, 356, 357, 358, 340, 467, 468, 469, 470, 471, 294, 295, 296, 297, 298, 299, 300, 301, 302, 303, 304, 326, 327, 328, 329, 330, 336, 337, 338, 339, 341, 342, 343, 344, 345, 346, 347, 348, 349, 472, 473, 474, 475, 476, 477, 478, 479, 483, 484, 485, 486, 494, 495, 496, 497, 498, 480, 481, 482, 491, 492, 493, 488, 489, 490, 487] (by decide +kernel) (by decide +kernel))) (goodIn_sub (fun _ h => List.mem_append_right _ h) (by decide +kernel))
set_option maxRecDepth 20000 in
theorem gL_law_X4_isSame : GoodIn wsL_law (wsV RL 133 RX4 yX4_isSame wsX4_isSame) := goodIn_app (goodIn_of _ (by decide +kernel)) ggL_law_X4_isSame
theorem dL_law_0 : decode cL_law 0 = .ok (.new 38, 3) := by decide +kernel
theorem dL_law_3 : decode cL_law 3 = .ok (.dup, 1) := by decide +kernel
theorem dL_law_4 : decode cL_law 4 = .ok (.invokespecial 81, 3) := by decide +kernel
theorem dL_law_7 : decode cL_law 7 = .ok (.astore_n 1, 1) := by decide +kernel
theorem dL_law_8 : decode cL_law 8 = .ok (.aload_n 1, 1) := by decide +kernel
theorem dL_law_9 : decode cL_law 9 = .ok (.aload_n 0, 1) := by decide +kernel
theorem dL_law_10 : decode cL_law 10 = .ok (.invokestatic 82, 3) := by decide +kernel
theorem dL_law_13 : decode cL_law 13 = .ok (.astore_n 2, 1) := by decide +kernel
theorem dL_law_14 : decode cL_law 14 = .ok (.aload_n 2, 1) := by decide +kernel
theorem dL_law_15 : decode cL_law 15 = .ok (.ifnonnull 5, 3) := by decide +kernel
theorem dL_law_18 : decode cL_law 18 = .ok (.iconst 0, 1) := by decide +kernel
theorem dL_law_19 : decode cL_law 19 = .ok (.ireturn, 1) := by decide +kernel
theorem dL_law_20 : decode cL_law 20 = .ok (.iconst 0, 1) := by decide +kernel
theorem dL_law_21 : decode cL_law 21 = .ok (.istore_n 3, 1) := by decide +kernel
theorem dL_law_22 : decode cL_law 22 = .ok (.iload_n 3, 1) := by decide +kernel
theorem dL_law_23 : decode cL_law 23 = .ok (.bipush 10, 2) := by decide +kernel
theorem dL_law_25 : decode cL_law 25 = .ok (.if_icmp .ge 956, 3) := by decide +kernel
theorem dL_law_28 : decode cL_law 28 = .ok (.aload_n 0, 1) := by decide +kernel
theorem dL_law_29 : decode cL_law 29 = .ok (.iload_n 3, 1) := by decide +kernel
theorem dL_law_30 : decode cL_law 30 = .ok (.invokestatic 72, 3) := by decide +kernel
theorem dL_law_33 : decode cL_law 33 = .ok (.bipush 53, 2) := by decide +kernel
theorem dL_law_35 : decode cL_law 35 = .ok (.iload_n 3, 1) := by decide +kernel
theorem dL_law_36 : decode cL_law 36 = .ok (.imul, 1) := by decide +kernel
theorem dL_law_37 : decode cL_law 37 = .ok (.iadd, 1) := by decide +kernel
theorem dL_law_38 : decode cL_law 38 = .ok (.istore 4, 2) := by decide +kernel
theorem dL_law_40 : decode cL_law 40 = .ok (.aload_n 1, 1) := by decide +kernel
