theorem dL_areSums_19 : decode cL_areSums 19 = .ok (.aload_n 0, 1) := by decide +kernel
theorem dL_areSums_20 : decode cL_areSums 20 = .ok (.iload 5, 2) := by decide +kernel
theorem dL_areSums_22 : decode cL_areSums 22 = .ok (.bipush 6, 2) := by decide +kernel
theorem dL_areSums_24 : decode cL_areSums 24 = .ok (.invokevirtual 50, 3) := by decide +kernel
theorem dL_areSums_27 : decode cL_areSums 27 = .ok (.iadd, 1) := by decide +kernel
theorem dL_areSums_28 : decode cL_areSums 28 = .ok (.istore_n 1, 1) := by decide +kernel
theorem dL_areSums_29 : decode cL_areSums 29 = .ok (.iload_n 2, 1) := by decide +kernel
theorem dL_areSums_30 : decode cL_areSums 30 = .ok (.aload_n 0, 1) := by decide +kernel
theorem dL_areSums_31 : decode cL_areSums 31 = .ok (.iload 5, 2) := by decide +kernel
theorem dL_areSums_33 : decode cL_areSums 33 = .ok (.bipush 9, 2) := by decide +kernel
theorem dL_areSums_35 : decode cL_areSums 35 = .ok (.invokevirtual 50, 3) := by decide +kernel
theorem dL_areSums_38 : decode cL_areSums 38 = .ok (.iadd, 1) := by decide +kernel
theorem dL_areSums_39 : decode cL_areSums 39 = .ok (.istore_n 2, 1) := by decide +kernel
theorem dL_areSums_40 : decode cL_areSums 40 = .ok (.iload_n 3, 1) := by decide +kernel
theorem dL_areSums_41 : decode cL_areSums 41 = .ok (.aload_n 0, 1) := by decide +kernel
theorem dL_areSums_42 : decode cL_areSums 42 = .ok (.iload 5, 2) := by decide +kernel
theorem dL_areSums_44 : decode cL_areSums 44 = .ok (.bipush 10, 2) := by decide +kernel
theorem dL_areSums_46 : decode cL_areSums 46 = .ok (.invokevirtual 50, 3) := by decide +kernel
theorem dL_areSums_49 : decode cL_areSums 49 = .ok (.iadd, 1) := by decide +kernel
theorem dL_areSums_50 : decode cL_areSums 50 = .ok (.istore_n 3, 1) := by decide +kernel
theorem dL_areSums_51 : decode cL_areSums 51 = .ok (.iload 4, 2) := by decide +kernel
theorem dL_areSums_53 : decode cL_areSums 53 = .ok (.ifCond .eq 30, 3) := by decide +kernel
theorem dL_areSums_56 : decode cL_areSums 56 = .ok (.aload_n 0, 1) := by decide +kernel
theorem dL_areSums_57 : decode cL_areSums 57 = .ok (.iload 5, 2) := by decide +kernel
theorem dL_areSums_59 : decode cL_areSums 59 = .ok (.bipush 6, 2) := by decide +kernel
theorem dL_areSums_61 : decode cL_areSums 61 = .ok (.invokevirtual 50, 3) := by decide +kernel
theorem dL_areSums_64 : decode cL_areSums 64 = .ok (.ifCond .lt 19, 3) := by decide +kernel
theorem dL_areSums_67 : decode cL_areSums 67 = .ok (.aload_n 0, 1) := by decide +kernel
theorem dL_areSums_68 : decode cL_areSums 68 = .ok (.iload 5, 2) := by decide +kernel
theorem dL_areSums_70 : decode cL_areSums 70 = .ok (.bipush 6, 2) := by decide +kernel
theorem dL_areSums_72 : decode cL_areSums 72 = .ok (.invokevirtual 50, 3) := by decide +kernel
theorem dL_areSums_75 : decode cL_areSums 75 = .ok (.iconst 4, 1) := by decide +kernel
theorem dL_areSums_76 : decode cL_areSums 76 = .ok (.if_icmp .ge 7, 3) := by decide +kernel
theorem dL_areSums_79 : decode cL_areSums 79 = .ok (.iconst 1, 1) := by decide +kernel
theorem dL_areSums_80 : decode cL_areSums 80 = .ok (.goto 4, 3) := by decide +kernel
theorem dL_areSums_83 : decode cL_areSums 83 = .ok (.iconst 0, 1) := by decide +kernel
theorem dL_areSums_84 : decode cL_areSums 84 = .ok (.istore 4, 2) := by decide +kernel
theorem dL_areSums_86 : decode cL_areSums 86 = .ok (.iconst 0, 1) := by decide +kernel
theorem dL_areSums_87 : decode cL_areSums 87 = .ok (.istore 6, 2) := by decide +kernel
theorem dL_areSums_89 : decode cL_areSums 89 = .ok (.iload 6, 2) := by decide +kernel
theorem dL_areSums_91 : decode cL_areSums 91 = .ok (.aload_n 0, 1) := by decide +kernel
theorem dL_areSums_92 : decode cL_areSums 92 = .ok (.iload 5, 2) := by decide +kernel
theorem dL_areSums_94 : decode cL_areSums 94 = .ok (.bipush 6, 2) := by decide +kernel
theorem dL_areSums_96 : decode cL_areSums 96 = .ok (.invokevirtual 50, 3) := by decide +kernel
theorem dL_areSums_99 : decode cL_areSums 99 = .ok (.if_icmp .ge 76, 3) := by decide +kernel
theorem dL_areSums_102 : decode cL_areSums 102 = .ok (.iload 4, 2) := by decide +kernel
theorem dL_areSums_104 : decode cL_areSums 104 = .ok (.ifCond .eq 62, 3) := by decide +kernel
theorem dL_areSums_107 : decode cL_areSums 107 = .ok (.aload_n 0, 1) := by decide +kernel
theorem dL_areSums_108 : decode cL_areSums 108 = .ok (.iload 5, 2) := by decide +kernel
theorem dL_areSums_110 : decode cL_areSums 110 = .ok (.iload 6, 2) := by decide +kernel
theorem dL_areSums_112 : decode cL_areSums 112 = .ok (.iconst 0, 1) := by decide +kernel
theorem dL_areSums_113 : decode cL_areSums 113 = .ok (.invokevirtual 53, 3) := by decide +kernel
theorem dL_areSums_116 : decode cL_areSums 116 = .ok (.bipush 19, 2) := by decide +kernel
theorem dL_areSums_118 : decode cL_areSums 118 = .ok (.if_icmp .le 48, 3) := by decide +kernel
theorem dL_areSums_121 : decode cL_areSums 121 = .ok (.aload_n 0, 1) := by decide +kernel
theorem dL_areSums_122 : decode cL_areSums 122 = .ok (.iload 5, 2) := by decide +kernel
theorem dL_areSums_124 : decode cL_areSums 124 = .ok (.iload 6, 2) := by decide +kernel
theorem dL_areSums_126 : decode cL_areSums 126 = .ok (.iconst 0, 1) := by decide +kernel
theorem dL_areSums_127 : decode cL_areSums 127 = .ok (.invokevirtual 53, 3) := by decide +kernel
theorem dL_areSums_130 : decode cL_areSums 130 = .ok (.sipush 151, 3) := by decide +kernel
theorem dL_areSums_133 : decode cL_areSums 133 = .ok (.if_icmp .ge 33, 3) := by decide +kernel
theorem dL_areSums_136 : decode cL_areSums 136 = .ok (.aload_n 0, 1) := by decide +kernel
theorem dL_areSums_137 : decode cL_areSums 137 = .ok (.iload 5, 2) := by decide +kernel
theorem dL_areSums_139 : decode cL_areSums 139 = .ok (.iload 6, 2) := by decide +kernel
theorem dL_areSums_141 : decode cL_areSums 141 = .ok (.iconst 1, 1) := by decide +kernel
theorem dL_areSums_142 : decode cL_areSums 142 = .ok (.invokevirtual 53, 3) := by decide +kernel
theorem dL_areSums_145 : decode cL_areSums 145 = .ok (.ifCond .lt 21, 3) := by decide +kernel
theorem dL_areSums_148 : decode cL_areSums 148 = .ok (.aload_n 0, 1) := by decide +kernel
theorem dL_areSums_149 : decode cL_areSums 149 = .ok (.iload 5, 2) := by decide +kernel
theorem dL_areSums_151 : decode cL_areSums 151 = .ok (.iload 6, 2) := by decide +kernel
theorem dL_areSums_153 : decode cL_areSums 153 = .ok (.iconst 1, 1) := by decide +kernel
theorem dL_areSums_154 : decode cL_areSums 154 = .ok (.invokevirtual 53, 3) := by decide +kernel
theorem dL_areSums_157 : decode cL_areSums 157 = .ok (.bipush 11, 2) := by decide +kernel
theorem dL_areSums_159 : decode cL_areSums 159 = .ok (.if_icmp .ge 7, 3) := by decide +kernel
theorem dL_areSums_162 : decode cL_areSums 162 = .ok (.iconst 1, 1) := by decide +kernel
theorem dL_areSums_163 : decode cL_areSums 163 = .ok (.goto 4, 3) := by decide +kernel
theorem dL_areSums_166 : decode cL_areSums 166 = .ok (.iconst 0, 1) := by decide +kernel
theorem dL_areSums_167 : decode cL_areSums 167 = .ok (.istore 4, 2) := by decide +kernel
theorem dL_areSums_169 : decode cL_areSums 169 = .ok (.iinc 6 1, 3) := by decide +kernel
theorem dL_areSums_172 : decode cL_areSums 172 = .ok (.goto (-83), 3) := by decide +kernel
theorem dL_areSums_175 : decode cL_areSums 175 = .ok (.iinc 5 1, 3) := by decide +kernel
theorem dL_areSums_178 : decode cL_areSums 178 = .ok (.goto (-166), 3) := by decide +kernel
theorem dL_areSums_181 : decode cL_areSums 181 = .ok (.aload_n 0, 1) := by decide +kernel
theorem dL_areSums_182 : decode cL_areSums 182 = .ok (.iconst 3, 1) := by decide +kernel
theorem dL_areSums_183 : decode cL_areSums 183 = .ok (.invokevirtual 46, 3) := by decide +kernel
theorem dL_areSums_186 : decode cL_areSums 186 = .ok (.istore 5, 2) := by decide +kernel
theorem dL_areSums_188 : decode cL_areSums 188 = .ok (.iload_n 1, 1) := by decide +kernel
theorem dL_areSums_189 : decode cL_areSums 189 = .ok (.iload 5, 2) := by decide +kernel
theorem dL_areSums_191 : decode cL_areSums 191 = .ok (.iadd, 1) := by decide +kernel
theorem dL_areSums_192 : decode cL_areSums 192 = .ok (.ifCond .ne 7, 3) := by decide +kernel
theorem dL_areSums_195 : decode cL_areSums 195 = .ok (.dconst 1, 1) := by decide +kernel
theorem dL_areSums_196 : decode cL_areSums 196 = .ok (.goto 13, 3) := by decide +kernel
theorem dL_areSums_199 : decode cL_areSums 199 = .ok (.iload_n 1, 1) := by decide +kernel
theorem dL_areSums_200 : decode cL_areSums 200 = .ok (.i2d, 1) := by decide +kernel
theorem dL_areSums_201 : decode cL_areSums 201 = .ok (.dconst 1, 1) := by decide +kernel
theorem dL_areSums_202 : decode cL_areSums 202 = .ok (.dmul, 1) := by decide +kernel
theorem dL_areSums_203 : decode cL_areSums 203 = .ok (.iload_n 1, 1) := by decide +kernel
theorem dL_areSums_204 : decode cL_areSums 204 = .ok (.iload 5, 2) := by decide +kernel
theorem dL_areSums_206 : decode cL_areSums 206 = .ok (.iadd, 1) := by decide +kernel
theorem dL_areSums_207 : decode cL_areSums 207 = .ok (.i2d, 1) := by decide +kernel
theorem dL_areSums_208 : decode cL_areSums 208 = .ok (.ddiv, 1) := by decide +kernel
theorem dL_areSums_209 : decode cL_areSums 209 = .ok (.dstore 6, 2) := by decide +kernel
theorem dL_areSums_211 : decode cL_areSums 211 = .ok (.iload 4, 2) := by decide +kernel
theorem dL_areSums_213 : decode cL_areSums 213 = .ok (.ifCond .eq 58, 3) := by decide +kernel
theorem dL_areSums_216 : decode cL_areSums 216 = .ok (.iload_n 1, 1) := by decide +kernel
theorem dL_areSums_217 : decode cL_areSums 217 = .ok (.aload_n 0, 1) := by decide +kernel
theorem dL_areSums_218 : decode cL_areSums 218 = .ok (.iconst 1, 1) := by decide +kernel
theorem dL_areSums_219 : decode cL_areSums 219 = .ok (.invokevirtual 46, 3) := by decide +kernel
theorem dL_areSums_222 : decode cL_areSums 222 = .ok (.if_icmp .ne 49, 3) := by decide +kernel
theorem dL_areSums_225 : decode cL_areSums 225 = .ok (.iload_n 2, 1) := by decide +kernel
theorem dL_areSums_226 : decode cL_areSums 226 = .ok (.aload_n 0, 1) := by decide +kernel
theorem dL_areSums_227 : decode cL_areSums 227 = .ok (.iconst 2, 1) := by decide +kernel
theorem dL_areSums_228 : decode cL_areSums 228 = .ok (.invokevirtual 46, 3) := by decide +kernel
theorem dL_areSums_231 : decode cL_areSums 231 = .ok (.if_icmp .ne 40, 3) := by decide +kernel
theorem dL_areSums_234 : decode cL_areSums 234 = .ok (.iload_n 3, 1) := by decide +kernel
theorem dL_areSums_235 : decode cL_areSums 235 = .ok (.aload_n 0, 1) := by decide +kernel
theorem dL_areSums_236 : decode cL_areSums 236 = .ok (.iconst 0, 1) := by decide +kernel
theorem dL_areSums_237 : decode cL_areSums 237 = .ok (.invokevirtual 46, 3) := by decide +kernel
theorem dL_areSums_240 : decode cL_areSums 240 = .ok (.if_icmp .ne 31, 3) := by decide +kernel
theorem dL_areSums_243 : decode cL_areSums 243 = .ok (.iload 5, 2) := by decide +kernel
theorem dL_areSums_245 : decode cL_areSums 245 = .ok (.iload_n 2, 1) := by decide +kernel
theorem dL_areSums_246 : decode cL_areSums 246 = .ok (.if_icmp .lt 25, 3) := by decide +kernel
theorem dL_areSums_249 : decode cL_areSums 249 = .ok (.iload 5, 2) := by decide +kernel
theorem dL_areSums_251 : decode cL_areSums 251 = .ok (.iconst 3, 1) := by decide +kernel
theorem dL_areSums_252 : decode cL_areSums 252 = .ok (.iload_n 2, 1) := by decide +kernel
theorem dL_areSums_253 : decode cL_areSums 253 = .ok (.imul, 1) := by decide +kernel
theorem dL_areSums_254 : decode cL_areSums 254 = .ok (.if_icmp .gt 17, 3) := by decide +kernel
theorem dL_areSums_257 : decode cL_areSums 257 = .ok (.aload_n 0, 1) := by decide +kernel
theorem dL_areSums_258 : decode cL_areSums 258 = .ok (.invokevirtual 77, 3) := by decide +kernel
theorem dL_areSums_261 : decode cL_areSums 261 = .ok (.dload 6, 2) := by decide +kernel
theorem dL_areSums_263 : decode cL_areSums 263 = .ok (.dcmp .l, 1) := by decide +kernel
theorem dL_areSums_264 : decode cL_areSums 264 = .ok (.ifCond .ne 7, 3) := by decide +kernel
theorem dL_areSums_267 : decode cL_areSums 267 = .ok (.iconst 1, 1) := by decide +kernel
theorem dL_areSums_268 : decode cL_areSums 268 = .ok (.goto 4, 3) := by decide +kernel
theorem dL_areSums_271 : decode cL_areSums 271 = .ok (.iconst 0, 1) := by decide +kernel
theorem dL_areSums_272 : decode cL_areSums 272 = .ok (.ireturn, 1) := by decide +kernel
set_option maxRecDepth 20000 in
theorem ggL_law_X5_init : GoodIn wsL_law wsX5_init := goodIn_r _ [6, 7, 8, 9, 10, 11, 12, 13, 14, 15, 16, 17, 18, 19, 20, 21, 22, 23, 24, 25, 26, 27, 28, 29, 30, 31, 32, 33, 34, 35, 36, 37, 38, 39, 40, 41, 42, 43, 44, 3, 45, 46, 47, 48, 49, 50, 51, 52, 53, 54, 55, 56, 57, 58, 59, 60, 61, 62, 63, 64, 65, 66, 67, 68, 69, 70, 71, 72, 73, 74, 360, 361, 362, 356, 357, 358, 359, 363, 364, 365, 366, 367, 368, 369, 370, 371, 372, 373, 374, 375, 376, 377, 378, 379, 380, 381, 382, 383, 384, 385] (by decide +kernel) (by decide +kernel)
set_option maxRecDepth 20000 in
theorem gL_law_X5_init : GoodIn wsL_law (wsX5_init) := ggL_law_X5_init
set_option maxRecDepth 20000 in
theorem ggL_law_L_cell : GoodIn wsL_law wsL_cell := goodIn_r _ [78] (by decide +kernel) (by decide +kernel)
set_option maxRecDepth 20000 in
theorem gL_law_L_cell : GoodIn wsL_law (va_wsS RL 82 yL_cell wsL_cell) := goodIn_app (goodIn_of _ (by decide +kernel)) ggL_law_L_cell
set_option maxRecDepth 20000 in
theorem ggL_law_X5_count : GoodIn wsL_law wsX5_count := goodIn_ca (goodIn_r _ [82, 83, 84, 13, 85, 86, 17, 87, 88, 89, 90, 12, 91, 31, 92, 93, 94, 24, 95, 96, 97, 98, 99, 100, 101, 102, 103, 104, 105, 106, 107, 41, 38, 37, 108, 109, 110, 111, 112, 113, 114, 115, 39, 46, 45, 116, 117, 118, 119, 120, 121, 122, 123, 42, 124, 125, 126, 127, 40, 128, 129, 130, 131, 132, 133, 134, 135, 136, 137, 138, 139, 140, 141, 142, 143, 144, 145, 356, 357, 358, 359, 360, 361, 362, 363, 364, 365, 370, 371, 372, 373, 374, 375, 376, 377, 378, 379] (by decide +kernel) (by decide +kernel)) (goodIn_sub (fun _ h => List.mem_append_left _ (List.mem_append_left _ (List.mem_append_right _ h))) (by decide +kernel))
set_option maxRecDepth 20000 in
theorem gL_law_X5_count : GoodIn wsL_law (wsV RL 46 RX5 yX5_count wsX5_count) := goodIn_app (goodIn_of _ (by decide +kernel)) ggL_law_X5_count
set_option maxRecDepth 20000 in
theorem ggL_law_L_act : GoodIn wsL_law wsL_act := goodIn_ca (goodIn_ca (goodIn_ca (goodIn_r _ [148, 149, 150, 77, 151, 152, 153, 154, 155, 156, 157, 158, 159, 160, 161, 2, 162, 17, 13, 163, 164, 165, 166, 167, 168, 169, 170, 171, 172, 173, 174, 175, 83, 84, 176, 177, 178, 16, 179, 53, 52, 54, 180, 181, 102, 182, 183, 184, 185, 12, 186, 31, 32, 33, 187, 188, 189, 24, 190, 37, 38, 39, 40, 41, 42, 43, 44, 45, 46, 191, 192, 193, 194, 140, 92, 93, 94, 95, 96, 97, 98, 99, 100, 101, 103, 104, 105, 106, 107, 108, 109, 110, 111, 112, 113, 114, 115, 116, 117, 118, 119, 120, 121, 122, 123, 124, 125, 126, 127, 128, 129, 130, 131, 132, 133, 134, 135, 195, 196, 197, 198, 145, 199, 200, 201, 202, 203, 204, 205, 206, 207, 208, 209, 210, 211, 212, 213, 214, 215, 216, 217, 218, 219, 220, 221, 222, 223, 224, 225, 226, 227, 228, 229, 230, 231, 232, 233, 234, 235, 236, 237, 238, 239, 240, 241, 242, 243, 244, 245, 246, 247, 248, 249, 250, 251, 252, 253, 254, 255, 256, 257, 258, 259, 260, 261, 262, 263, 356, 357, 358, 359, 370, 371, 372, 373, 374, 375, 376, 377, 378, 379, 360, 361, 362, 363, 364, 365] (by decide +kernel) (by decide +kernel)) (goodIn_sub (fun _ h => List.mem_append_left _ (List.mem_append_right _ h)) (by decide +kernel))) (goodIn_sub (fun _ h => List.mem_append_left _ (List.mem_append_left _ (List.mem_append_right _ h))) (by decide +kernel))) (goodIn_sub (fun _ h => List.mem_append_right _ h) (by decide +kernel))
set_option maxRecDepth 20000 in
theorem gL_law_L_act : GoodIn wsL_law (va_wsS RL 86 yL_act wsL_act) := goodIn_app (goodIn_of _ (by decide +kernel)) ggL_law_L_act
set_option maxRecDepth 20000 in
theorem ggL_law_L_areAlike : GoodIn wsL_law wsL_areAlike := goodIn_ca (goodIn_ca (goodIn_r _ [266, 79, 80, 81, 2, 82, 83, 84, 13, 85, 86, 17, 87, 88, 89, 90, 12, 91, 31, 92, 93, 94, 24, 95, 96, 97, 98, 99, 100, 101, 102, 103, 104, 105, 106, 107, 41, 38, 37, 108, 109, 110, 111, 112, 113, 114, 115, 39, 46, 45, 116, 117, 118, 119, 120, 121, 122, 123, 42, 124, 125, 126, 127, 40, 128, 129, 130, 131, 132, 133, 134, 135, 136, 137, 138, 139, 140, 141, 142, 143, 144, 145, 267, 268, 269, 270, 163, 164, 165, 207, 208, 213, 220, 271, 166, 167, 168, 169, 170, 171, 172, 272, 273, 274, 275, 276, 277, 278, 233, 234, 235, 236, 237, 238, 239, 44, 279, 280, 281, 282, 244, 283, 257, 258, 259, 356, 357, 358, 359, 360, 361, 362, 363, 364, 365, 370, 371, 372, 373, 374, 375, 376, 377, 378, 379] (by decide +kernel) (by decide +kernel)) (goodIn_sub (fun _ h => List.mem_append_left _ (List.mem_append_left _ (List.mem_append_right _ h))) (by decide +kernel))) (goodIn_sub (fun _ h => List.mem_append_left _ (List.mem_append_right _ h)) (by decide +kernel))
set_option maxRecDepth 20000 in
theorem gL_law_L_areAlike : GoodIn wsL_law (va_wsS RL 90 yL_areAlike wsL_areAlike) := goodIn_app (goodIn_of _ (by decide +kernel)) ggL_law_L_areAlike
set_option maxRecDepth 20000 in
theorem ggL_law_X5_undo : GoodIn wsL_law wsX5_undo := goodIn_ca (goodIn_r _ [287, 218, 219, 17, 87, 13, 288, 289, 290, 16, 291, 53, 54, 52, 183, 184, 185, 12, 186, 31, 32, 33, 187, 188, 189, 24, 190, 37, 38, 39, 40, 41, 42, 43, 44, 45, 46, 356, 357, 358, 359, 363, 364, 365, 360, 361, 362, 370, 371, 372, 373, 374, 375, 376, 377, 378, 379] (by decide +kernel) (by decide +kernel)) (goodIn_sub (fun _ h => List.mem_append_right _ h) (by decide +kernel))
set_option maxRecDepth 20000 in
theorem gL_law_X5_undo : GoodIn wsL_law (wsV RL 94 RX5 yX5_undo wsX5_undo) := goodIn_app (goodIn_of _ (by decide +kernel)) ggL_law_X5_undo
set_option maxRecDepth 20000 in
theorem ggL_law_L_areSums : GoodIn wsL_law wsL_areSums := goodIn_ca (goodIn_ca (goodIn_r _ [294, 267, 268, 269, 2, 270, 83, 84, 163, 164, 165, 207, 208, 213, 220, 271, 166, 167, 168, 169, 170, 171, 13, 172, 272, 129, 130, 24, 131, 39, 45, 273, 113, 114, 115, 46, 37, 274, 93, 94, 95, 96, 97, 98, 99, 100, 101, 102, 103, 104, 105, 106, 107, 41, 38, 108, 109, 110, 111, 112, 116, 117, 118, 119, 120, 121, 122, 123, 42, 124, 125, 126, 127, 40, 128, 132, 133, 134, 135, 275, 276, 277, 278, 233, 234, 235, 236, 237, 238, 239, 44, 279, 280, 281, 282, 244, 283, 257, 258, 259, 79, 80, 81, 82, 85, 86, 17, 87, 88, 89, 90, 12, 91, 31, 92, 136, 137, 138, 139, 140, 141, 142, 143, 144, 145, 295, 296, 297, 298, 370, 371, 372, 373, 374, 375, 376, 377, 378, 379, 356, 357, 358, 359, 360, 361, 362, 363, 364, 365] (by decide +kernel) (by decide +kernel)) (goodIn_sub (fun _ h => List.mem_append_left _ (List.mem_append_left _ (List.mem_append_right _ h))) (by decide +kernel))) (goodIn_sub (fun _ h => List.mem_append_left _ (List.mem_append_right _ h)) (by decide +kernel))
set_option maxRecDepth 20000 in
theorem gL_law_L_areSums : GoodIn wsL_law (va_wsS RL 98 yL_areSums wsL_areSums) := goodIn_app (goodIn_of _ (by decide +kernel)) ggL_law_L_areSums
set_option maxRecDepth 20000 in
theorem ggL_law_L_low : GoodIn wsL_law wsL_low := goodIn_r _ [151, 152] (by decide +kernel) (by decide +kernel)
set_option maxRecDepth 20000 in
theorem gL_law_L_low : GoodIn wsL_law (va_wsS RL 37 yL_low wsL_low) := goodIn_app (goodIn_of _ (by decide +kernel)) ggL_law_L_low
set_option maxRecDepth 20000 in
theorem ggL_law_L_isLadderSo : GoodIn wsL_law wsL_isLadderSo := goodIn_ca (goodIn_ca (goodIn_r _ [301, 302, 303, 304, 2, 305, 166, 167, 168, 169, 170, 171, 13, 172, 173, 174, 175, 83, 84, 306, 307, 308, 24, 309, 100, 101, 102, 103, 132, 133, 134, 135, 38, 37, 108, 109, 110, 111, 41, 112, 113, 114, 115, 39, 46, 45, 116, 117, 118, 119, 96, 97, 98, 99, 104, 105, 106, 107, 120, 121, 122, 123, 42, 124, 125, 126, 127, 40, 128, 129, 130, 131, 274, 93, 94, 95, 310, 311, 312, 313, 314, 315, 316, 181, 182, 317, 318, 319, 320, 272, 267, 268, 269, 270, 163, 164, 165, 207, 208, 213, 220, 271, 273, 275, 276, 277, 278, 233, 234, 235, 236, 237, 238, 239, 44, 279, 280, 281, 282, 244, 283, 257, 258, 259, 321, 322, 323, 324, 325, 326, 327, 328, 329, 254, 255, 330, 356, 357, 358, 359, 360, 361, 362, 370, 371, 372, 373, 374, 375, 376, 377, 378, 379] (by decide +kernel) (by decide +kernel)) (goodIn_sub (fun _ h => List.mem_append_left _ (List.mem_append_right _ h)) (by decide +kernel))) (goodIn_sub (fun _ h => List.mem_append_left _ (List.mem_append_left _ (List.mem_append_right _ h))) (by decide +kernel))
set_option maxRecDepth 20000 in
theorem gL_law_L_isLadderSo : GoodIn wsL_law (va_wsS RL 102 yL_isLadderSo wsL_isLadderSo) := goodIn_app (goodIn_of _ (by decide +kernel)) ggL_law_L_isLadderSo
set_option maxRecDepth 20000 in
theorem ggL_law_L_areTrialsSo : GoodIn wsL_law wsL_areTrialsSo := goodIn_ca (goodIn_ca (goodIn_r _ [333, 334, 335, 336, 2, 337, 25, 213, 166, 167, 168, 169, 170, 171, 13, 172, 338, 188, 189, 24, 190, 37, 38, 39, 40, 41, 42, 43, 44, 45, 46, 274, 93, 94, 95, 96, 97, 98, 99, 100, 101, 102, 103, 104, 105, 106, 107, 108, 109, 110, 111, 112, 113, 114, 115, 116, 117, 118, 119, 120, 121, 122, 123, 124, 125, 126, 127, 128, 129, 130, 131, 132, 133, 134, 135, 339, 340, 341, 342, 208, 343, 344, 345, 346, 163, 306, 307, 308, 309, 267, 268, 269, 270, 83, 84, 164, 165, 207, 220, 271, 272, 273, 347, 348, 349, 350, 240, 241, 242, 243, 244, 237, 238, 239, 351, 352, 353, 354, 233, 234, 235, 236, 283, 257, 258, 259, 355, 261, 262, 263, 275, 276, 277, 278, 279, 280, 281, 282, 356, 357, 358, 359, 370, 371, 372, 373, 374, 375, 376, 377, 378, 379, 360, 361, 362] (by decide +kernel) (by decide +kernel)) (goodIn_sub (fun _ h => List.mem_append_left _ (List.mem_append_right _ h)) (by decide +kernel))) (goodIn_sub (fun _ h => List.mem_append_left _ (List.mem_append_left _ (List.mem_append_right _ h))) (by decide +kernel))
set_option maxRecDepth 20000 in
theorem gL_law_L_areTrialsSo : GoodIn wsL_law (va_wsS RL 106 yL_areTrialsSo wsL_areTrialsSo) := goodIn_app (goodIn_of _ (by decide +kernel)) ggL_law_L_areTrialsSo
theorem dL_law_0 : decode cL_law 0 = .ok (.new 9, 3) := by decide +kernel
theorem dL_law_3 : decode cL_law 3 = .ok (.dup, 1) := by decide +kernel
theorem dL_law_4 : decode cL_law 4 = .ok (.invokespecial 81, 3) := by decide +kernel
theorem dL_law_7 : decode cL_law 7 = .ok (.astore_n 1, 1) := by decide +kernel
theorem dL_law_8 : decode cL_law 8 = .ok (.new 9, 3) := by decide +kernel
theorem dL_law_11 : decode cL_law 11 = .ok (.dup, 1) := by decide +kernel
theorem dL_law_12 : decode cL_law 12 = .ok (.invokespecial 81, 3) := by decide +kernel
theorem dL_law_15 : decode cL_law 15 = .ok (.astore_n 2, 1) := by decide +kernel
theorem dL_law_16 : decode cL_law 16 = .ok (.iconst 1, 1) := by decide +kernel
theorem dL_law_17 : decode cL_law 17 = .ok (.newarray .int, 2) := by decide +kernel
theorem dL_law_19 : decode cL_law 19 = .ok (.astore_n 3, 1) := by decide +kernel
theorem dL_law_20 : decode cL_law 20 = .ok (.iconst 0, 1) := by decide +kernel
theorem dL_law_21 : decode cL_law 21 = .ok (.istore 4, 2) := by decide +kernel
theorem dL_law_23 : decode cL_law 23 = .ok (.iload 4, 2) := by decide +kernel
theorem dL_law_25 : decode cL_law 25 = .ok (.bipush 44, 2) := by decide +kernel
theorem dL_law_27 : decode cL_law 27 = .ok (.if_icmp .ge 213, 3) := by decide +kernel
theorem dL_law_30 : decode cL_law 30 = .ok (.aload_n 0, 1) := by decide +kernel
theorem dL_law_31 : decode cL_law 31 = .ok (.iload 4, 2) := by decide +kernel
theorem dL_law_33 : decode cL_law 33 = .ok (.invokestatic 82, 3) := by decide +kernel
theorem dL_law_36 : decode cL_law 36 = .ok (.istore 5, 2) := by decide +kernel
theorem dL_law_38 : decode cL_law 38 = .ok (.aload_n 1, 1) := by decide +kernel
theorem dL_law_39 : decode cL_law 39 = .ok (.iconst 5, 1) := by decide +kernel
theorem dL_law_40 : decode cL_law 40 = .ok (.invokevirtual 46, 3) := by decide +kernel
theorem dL_law_43 : decode cL_law 43 = .ok (.istore 6, 2) := by decide +kernel
theorem dL_law_45 : decode cL_law 45 = .ok (.aload_n 1, 1) := by decide +kernel
theorem dL_law_46 : decode cL_law 46 = .ok (.iload 5, 2) := by decide +kernel
theorem dL_law_48 : decode cL_law 48 = .ok (.aload_n 3, 1) := by decide +kernel
theorem dL_law_49 : decode cL_law 49 = .ok (.invokestatic 86, 3) := by decide +kernel
theorem dL_law_52 : decode cL_law 52 = .ok (.istore 7, 2) := by decide +kernel
theorem dL_law_54 : decode cL_law 54 = .ok (.aload_n 3, 1) := by decide +kernel
theorem dL_law_55 : decode cL_law 55 = .ok (.iconst 0, 1) := by decide +kernel
theorem dL_law_56 : decode cL_law 56 = .ok (.iaload, 1) := by decide +kernel
theorem dL_law_57 : decode cL_law 57 = .ok (.istore 8, 2) := by decide +kernel
theorem dL_law_59 : decode cL_law 59 = .ok (.iload 7, 2) := by decide +kernel
theorem dL_law_61 : decode cL_law 61 = .ok (.ifCond .eq 23, 3) := by decide +kernel
theorem dL_law_64 : decode cL_law 64 = .ok (.aload_n 1, 1) := by decide +kernel
theorem dL_law_65 : decode cL_law 65 = .ok (.aload_n 2, 1) := by decide +kernel
theorem dL_law_66 : decode cL_law 66 = .ok (.invokestatic 90, 3) := by decide +kernel
theorem dL_law_69 : decode cL_law 69 = .ok (.ifCond .eq 13, 3) := by decide +kernel
theorem dL_law_72 : decode cL_law 72 = .ok (.aload_n 1, 1) := by decide +kernel
theorem dL_law_73 : decode cL_law 73 = .ok (.iconst 5, 1) := by decide +kernel
theorem dL_law_74 : decode cL_law 74 = .ok (.invokevirtual 46, 3) := by decide +kernel
theorem dL_law_77 : decode cL_law 77 = .ok (.iload 6, 2) := by decide +kernel
theorem dL_law_79 : decode cL_law 79 = .ok (.if_icmp .eq 5, 3) := by decide +kernel
theorem dL_law_82 : decode cL_law 82 = .ok (.iconst 0, 1) := by decide +kernel
theorem dL_law_83 : decode cL_law 83 = .ok (.ireturn, 1) := by decide +kernel
theorem dL_law_84 : decode cL_law 84 = .ok (.iload 7, 2) := by decide +kernel
theorem dL_law_86 : decode cL_law 86 = .ok (.ifCond .ne 65, 3) := by decide +kernel
theorem dL_law_89 : decode cL_law 89 = .ok (.iload 5, 2) := by decide +kernel
theorem dL_law_91 : decode cL_law 91 = .ok (.bipush 9, 2) := by decide +kernel
theorem dL_law_93 : decode cL_law 93 = .ok (.ishr, 1) := by decide +kernel
theorem dL_law_94 : decode cL_law 94 = .ok (.iconst 1, 1) := by decide +kernel
theorem dL_law_95 : decode cL_law 95 = .ok (.iand, 1) := by decide +kernel
theorem dL_law_96 : decode cL_law 96 = .ok (.ifCond .ne 55, 3) := by decide +kernel
theorem dL_law_99 : decode cL_law 99 = .ok (.aload_n 1, 1) := by decide +kernel
theorem dL_law_100 : decode cL_law 100 = .ok (.invokevirtual 94, 3) := by decide +kernel
theorem dL_law_103 : decode cL_law 103 = .ok (.istore 9, 2) := by decide +kernel
theorem dL_law_105 : decode cL_law 105 = .ok (.iload 9, 2) := by decide +kernel
theorem dL_law_107 : decode cL_law 107 = .ok (.iload 6, 2) := by decide +kernel
theorem dL_law_109 : decode cL_law 109 = .ok (.bipush 6, 2) := by decide +kernel
theorem dL_law_111 : decode cL_law 111 = .ok (.if_icmp .ne 7, 3) := by decide +kernel
theorem dL_law_114 : decode cL_law 114 = .ok (.iconst 5, 1) := by decide +kernel
theorem dL_law_115 : decode cL_law 115 = .ok (.goto 5, 3) := by decide +kernel
theorem dL_law_118 : decode cL_law 118 = .ok (.iload 6, 2) := by decide +kernel
theorem dL_law_120 : decode cL_law 120 = .ok (.if_icmp .ne 29, 3) := by decide +kernel
theorem dL_law_123 : decode cL_law 123 = .ok (.aload_n 1, 1) := by decide +kernel
theorem dL_law_124 : decode cL_law 124 = .ok (.aload_n 2, 1) := by decide +kernel
theorem dL_law_125 : decode cL_law 125 = .ok (.invokestatic 90, 3) := by decide +kernel
theorem dL_law_128 : decode cL_law 128 = .ok (.ifCond .eq 21, 3) := by decide +kernel
theorem dL_law_131 : decode cL_law 131 = .ok (.aload_n 1, 1) := by decide +kernel
theorem dL_law_132 : decode cL_law 132 = .ok (.iload 5, 2) := by decide +kernel
theorem dL_law_134 : decode cL_law 134 = .ok (.aload_n 3, 1) := by decide +kernel
theorem dL_law_135 : decode cL_law 135 = .ok (.invokestatic 86, 3) := by decide +kernel
theorem dL_law_138 : decode cL_law 138 = .ok (.ifCond .ne 11, 3) := by decide +kernel
theorem dL_law_141 : decode cL_law 141 = .ok (.aload_n 3, 1) := by decide +kernel
theorem dL_law_142 : decode cL_law 142 = .ok (.iconst 0, 1) := by decide +kernel
theorem dL_law_143 : decode cL_law 143 = .ok (.iaload, 1) := by decide +kernel
theorem dL_law_144 : decode cL_law 144 = .ok (.iload 8, 2) := by decide +kernel
theorem dL_law_146 : decode cL_law 146 = .ok (.if_icmp .eq 5, 3) := by decide +kernel
theorem dL_law_149 : decode cL_law 149 = .ok (.iconst 0, 1) := by decide +kernel
theorem dL_law_150 : decode cL_law 150 = .ok (.ireturn, 1) := by decide +kernel
theorem dL_law_151 : decode cL_law 151 = .ok (.aload_n 2, 1) := by decide +kernel
theorem dL_law_152 : decode cL_law 152 = .ok (.iload 5, 2) := by decide +kernel
theorem dL_law_154 : decode cL_law 154 = .ok (.aload_n 3, 1) := by decide +kernel
theorem dL_law_155 : decode cL_law 155 = .ok (.invokestatic 86, 3) := by decide +kernel
theorem dL_law_158 : decode cL_law 158 = .ok (.iload 7, 2) := by decide +kernel
theorem dL_law_160 : decode cL_law 160 = .ok (.if_icmp .ne 24, 3) := by decide +kernel
theorem dL_law_163 : decode cL_law 163 = .ok (.iload 7, 2) := by decide +kernel
theorem dL_law_165 : decode cL_law 165 = .ok (.ifCond .ne 11, 3) := by decide +kernel
theorem dL_law_168 : decode cL_law 168 = .ok (.aload_n 3, 1) := by decide +kernel
theorem dL_law_169 : decode cL_law 169 = .ok (.iconst 0, 1) := by decide +kernel
theorem dL_law_170 : decode cL_law 170 = .ok (.iaload, 1) := by decide +kernel
theorem dL_law_171 : decode cL_law 171 = .ok (.iload 8, 2) := by decide +kernel
theorem dL_law_173 : decode cL_law 173 = .ok (.if_icmp .ne 11, 3) := by decide +kernel
theorem dL_law_176 : decode cL_law 176 = .ok (.aload_n 1, 1) := by decide +kernel
theorem dL_law_177 : decode cL_law 177 = .ok (.aload_n 2, 1) := by decide +kernel
theorem dL_law_178 : decode cL_law 178 = .ok (.invokestatic 90, 3) := by decide +kernel
theorem dL_law_181 : decode cL_law 181 = .ok (.ifCond .ne 5, 3) := by decide +kernel
theorem dL_law_184 : decode cL_law 184 = .ok (.iconst 0, 1) := by decide +kernel
theorem dL_law_185 : decode cL_law 185 = .ok (.ireturn, 1) := by decide +kernel
theorem dL_law_186 : decode cL_law 186 = .ok (.iload 4, 2) := by decide +kernel
theorem dL_law_188 : decode cL_law 188 = .ok (.iconst 4, 1) := by decide +kernel
theorem dL_law_189 : decode cL_law 189 = .ok (.irem, 1) := by decide +kernel
theorem dL_law_190 : decode cL_law 190 = .ok (.iconst 3, 1) := by decide +kernel
theorem dL_law_191 : decode cL_law 191 = .ok (.if_icmp .ne 43, 3) := by decide +kernel
theorem dL_law_194 : decode cL_law 194 = .ok (.aload_n 1, 1) := by decide +kernel
theorem dL_law_195 : decode cL_law 195 = .ok (.invokestatic 98, 3) := by decide +kernel
theorem dL_law_198 : decode cL_law 198 = .ok (.ifCond .eq 34, 3) := by decide +kernel
theorem dL_law_201 : decode cL_law 201 = .ok (.aload_n 1, 1) := by decide +kernel
theorem dL_law_202 : decode cL_law 202 = .ok (.iload 5, 2) := by decide +kernel
theorem dL_law_204 : decode cL_law 204 = .ok (.iconst 4, 1) := by decide +kernel
theorem dL_law_205 : decode cL_law 205 = .ok (.ishr, 1) := by decide +kernel
theorem dL_law_206 : decode cL_law 206 = .ok (.iconst 3, 1) := by decide +kernel
theorem dL_law_207 : decode cL_law 207 = .ok (.invokestatic 37, 3) := by decide +kernel
theorem dL_law_210 : decode cL_law 210 = .ok (.invokestatic 102, 3) := by decide +kernel
theorem dL_law_213 : decode cL_law 213 = .ok (.ifCond .eq 19, 3) := by decide +kernel
theorem dL_law_216 : decode cL_law 216 = .ok (.aload_n 1, 1) := by decide +kernel
theorem dL_law_217 : decode cL_law 217 = .ok (.iload 5, 2) := by decide +kernel
theorem dL_law_219 : decode cL_law 219 = .ok (.bipush 6, 2) := by decide +kernel
theorem dL_law_221 : decode cL_law 221 = .ok (.ishr, 1) := by decide +kernel
theorem dL_law_222 : decode cL_law 222 = .ok (.iconst 3, 1) := by decide +kernel
theorem dL_law_223 : decode cL_law 223 = .ok (.invokestatic 37, 3) := by decide +kernel
theorem dL_law_226 : decode cL_law 226 = .ok (.invokestatic 106, 3) := by decide +kernel
theorem dL_law_229 : decode cL_law 229 = .ok (.ifCond .ne 5, 3) := by decide +kernel
theorem dL_law_232 : decode cL_law 232 = .ok (.iconst 0, 1) := by decide +kernel
theorem dL_law_233 : decode cL_law 233 = .ok (.ireturn, 1) := by decide +kernel
theorem dL_law_234 : decode cL_law 234 = .ok (.iinc 4 1, 3) := by decide +kernel
theorem dL_law_237 : decode cL_law 237 = .ok (.goto (-214), 3) := by decide +kernel
theorem dL_law_240 : decode cL_law 240 = .ok (.aload_n 1, 1) := by decide +kernel
theorem dL_law_241 : decode cL_law 241 = .ok (.invokestatic 98, 3) := by decide +kernel
theorem dL_law_244 : decode cL_law 244 = .ok (.ireturn, 1) := by decide +kernel
