/-! rows of acts (printed) -/
set_option maxRecDepth 20000 in
theorem ggL_acts_X4_count : GoodIn wsL_acts wsX4_count := goodIn_r _ [5, 6, 7, 8, 9, 10, 11, 12, 13, 14, 15, 16, 17, 18, 19, 20, 21, 22, 23, 24, 25, 26, 27, 28, 29, 30, 31, 32, 33, 34, 35, 36, 37, 38, 39, 40, 41, 42, 43, 44, 45, 46, 47, 48, 49, 50, 51, 52, 53, 54, 55, 56, 57, 58, 59, 60, 61, 62, 63, 64, 65, 66, 67, 68, 69, 70, 71, 72, 316, 317, 318, 319, 320, 321, 322, 323, 324, 325, 326, 327, 328, 329, 330, 331, 332, 333, 334, 335, 336, 337] (by decide +kernel) (by decide +kernel)
set_option maxRecDepth 20000 in
theorem gL_acts_X4_count : GoodIn wsL_acts (wsV RL 13 RX4 yX4_count wsX4_count) := goodIn_app (goodIn_of _ (by decide +kernel)) ggL_acts_X4_count
set_option maxRecDepth 20000 in
theorem ggL_acts_L_up : GoodIn wsL_acts wsL_up := goodIn_r _ [76, 77] (by decide +kernel) (by decide +kernel)
set_option maxRecDepth 20000 in
theorem gL_acts_L_up : GoodIn wsL_acts (va_wsS RL 101 yL_up wsL_up) := goodIn_app (goodIn_of _ (by decide +kernel)) ggL_acts_L_up
set_option maxRecDepth 20000 in
theorem ggL_acts_L_mark : GoodIn wsL_acts wsL_mark := goodIn_r _ [80, 81, 82, 1, 2, 3, 4, 5, 6, 7, 8, 9, 10, 11, 12, 13, 14, 15, 16, 17, 18, 19, 20, 21, 22, 23, 24, 25, 26, 27, 28, 29, 30, 31, 32, 33, 34, 35, 36, 37, 38, 39, 40, 41, 42, 43, 44, 45, 46, 47, 48, 49, 50, 51, 52, 53, 54, 55, 56, 57, 58, 59, 60, 61, 62, 63, 64, 65, 66, 67, 68, 69, 70, 71, 72, 83, 84, 85, 86, 87, 88, 89, 90, 91, 92, 93, 94, 95, 96, 97, 98, 99, 100, 101, 102, 103, 104, 105, 106, 107, 108, 109, 110, 111, 112, 113, 114, 115, 116, 117, 118, 119, 120, 121, 122, 123, 124, 125, 126, 127, 128, 129, 130, 131, 132, 133, 134, 135, 136, 137, 138, 139, 140, 141, 142, 143, 144, 145, 146, 147, 148, 149, 150, 151, 152, 153, 154, 155, 156, 157, 158, 159, 160, 316, 317, 318, 319, 320, 321, 322, 323, 324, 325, 326, 327, 328, 329, 330, 331, 332, 333, 334, 335, 336, 337] (by decide +kernel) (by decide +kernel)
set_option maxRecDepth 20000 in
theorem gL_acts_L_mark : GoodIn wsL_acts (va_wsS RL 33 yL_mark wsL_mark) := goodIn_app (goodIn_of _ (by decide +kernel)) ggL_acts_L_mark
set_option maxRecDepth 20000 in
theorem ggL_acts_X4_tollToDock : GoodIn wsL_acts wsX4_tollToDock := goodIn_r _ [164, 165, 6, 87, 91, 92, 93, 4, 94, 7, 166, 167, 168, 27, 169, 110, 170, 171, 172, 173, 30, 29, 43, 174, 175, 176, 177, 178, 179, 180, 181, 182, 183, 184, 119, 120, 121, 122, 123, 124, 125, 126, 39, 40, 41, 42, 185, 186, 187, 188, 316, 317, 318, 319, 320, 321, 322, 323, 331, 332, 333, 334, 335, 336, 337] (by decide +kernel) (by decide +kernel)
set_option maxRecDepth 20000 in
theorem gL_acts_X4_tollToDock : GoodIn wsL_acts (wsV RL 88 RX4 yX4_tollToDock wsX4_tollToDock) := goodIn_app (goodIn_of _ (by decide +kernel)) ggL_acts_X4_tollToDock
set_option maxRecDepth 20000 in
theorem ggL_acts_X4_set : GoodIn wsL_acts wsX4_set := goodIn_r _ [86, 6, 87, 88, 89, 90, 91, 92, 93, 4, 94, 7, 95, 49, 50, 27, 51, 29, 96, 97, 98, 99, 100, 25, 26, 28, 30, 101, 36, 37, 38, 39, 40, 41, 42, 43, 102, 103, 104, 105, 106, 107, 108, 109, 110, 111, 62, 63, 64, 65, 66, 67, 112, 113, 114, 115, 116, 117, 118, 119, 120, 121, 122, 123, 124, 125, 126, 316, 317, 318, 319, 320, 321, 322, 323, 331, 332, 333, 334, 335, 336, 337] (by decide +kernel) (by decide +kernel)
set_option maxRecDepth 20000 in
theorem gL_acts_X4_set : GoodIn wsL_acts (wsV RL 19 RX4 yX4_set wsX4_set) := goodIn_app (goodIn_of _ (by decide +kernel)) ggL_acts_X4_set
set_option maxRecDepth 20000 in
theorem ggL_acts_L_act : GoodIn wsL_acts wsL_act := goodIn_r _ [191, 1, 2, 3, 4, 5, 6, 7, 8, 9, 10, 11, 12, 13, 14, 15, 16, 17, 18, 19, 20, 21, 22, 23, 24, 25, 26, 27, 28, 29, 30, 31, 32, 33, 34, 35, 36, 37, 38, 39, 40, 41, 42, 43, 44, 45, 46, 47, 48, 49, 50, 51, 52, 53, 54, 55, 56, 57, 58, 59, 60, 61, 62, 63, 64, 65, 66, 67, 68, 69, 70, 71, 72, 73, 74, 75, 76, 77, 192, 193, 194, 195, 87, 132, 196, 197, 198, 199, 165, 91, 92, 93, 94, 144, 145, 146, 166, 167, 168, 169, 110, 170, 171, 172, 173, 174, 175, 176, 200, 201, 202, 203, 204, 205, 206, 207, 208, 209, 210, 211, 212, 213, 214, 215, 216, 217, 218, 219, 220, 221, 222, 223, 224, 225, 226, 185, 186, 187, 188, 119, 120, 121, 122, 123, 124, 125, 126, 227, 228, 229, 230, 231, 232, 233, 234, 235, 236, 237, 238, 239, 240, 241, 242, 243, 244, 245, 246, 247, 248, 249, 250, 131, 251, 252, 253, 254, 255, 256, 257, 258, 259, 260, 261, 262, 89, 96, 97, 98, 99, 100, 263, 264, 265, 266, 177, 178, 179, 180, 181, 182, 183, 184, 267, 268, 269, 270, 271, 272, 273, 274, 275, 276, 277, 278, 279, 280, 281, 282, 283, 284, 285, 286, 287, 288, 289, 290, 291, 95, 292, 293, 294, 295, 88, 296, 297, 298, 299, 300, 301, 302, 303, 304, 305, 306, 307, 316, 317, 318, 319, 320, 321, 322, 323, 324, 325, 326, 327, 328, 329, 330, 331, 332, 333, 334, 335, 336, 337] (by decide +kernel) (by decide +kernel)
set_option maxRecDepth 20000 in
theorem gL_acts_L_act : GoodIn wsL_acts (va_wsS RL 119 yL_act wsL_act) := goodIn_app (goodIn_of _ (by decide +kernel)) ggL_acts_L_act
set_option maxRecDepth 20000 in
theorem ggL_acts_X4_undo : GoodIn wsL_acts wsX4_undo := goodIn_r _ [311, 8, 9, 6, 312, 313, 314, 234, 315, 236, 237, 242, 243, 244, 15, 245, 17, 18, 246, 167, 168, 27, 169, 110, 170, 171, 172, 173, 30, 29, 43, 174, 175, 176, 316, 317, 318, 319, 320, 321, 324, 325, 322, 323, 331, 332, 333, 334, 335, 336, 337] (by decide +kernel) (by decide +kernel)
set_option maxRecDepth 20000 in
theorem gL_acts_X4_undo : GoodIn wsL_acts (wsV RL 123 RX4 yX4_undo wsX4_undo) := goodIn_app (goodIn_of _ (by decide +kernel)) ggL_acts_X4_undo
theorem dL_acts_0 : decode cL_acts 0 = .ok (.aload_n 0, 1) := by decide +kernel
theorem dL_acts_1 : decode cL_acts 1 = .ok (.bipush 9, 2) := by decide +kernel
theorem dL_acts_3 : decode cL_acts 3 = .ok (.invokevirtual 13, 3) := by decide +kernel
theorem dL_acts_6 : decode cL_acts 6 = .ok (.istore 4, 2) := by decide +kernel
theorem dL_acts_8 : decode cL_acts 8 = .ok (.aload_n 0, 1) := by decide +kernel
theorem dL_acts_9 : decode cL_acts 9 = .ok (.iconst 0, 1) := by decide +kernel
theorem dL_acts_10 : decode cL_acts 10 = .ok (.invokevirtual 13, 3) := by decide +kernel
theorem dL_acts_13 : decode cL_acts 13 = .ok (.istore 5, 2) := by decide +kernel
theorem dL_acts_15 : decode cL_acts 15 = .ok (.iload_n 1, 1) := by decide +kernel
theorem dL_acts_16 : decode cL_acts 16 = .ok (.iload 5, 2) := by decide +kernel
theorem dL_acts_18 : decode cL_acts 18 = .ok (.invokestatic 101, 3) := by decide +kernel
theorem dL_acts_21 : decode cL_acts 21 = .ok (.istore 6, 2) := by decide +kernel
theorem dL_acts_23 : decode cL_acts 23 = .ok (.aload_n 0, 1) := by decide +kernel
theorem dL_acts_24 : decode cL_acts 24 = .ok (.invokestatic 33, 3) := by decide +kernel
theorem dL_acts_27 : decode cL_acts 27 = .ok (.lstore 7, 2) := by decide +kernel
theorem dL_acts_29 : decode cL_acts 29 = .ok (.aload_n 3, 1) := by decide +kernel
theorem dL_acts_30 : decode cL_acts 30 = .ok (.iload 6, 2) := by decide +kernel
theorem dL_acts_32 : decode cL_acts 32 = .ok (.iaload, 1) := by decide +kernel
theorem dL_acts_33 : decode cL_acts 33 = .ok (.istore 9, 2) := by decide +kernel
theorem dL_acts_35 : decode cL_acts 35 = .ok (.aload_n 0, 1) := by decide +kernel
theorem dL_acts_36 : decode cL_acts 36 = .ok (.iload 6, 2) := by decide +kernel
theorem dL_acts_38 : decode cL_acts 38 = .ok (.invokevirtual 88, 3) := by decide +kernel
theorem dL_acts_41 : decode cL_acts 41 = .ok (.istore 10, 2) := by decide +kernel
theorem dL_acts_43 : decode cL_acts 43 = .ok (.aload_n 0, 1) := by decide +kernel
theorem dL_acts_44 : decode cL_acts 44 = .ok (.iload 6, 2) := by decide +kernel
theorem dL_acts_46 : decode cL_acts 46 = .ok (.iconst 0, 1) := by decide +kernel
theorem dL_acts_47 : decode cL_acts 47 = .ok (.invokevirtual 19, 3) := by decide +kernel
theorem dL_acts_50 : decode cL_acts 50 = .ok (.istore 11, 2) := by decide +kernel
theorem dL_acts_52 : decode cL_acts 52 = .ok (.iload_n 1, 1) := by decide +kernel
theorem dL_acts_53 : decode cL_acts 53 = .ok (.iconst 3, 1) := by decide +kernel
theorem dL_acts_54 : decode cL_acts 54 = .ok (.ishr, 1) := by decide +kernel
theorem dL_acts_55 : decode cL_acts 55 = .ok (.bipush 11, 2) := by decide +kernel
theorem dL_acts_57 : decode cL_acts 57 = .ok (.invokestatic 101, 3) := by decide +kernel
theorem dL_acts_60 : decode cL_acts 60 = .ok (.istore 12, 2) := by decide +kernel
theorem dL_acts_62 : decode cL_acts 62 = .ok (.aload_n 0, 1) := by decide +kernel
theorem dL_acts_63 : decode cL_acts 63 = .ok (.iload_n 1, 1) := by decide +kernel
theorem dL_acts_64 : decode cL_acts 64 = .ok (.iload_n 2, 1) := by decide +kernel
theorem dL_acts_65 : decode cL_acts 65 = .ok (.aload_n 3, 1) := by decide +kernel
theorem dL_acts_66 : decode cL_acts 66 = .ok (.invokestatic 119, 3) := by decide +kernel
theorem dL_acts_69 : decode cL_acts 69 = .ok (.istore 13, 2) := by decide +kernel
theorem dL_acts_71 : decode cL_acts 71 = .ok (.iload 13, 2) := by decide +kernel
theorem dL_acts_73 : decode cL_acts 73 = .ok (.ifCond .ge 30, 3) := by decide +kernel
theorem dL_acts_76 : decode cL_acts 76 = .ok (.aload_n 0, 1) := by decide +kernel
theorem dL_acts_77 : decode cL_acts 77 = .ok (.invokestatic 33, 3) := by decide +kernel
theorem dL_acts_80 : decode cL_acts 80 = .ok (.lload 7, 2) := by decide +kernel
theorem dL_acts_82 : decode cL_acts 82 = .ok (.lcmp, 1) := by decide +kernel
theorem dL_acts_83 : decode cL_acts 83 = .ok (.ifCond .ne 18, 3) := by decide +kernel
theorem dL_acts_86 : decode cL_acts 86 = .ok (.aload_n 0, 1) := by decide +kernel
theorem dL_acts_87 : decode cL_acts 87 = .ok (.bipush 9, 2) := by decide +kernel
theorem dL_acts_89 : decode cL_acts 89 = .ok (.invokevirtual 13, 3) := by decide +kernel
theorem dL_acts_92 : decode cL_acts 92 = .ok (.iload 4, 2) := by decide +kernel
theorem dL_acts_94 : decode cL_acts 94 = .ok (.if_icmp .ne 7, 3) := by decide +kernel
theorem dL_acts_97 : decode cL_acts 97 = .ok (.iconst 1, 1) := by decide +kernel
theorem dL_acts_98 : decode cL_acts 98 = .ok (.goto 4, 3) := by decide +kernel
theorem dL_acts_101 : decode cL_acts 101 = .ok (.iconst 0, 1) := by decide +kernel
theorem dL_acts_102 : decode cL_acts 102 = .ok (.ireturn, 1) := by decide +kernel
theorem dL_acts_103 : decode cL_acts 103 = .ok (.aload_n 0, 1) := by decide +kernel
theorem dL_acts_104 : decode cL_acts 104 = .ok (.iload 6, 2) := by decide +kernel
theorem dL_acts_106 : decode cL_acts 106 = .ok (.iconst 0, 1) := by decide +kernel
theorem dL_acts_107 : decode cL_acts 107 = .ok (.invokevirtual 19, 3) := by decide +kernel
theorem dL_acts_110 : decode cL_acts 110 = .ok (.istore 14, 2) := by decide +kernel
theorem dL_acts_112 : decode cL_acts 112 = .ok (.aload_n 0, 1) := by decide +kernel
theorem dL_acts_113 : decode cL_acts 113 = .ok (.bipush 9, 2) := by decide +kernel
theorem dL_acts_115 : decode cL_acts 115 = .ok (.invokevirtual 13, 3) := by decide +kernel
theorem dL_acts_118 : decode cL_acts 118 = .ok (.iload 4, 2) := by decide +kernel
theorem dL_acts_120 : decode cL_acts 120 = .ok (.iconst 4, 1) := by decide +kernel
theorem dL_acts_121 : decode cL_acts 121 = .ok (.if_icmp .ge 10, 3) := by decide +kernel
theorem dL_acts_124 : decode cL_acts 124 = .ok (.iload 4, 2) := by decide +kernel
theorem dL_acts_126 : decode cL_acts 126 = .ok (.iconst 1, 1) := by decide +kernel
theorem dL_acts_127 : decode cL_acts 127 = .ok (.iadd, 1) := by decide +kernel
theorem dL_acts_128 : decode cL_acts 128 = .ok (.goto 4, 3) := by decide +kernel
theorem dL_acts_131 : decode cL_acts 131 = .ok (.iconst 4, 1) := by decide +kernel
theorem dL_acts_132 : decode cL_acts 132 = .ok (.if_icmp .ne 134, 3) := by decide +kernel
theorem dL_acts_135 : decode cL_acts 135 = .ok (.iload 12, 2) := by decide +kernel
theorem dL_acts_137 : decode cL_acts 137 = .ok (.iconst 1, 1) := by decide +kernel
theorem dL_acts_138 : decode cL_acts 138 = .ok (.if_icmp .gt 12, 3) := by decide +kernel
theorem dL_acts_141 : decode cL_acts 141 = .ok (.iload 14, 2) := by decide +kernel
theorem dL_acts_143 : decode cL_acts 143 = .ok (.iload 11, 2) := by decide +kernel
theorem dL_acts_145 : decode cL_acts 145 = .ok (.iconst 1, 1) := by decide +kernel
theorem dL_acts_146 : decode cL_acts 146 = .ok (.iadd, 1) := by decide +kernel
theorem dL_acts_147 : decode cL_acts 147 = .ok (.if_icmp .ne 119, 3) := by decide +kernel
theorem dL_acts_150 : decode cL_acts 150 = .ok (.iload 12, 2) := by decide +kernel
theorem dL_acts_152 : decode cL_acts 152 = .ok (.iconst 2, 1) := by decide +kernel
theorem dL_acts_153 : decode cL_acts 153 = .ok (.if_icmp .ne 12, 3) := by decide +kernel
theorem dL_acts_156 : decode cL_acts 156 = .ok (.iload 14, 2) := by decide +kernel
theorem dL_acts_158 : decode cL_acts 158 = .ok (.iload 11, 2) := by decide +kernel
theorem dL_acts_160 : decode cL_acts 160 = .ok (.iconst 1, 1) := by decide +kernel
theorem dL_acts_161 : decode cL_acts 161 = .ok (.isub, 1) := by decide +kernel
theorem dL_acts_162 : decode cL_acts 162 = .ok (.if_icmp .ne 104, 3) := by decide +kernel
theorem dL_acts_165 : decode cL_acts 165 = .ok (.iload 12, 2) := by decide +kernel
theorem dL_acts_167 : decode cL_acts 167 = .ok (.iconst 3, 1) := by decide +kernel
theorem dL_acts_168 : decode cL_acts 168 = .ok (.if_icmp .eq 9, 3) := by decide +kernel
theorem dL_acts_171 : decode cL_acts 171 = .ok (.iload 12, 2) := by decide +kernel
theorem dL_acts_173 : decode cL_acts 173 = .ok (.iconst 4, 1) := by decide +kernel
theorem dL_acts_174 : decode cL_acts 174 = .ok (.if_icmp .ne 13, 3) := by decide +kernel
theorem dL_acts_177 : decode cL_acts 177 = .ok (.iload 14, 2) := by decide +kernel
theorem dL_acts_179 : decode cL_acts 179 = .ok (.iload 11, 2) := by decide +kernel
theorem dL_acts_181 : decode cL_acts 181 = .ok (.iload 13, 2) := by decide +kernel
theorem dL_acts_183 : decode cL_acts 183 = .ok (.iadd, 1) := by decide +kernel
theorem dL_acts_184 : decode cL_acts 184 = .ok (.if_icmp .ne 82, 3) := by decide +kernel
theorem dL_acts_187 : decode cL_acts 187 = .ok (.iload 12, 2) := by decide +kernel
theorem dL_acts_189 : decode cL_acts 189 = .ok (.iconst 5, 1) := by decide +kernel
theorem dL_acts_190 : decode cL_acts 190 = .ok (.if_icmp .ne 13, 3) := by decide +kernel
theorem dL_acts_193 : decode cL_acts 193 = .ok (.iload 14, 2) := by decide +kernel
theorem dL_acts_195 : decode cL_acts 195 = .ok (.iload 11, 2) := by decide +kernel
theorem dL_acts_197 : decode cL_acts 197 = .ok (.iload 13, 2) := by decide +kernel
theorem dL_acts_199 : decode cL_acts 199 = .ok (.isub, 1) := by decide +kernel
theorem dL_acts_200 : decode cL_acts 200 = .ok (.if_icmp .ne 66, 3) := by decide +kernel
theorem dL_acts_203 : decode cL_acts 203 = .ok (.iload 12, 2) := by decide +kernel
theorem dL_acts_205 : decode cL_acts 205 = .ok (.bipush 7, 2) := by decide +kernel
theorem dL_acts_207 : decode cL_acts 207 = .ok (.if_icmp .ne 20, 3) := by decide +kernel
theorem dL_acts_210 : decode cL_acts 210 = .ok (.iload 13, 2) := by decide +kernel
theorem dL_acts_212 : decode cL_acts 212 = .ok (.iload 10, 2) := by decide +kernel
theorem dL_acts_214 : decode cL_acts 214 = .ok (.if_icmp .ne 52, 3) := by decide +kernel
theorem dL_acts_217 : decode cL_acts 217 = .ok (.aload_n 0, 1) := by decide +kernel
theorem dL_acts_218 : decode cL_acts 218 = .ok (.iload 6, 2) := by decide +kernel
theorem dL_acts_220 : decode cL_acts 220 = .ok (.iconst 4, 1) := by decide +kernel
theorem dL_acts_221 : decode cL_acts 221 = .ok (.invokevirtual 19, 3) := by decide +kernel
theorem dL_acts_224 : decode cL_acts 224 = .ok (.ifCond .ne 42, 3) := by decide +kernel
theorem dL_acts_227 : decode cL_acts 227 = .ok (.iload 12, 2) := by decide +kernel
theorem dL_acts_229 : decode cL_acts 229 = .ok (.bipush 8, 2) := by decide +kernel
theorem dL_acts_231 : decode cL_acts 231 = .ok (.if_icmp .ne 10, 3) := by decide +kernel
theorem dL_acts_234 : decode cL_acts 234 = .ok (.iload 14, 2) := by decide +kernel
theorem dL_acts_236 : decode cL_acts 236 = .ok (.iload 13, 2) := by decide +kernel
theorem dL_acts_238 : decode cL_acts 238 = .ok (.if_icmp .ne 28, 3) := by decide +kernel
theorem dL_acts_241 : decode cL_acts 241 = .ok (.iload 12, 2) := by decide +kernel
theorem dL_acts_243 : decode cL_acts 243 = .ok (.bipush 6, 2) := by decide +kernel
theorem dL_acts_245 : decode cL_acts 245 = .ok (.if_icmp .lt 17, 3) := by decide +kernel
theorem dL_acts_248 : decode cL_acts 248 = .ok (.iload 12, 2) := by decide +kernel
theorem dL_acts_250 : decode cL_acts 250 = .ok (.bipush 8, 2) := by decide +kernel
theorem dL_acts_252 : decode cL_acts 252 = .ok (.if_icmp .eq 10, 3) := by decide +kernel
theorem dL_acts_255 : decode cL_acts 255 = .ok (.iload 14, 2) := by decide +kernel
theorem dL_acts_257 : decode cL_acts 257 = .ok (.iload 11, 2) := by decide +kernel
theorem dL_acts_259 : decode cL_acts 259 = .ok (.if_icmp .ne 7, 3) := by decide +kernel
theorem dL_acts_262 : decode cL_acts 262 = .ok (.iconst 1, 1) := by decide +kernel
theorem dL_acts_263 : decode cL_acts 263 = .ok (.goto 4, 3) := by decide +kernel
theorem dL_acts_266 : decode cL_acts 266 = .ok (.iconst 0, 1) := by decide +kernel
theorem dL_acts_267 : decode cL_acts 267 = .ok (.istore 15, 2) := by decide +kernel
theorem dL_acts_269 : decode cL_acts 269 = .ok (.iload 15, 2) := by decide +kernel
theorem dL_acts_271 : decode cL_acts 271 = .ok (.ifCond .eq 12, 3) := by decide +kernel
theorem dL_acts_274 : decode cL_acts 274 = .ok (.iload_n 1, 1) := by decide +kernel
theorem dL_acts_275 : decode cL_acts 275 = .ok (.bipush 20, 2) := by decide +kernel
theorem dL_acts_277 : decode cL_acts 277 = .ok (.ishr, 1) := by decide +kernel
theorem dL_acts_278 : decode cL_acts 278 = .ok (.iconst 3, 1) := by decide +kernel
theorem dL_acts_279 : decode cL_acts 279 = .ok (.iand, 1) := by decide +kernel
theorem dL_acts_280 : decode cL_acts 280 = .ok (.ifCond .le 6, 3) := by decide +kernel
theorem dL_acts_283 : decode cL_acts 283 = .ok (.iload 15, 2) := by decide +kernel
theorem dL_acts_285 : decode cL_acts 285 = .ok (.ireturn, 1) := by decide +kernel
theorem dL_acts_286 : decode cL_acts 286 = .ok (.aload_n 3, 1) := by decide +kernel
theorem dL_acts_287 : decode cL_acts 287 = .ok (.iload 6, 2) := by decide +kernel
theorem dL_acts_289 : decode cL_acts 289 = .ok (.iload 9, 2) := by decide +kernel
theorem dL_acts_291 : decode cL_acts 291 = .ok (.iastore, 1) := by decide +kernel
theorem dL_acts_292 : decode cL_acts 292 = .ok (.aload_n 3, 1) := by decide +kernel
theorem dL_acts_293 : decode cL_acts 293 = .ok (.iload 5, 2) := by decide +kernel
theorem dL_acts_295 : decode cL_acts 295 = .ok (.bipush 6, 2) := by decide +kernel
theorem dL_acts_297 : decode cL_acts 297 = .ok (.if_icmp .ge 8, 3) := by decide +kernel
theorem dL_acts_300 : decode cL_acts 300 = .ok (.iload 5, 2) := by decide +kernel
theorem dL_acts_302 : decode cL_acts 302 = .ok (.goto 5, 3) := by decide +kernel
theorem dL_acts_305 : decode cL_acts 305 = .ok (.bipush 7, 2) := by decide +kernel
theorem dL_acts_307 : decode cL_acts 307 = .ok (.iconst 0, 1) := by decide +kernel
theorem dL_acts_308 : decode cL_acts 308 = .ok (.iastore, 1) := by decide +kernel
theorem dL_acts_309 : decode cL_acts 309 = .ok (.aload_n 0, 1) := by decide +kernel
theorem dL_acts_310 : decode cL_acts 310 = .ok (.invokevirtual 123, 3) := by decide +kernel
theorem dL_acts_313 : decode cL_acts 313 = .ok (.iload 4, 2) := by decide +kernel
theorem dL_acts_315 : decode cL_acts 315 = .ok (.iconst 4, 1) := by decide +kernel
theorem dL_acts_316 : decode cL_acts 316 = .ok (.if_icmp .ge 8, 3) := by decide +kernel
theorem dL_acts_319 : decode cL_acts 319 = .ok (.iload 4, 2) := by decide +kernel
theorem dL_acts_321 : decode cL_acts 321 = .ok (.goto 4, 3) := by decide +kernel
theorem dL_acts_324 : decode cL_acts 324 = .ok (.iconst 3, 1) := by decide +kernel
theorem dL_acts_325 : decode cL_acts 325 = .ok (.if_icmp .ne 17, 3) := by decide +kernel
theorem dL_acts_328 : decode cL_acts 328 = .ok (.aload_n 0, 1) := by decide +kernel
theorem dL_acts_329 : decode cL_acts 329 = .ok (.invokestatic 33, 3) := by decide +kernel
theorem dL_acts_332 : decode cL_acts 332 = .ok (.lload 7, 2) := by decide +kernel
theorem dL_acts_334 : decode cL_acts 334 = .ok (.lcmp, 1) := by decide +kernel
theorem dL_acts_335 : decode cL_acts 335 = .ok (.ifCond .ne 7, 3) := by decide +kernel
theorem dL_acts_338 : decode cL_acts 338 = .ok (.iconst 1, 1) := by decide +kernel
theorem dL_acts_339 : decode cL_acts 339 = .ok (.goto 4, 3) := by decide +kernel
theorem dL_acts_342 : decode cL_acts 342 = .ok (.iconst 0, 1) := by decide +kernel
theorem dL_acts_343 : decode cL_acts 343 = .ok (.ireturn, 1) := by decide +kernel
