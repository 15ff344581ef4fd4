/-! rows of sound, act (printed) -/
set_option maxRecDepth 20000 in
theorem ggL_sound_X4_count : GoodIn wsL_sound wsX4_count := goodIn_r _ [5, 6, 7, 8, 9, 10, 11, 12, 13, 14, 15, 16, 17, 18, 19, 20, 21, 22, 23, 24, 25, 26, 27, 28, 29, 30, 31, 32, 33, 34, 35, 36, 37, 38, 39, 40, 41, 42, 43, 44, 45, 46, 47, 48, 49, 50, 51, 52, 53, 54, 55, 56, 57, 58, 59, 60, 61, 62, 63, 64, 65, 66, 67, 68, 69, 70, 71, 72, 233, 234, 235, 236, 237, 238, 239, 240, 241, 242, 243, 244, 245, 246, 247, 248, 249, 250, 251, 252, 253, 254] (by decide +kernel) (by decide +kernel)
set_option maxRecDepth 20000 in
theorem gL_sound_X4_count : GoodIn wsL_sound (wsV RL 13 RX4 yX4_count wsX4_count) := goodIn_app (goodIn_of _ (by decide +kernel)) ggL_sound_X4_count
set_option maxRecDepth 20000 in
theorem ggL_sound_L_boats : GoodIn wsL_sound wsL_boats := goodIn_r _ [76, 77, 78, 79, 4, 80, 6, 81, 82, 83, 84, 85, 86, 87, 88, 7, 89, 40, 41, 27, 42, 29, 43, 90, 91, 92, 93, 94, 95, 96, 97, 39, 98, 99, 100, 101, 30, 102, 103, 104, 105, 106, 107, 108, 109, 110, 111, 112, 113, 114, 115, 62, 63, 64, 65, 66, 67, 116, 117, 118, 119, 120, 121, 122, 123, 49, 50, 51, 124, 125, 126, 127, 128, 25, 26, 28, 129, 36, 37, 38, 130, 131, 132, 133, 134, 135, 136, 137, 138, 139, 140, 141, 142, 143, 144, 145, 146, 75, 147, 148, 149, 150, 233, 234, 235, 236, 237, 238, 239, 240, 248, 249, 250, 251, 252, 253, 254] (by decide +kernel) (by decide +kernel)
set_option maxRecDepth 20000 in
theorem gL_sound_L_boats : GoodIn wsL_sound (va_wsS RL 97 yL_boats wsL_boats) := goodIn_app (goodIn_of _ (by decide +kernel)) ggL_sound_L_boats
set_option maxRecDepth 20000 in
theorem ggL_sound_L_up : GoodIn wsL_sound wsL_up := goodIn_r _ [153, 154] (by decide +kernel) (by decide +kernel)
set_option maxRecDepth 20000 in
theorem gL_sound_L_up : GoodIn wsL_sound (va_wsS RL 101 yL_up wsL_up) := goodIn_app (goodIn_of _ (by decide +kernel)) ggL_sound_L_up
set_option maxRecDepth 20000 in
theorem ggL_sound_L_places : GoodIn wsL_sound wsL_places := goodIn_r _ [157, 116, 117, 118, 4, 119, 6, 81, 120, 121, 122, 85, 86, 87, 88, 7, 123, 49, 50, 27, 51, 29, 124, 125, 126, 127, 128, 25, 26, 28, 30, 129, 36, 37, 38, 39, 40, 41, 42, 43, 130, 131, 132, 133, 134, 135, 136, 137, 114, 115, 62, 63, 64, 65, 66, 67, 138, 139, 140, 141, 142, 143, 144, 102, 91, 92, 93, 94, 95, 96, 97, 103, 104, 105, 106, 107, 108, 109, 110, 111, 112, 113, 158, 159, 160, 161, 162, 163, 164, 165, 166, 167, 168, 169, 170, 171, 172, 173, 174, 175, 176, 177, 178, 179, 180, 181, 182, 183, 184, 185, 186, 187, 188, 189, 190, 191, 192, 233, 234, 235, 236, 237, 238, 239, 240, 248, 249, 250, 251, 252, 253, 254] (by decide +kernel) (by decide +kernel)
set_option maxRecDepth 20000 in
theorem gL_sound_L_places : GoodIn wsL_sound (va_wsS RL 104 yL_places wsL_places) := goodIn_app (goodIn_of _ (by decide +kernel)) ggL_sound_L_places
set_option maxRecDepth 20000 in
theorem ggL_sound_L_pairs : GoodIn wsL_sound wsL_pairs := goodIn_r _ [195, 196, 197, 198, 4, 199, 6, 81, 200, 85, 86, 87, 88, 7, 201, 202, 203, 204, 205, 206, 207, 208, 62, 63, 64, 65, 66, 67, 116, 117, 118, 119, 120, 121, 122, 123, 49, 50, 27, 51, 29, 124, 125, 126, 127, 128, 25, 26, 28, 30, 129, 36, 37, 38, 39, 40, 41, 42, 43, 130, 131, 132, 133, 134, 135, 136, 137, 114, 115, 138, 139, 140, 141, 142, 143, 144, 102, 91, 92, 93, 94, 95, 96, 97, 233, 234, 235, 236, 237, 238, 239, 240, 248, 249, 250, 251, 252, 253, 254] (by decide +kernel) (by decide +kernel)
set_option maxRecDepth 20000 in
theorem gL_sound_L_pairs : GoodIn wsL_sound (va_wsS RL 108 yL_pairs wsL_pairs) := goodIn_app (goodIn_of _ (by decide +kernel)) ggL_sound_L_pairs
set_option maxRecDepth 20000 in
theorem ggL_sound_X4_set : GoodIn wsL_sound wsX4_set := goodIn_r _ [119, 6, 81, 120, 121, 122, 85, 86, 87, 4, 88, 7, 123, 49, 50, 27, 51, 29, 124, 125, 126, 127, 128, 25, 26, 28, 30, 129, 36, 37, 38, 39, 40, 41, 42, 43, 130, 131, 132, 133, 134, 135, 136, 137, 114, 115, 62, 63, 64, 65, 66, 67, 138, 139, 140, 141, 142, 143, 144, 102, 91, 92, 93, 94, 95, 96, 97, 233, 234, 235, 236, 237, 238, 239, 240, 248, 249, 250, 251, 252, 253, 254] (by decide +kernel) (by decide +kernel)
set_option maxRecDepth 20000 in
theorem gL_sound_X4_set : GoodIn wsL_sound (wsV RL 19 RX4 yX4_set wsX4_set) := goodIn_app (goodIn_of _ (by decide +kernel)) ggL_sound_X4_set
set_option maxRecDepth 20000 in
theorem ggL_sound_X4_most : GoodIn wsL_sound wsX4_most := goodIn_r _ [212, 6, 213, 214, 215, 15, 216, 56, 57, 58, 59, 17, 18, 60, 217, 218, 219, 220, 221, 181, 182, 27, 183, 114, 108, 4, 109, 233, 234, 235, 236, 237, 238, 239, 240, 248, 249, 250, 251, 252, 253, 254] (by decide +kernel) (by decide +kernel)
set_option maxRecDepth 20000 in
theorem gL_sound_X4_most : GoodIn wsL_sound (wsV RL 111 RX4 yX4_most wsX4_most) := goodIn_app (goodIn_of _ (by decide +kernel)) ggL_sound_X4_most
set_option maxRecDepth 20000 in
theorem ggL_sound_X4_ofAll : GoodIn wsL_sound wsX4_ofAll := goodIn_r _ [225, 6, 226, 227, 228, 15, 229, 56, 57, 58, 59, 17, 18, 60, 217, 218, 219, 220, 221, 181, 182, 27, 183, 114, 108, 4, 109, 233, 234, 235, 236, 237, 238, 239, 240, 248, 249, 250, 251, 252, 253, 254] (by decide +kernel) (by decide +kernel)
set_option maxRecDepth 20000 in
theorem gL_sound_X4_ofAll : GoodIn wsL_sound (wsV RL 85 RX4 yX4_ofAll wsX4_ofAll) := goodIn_app (goodIn_of _ (by decide +kernel)) ggL_sound_X4_ofAll
set_option maxRecDepth 20000 in
theorem ggL_sound_L_least : GoodIn wsL_sound wsL_least := goodIn_r _ [232, 116, 117, 118, 4, 119, 6, 81, 120, 121, 122, 85, 86, 87, 88, 7, 123, 49, 50, 27, 51, 29, 124, 125, 126, 127, 128, 25, 26, 28, 30, 129, 36, 37, 38, 39, 40, 41, 42, 43, 130, 131, 132, 133, 134, 135, 136, 137, 114, 115, 62, 63, 64, 65, 66, 67, 138, 139, 140, 141, 142, 143, 144, 102, 91, 92, 93, 94, 95, 96, 97, 233, 234, 235, 236, 237, 238, 239, 240, 248, 249, 250, 251, 252, 253, 254] (by decide +kernel) (by decide +kernel)
set_option maxRecDepth 20000 in
theorem gL_sound_L_least : GoodIn wsL_sound (va_wsS RL 115 yL_least wsL_least) := goodIn_app (goodIn_of _ (by decide +kernel)) ggL_sound_L_least
theorem dL_sound_0 : decode cL_sound 0 = .ok (.aload_n 0, 1) := by decide +kernel
theorem dL_sound_1 : decode cL_sound 1 = .ok (.iconst 0, 1) := by decide +kernel
theorem dL_sound_2 : decode cL_sound 2 = .ok (.invokevirtual 13, 3) := by decide +kernel
theorem dL_sound_5 : decode cL_sound 5 = .ok (.istore_n 3, 1) := by decide +kernel
theorem dL_sound_6 : decode cL_sound 6 = .ok (.iconst 0, 1) := by decide +kernel
theorem dL_sound_7 : decode cL_sound 7 = .ok (.istore 4, 2) := by decide +kernel
theorem dL_sound_9 : decode cL_sound 9 = .ok (.iconst 0, 1) := by decide +kernel
theorem dL_sound_10 : decode cL_sound 10 = .ok (.istore 5, 2) := by decide +kernel
theorem dL_sound_12 : decode cL_sound 12 = .ok (.iconst 0, 1) := by decide +kernel
theorem dL_sound_13 : decode cL_sound 13 = .ok (.istore 6, 2) := by decide +kernel
theorem dL_sound_15 : decode cL_sound 15 = .ok (.iconst 0, 1) := by decide +kernel
theorem dL_sound_16 : decode cL_sound 16 = .ok (.istore 7, 2) := by decide +kernel
theorem dL_sound_18 : decode cL_sound 18 = .ok (.iconst 0, 1) := by decide +kernel
theorem dL_sound_19 : decode cL_sound 19 = .ok (.istore 8, 2) := by decide +kernel
theorem dL_sound_21 : decode cL_sound 21 = .ok (.iconst 0, 1) := by decide +kernel
theorem dL_sound_22 : decode cL_sound 22 = .ok (.istore 9, 2) := by decide +kernel
theorem dL_sound_24 : decode cL_sound 24 = .ok (.iload 9, 2) := by decide +kernel
theorem dL_sound_26 : decode cL_sound 26 = .ok (.iload_n 3, 1) := by decide +kernel
theorem dL_sound_27 : decode cL_sound 27 = .ok (.if_icmp .ge 161, 3) := by decide +kernel
theorem dL_sound_30 : decode cL_sound 30 = .ok (.aload_n 0, 1) := by decide +kernel
theorem dL_sound_31 : decode cL_sound 31 = .ok (.iload 9, 2) := by decide +kernel
theorem dL_sound_33 : decode cL_sound 33 = .ok (.invokestatic 97, 3) := by decide +kernel
theorem dL_sound_36 : decode cL_sound 36 = .ok (.ifCond .eq 84, 3) := by decide +kernel
theorem dL_sound_39 : decode cL_sound 39 = .ok (.aload_n 0, 1) := by decide +kernel
theorem dL_sound_40 : decode cL_sound 40 = .ok (.iload 9, 2) := by decide +kernel
theorem dL_sound_42 : decode cL_sound 42 = .ok (.iload_n 2, 1) := by decide +kernel
theorem dL_sound_43 : decode cL_sound 43 = .ok (.sipush 2048, 3) := by decide +kernel
theorem dL_sound_46 : decode cL_sound 46 = .ok (.invokestatic 101, 3) := by decide +kernel
theorem dL_sound_49 : decode cL_sound 49 = .ok (.invokestatic 104, 3) := by decide +kernel
theorem dL_sound_52 : decode cL_sound 52 = .ok (.ifCond .eq 68, 3) := by decide +kernel
theorem dL_sound_55 : decode cL_sound 55 = .ok (.aload_n 0, 1) := by decide +kernel
theorem dL_sound_56 : decode cL_sound 56 = .ok (.iload 9, 2) := by decide +kernel
theorem dL_sound_58 : decode cL_sound 58 = .ok (.iload_n 2, 1) := by decide +kernel
theorem dL_sound_59 : decode cL_sound 59 = .ok (.bipush 9, 2) := by decide +kernel
theorem dL_sound_61 : decode cL_sound 61 = .ok (.ishr, 1) := by decide +kernel
theorem dL_sound_62 : decode cL_sound 62 = .ok (.sipush 2048, 3) := by decide +kernel
theorem dL_sound_65 : decode cL_sound 65 = .ok (.invokestatic 101, 3) := by decide +kernel
theorem dL_sound_68 : decode cL_sound 68 = .ok (.invokestatic 104, 3) := by decide +kernel
theorem dL_sound_71 : decode cL_sound 71 = .ok (.ifCond .eq 49, 3) := by decide +kernel
theorem dL_sound_74 : decode cL_sound 74 = .ok (.aload_n 0, 1) := by decide +kernel
theorem dL_sound_75 : decode cL_sound 75 = .ok (.iload 9, 2) := by decide +kernel
theorem dL_sound_77 : decode cL_sound 77 = .ok (.iload_n 2, 1) := by decide +kernel
theorem dL_sound_78 : decode cL_sound 78 = .ok (.iload_n 3, 1) := by decide +kernel
theorem dL_sound_79 : decode cL_sound 79 = .ok (.invokestatic 101, 3) := by decide +kernel
theorem dL_sound_82 : decode cL_sound 82 = .ok (.invokestatic 108, 3) := by decide +kernel
theorem dL_sound_85 : decode cL_sound 85 = .ok (.ifCond .eq 35, 3) := by decide +kernel
theorem dL_sound_88 : decode cL_sound 88 = .ok (.aload_n 0, 1) := by decide +kernel
theorem dL_sound_89 : decode cL_sound 89 = .ok (.iload 9, 2) := by decide +kernel
theorem dL_sound_91 : decode cL_sound 91 = .ok (.iconst 3, 1) := by decide +kernel
theorem dL_sound_92 : decode cL_sound 92 = .ok (.invokevirtual 19, 3) := by decide +kernel
theorem dL_sound_95 : decode cL_sound 95 = .ok (.aload_n 0, 1) := by decide +kernel
theorem dL_sound_96 : decode cL_sound 96 = .ok (.iload 9, 2) := by decide +kernel
theorem dL_sound_98 : decode cL_sound 98 = .ok (.iconst 5, 1) := by decide +kernel
theorem dL_sound_99 : decode cL_sound 99 = .ok (.invokevirtual 19, 3) := by decide +kernel
theorem dL_sound_102 : decode cL_sound 102 = .ok (.iadd, 1) := by decide +kernel
theorem dL_sound_103 : decode cL_sound 103 = .ok (.aload_n 1, 1) := by decide +kernel
theorem dL_sound_104 : decode cL_sound 104 = .ok (.iload 9, 2) := by decide +kernel
theorem dL_sound_106 : decode cL_sound 106 = .ok (.iaload, 1) := by decide +kernel
theorem dL_sound_107 : decode cL_sound 107 = .ok (.if_icmp .ne 13, 3) := by decide +kernel
theorem dL_sound_110 : decode cL_sound 110 = .ok (.aload_n 0, 1) := by decide +kernel
theorem dL_sound_111 : decode cL_sound 111 = .ok (.iload 9, 2) := by decide +kernel
theorem dL_sound_113 : decode cL_sound 113 = .ok (.iconst 3, 1) := by decide +kernel
theorem dL_sound_114 : decode cL_sound 114 = .ok (.invokevirtual 19, 3) := by decide +kernel
theorem dL_sound_117 : decode cL_sound 117 = .ok (.ifCond .ge 5, 3) := by decide +kernel
theorem dL_sound_120 : decode cL_sound 120 = .ok (.iconst 0, 1) := by decide +kernel
theorem dL_sound_121 : decode cL_sound 121 = .ok (.ireturn, 1) := by decide +kernel
theorem dL_sound_122 : decode cL_sound 122 = .ok (.iload 4, 2) := by decide +kernel
theorem dL_sound_124 : decode cL_sound 124 = .ok (.aload_n 0, 1) := by decide +kernel
theorem dL_sound_125 : decode cL_sound 125 = .ok (.iload 9, 2) := by decide +kernel
theorem dL_sound_127 : decode cL_sound 127 = .ok (.iconst 4, 1) := by decide +kernel
theorem dL_sound_128 : decode cL_sound 128 = .ok (.invokevirtual 19, 3) := by decide +kernel
theorem dL_sound_131 : decode cL_sound 131 = .ok (.iadd, 1) := by decide +kernel
theorem dL_sound_132 : decode cL_sound 132 = .ok (.istore 4, 2) := by decide +kernel
theorem dL_sound_134 : decode cL_sound 134 = .ok (.iload 5, 2) := by decide +kernel
theorem dL_sound_136 : decode cL_sound 136 = .ok (.aload_n 0, 1) := by decide +kernel
theorem dL_sound_137 : decode cL_sound 137 = .ok (.iload 9, 2) := by decide +kernel
theorem dL_sound_139 : decode cL_sound 139 = .ok (.iconst 2, 1) := by decide +kernel
theorem dL_sound_140 : decode cL_sound 140 = .ok (.invokevirtual 19, 3) := by decide +kernel
theorem dL_sound_143 : decode cL_sound 143 = .ok (.iadd, 1) := by decide +kernel
theorem dL_sound_144 : decode cL_sound 144 = .ok (.istore 5, 2) := by decide +kernel
theorem dL_sound_146 : decode cL_sound 146 = .ok (.iload 6, 2) := by decide +kernel
theorem dL_sound_148 : decode cL_sound 148 = .ok (.aload_n 0, 1) := by decide +kernel
theorem dL_sound_149 : decode cL_sound 149 = .ok (.iload 9, 2) := by decide +kernel
theorem dL_sound_151 : decode cL_sound 151 = .ok (.iconst 0, 1) := by decide +kernel
theorem dL_sound_152 : decode cL_sound 152 = .ok (.invokevirtual 19, 3) := by decide +kernel
theorem dL_sound_155 : decode cL_sound 155 = .ok (.iadd, 1) := by decide +kernel
theorem dL_sound_156 : decode cL_sound 156 = .ok (.istore 6, 2) := by decide +kernel
theorem dL_sound_158 : decode cL_sound 158 = .ok (.iload 7, 2) := by decide +kernel
theorem dL_sound_160 : decode cL_sound 160 = .ok (.aload_n 0, 1) := by decide +kernel
theorem dL_sound_161 : decode cL_sound 161 = .ok (.iload 9, 2) := by decide +kernel
theorem dL_sound_163 : decode cL_sound 163 = .ok (.iconst 5, 1) := by decide +kernel
theorem dL_sound_164 : decode cL_sound 164 = .ok (.invokevirtual 19, 3) := by decide +kernel
theorem dL_sound_167 : decode cL_sound 167 = .ok (.iadd, 1) := by decide +kernel
theorem dL_sound_168 : decode cL_sound 168 = .ok (.istore 7, 2) := by decide +kernel
theorem dL_sound_170 : decode cL_sound 170 = .ok (.iload 8, 2) := by decide +kernel
theorem dL_sound_172 : decode cL_sound 172 = .ok (.aload_n 0, 1) := by decide +kernel
theorem dL_sound_173 : decode cL_sound 173 = .ok (.iload 9, 2) := by decide +kernel
theorem dL_sound_175 : decode cL_sound 175 = .ok (.iconst 1, 1) := by decide +kernel
theorem dL_sound_176 : decode cL_sound 176 = .ok (.invokevirtual 19, 3) := by decide +kernel
theorem dL_sound_179 : decode cL_sound 179 = .ok (.iadd, 1) := by decide +kernel
theorem dL_sound_180 : decode cL_sound 180 = .ok (.istore 8, 2) := by decide +kernel
theorem dL_sound_182 : decode cL_sound 182 = .ok (.iinc 9 1, 3) := by decide +kernel
theorem dL_sound_185 : decode cL_sound 185 = .ok (.goto (-161), 3) := by decide +kernel
theorem dL_sound_188 : decode cL_sound 188 = .ok (.aload_n 0, 1) := by decide +kernel
theorem dL_sound_189 : decode cL_sound 189 = .ok (.invokevirtual 111, 3) := by decide +kernel
theorem dL_sound_192 : decode cL_sound 192 = .ok (.istore 9, 2) := by decide +kernel
theorem dL_sound_194 : decode cL_sound 194 = .ok (.aload_n 0, 1) := by decide +kernel
theorem dL_sound_195 : decode cL_sound 195 = .ok (.bipush 7, 2) := by decide +kernel
theorem dL_sound_197 : decode cL_sound 197 = .ok (.invokevirtual 13, 3) := by decide +kernel
theorem dL_sound_200 : decode cL_sound 200 = .ok (.istore 10, 2) := by decide +kernel
theorem dL_sound_202 : decode cL_sound 202 = .ok (.aload_n 0, 1) := by decide +kernel
theorem dL_sound_203 : decode cL_sound 203 = .ok (.iconst 1, 1) := by decide +kernel
theorem dL_sound_204 : decode cL_sound 204 = .ok (.invokevirtual 13, 3) := by decide +kernel
theorem dL_sound_207 : decode cL_sound 207 = .ok (.iload 4, 2) := by decide +kernel
theorem dL_sound_209 : decode cL_sound 209 = .ok (.if_icmp .ne 147, 3) := by decide +kernel
theorem dL_sound_212 : decode cL_sound 212 = .ok (.aload_n 0, 1) := by decide +kernel
theorem dL_sound_213 : decode cL_sound 213 = .ok (.iconst 2, 1) := by decide +kernel
theorem dL_sound_214 : decode cL_sound 214 = .ok (.invokevirtual 13, 3) := by decide +kernel
theorem dL_sound_217 : decode cL_sound 217 = .ok (.aload_n 0, 1) := by decide +kernel
theorem dL_sound_218 : decode cL_sound 218 = .ok (.iconst 3, 1) := by decide +kernel
theorem dL_sound_219 : decode cL_sound 219 = .ok (.invokevirtual 13, 3) := by decide +kernel
theorem dL_sound_222 : decode cL_sound 222 = .ok (.iadd, 1) := by decide +kernel
theorem dL_sound_223 : decode cL_sound 223 = .ok (.aload_n 0, 1) := by decide +kernel
theorem dL_sound_224 : decode cL_sound 224 = .ok (.iconst 4, 1) := by decide +kernel
theorem dL_sound_225 : decode cL_sound 225 = .ok (.invokevirtual 13, 3) := by decide +kernel
theorem dL_sound_228 : decode cL_sound 228 = .ok (.iadd, 1) := by decide +kernel
theorem dL_sound_229 : decode cL_sound 229 = .ok (.iload 8, 2) := by decide +kernel
theorem dL_sound_231 : decode cL_sound 231 = .ok (.if_icmp .ne 125, 3) := by decide +kernel
theorem dL_sound_234 : decode cL_sound 234 = .ok (.aload_n 0, 1) := by decide +kernel
theorem dL_sound_235 : decode cL_sound 235 = .ok (.iconst 5, 1) := by decide +kernel
theorem dL_sound_236 : decode cL_sound 236 = .ok (.invokevirtual 13, 3) := by decide +kernel
theorem dL_sound_239 : decode cL_sound 239 = .ok (.iload 5, 2) := by decide +kernel
theorem dL_sound_241 : decode cL_sound 241 = .ok (.if_icmp .ne 115, 3) := by decide +kernel
theorem dL_sound_244 : decode cL_sound 244 = .ok (.aload_n 0, 1) := by decide +kernel
theorem dL_sound_245 : decode cL_sound 245 = .ok (.bipush 6, 2) := by decide +kernel
theorem dL_sound_247 : decode cL_sound 247 = .ok (.invokevirtual 13, 3) := by decide +kernel
theorem dL_sound_250 : decode cL_sound 250 = .ok (.iload 6, 2) := by decide +kernel
theorem dL_sound_252 : decode cL_sound 252 = .ok (.if_icmp .ne 104, 3) := by decide +kernel
theorem dL_sound_255 : decode cL_sound 255 = .ok (.aload_n 0, 1) := by decide +kernel
theorem dL_sound_256 : decode cL_sound 256 = .ok (.bipush 8, 2) := by decide +kernel
theorem dL_sound_258 : decode cL_sound 258 = .ok (.invokevirtual 13, 3) := by decide +kernel
theorem dL_sound_261 : decode cL_sound 261 = .ok (.iload 7, 2) := by decide +kernel
theorem dL_sound_263 : decode cL_sound 263 = .ok (.if_icmp .ne 93, 3) := by decide +kernel
theorem dL_sound_266 : decode cL_sound 266 = .ok (.iload 9, 2) := by decide +kernel
theorem dL_sound_268 : decode cL_sound 268 = .ok (.bipush (-5), 2) := by decide +kernel
theorem dL_sound_270 : decode cL_sound 270 = .ok (.if_icmp .ne 7, 3) := by decide +kernel
theorem dL_sound_273 : decode cL_sound 273 = .ok (.iconst 1, 1) := by decide +kernel
theorem dL_sound_274 : decode cL_sound 274 = .ok (.goto 4, 3) := by decide +kernel
theorem dL_sound_277 : decode cL_sound 277 = .ok (.iconst 0, 1) := by decide +kernel
theorem dL_sound_278 : decode cL_sound 278 = .ok (.iload 6, 2) := by decide +kernel
theorem dL_sound_280 : decode cL_sound 280 = .ok (.ifCond .ne 7, 3) := by decide +kernel
theorem dL_sound_283 : decode cL_sound 283 = .ok (.iconst 1, 1) := by decide +kernel
theorem dL_sound_284 : decode cL_sound 284 = .ok (.goto 4, 3) := by decide +kernel
theorem dL_sound_287 : decode cL_sound 287 = .ok (.iconst 0, 1) := by decide +kernel
theorem dL_sound_288 : decode cL_sound 288 = .ok (.if_icmp .ne 68, 3) := by decide +kernel
theorem dL_sound_291 : decode cL_sound 291 = .ok (.iload 10, 2) := by decide +kernel
theorem dL_sound_293 : decode cL_sound 293 = .ok (.iload 6, 2) := by decide +kernel
theorem dL_sound_295 : decode cL_sound 295 = .ok (.if_icmp .gt 61, 3) := by decide +kernel
theorem dL_sound_298 : decode cL_sound 298 = .ok (.iload 10, 2) := by decide +kernel
theorem dL_sound_300 : decode cL_sound 300 = .ok (.iload_n 3, 1) := by decide +kernel
theorem dL_sound_301 : decode cL_sound 301 = .ok (.imul, 1) := by decide +kernel
theorem dL_sound_302 : decode cL_sound 302 = .ok (.iload 6, 2) := by decide +kernel
theorem dL_sound_304 : decode cL_sound 304 = .ok (.if_icmp .lt 52, 3) := by decide +kernel
theorem dL_sound_307 : decode cL_sound 307 = .ok (.iload 6, 2) := by decide +kernel
theorem dL_sound_309 : decode cL_sound 309 = .ok (.ifCond .eq 43, 3) := by decide +kernel
theorem dL_sound_312 : decode cL_sound 312 = .ok (.aload_n 0, 1) := by decide +kernel
theorem dL_sound_313 : decode cL_sound 313 = .ok (.iload 6, 2) := by decide +kernel
theorem dL_sound_315 : decode cL_sound 315 = .ok (.invokevirtual 85, 3) := by decide +kernel
theorem dL_sound_318 : decode cL_sound 318 = .ok (.bipush (-5), 2) := by decide +kernel
theorem dL_sound_320 : decode cL_sound 320 = .ok (.if_icmp .ne 36, 3) := by decide +kernel
theorem dL_sound_323 : decode cL_sound 323 = .ok (.aload_n 0, 1) := by decide +kernel
theorem dL_sound_324 : decode cL_sound 324 = .ok (.iconst 0, 1) := by decide +kernel
theorem dL_sound_325 : decode cL_sound 325 = .ok (.invokevirtual 85, 3) := by decide +kernel
theorem dL_sound_328 : decode cL_sound 328 = .ok (.aload_n 0, 1) := by decide +kernel
theorem dL_sound_329 : decode cL_sound 329 = .ok (.iload_n 3, 1) := by decide +kernel
theorem dL_sound_330 : decode cL_sound 330 = .ok (.invokestatic 115, 3) := by decide +kernel
theorem dL_sound_333 : decode cL_sound 333 = .ok (.if_icmp .ne 23, 3) := by decide +kernel
theorem dL_sound_336 : decode cL_sound 336 = .ok (.aload_n 0, 1) := by decide +kernel
theorem dL_sound_337 : decode cL_sound 337 = .ok (.iload 6, 2) := by decide +kernel
theorem dL_sound_339 : decode cL_sound 339 = .ok (.iconst 1, 1) := by decide +kernel
theorem dL_sound_340 : decode cL_sound 340 = .ok (.isub, 1) := by decide +kernel
theorem dL_sound_341 : decode cL_sound 341 = .ok (.invokevirtual 85, 3) := by decide +kernel
theorem dL_sound_344 : decode cL_sound 344 = .ok (.aload_n 0, 1) := by decide +kernel
theorem dL_sound_345 : decode cL_sound 345 = .ok (.iconst 0, 1) := by decide +kernel
theorem dL_sound_346 : decode cL_sound 346 = .ok (.invokevirtual 85, 3) := by decide +kernel
theorem dL_sound_349 : decode cL_sound 349 = .ok (.if_icmp .lt 7, 3) := by decide +kernel
theorem dL_sound_352 : decode cL_sound 352 = .ok (.iconst 1, 1) := by decide +kernel
theorem dL_sound_353 : decode cL_sound 353 = .ok (.goto 4, 3) := by decide +kernel
theorem dL_sound_356 : decode cL_sound 356 = .ok (.iconst 0, 1) := by decide +kernel
theorem dL_sound_357 : decode cL_sound 357 = .ok (.ireturn, 1) := by decide +kernel
set_option maxRecDepth 20000 in
theorem ggL_act_X4_count : GoodIn wsL_act wsX4_count := goodIn_r _ [5, 6, 7, 8, 9, 10, 11, 12, 13, 14, 15, 16, 17, 18, 19, 20, 21, 22, 23, 24, 25, 26, 27, 28, 29, 30, 31, 32, 33, 34, 35, 36, 37, 38, 39, 40, 41, 42, 43, 44, 45, 46, 47, 48, 49, 50, 51, 52, 53, 54, 55, 56, 57, 58, 59, 60, 61, 62, 63, 64, 65, 66, 67, 68, 69, 70, 71, 72, 245, 246, 247, 248, 249, 250, 251, 252, 253, 254, 255, 256, 257, 258, 259, 260, 261, 262, 263, 264, 265, 266] (by decide +kernel) (by decide +kernel)
set_option maxRecDepth 20000 in
theorem gL_act_X4_count : GoodIn wsL_act (wsV RL 13 RX4 yX4_count wsX4_count) := goodIn_app (goodIn_of _ (by decide +kernel)) ggL_act_X4_count
set_option maxRecDepth 20000 in
theorem ggL_act_L_up : GoodIn wsL_act wsL_up := goodIn_r _ [76, 77] (by decide +kernel) (by decide +kernel)
set_option maxRecDepth 20000 in
theorem gL_act_L_up : GoodIn wsL_act (va_wsS RL 101 yL_up wsL_up) := goodIn_app (goodIn_of _ (by decide +kernel)) ggL_act_L_up
set_option maxRecDepth 20000 in
theorem ggL_act_X4_add : GoodIn wsL_act wsX4_add := goodIn_r _ [81, 6, 82, 83, 84, 85, 86, 4, 87, 88, 89, 90, 91, 92, 7, 93, 94, 95, 96, 97, 98, 27, 99, 100, 101, 102, 103, 104, 30, 29, 43, 105, 106, 107, 108, 109, 110, 111, 112, 113, 114, 115, 116, 117, 118, 119, 120, 121, 122, 123, 124, 125, 126, 127, 128, 129, 130, 131, 132, 133, 134, 135, 136, 137, 138, 139, 140, 141, 142, 143, 144, 145, 146, 39, 40, 41, 42, 147, 148, 149, 150, 8, 151, 152, 153, 154, 155, 156, 157, 158, 159, 160, 161, 162, 163, 164, 15, 165, 17, 18, 166, 245, 246, 247, 248, 249, 250, 251, 252, 260, 261, 262, 263, 264, 265, 266, 253, 254] (by decide +kernel) (by decide +kernel)
set_option maxRecDepth 20000 in
theorem gL_act_X4_add : GoodIn wsL_act (wsV RL 51 RX4 yX4_add wsX4_add) := goodIn_app (goodIn_of _ (by decide +kernel)) ggL_act_X4_add
set_option maxRecDepth 20000 in
theorem ggL_act_X4_remove : GoodIn wsL_act wsX4_remove := goodIn_r _ [170, 6, 82, 171, 84, 85, 86, 4, 87, 88, 89, 90, 91, 92, 7, 93, 94, 95, 96, 97, 98, 27, 99, 100, 101, 102, 103, 104, 30, 29, 43, 105, 106, 107, 108, 109, 110, 111, 112, 113, 114, 115, 116, 117, 118, 119, 120, 121, 122, 123, 124, 125, 126, 127, 128, 129, 130, 131, 132, 133, 134, 135, 136, 137, 138, 139, 140, 141, 142, 143, 144, 145, 146, 39, 40, 41, 42, 147, 148, 149, 150, 8, 151, 152, 153, 154, 155, 156, 157, 158, 159, 160, 161, 162, 163, 164, 15, 165, 17, 18, 166, 245, 246, 247, 248, 249, 250, 251, 252, 260, 261, 262, 263, 264, 265, 266, 253, 254] (by decide +kernel) (by decide +kernel)
set_option maxRecDepth 20000 in
theorem gL_act_X4_remove : GoodIn wsL_act (wsV RL 54 RX4 yX4_remove wsX4_remove) := goodIn_app (goodIn_of _ (by decide +kernel)) ggL_act_X4_remove
set_option maxRecDepth 20000 in
theorem ggL_act_X4_addRange : GoodIn wsL_act wsX4_addRange := goodIn_r _ [175, 84, 85, 86, 4, 87, 88, 6, 82, 89, 90, 91, 92, 7, 93, 94, 95, 96, 97, 98, 27, 99, 100, 101, 102, 103, 104, 30, 29, 43, 105, 106, 107, 108, 109, 110, 111, 112, 113, 114, 115, 116, 117, 118, 119, 120, 121, 122, 123, 124, 125, 126, 127, 128, 129, 130, 131, 132, 133, 134, 135, 136, 137, 138, 139, 140, 141, 142, 143, 144, 145, 146, 39, 40, 41, 42, 147, 148, 149, 150, 8, 151, 152, 153, 154, 155, 156, 157, 158, 159, 160, 161, 162, 163, 164, 15, 165, 17, 18, 166, 245, 246, 247, 248, 249, 250, 251, 252, 260, 261, 262, 263, 264, 265, 266, 253, 254] (by decide +kernel) (by decide +kernel)
set_option maxRecDepth 20000 in
theorem gL_act_X4_addRange : GoodIn wsL_act (wsV RL 57 RX4 yX4_addRange wsX4_addRange) := goodIn_app (goodIn_of _ (by decide +kernel)) ggL_act_X4_addRange
set_option maxRecDepth 20000 in
theorem ggL_act_X4_removeRange : GoodIn wsL_act wsX4_removeRange := goodIn_r _ [179, 84, 85, 86, 4, 87, 88, 6, 82, 89, 90, 91, 92, 7, 93, 94, 95, 96, 97, 98, 27, 99, 100, 101, 102, 103, 104, 30, 29, 43, 105, 106, 107, 108, 109, 110, 111, 112, 113, 114, 115, 116, 117, 118, 119, 120, 121, 122, 123, 124, 125, 126, 127, 128, 129, 130, 131, 132, 133, 134, 135, 136, 137, 138, 139, 140, 141, 142, 143, 144, 145, 146, 39, 40, 41, 42, 147, 148, 149, 150, 8, 151, 152, 153, 154, 155, 156, 157, 158, 159, 160, 161, 162, 163, 164, 15, 165, 17, 18, 166, 245, 246, 247, 248, 249, 250, 251, 252, 260, 261, 262, 263, 264, 265, 266, 253, 254] (by decide +kernel) (by decide +kernel)
set_option maxRecDepth 20000 in
theorem gL_act_X4_removeRange : GoodIn wsL_act (wsV RL 60 RX4 yX4_removeRange wsX4_removeRange) := goodIn_app (goodIn_of _ (by decide +kernel)) ggL_act_X4_removeRange
set_option maxRecDepth 20000 in
theorem ggL_act_X4_sail : GoodIn wsL_act wsX4_sail := goodIn_r _ [183, 6, 82, 184, 8, 89, 90, 91, 4, 92, 7, 151, 152, 153, 154, 155, 156, 157, 158, 159, 160, 161, 162, 163, 164, 15, 165, 17, 18, 166, 97, 98, 27, 99, 100, 101, 102, 103, 104, 30, 29, 43, 105, 106, 107, 185, 186, 187, 188, 189, 25, 26, 28, 245, 246, 247, 248, 249, 250, 251, 252, 260, 261, 262, 263, 264, 265, 266, 253, 254] (by decide +kernel) (by decide +kernel)
set_option maxRecDepth 20000 in
theorem gL_act_X4_sail : GoodIn wsL_act (wsV RL 45 RX4 yX4_sail wsX4_sail) := goodIn_app (goodIn_of _ (by decide +kernel)) ggL_act_X4_sail
set_option maxRecDepth 20000 in
theorem ggL_act_X4_dock : GoodIn wsL_act wsX4_dock := goodIn_r _ [193, 8, 6, 82, 89, 90, 91, 4, 92, 7, 151, 152, 153, 154, 155, 156, 157, 158, 159, 160, 161, 162, 163, 164, 15, 165, 17, 18, 166, 97, 98, 27, 99, 100, 101, 102, 103, 104, 30, 29, 43, 105, 106, 107, 194, 195, 196, 197, 198, 199, 200, 201, 139, 140, 141, 142, 143, 144, 145, 146, 39, 40, 41, 42, 135, 136, 137, 138, 245, 246, 247, 248, 249, 250, 251, 252, 253, 254, 260, 261, 262, 263, 264, 265, 266] (by decide +kernel) (by decide +kernel)
set_option maxRecDepth 20000 in
theorem gL_act_X4_dock : GoodIn wsL_act (wsV RL 48 RX4 yX4_dock wsX4_dock) := goodIn_app (goodIn_of _ (by decide +kernel)) ggL_act_X4_dock
set_option maxRecDepth 20000 in
theorem ggL_act_X4_combine : GoodIn wsL_act wsX4_combine := goodIn_r _ [205, 6, 82, 184, 88, 8, 89, 90, 91, 4, 92, 7, 206, 207, 208, 96, 97, 98, 27, 99, 100, 101, 102, 103, 104, 30, 29, 43, 105, 106, 107, 209, 210, 211, 212, 213, 214, 215, 216, 217, 218, 219, 220, 221, 222, 223, 224, 225, 226, 123, 124, 125, 126, 94, 95, 119, 120, 121, 122, 127, 128, 129, 130, 139, 140, 141, 142, 143, 144, 145, 146, 39, 40, 41, 42, 151, 152, 153, 154, 155, 156, 157, 158, 159, 160, 161, 162, 163, 164, 15, 165, 17, 18, 166, 227, 49, 50, 51, 245, 246, 247, 248, 249, 250, 251, 252, 260, 261, 262, 263, 264, 265, 266, 253, 254] (by decide +kernel) (by decide +kernel)
set_option maxRecDepth 20000 in
theorem gL_act_X4_combine : GoodIn wsL_act (wsV RL 63 RX4 yX4_combine wsX4_combine) := goodIn_app (goodIn_of _ (by decide +kernel)) ggL_act_X4_combine
set_option maxRecDepth 20000 in
theorem ggL_act_X4_pay : GoodIn wsL_act wsX4_pay := goodIn_r _ [231, 6, 82, 232, 8, 89, 90, 91, 4, 92, 7, 151, 152, 153, 154, 155, 156, 157, 158, 159, 160, 161, 162, 163, 164, 15, 165, 17, 18, 166, 97, 98, 27, 99, 100, 101, 102, 103, 104, 30, 29, 43, 105, 106, 107, 245, 246, 247, 248, 249, 250, 251, 252, 260, 261, 262, 263, 264, 265, 266, 253, 254] (by decide +kernel) (by decide +kernel)
set_option maxRecDepth 20000 in
theorem gL_act_X4_pay : GoodIn wsL_act (wsV RL 42 RX4 yX4_pay wsX4_pay) := goodIn_app (goodIn_of _ (by decide +kernel)) ggL_act_X4_pay
set_option maxRecDepth 20000 in
theorem ggL_act_X4_newSet : GoodIn wsL_act wsX4_newSet := goodIn_r _ [236, 6, 7, 8, 151, 152, 153, 154, 155, 156, 157, 158, 159, 160, 161, 162, 163, 164, 15, 165, 17, 18, 166, 97, 98, 27, 99, 100, 101, 102, 103, 104, 30, 29, 43, 105, 106, 107, 237, 238, 239, 240, 241, 242, 243, 244, 213, 214, 215, 216, 217, 218, 219, 220, 221, 222, 223, 245, 246, 247, 248, 249, 250, 251, 252, 253, 254, 260, 261, 262, 263, 264, 265, 266] (by decide +kernel) (by decide +kernel)
set_option maxRecDepth 20000 in
theorem gL_act_X4_newSet : GoodIn wsL_act (wsV RL 39 RX4 yX4_newSet wsX4_newSet) := goodIn_app (goodIn_of _ (by decide +kernel)) ggL_act_X4_newSet
theorem dL_act_0 : decode cL_act 0 = .ok (.aload_n 0, 1) := by decide +kernel
theorem dL_act_1 : decode cL_act 1 = .ok (.iconst 0, 1) := by decide +kernel
theorem dL_act_2 : decode cL_act 2 = .ok (.invokevirtual 13, 3) := by decide +kernel
theorem dL_act_5 : decode cL_act 5 = .ok (.istore 4, 2) := by decide +kernel
theorem dL_act_7 : decode cL_act 7 = .ok (.iload_n 1, 1) := by decide +kernel
theorem dL_act_8 : decode cL_act 8 = .ok (.iload 4, 2) := by decide +kernel
theorem dL_act_10 : decode cL_act 10 = .ok (.invokestatic 101, 3) := by decide +kernel
theorem dL_act_13 : decode cL_act 13 = .ok (.istore 5, 2) := by decide +kernel
theorem dL_act_15 : decode cL_act 15 = .ok (.iload_n 2, 1) := by decide +kernel
theorem dL_act_16 : decode cL_act 16 = .ok (.bipush 8, 2) := by decide +kernel
theorem dL_act_18 : decode cL_act 18 = .ok (.invokestatic 101, 3) := by decide +kernel
theorem dL_act_21 : decode cL_act 21 = .ok (.sipush 128, 3) := by decide +kernel
theorem dL_act_24 : decode cL_act 24 = .ok (.imul, 1) := by decide +kernel
theorem dL_act_25 : decode cL_act 25 = .ok (.iload_n 2, 1) := by decide +kernel
theorem dL_act_26 : decode cL_act 26 = .ok (.iconst 3, 1) := by decide +kernel
theorem dL_act_27 : decode cL_act 27 = .ok (.ishr, 1) := by decide +kernel
theorem dL_act_28 : decode cL_act 28 = .ok (.bipush 40, 2) := by decide +kernel
theorem dL_act_30 : decode cL_act 30 = .ok (.invokestatic 101, 3) := by decide +kernel
theorem dL_act_33 : decode cL_act 33 = .ok (.iadd, 1) := by decide +kernel
theorem dL_act_34 : decode cL_act 34 = .ok (.istore 6, 2) := by decide +kernel
theorem dL_act_36 : decode cL_act 36 = .ok (.iload 6, 2) := by decide +kernel
theorem dL_act_38 : decode cL_act 38 = .ok (.iload_n 2, 1) := by decide +kernel
theorem dL_act_39 : decode cL_act 39 = .ok (.bipush 9, 2) := by decide +kernel
theorem dL_act_41 : decode cL_act 41 = .ok (.ishr, 1) := by decide +kernel
theorem dL_act_42 : decode cL_act 42 = .ok (.iload_n 2, 1) := by decide +kernel
theorem dL_act_43 : decode cL_act 43 = .ok (.bipush 20, 2) := by decide +kernel
theorem dL_act_45 : decode cL_act 45 = .ok (.ishr, 1) := by decide +kernel
theorem dL_act_46 : decode cL_act 46 = .ok (.iconst 1, 1) := by decide +kernel
theorem dL_act_47 : decode cL_act 47 = .ok (.iand, 1) := by decide +kernel
theorem dL_act_48 : decode cL_act 48 = .ok (.ifCond .ne 8, 3) := by decide +kernel
theorem dL_act_51 : decode cL_act 51 = .ok (.bipush 6, 2) := by decide +kernel
theorem dL_act_53 : decode cL_act 53 = .ok (.goto 6, 3) := by decide +kernel
theorem dL_act_56 : decode cL_act 56 = .ok (.sipush 300, 3) := by decide +kernel
theorem dL_act_59 : decode cL_act 59 = .ok (.invokestatic 101, 3) := by decide +kernel
theorem dL_act_62 : decode cL_act 62 = .ok (.iadd, 1) := by decide +kernel
theorem dL_act_63 : decode cL_act 63 = .ok (.istore 7, 2) := by decide +kernel
theorem dL_act_65 : decode cL_act 65 = .ok (.iload_n 1, 1) := by decide +kernel
theorem dL_act_66 : decode cL_act 66 = .ok (.iconst 3, 1) := by decide +kernel
theorem dL_act_67 : decode cL_act 67 = .ok (.ishr, 1) := by decide +kernel
theorem dL_act_68 : decode cL_act 68 = .ok (.bipush 11, 2) := by decide +kernel
theorem dL_act_70 : decode cL_act 70 = .ok (.invokestatic 101, 3) := by decide +kernel
theorem dL_act_73 : decode cL_act 73 = .ok (.tableswitch 178 0 9 #[55, 55, 64, 73, 73, 84, 95, 102, 109, 137], 55) := by decide +kernel
theorem dL_act_128 : decode cL_act 128 = .ok (.aload_n 0, 1) := by decide +kernel
theorem dL_act_129 : decode cL_act 129 = .ok (.iload 5, 2) := by decide +kernel
theorem dL_act_131 : decode cL_act 131 = .ok (.iload 6, 2) := by decide +kernel
theorem dL_act_133 : decode cL_act 133 = .ok (.invokevirtual 51, 3) := by decide +kernel
theorem dL_act_136 : decode cL_act 136 = .ok (.ireturn, 1) := by decide +kernel
theorem dL_act_137 : decode cL_act 137 = .ok (.aload_n 0, 1) := by decide +kernel
theorem dL_act_138 : decode cL_act 138 = .ok (.iload 5, 2) := by decide +kernel
theorem dL_act_140 : decode cL_act 140 = .ok (.iload 6, 2) := by decide +kernel
theorem dL_act_142 : decode cL_act 142 = .ok (.invokevirtual 54, 3) := by decide +kernel
theorem dL_act_145 : decode cL_act 145 = .ok (.ireturn, 1) := by decide +kernel
theorem dL_act_146 : decode cL_act 146 = .ok (.aload_n 0, 1) := by decide +kernel
theorem dL_act_147 : decode cL_act 147 = .ok (.iload 5, 2) := by decide +kernel
theorem dL_act_149 : decode cL_act 149 = .ok (.iload 6, 2) := by decide +kernel
theorem dL_act_151 : decode cL_act 151 = .ok (.iload 7, 2) := by decide +kernel
theorem dL_act_153 : decode cL_act 153 = .ok (.invokevirtual 57, 3) := by decide +kernel
theorem dL_act_156 : decode cL_act 156 = .ok (.ireturn, 1) := by decide +kernel
theorem dL_act_157 : decode cL_act 157 = .ok (.aload_n 0, 1) := by decide +kernel
theorem dL_act_158 : decode cL_act 158 = .ok (.iload 5, 2) := by decide +kernel
theorem dL_act_160 : decode cL_act 160 = .ok (.iload 6, 2) := by decide +kernel
theorem dL_act_162 : decode cL_act 162 = .ok (.iload 7, 2) := by decide +kernel
theorem dL_act_164 : decode cL_act 164 = .ok (.invokevirtual 60, 3) := by decide +kernel
theorem dL_act_167 : decode cL_act 167 = .ok (.ireturn, 1) := by decide +kernel
theorem dL_act_168 : decode cL_act 168 = .ok (.aload_n 0, 1) := by decide +kernel
theorem dL_act_169 : decode cL_act 169 = .ok (.iload 5, 2) := by decide +kernel
theorem dL_act_171 : decode cL_act 171 = .ok (.invokevirtual 45, 3) := by decide +kernel
theorem dL_act_174 : decode cL_act 174 = .ok (.ireturn, 1) := by decide +kernel
theorem dL_act_175 : decode cL_act 175 = .ok (.aload_n 0, 1) := by decide +kernel
theorem dL_act_176 : decode cL_act 176 = .ok (.iload 5, 2) := by decide +kernel
theorem dL_act_178 : decode cL_act 178 = .ok (.invokevirtual 48, 3) := by decide +kernel
theorem dL_act_181 : decode cL_act 181 = .ok (.ireturn, 1) := by decide +kernel
theorem dL_act_182 : decode cL_act 182 = .ok (.aload_n 0, 1) := by decide +kernel
theorem dL_act_183 : decode cL_act 183 = .ok (.iload_n 2, 1) := by decide +kernel
theorem dL_act_184 : decode cL_act 184 = .ok (.iconst 4, 1) := by decide +kernel
theorem dL_act_185 : decode cL_act 185 = .ok (.invokestatic 101, 3) := by decide +kernel
theorem dL_act_188 : decode cL_act 188 = .ok (.iload 5, 2) := by decide +kernel
theorem dL_act_190 : decode cL_act 190 = .ok (.iload_n 2, 1) := by decide +kernel
theorem dL_act_191 : decode cL_act 191 = .ok (.iconst 2, 1) := by decide +kernel
theorem dL_act_192 : decode cL_act 192 = .ok (.ishr, 1) := by decide +kernel
theorem dL_act_193 : decode cL_act 193 = .ok (.iload 4, 2) := by decide +kernel
theorem dL_act_195 : decode cL_act 195 = .ok (.invokestatic 101, 3) := by decide +kernel
theorem dL_act_198 : decode cL_act 198 = .ok (.iload_n 2, 1) := by decide +kernel
theorem dL_act_199 : decode cL_act 199 = .ok (.iconst 5, 1) := by decide +kernel
theorem dL_act_200 : decode cL_act 200 = .ok (.ishr, 1) := by decide +kernel
theorem dL_act_201 : decode cL_act 201 = .ok (.iload 4, 2) := by decide +kernel
theorem dL_act_203 : decode cL_act 203 = .ok (.invokestatic 101, 3) := by decide +kernel
theorem dL_act_206 : decode cL_act 206 = .ok (.invokevirtual 63, 3) := by decide +kernel
theorem dL_act_209 : decode cL_act 209 = .ok (.ireturn, 1) := by decide +kernel
theorem dL_act_210 : decode cL_act 210 = .ok (.iconst 1, 1) := by decide +kernel
theorem dL_act_211 : decode cL_act 211 = .ok (.iload_n 2, 1) := by decide +kernel
theorem dL_act_212 : decode cL_act 212 = .ok (.bipush 60, 2) := by decide +kernel
theorem dL_act_214 : decode cL_act 214 = .ok (.invokestatic 101, 3) := by decide +kernel
theorem dL_act_217 : decode cL_act 217 = .ok (.iadd, 1) := by decide +kernel
theorem dL_act_218 : decode cL_act 218 = .ok (.istore 8, 2) := by decide +kernel
theorem dL_act_220 : decode cL_act 220 = .ok (.aload_n 0, 1) := by decide +kernel
theorem dL_act_221 : decode cL_act 221 = .ok (.iload 5, 2) := by decide +kernel
theorem dL_act_223 : decode cL_act 223 = .ok (.iload 8, 2) := by decide +kernel
theorem dL_act_225 : decode cL_act 225 = .ok (.invokevirtual 42, 3) := by decide +kernel
theorem dL_act_228 : decode cL_act 228 = .ok (.istore 9, 2) := by decide +kernel
theorem dL_act_230 : decode cL_act 230 = .ok (.aload_n 3, 1) := by decide +kernel
theorem dL_act_231 : decode cL_act 231 = .ok (.iload 5, 2) := by decide +kernel
theorem dL_act_233 : decode cL_act 233 = .ok (.dup2, 1) := by decide +kernel
theorem dL_act_234 : decode cL_act 234 = .ok (.iaload, 1) := by decide +kernel
theorem dL_act_235 : decode cL_act 235 = .ok (.iload 9, 2) := by decide +kernel
theorem dL_act_237 : decode cL_act 237 = .ok (.ifCond .lt 8, 3) := by decide +kernel
theorem dL_act_240 : decode cL_act 240 = .ok (.iload 8, 2) := by decide +kernel
theorem dL_act_242 : decode cL_act 242 = .ok (.goto 4, 3) := by decide +kernel
theorem dL_act_245 : decode cL_act 245 = .ok (.iconst 0, 1) := by decide +kernel
theorem dL_act_246 : decode cL_act 246 = .ok (.iadd, 1) := by decide +kernel
theorem dL_act_247 : decode cL_act 247 = .ok (.iastore, 1) := by decide +kernel
theorem dL_act_248 : decode cL_act 248 = .ok (.iload 9, 2) := by decide +kernel
theorem dL_act_250 : decode cL_act 250 = .ok (.ireturn, 1) := by decide +kernel
theorem dL_act_251 : decode cL_act 251 = .ok (.iload_n 2, 1) := by decide +kernel
theorem dL_act_252 : decode cL_act 252 = .ok (.bipush 90, 2) := by decide +kernel
theorem dL_act_254 : decode cL_act 254 = .ok (.invokestatic 101, 3) := by decide +kernel
theorem dL_act_257 : decode cL_act 257 = .ok (.istore 10, 2) := by decide +kernel
theorem dL_act_259 : decode cL_act 259 = .ok (.aload_n 0, 1) := by decide +kernel
theorem dL_act_260 : decode cL_act 260 = .ok (.iload 10, 2) := by decide +kernel
theorem dL_act_262 : decode cL_act 262 = .ok (.invokevirtual 39, 3) := by decide +kernel
theorem dL_act_265 : decode cL_act 265 = .ok (.istore 11, 2) := by decide +kernel
theorem dL_act_267 : decode cL_act 267 = .ok (.aload_n 3, 1) := by decide +kernel
theorem dL_act_268 : decode cL_act 268 = .ok (.iload 11, 2) := by decide +kernel
theorem dL_act_270 : decode cL_act 270 = .ok (.ifCond .ge 8, 3) := by decide +kernel
theorem dL_act_273 : decode cL_act 273 = .ok (.bipush 7, 2) := by decide +kernel
theorem dL_act_275 : decode cL_act 275 = .ok (.goto 5, 3) := by decide +kernel
theorem dL_act_278 : decode cL_act 278 = .ok (.iload 11, 2) := by decide +kernel
theorem dL_act_280 : decode cL_act 280 = .ok (.iload 11, 2) := by decide +kernel
theorem dL_act_282 : decode cL_act 282 = .ok (.ifCond .ge 7, 3) := by decide +kernel
theorem dL_act_285 : decode cL_act 285 = .ok (.iconst 0, 1) := by decide +kernel
theorem dL_act_286 : decode cL_act 286 = .ok (.goto 5, 3) := by decide +kernel
theorem dL_act_289 : decode cL_act 289 = .ok (.iload 10, 2) := by decide +kernel
theorem dL_act_291 : decode cL_act 291 = .ok (.iastore, 1) := by decide +kernel
theorem dL_act_292 : decode cL_act 292 = .ok (.iload 11, 2) := by decide +kernel
theorem dL_act_294 : decode cL_act 294 = .ok (.ireturn, 1) := by decide +kernel
