theorem dX11_press_11 : decode cX11_press 11 = .ok (.getfield 47, 3) := by decide +kernel
theorem dX11_press_14 : decode cX11_press 14 = .ok (.iload_n 1, 1) := by decide +kernel
theorem dX11_press_15 : decode cX11_press 15 = .ok (.iaload, 1) := by decide +kernel
theorem dX11_press_16 : decode cX11_press 16 = .ok (.iconst 4, 1) := by decide +kernel
theorem dX11_press_17 : decode cX11_press 17 = .ok (.if_icmp .gt 7, 3) := by decide +kernel
theorem dX11_press_20 : decode cX11_press 20 = .ok (.iconst 1, 1) := by decide +kernel
theorem dX11_press_21 : decode cX11_press 21 = .ok (.goto 4, 3) := by decide +kernel
theorem dX11_press_24 : decode cX11_press 24 = .ok (.iconst 0, 1) := by decide +kernel
theorem dX11_press_25 : decode cX11_press 25 = .ok (.istore_n 3, 1) := by decide +kernel
theorem dX11_press_26 : decode cX11_press 26 = .ok (.iload_n 2, 1) := by decide +kernel
theorem dX11_press_27 : decode cX11_press 27 = .ok (.tableswitch 220 11 21 #[57, 220, 85, 91, 97, 103, 109, 141, 147, 160, 174], 57) := by decide +kernel
theorem dX11_press_84 : decode cX11_press 84 = .ok (.iload_n 3, 1) := by decide +kernel
theorem dX11_press_85 : decode cX11_press 85 = .ok (.ifCond .ne 13, 3) := by decide +kernel
theorem dX11_press_88 : decode cX11_press 88 = .ok (.aload_n 0, 1) := by decide +kernel
theorem dX11_press_89 : decode cX11_press 89 = .ok (.getfield 47, 3) := by decide +kernel
theorem dX11_press_92 : decode cX11_press 92 = .ok (.iload_n 1, 1) := by decide +kernel
theorem dX11_press_93 : decode cX11_press 93 = .ok (.iaload, 1) := by decide +kernel
theorem dX11_press_94 : decode cX11_press 94 = .ok (.iconst 5, 1) := by decide +kernel
theorem dX11_press_95 : decode cX11_press 95 = .ok (.if_icmp .ne 15, 3) := by decide +kernel
theorem dX11_press_98 : decode cX11_press 98 = .ok (.aload_n 0, 1) := by decide +kernel
theorem dX11_press_99 : decode cX11_press 99 = .ok (.iload_n 1, 1) := by decide +kernel
theorem dX11_press_100 : decode cX11_press 100 = .ok (.invokevirtual 247, 3) := by decide +kernel
theorem dX11_press_103 : decode cX11_press 103 = .ok (.ifCond .eq 7, 3) := by decide +kernel
theorem dX11_press_106 : decode cX11_press 106 = .ok (.iconst 1, 1) := by decide +kernel
theorem dX11_press_107 : decode cX11_press 107 = .ok (.goto 4, 3) := by decide +kernel
theorem dX11_press_110 : decode cX11_press 110 = .ok (.iconst 0, 1) := by decide +kernel
theorem dX11_press_111 : decode cX11_press 111 = .ok (.ireturn, 1) := by decide +kernel
theorem dX11_press_112 : decode cX11_press 112 = .ok (.aload_n 0, 1) := by decide +kernel
theorem dX11_press_113 : decode cX11_press 113 = .ok (.iload_n 1, 1) := by decide +kernel
theorem dX11_press_114 : decode cX11_press 114 = .ok (.invokevirtual 250, 3) := by decide +kernel
theorem dX11_press_117 : decode cX11_press 117 = .ok (.ireturn, 1) := by decide +kernel
theorem dX11_press_118 : decode cX11_press 118 = .ok (.aload_n 0, 1) := by decide +kernel
theorem dX11_press_119 : decode cX11_press 119 = .ok (.iload_n 1, 1) := by decide +kernel
theorem dX11_press_120 : decode cX11_press 120 = .ok (.invokevirtual 253, 3) := by decide +kernel
theorem dX11_press_123 : decode cX11_press 123 = .ok (.ireturn, 1) := by decide +kernel
theorem dX11_press_124 : decode cX11_press 124 = .ok (.aload_n 0, 1) := by decide +kernel
theorem dX11_press_125 : decode cX11_press 125 = .ok (.iload_n 1, 1) := by decide +kernel
theorem dX11_press_126 : decode cX11_press 126 = .ok (.invokevirtual 256, 3) := by decide +kernel
theorem dX11_press_129 : decode cX11_press 129 = .ok (.ireturn, 1) := by decide +kernel
theorem dX11_press_130 : decode cX11_press 130 = .ok (.aload_n 0, 1) := by decide +kernel
theorem dX11_press_131 : decode cX11_press 131 = .ok (.iload_n 1, 1) := by decide +kernel
theorem dX11_press_132 : decode cX11_press 132 = .ok (.invokevirtual 259, 3) := by decide +kernel
theorem dX11_press_135 : decode cX11_press 135 = .ok (.ireturn, 1) := by decide +kernel
theorem dX11_press_136 : decode cX11_press 136 = .ok (.aload_n 0, 1) := by decide +kernel
theorem dX11_press_137 : decode cX11_press 137 = .ok (.getfield 47, 3) := by decide +kernel
theorem dX11_press_140 : decode cX11_press 140 = .ok (.iload_n 1, 1) := by decide +kernel
theorem dX11_press_141 : decode cX11_press 141 = .ok (.iaload, 1) := by decide +kernel
theorem dX11_press_142 : decode cX11_press 142 = .ok (.iconst 5, 1) := by decide +kernel
theorem dX11_press_143 : decode cX11_press 143 = .ok (.if_icmp .eq 5, 3) := by decide +kernel
theorem dX11_press_146 : decode cX11_press 146 = .ok (.iconst 0, 1) := by decide +kernel
theorem dX11_press_147 : decode cX11_press 147 = .ok (.ireturn, 1) := by decide +kernel
theorem dX11_press_148 : decode cX11_press 148 = .ok (.aload_n 0, 1) := by decide +kernel
theorem dX11_press_149 : decode cX11_press 149 = .ok (.iconst 2, 1) := by decide +kernel
theorem dX11_press_150 : decode cX11_press 150 = .ok (.iload_n 1, 1) := by decide +kernel
theorem dX11_press_151 : decode cX11_press 151 = .ok (.aload_n 0, 1) := by decide +kernel
theorem dX11_press_152 : decode cX11_press 152 = .ok (.getfield 128, 3) := by decide +kernel
theorem dX11_press_155 : decode cX11_press 155 = .ok (.iload_n 1, 1) := by decide +kernel
theorem dX11_press_156 : decode cX11_press 156 = .ok (.iaload, 1) := by decide +kernel
theorem dX11_press_157 : decode cX11_press 157 = .ok (.invokevirtual 215, 3) := by decide +kernel
theorem dX11_press_160 : decode cX11_press 160 = .ok (.aload_n 0, 1) := by decide +kernel
theorem dX11_press_161 : decode cX11_press 161 = .ok (.iload_n 1, 1) := by decide +kernel
theorem dX11_press_162 : decode cX11_press 162 = .ok (.iconst 4, 1) := by decide +kernel
theorem dX11_press_163 : decode cX11_press 163 = .ok (.invokevirtual 219, 3) := by decide +kernel
theorem dX11_press_166 : decode cX11_press 166 = .ok (.iconst 1, 1) := by decide +kernel
theorem dX11_press_167 : decode cX11_press 167 = .ok (.ireturn, 1) := by decide +kernel
theorem dX11_press_168 : decode cX11_press 168 = .ok (.aload_n 0, 1) := by decide +kernel
theorem dX11_press_169 : decode cX11_press 169 = .ok (.iload_n 1, 1) := by decide +kernel
theorem dX11_press_170 : decode cX11_press 170 = .ok (.invokevirtual 262, 3) := by decide +kernel
theorem dX11_press_173 : decode cX11_press 173 = .ok (.ireturn, 1) := by decide +kernel
theorem dX11_press_174 : decode cX11_press 174 = .ok (.aload_n 0, 1) := by decide +kernel
theorem dX11_press_175 : decode cX11_press 175 = .ok (.aload_n 0, 1) := by decide +kernel
theorem dX11_press_176 : decode cX11_press 176 = .ok (.getfield 167, 3) := by decide +kernel
theorem dX11_press_179 : decode cX11_press 179 = .ok (.bipush 120, 2) := by decide +kernel
theorem dX11_press_181 : decode cX11_press 181 = .ok (.iadd, 1) := by decide +kernel
theorem dX11_press_182 : decode cX11_press 182 = .ok (.putfield 265, 3) := by decide +kernel
theorem dX11_press_185 : decode cX11_press 185 = .ok (.iconst 1, 1) := by decide +kernel
theorem dX11_press_186 : decode cX11_press 186 = .ok (.ireturn, 1) := by decide +kernel
theorem dX11_press_187 : decode cX11_press 187 = .ok (.aload_n 0, 1) := by decide +kernel
theorem dX11_press_188 : decode cX11_press 188 = .ok (.aload_n 0, 1) := by decide +kernel
theorem dX11_press_189 : decode cX11_press 189 = .ok (.getfield 268, 3) := by decide +kernel
theorem dX11_press_192 : decode cX11_press 192 = .ok (.iconst 1, 1) := by decide +kernel
theorem dX11_press_193 : decode cX11_press 193 = .ok (.iadd, 1) := by decide +kernel
theorem dX11_press_194 : decode cX11_press 194 = .ok (.iconst 3, 1) := by decide +kernel
theorem dX11_press_195 : decode cX11_press 195 = .ok (.irem, 1) := by decide +kernel
theorem dX11_press_196 : decode cX11_press 196 = .ok (.putfield 268, 3) := by decide +kernel
theorem dX11_press_199 : decode cX11_press 199 = .ok (.iconst 1, 1) := by decide +kernel
theorem dX11_press_200 : decode cX11_press 200 = .ok (.ireturn, 1) := by decide +kernel
theorem dX11_press_201 : decode cX11_press 201 = .ok (.aload_n 0, 1) := by decide +kernel
theorem dX11_press_202 : decode cX11_press 202 = .ok (.getfield 47, 3) := by decide +kernel
theorem dX11_press_205 : decode cX11_press 205 = .ok (.iload_n 1, 1) := by decide +kernel
theorem dX11_press_206 : decode cX11_press 206 = .ok (.iaload, 1) := by decide +kernel
theorem dX11_press_207 : decode cX11_press 207 = .ok (.bipush 6, 2) := by decide +kernel
theorem dX11_press_209 : decode cX11_press 209 = .ok (.if_icmp .eq 16, 3) := by decide +kernel
theorem dX11_press_212 : decode cX11_press 212 = .ok (.aload_n 0, 1) := by decide +kernel
theorem dX11_press_213 : decode cX11_press 213 = .ok (.getfield 47, 3) := by decide +kernel
theorem dX11_press_216 : decode cX11_press 216 = .ok (.iload_n 1, 1) := by decide +kernel
theorem dX11_press_217 : decode cX11_press 217 = .ok (.iaload, 1) := by decide +kernel
theorem dX11_press_218 : decode cX11_press 218 = .ok (.bipush 8, 2) := by decide +kernel
theorem dX11_press_220 : decode cX11_press 220 = .ok (.if_icmp .eq 5, 3) := by decide +kernel
theorem dX11_press_223 : decode cX11_press 223 = .ok (.iconst 0, 1) := by decide +kernel
theorem dX11_press_224 : decode cX11_press 224 = .ok (.ireturn, 1) := by decide +kernel
theorem dX11_press_225 : decode cX11_press 225 = .ok (.aload_n 0, 1) := by decide +kernel
theorem dX11_press_226 : decode cX11_press 226 = .ok (.getfield 95, 3) := by decide +kernel
theorem dX11_press_229 : decode cX11_press 229 = .ok (.iload_n 1, 1) := by decide +kernel
theorem dX11_press_230 : decode cX11_press 230 = .ok (.aload_n 0, 1) := by decide +kernel
theorem dX11_press_231 : decode cX11_press 231 = .ok (.getfield 95, 3) := by decide +kernel
theorem dX11_press_234 : decode cX11_press 234 = .ok (.iload_n 1, 1) := by decide +kernel
theorem dX11_press_235 : decode cX11_press 235 = .ok (.baload, 1) := by decide +kernel
theorem dX11_press_236 : decode cX11_press 236 = .ok (.ifCond .ne 7, 3) := by decide +kernel
theorem dX11_press_239 : decode cX11_press 239 = .ok (.iconst 1, 1) := by decide +kernel
theorem dX11_press_240 : decode cX11_press 240 = .ok (.goto 4, 3) := by decide +kernel
theorem dX11_press_243 : decode cX11_press 243 = .ok (.iconst 0, 1) := by decide +kernel
theorem dX11_press_244 : decode cX11_press 244 = .ok (.bastore, 1) := by decide +kernel
theorem dX11_press_245 : decode cX11_press 245 = .ok (.iconst 1, 1) := by decide +kernel
theorem dX11_press_246 : decode cX11_press 246 = .ok (.ireturn, 1) := by decide +kernel
theorem dX11_press_247 : decode cX11_press 247 = .ok (.iload_n 3, 1) := by decide +kernel
theorem dX11_press_248 : decode cX11_press 248 = .ok (.ifCond .eq 16, 3) := by decide +kernel
theorem dX11_press_251 : decode cX11_press 251 = .ok (.aload_n 0, 1) := by decide +kernel
theorem dX11_press_252 : decode cX11_press 252 = .ok (.iload_n 1, 1) := by decide +kernel
theorem dX11_press_253 : decode cX11_press 253 = .ok (.iload_n 2, 1) := by decide +kernel
theorem dX11_press_254 : decode cX11_press 254 = .ok (.invokevirtual 271, 3) := by decide +kernel
theorem dX11_press_257 : decode cX11_press 257 = .ok (.ifCond .eq 7, 3) := by decide +kernel
theorem dX11_press_260 : decode cX11_press 260 = .ok (.iconst 1, 1) := by decide +kernel
theorem dX11_press_261 : decode cX11_press 261 = .ok (.goto 4, 3) := by decide +kernel
theorem dX11_press_264 : decode cX11_press 264 = .ok (.iconst 0, 1) := by decide +kernel
theorem dX11_press_265 : decode cX11_press 265 = .ok (.ireturn, 1) := by decide +kernel
set_option maxRecDepth 20000 in
theorem ggX11_key_X11_isIn : GoodIn wsX11_key wsX11_isIn := goodIn_r _ [10] (by decide +kernel) (by decide +kernel)
set_option maxRecDepth 20000 in
theorem gX11_key_X11_isIn : GoodIn wsX11_key (va_wsS RX11 174 yX11_isIn wsX11_isIn) := goodIn_app (goodIn_of _ (by decide +kernel)) ggX11_key_X11_isIn
set_option maxRecDepth 20000 in
theorem ggX11_key_X11_enter : GoodIn wsX11_key wsX11_enter := goodIn_r _ [14, 15, 16, 17, 4, 18, 19, 20, 21, 22, 23, 24, 25, 26, 27, 28, 29, 30, 31, 32, 33, 34, 35, 36, 9, 37, 38, 39, 40, 41, 42, 43, 44, 45, 46, 47, 48, 7, 8, 10, 49, 50, 51, 52, 53, 54, 55, 56, 57, 58, 59, 60, 61, 62, 63, 64, 65, 66, 67, 68, 69, 6, 70, 71, 72, 73, 74, 75, 143, 144, 145, 146, 147, 148, 149, 150, 151, 152, 153, 154, 155, 156, 157, 158, 159, 160, 161, 162, 163, 164, 165, 166, 167, 168, 169, 170, 171, 172, 173, 174, 175, 176, 177, 178, 179, 180, 181, 182, 183, 184, 185, 186, 187, 188, 189, 190, 191, 192, 193, 194, 195] (by decide +kernel) (by decide +kernel)
set_option maxRecDepth 20000 in
theorem gX11_key_X11_enter : GoodIn wsX11_key (wsV RX11 276 RX11 yX11_enter wsX11_enter) := goodIn_app (goodIn_of _ (by decide +kernel)) ggX11_key_X11_enter
set_option maxRecDepth 20000 in
theorem ggX11_key_X11_press : GoodIn wsX11_key wsX11_press := goodIn_r _ [79, 4, 25, 6, 80, 3, 81, 82, 83, 84, 9, 85, 15, 49, 50, 51, 52, 53, 54, 55, 56, 38, 16, 86, 87, 88, 89, 90, 64, 65, 66, 67, 68, 69, 70, 71, 72, 73, 74, 75, 91, 92, 93, 94, 95, 96, 97, 98, 29, 99, 100, 101, 102, 103, 104, 105, 106, 107, 108, 33, 31, 109, 110, 111, 112, 113, 114, 115, 116, 117, 118, 119, 120, 121, 122, 123, 124, 125, 126, 127, 28, 128, 129, 130, 131, 132, 133, 134, 135, 136, 137, 138, 139, 140, 141, 142, 39, 40, 41, 42, 18, 17, 143, 144, 145, 146, 147, 148, 149, 150, 151, 152, 153, 154, 155, 156, 157, 158, 159, 160, 161, 162, 163, 164, 165, 166, 167, 168, 169, 170, 171, 172, 173, 174, 175, 176, 177, 178, 179, 180, 181, 182, 183, 184, 185, 186, 187, 188, 189, 190, 191, 192, 193, 194, 195] (by decide +kernel) (by decide +kernel)
set_option maxRecDepth 20000 in
theorem gX11_key_X11_press : GoodIn wsX11_key (wsV RX11 279 RX11 yX11_press wsX11_press) := goodIn_app (goodIn_of _ (by decide +kernel)) ggX11_key_X11_press
theorem dX11_key_0 : decode cX11_key 0 = .ok (.aload_n 0, 1) := by decide +kernel
theorem dX11_key_1 : decode cX11_key 1 = .ok (.iload_n 1, 1) := by decide +kernel
theorem dX11_key_2 : decode cX11_key 2 = .ok (.i2l, 1) := by decide +kernel
theorem dX11_key_3 : decode cX11_key 3 = .ok (.lconst 0, 1) := by decide +kernel
theorem dX11_key_4 : decode cX11_key 4 = .ok (.ldc2_w 274, 3) := by decide +kernel
theorem dX11_key_7 : decode cX11_key 7 = .ok (.invokestatic 174, 3) := by decide +kernel
theorem dX11_key_10 : decode cX11_key 10 = .ok (.ifCond .eq 7, 3) := by decide +kernel
theorem dX11_key_13 : decode cX11_key 13 = .ok (.iconst 0, 1) := by decide +kernel
theorem dX11_key_14 : decode cX11_key 14 = .ok (.goto 4, 3) := by decide +kernel
theorem dX11_key_17 : decode cX11_key 17 = .ok (.iconst 1, 1) := by decide +kernel
theorem dX11_key_18 : decode cX11_key 18 = .ok (.putfield 159, 3) := by decide +kernel
theorem dX11_key_21 : decode cX11_key 21 = .ok (.aload_n 0, 1) := by decide +kernel
theorem dX11_key_22 : decode cX11_key 22 = .ok (.getfield 159, 3) := by decide +kernel
theorem dX11_key_25 : decode cX11_key 25 = .ok (.ifCond .le 5, 3) := by decide +kernel
theorem dX11_key_28 : decode cX11_key 28 = .ok (.iconst 0, 1) := by decide +kernel
theorem dX11_key_29 : decode cX11_key 29 = .ok (.ireturn, 1) := by decide +kernel
theorem dX11_key_30 : decode cX11_key 30 = .ok (.aload_n 0, 1) := by decide +kernel
theorem dX11_key_31 : decode cX11_key 31 = .ok (.getfield 268, 3) := by decide +kernel
theorem dX11_key_34 : decode cX11_key 34 = .ok (.istore_n 2, 1) := by decide +kernel
theorem dX11_key_35 : decode cX11_key 35 = .ok (.iconst 0, 1) := by decide +kernel
theorem dX11_key_36 : decode cX11_key 36 = .ok (.istore_n 3, 1) := by decide +kernel
theorem dX11_key_37 : decode cX11_key 37 = .ok (.iload_n 1, 1) := by decide +kernel
theorem dX11_key_38 : decode cX11_key 38 = .ok (.bipush 12, 2) := by decide +kernel
theorem dX11_key_40 : decode cX11_key 40 = .ok (.if_icmp .ne 36, 3) := by decide +kernel
theorem dX11_key_43 : decode cX11_key 43 = .ok (.aload_n 0, 1) := by decide +kernel
theorem dX11_key_44 : decode cX11_key 44 = .ok (.getfield 47, 3) := by decide +kernel
theorem dX11_key_47 : decode cX11_key 47 = .ok (.iload_n 2, 1) := by decide +kernel
theorem dX11_key_48 : decode cX11_key 48 = .ok (.iaload, 1) := by decide +kernel
theorem dX11_key_49 : decode cX11_key 49 = .ok (.iconst 1, 1) := by decide +kernel
theorem dX11_key_50 : decode cX11_key 50 = .ok (.if_icmp .lt 21, 3) := by decide +kernel
theorem dX11_key_53 : decode cX11_key 53 = .ok (.aload_n 0, 1) := by decide +kernel
theorem dX11_key_54 : decode cX11_key 54 = .ok (.getfield 47, 3) := by decide +kernel
theorem dX11_key_57 : decode cX11_key 57 = .ok (.iload_n 2, 1) := by decide +kernel
theorem dX11_key_58 : decode cX11_key 58 = .ok (.iaload, 1) := by decide +kernel
theorem dX11_key_59 : decode cX11_key 59 = .ok (.iconst 4, 1) := by decide +kernel
theorem dX11_key_60 : decode cX11_key 60 = .ok (.if_icmp .gt 11, 3) := by decide +kernel
theorem dX11_key_63 : decode cX11_key 63 = .ok (.aload_n 0, 1) := by decide +kernel
theorem dX11_key_64 : decode cX11_key 64 = .ok (.iload_n 2, 1) := by decide +kernel
theorem dX11_key_65 : decode cX11_key 65 = .ok (.invokevirtual 276, 3) := by decide +kernel
theorem dX11_key_68 : decode cX11_key 68 = .ok (.goto 4, 3) := by decide +kernel
theorem dX11_key_71 : decode cX11_key 71 = .ok (.iconst (-1), 1) := by decide +kernel
theorem dX11_key_72 : decode cX11_key 72 = .ok (.istore_n 3, 1) := by decide +kernel
theorem dX11_key_73 : decode cX11_key 73 = .ok (.goto 14, 3) := by decide +kernel
theorem dX11_key_76 : decode cX11_key 76 = .ok (.aload_n 0, 1) := by decide +kernel
theorem dX11_key_77 : decode cX11_key 77 = .ok (.iload_n 2, 1) := by decide +kernel
theorem dX11_key_78 : decode cX11_key 78 = .ok (.iload_n 1, 1) := by decide +kernel
theorem dX11_key_79 : decode cX11_key 79 = .ok (.invokevirtual 279, 3) := by decide +kernel
theorem dX11_key_82 : decode cX11_key 82 = .ok (.ifCond .ne 5, 3) := by decide +kernel
theorem dX11_key_85 : decode cX11_key 85 = .ok (.iconst (-1), 1) := by decide +kernel
theorem dX11_key_86 : decode cX11_key 86 = .ok (.istore_n 3, 1) := by decide +kernel
theorem dX11_key_87 : decode cX11_key 87 = .ok (.iload_n 1, 1) := by decide +kernel
theorem dX11_key_88 : decode cX11_key 88 = .ok (.bipush 16, 2) := by decide +kernel
theorem dX11_key_90 : decode cX11_key 90 = .ok (.if_icmp .eq 25, 3) := by decide +kernel
theorem dX11_key_93 : decode cX11_key 93 = .ok (.iload_n 1, 1) := by decide +kernel
theorem dX11_key_94 : decode cX11_key 94 = .ok (.bipush 18, 2) := by decide +kernel
theorem dX11_key_96 : decode cX11_key 96 = .ok (.if_icmp .eq 19, 3) := by decide +kernel
theorem dX11_key_99 : decode cX11_key 99 = .ok (.iload_n 1, 1) := by decide +kernel
theorem dX11_key_100 : decode cX11_key 100 = .ok (.bipush 19, 2) := by decide +kernel
theorem dX11_key_102 : decode cX11_key 102 = .ok (.if_icmp .eq 13, 3) := by decide +kernel
theorem dX11_key_105 : decode cX11_key 105 = .ok (.iload_n 1, 1) := by decide +kernel
theorem dX11_key_106 : decode cX11_key 106 = .ok (.bipush 20, 2) := by decide +kernel
theorem dX11_key_108 : decode cX11_key 108 = .ok (.if_icmp .eq 7, 3) := by decide +kernel
theorem dX11_key_111 : decode cX11_key 111 = .ok (.iconst 1, 1) := by decide +kernel
theorem dX11_key_112 : decode cX11_key 112 = .ok (.goto 4, 3) := by decide +kernel
theorem dX11_key_115 : decode cX11_key 115 = .ok (.iconst 0, 1) := by decide +kernel
theorem dX11_key_116 : decode cX11_key 116 = .ok (.istore 4, 2) := by decide +kernel
theorem dX11_key_118 : decode cX11_key 118 = .ok (.iload_n 3, 1) := by decide +kernel
theorem dX11_key_119 : decode cX11_key 119 = .ok (.iconst (-1), 1) := by decide +kernel
theorem dX11_key_120 : decode cX11_key 120 = .ok (.if_icmp .eq 18, 3) := by decide +kernel
theorem dX11_key_123 : decode cX11_key 123 = .ok (.iload 4, 2) := by decide +kernel
theorem dX11_key_125 : decode cX11_key 125 = .ok (.ifCond .eq 13, 3) := by decide +kernel
theorem dX11_key_128 : decode cX11_key 128 = .ok (.aload_n 0, 1) := by decide +kernel
theorem dX11_key_129 : decode cX11_key 129 = .ok (.getfield 140, 3) := by decide +kernel
theorem dX11_key_132 : decode cX11_key 132 = .ok (.iload_n 2, 1) := by decide +kernel
theorem dX11_key_133 : decode cX11_key 133 = .ok (.aload_n 0, 1) := by decide +kernel
theorem dX11_key_134 : decode cX11_key 134 = .ok (.getfield 167, 3) := by decide +kernel
theorem dX11_key_137 : decode cX11_key 137 = .ok (.iastore, 1) := by decide +kernel
theorem dX11_key_138 : decode cX11_key 138 = .ok (.iload_n 3, 1) := by decide +kernel
theorem dX11_key_139 : decode cX11_key 139 = .ok (.ifCond .ge 7, 3) := by decide +kernel
theorem dX11_key_142 : decode cX11_key 142 = .ok (.iload_n 3, 1) := by decide +kernel
theorem dX11_key_143 : decode cX11_key 143 = .ok (.goto 9, 3) := by decide +kernel
theorem dX11_key_146 : decode cX11_key 146 = .ok (.aload_n 0, 1) := by decide +kernel
theorem dX11_key_147 : decode cX11_key 147 = .ok (.getfield 47, 3) := by decide +kernel
theorem dX11_key_150 : decode cX11_key 150 = .ok (.iload_n 2, 1) := by decide +kernel
theorem dX11_key_151 : decode cX11_key 151 = .ok (.iaload, 1) := by decide +kernel
theorem dX11_key_152 : decode cX11_key 152 = .ok (.ireturn, 1) := by decide +kernel
set_option maxRecDepth 20000 in
theorem ggX11_latch_X11_note : GoodIn wsX11_latch wsX11_note := goodIn_r _ [9, 10, 11, 12, 13, 14, 15, 8, 16, 17, 18, 19, 20, 21, 22, 23, 24, 25, 26, 27, 28, 29, 30, 31, 32, 33, 34, 35, 36, 37, 38, 39, 40, 41, 42, 43, 44, 45, 46, 47, 48, 49, 50, 51, 52, 53, 54, 55, 56, 57, 58, 59, 60, 61, 62, 63, 64, 65, 66, 67, 68, 69, 70, 71] (by decide +kernel) (by decide +kernel)
set_option maxRecDepth 20000 in
theorem gX11_latch_X11_note : GoodIn wsX11_latch (wsV RX11 215 RX11 yX11_note wsX11_note) := goodIn_app (goodIn_of _ (by decide +kernel)) ggX11_latch_X11_note
theorem dX11_latch_0 : decode cX11_latch 0 = .ok (.aload_n 0, 1) := by decide +kernel
theorem dX11_latch_1 : decode cX11_latch 1 = .ok (.getfield 92, 3) := by decide +kernel
theorem dX11_latch_4 : decode cX11_latch 4 = .ok (.iload_n 1, 1) := by decide +kernel
theorem dX11_latch_5 : decode cX11_latch 5 = .ok (.iaload, 1) := by decide +kernel
theorem dX11_latch_6 : decode cX11_latch 6 = .ok (.iload_n 2, 1) := by decide +kernel
theorem dX11_latch_7 : decode cX11_latch 7 = .ok (.ishr, 1) := by decide +kernel
theorem dX11_latch_8 : decode cX11_latch 8 = .ok (.iconst 1, 1) := by decide +kernel
theorem dX11_latch_9 : decode cX11_latch 9 = .ok (.iand, 1) := by decide +kernel
theorem dX11_latch_10 : decode cX11_latch 10 = .ok (.iconst 1, 1) := by decide +kernel
theorem dX11_latch_11 : decode cX11_latch 11 = .ok (.if_icmp .ne 4, 3) := by decide +kernel
theorem dX11_latch_14 : decode cX11_latch 14 = .ok (.return_, 1) := by decide +kernel
theorem dX11_latch_15 : decode cX11_latch 15 = .ok (.aload_n 0, 1) := by decide +kernel
theorem dX11_latch_16 : decode cX11_latch 16 = .ok (.getfield 92, 3) := by decide +kernel
theorem dX11_latch_19 : decode cX11_latch 19 = .ok (.iload_n 1, 1) := by decide +kernel
theorem dX11_latch_20 : decode cX11_latch 20 = .ok (.dup2, 1) := by decide +kernel
theorem dX11_latch_21 : decode cX11_latch 21 = .ok (.iaload, 1) := by decide +kernel
theorem dX11_latch_22 : decode cX11_latch 22 = .ok (.iconst 1, 1) := by decide +kernel
theorem dX11_latch_23 : decode cX11_latch 23 = .ok (.iload_n 2, 1) := by decide +kernel
theorem dX11_latch_24 : decode cX11_latch 24 = .ok (.ishl, 1) := by decide +kernel
theorem dX11_latch_25 : decode cX11_latch 25 = .ok (.ior, 1) := by decide +kernel
theorem dX11_latch_26 : decode cX11_latch 26 = .ok (.iastore, 1) := by decide +kernel
theorem dX11_latch_27 : decode cX11_latch 27 = .ok (.aload_n 0, 1) := by decide +kernel
theorem dX11_latch_28 : decode cX11_latch 28 = .ok (.iconst 0, 1) := by decide +kernel
theorem dX11_latch_29 : decode cX11_latch 29 = .ok (.putfield 265, 3) := by decide +kernel
theorem dX11_latch_32 : decode cX11_latch 32 = .ok (.aload_n 0, 1) := by decide +kernel
theorem dX11_latch_33 : decode cX11_latch 33 = .ok (.bipush 7, 2) := by decide +kernel
theorem dX11_latch_35 : decode cX11_latch 35 = .ok (.iload_n 1, 1) := by decide +kernel
theorem dX11_latch_36 : decode cX11_latch 36 = .ok (.iload_n 2, 1) := by decide +kernel
theorem dX11_latch_37 : decode cX11_latch 37 = .ok (.invokevirtual 215, 3) := by decide +kernel
theorem dX11_latch_40 : decode cX11_latch 40 = .ok (.iload_n 2, 1) := by decide +kernel
theorem dX11_latch_41 : decode cX11_latch 41 = .ok (.iconst 4, 1) := by decide +kernel
theorem dX11_latch_42 : decode cX11_latch 42 = .ok (.if_icmp .gt 14, 3) := by decide +kernel
theorem dX11_latch_45 : decode cX11_latch 45 = .ok (.aload_n 0, 1) := by decide +kernel
theorem dX11_latch_46 : decode cX11_latch 46 = .ok (.getfield 47, 3) := by decide +kernel
theorem dX11_latch_49 : decode cX11_latch 49 = .ok (.iload_n 1, 1) := by decide +kernel
theorem dX11_latch_50 : decode cX11_latch 50 = .ok (.iaload, 1) := by decide +kernel
theorem dX11_latch_51 : decode cX11_latch 51 = .ok (.bipush 7, 2) := by decide +kernel
theorem dX11_latch_53 : decode cX11_latch 53 = .ok (.if_icmp .eq 4, 3) := by decide +kernel
theorem dX11_latch_56 : decode cX11_latch 56 = .ok (.return_, 1) := by decide +kernel
theorem dX11_latch_57 : decode cX11_latch 57 = .ok (.aload_n 0, 1) := by decide +kernel
theorem dX11_latch_58 : decode cX11_latch 58 = .ok (.getfield 47, 3) := by decide +kernel
theorem dX11_latch_61 : decode cX11_latch 61 = .ok (.iload_n 1, 1) := by decide +kernel
theorem dX11_latch_62 : decode cX11_latch 62 = .ok (.bipush 8, 2) := by decide +kernel
theorem dX11_latch_64 : decode cX11_latch 64 = .ok (.iastore, 1) := by decide +kernel
theorem dX11_latch_65 : decode cX11_latch 65 = .ok (.aload_n 0, 1) := by decide +kernel
theorem dX11_latch_66 : decode cX11_latch 66 = .ok (.getfield 68, 3) := by decide +kernel
theorem dX11_latch_69 : decode cX11_latch 69 = .ok (.iload_n 1, 1) := by decide +kernel
theorem dX11_latch_70 : decode cX11_latch 70 = .ok (.iconst 0, 1) := by decide +kernel
theorem dX11_latch_71 : decode cX11_latch 71 = .ok (.iastore, 1) := by decide +kernel
theorem dX11_latch_72 : decode cX11_latch 72 = .ok (.return_, 1) := by decide +kernel
theorem dX11_beginTick_0 : decode cX11_beginTick 0 = .ok (.aload_n 0, 1) := by decide +kernel
theorem dX11_beginTick_1 : decode cX11_beginTick 1 = .ok (.dup, 1) := by decide +kernel
theorem dX11_beginTick_2 : decode cX11_beginTick 2 = .ok (.getfield 167, 3) := by decide +kernel
theorem dX11_beginTick_5 : decode cX11_beginTick 5 = .ok (.iconst 1, 1) := by decide +kernel
theorem dX11_beginTick_6 : decode cX11_beginTick 6 = .ok (.iadd, 1) := by decide +kernel
theorem dX11_beginTick_7 : decode cX11_beginTick 7 = .ok (.putfield 167, 3) := by decide +kernel
theorem dX11_beginTick_10 : decode cX11_beginTick 10 = .ok (.iconst 0, 1) := by decide +kernel
theorem dX11_beginTick_11 : decode cX11_beginTick 11 = .ok (.istore_n 1, 1) := by decide +kernel
theorem dX11_beginTick_12 : decode cX11_beginTick 12 = .ok (.iload_n 1, 1) := by decide +kernel
theorem dX11_beginTick_13 : decode cX11_beginTick 13 = .ok (.iconst 3, 1) := by decide +kernel
theorem dX11_beginTick_14 : decode cX11_beginTick 14 = .ok (.if_icmp .ge 160, 3) := by decide +kernel
theorem dX11_beginTick_17 : decode cX11_beginTick 17 = .ok (.aload_n 0, 1) := by decide +kernel
theorem dX11_beginTick_18 : decode cX11_beginTick 18 = .ok (.getfield 98, 3) := by decide +kernel
theorem dX11_beginTick_21 : decode cX11_beginTick 21 = .ok (.iload_n 1, 1) := by decide +kernel
theorem dX11_beginTick_22 : decode cX11_beginTick 22 = .ok (.iconst 0, 1) := by decide +kernel
theorem dX11_beginTick_23 : decode cX11_beginTick 23 = .ok (.bastore, 1) := by decide +kernel
theorem dX11_beginTick_24 : decode cX11_beginTick 24 = .ok (.aload_n 0, 1) := by decide +kernel
theorem dX11_beginTick_25 : decode cX11_beginTick 25 = .ok (.getfield 113, 3) := by decide +kernel
theorem dX11_beginTick_28 : decode cX11_beginTick 28 = .ok (.iload_n 1, 1) := by decide +kernel
theorem dX11_beginTick_29 : decode cX11_beginTick 29 = .ok (.dup2, 1) := by decide +kernel
theorem dX11_beginTick_30 : decode cX11_beginTick 30 = .ok (.iaload, 1) := by decide +kernel
theorem dX11_beginTick_31 : decode cX11_beginTick 31 = .ok (.aload_n 0, 1) := by decide +kernel
theorem dX11_beginTick_32 : decode cX11_beginTick 32 = .ok (.getfield 104, 3) := by decide +kernel
theorem dX11_beginTick_35 : decode cX11_beginTick 35 = .ok (.sipush 3600, 3) := by decide +kernel
theorem dX11_beginTick_38 : decode cX11_beginTick 38 = .ok (.iload_n 1, 1) := by decide +kernel
theorem dX11_beginTick_39 : decode cX11_beginTick 39 = .ok (.imul, 1) := by decide +kernel
theorem dX11_beginTick_40 : decode cX11_beginTick 40 = .ok (.aload_n 0, 1) := by decide +kernel
theorem dX11_beginTick_41 : decode cX11_beginTick 41 = .ok (.getfield 167, 3) := by decide +kernel
theorem dX11_beginTick_44 : decode cX11_beginTick 44 = .ok (.sipush 3600, 3) := by decide +kernel
theorem dX11_beginTick_47 : decode cX11_beginTick 47 = .ok (.irem, 1) := by decide +kernel
theorem dX11_beginTick_48 : decode cX11_beginTick 48 = .ok (.iadd, 1) := by decide +kernel
theorem dX11_beginTick_49 : decode cX11_beginTick 49 = .ok (.iaload, 1) := by decide +kernel
theorem dX11_beginTick_50 : decode cX11_beginTick 50 = .ok (.isub, 1) := by decide +kernel
theorem dX11_beginTick_51 : decode cX11_beginTick 51 = .ok (.iastore, 1) := by decide +kernel
theorem dX11_beginTick_52 : decode cX11_beginTick 52 = .ok (.aload_n 0, 1) := by decide +kernel
theorem dX11_beginTick_53 : decode cX11_beginTick 53 = .ok (.getfield 104, 3) := by decide +kernel
theorem dX11_beginTick_56 : decode cX11_beginTick 56 = .ok (.sipush 3600, 3) := by decide +kernel
theorem dX11_beginTick_59 : decode cX11_beginTick 59 = .ok (.iload_n 1, 1) := by decide +kernel
theorem dX11_beginTick_60 : decode cX11_beginTick 60 = .ok (.imul, 1) := by decide +kernel
theorem dX11_beginTick_61 : decode cX11_beginTick 61 = .ok (.aload_n 0, 1) := by decide +kernel
theorem dX11_beginTick_62 : decode cX11_beginTick 62 = .ok (.getfield 167, 3) := by decide +kernel
theorem dX11_beginTick_65 : decode cX11_beginTick 65 = .ok (.sipush 3600, 3) := by decide +kernel
theorem dX11_beginTick_68 : decode cX11_beginTick 68 = .ok (.irem, 1) := by decide +kernel
theorem dX11_beginTick_69 : decode cX11_beginTick 69 = .ok (.iadd, 1) := by decide +kernel
theorem dX11_beginTick_70 : decode cX11_beginTick 70 = .ok (.iconst 0, 1) := by decide +kernel
theorem dX11_beginTick_71 : decode cX11_beginTick 71 = .ok (.iastore, 1) := by decide +kernel
theorem dX11_beginTick_72 : decode cX11_beginTick 72 = .ok (.aload_n 0, 1) := by decide +kernel
theorem dX11_beginTick_73 : decode cX11_beginTick 73 = .ok (.getfield 116, 3) := by decide +kernel
theorem dX11_beginTick_76 : decode cX11_beginTick 76 = .ok (.iload_n 1, 1) := by decide +kernel
theorem dX11_beginTick_77 : decode cX11_beginTick 77 = .ok (.dup2, 1) := by decide +kernel
theorem dX11_beginTick_78 : decode cX11_beginTick 78 = .ok (.iaload, 1) := by decide +kernel
theorem dX11_beginTick_79 : decode cX11_beginTick 79 = .ok (.aload_n 0, 1) := by decide +kernel
theorem dX11_beginTick_80 : decode cX11_beginTick 80 = .ok (.getfield 107, 3) := by decide +kernel
theorem dX11_beginTick_83 : decode cX11_beginTick 83 = .ok (.sipush 3600, 3) := by decide +kernel
theorem dX11_beginTick_86 : decode cX11_beginTick 86 = .ok (.iload_n 1, 1) := by decide +kernel
theorem dX11_beginTick_87 : decode cX11_beginTick 87 = .ok (.imul, 1) := by decide +kernel
theorem dX11_beginTick_88 : decode cX11_beginTick 88 = .ok (.aload_n 0, 1) := by decide +kernel
theorem dX11_beginTick_89 : decode cX11_beginTick 89 = .ok (.getfield 167, 3) := by decide +kernel
theorem dX11_beginTick_92 : decode cX11_beginTick 92 = .ok (.sipush 3600, 3) := by decide +kernel
theorem dX11_beginTick_95 : decode cX11_beginTick 95 = .ok (.irem, 1) := by decide +kernel
theorem dX11_beginTick_96 : decode cX11_beginTick 96 = .ok (.iadd, 1) := by decide +kernel
theorem dX11_beginTick_97 : decode cX11_beginTick 97 = .ok (.iaload, 1) := by decide +kernel
theorem dX11_beginTick_98 : decode cX11_beginTick 98 = .ok (.isub, 1) := by decide +kernel
theorem dX11_beginTick_99 : decode cX11_beginTick 99 = .ok (.iastore, 1) := by decide +kernel
theorem dX11_beginTick_100 : decode cX11_beginTick 100 = .ok (.aload_n 0, 1) := by decide +kernel
theorem dX11_beginTick_101 : decode cX11_beginTick 101 = .ok (.getfield 107, 3) := by decide +kernel
theorem dX11_beginTick_104 : decode cX11_beginTick 104 = .ok (.sipush 3600, 3) := by decide +kernel
theorem dX11_beginTick_107 : decode cX11_beginTick 107 = .ok (.iload_n 1, 1) := by decide +kernel
theorem dX11_beginTick_108 : decode cX11_beginTick 108 = .ok (.imul, 1) := by decide +kernel
theorem dX11_beginTick_109 : decode cX11_beginTick 109 = .ok (.aload_n 0, 1) := by decide +kernel
theorem dX11_beginTick_110 : decode cX11_beginTick 110 = .ok (.getfield 167, 3) := by decide +kernel
theorem dX11_beginTick_113 : decode cX11_beginTick 113 = .ok (.sipush 3600, 3) := by decide +kernel
theorem dX11_beginTick_116 : decode cX11_beginTick 116 = .ok (.irem, 1) := by decide +kernel
theorem dX11_beginTick_117 : decode cX11_beginTick 117 = .ok (.iadd, 1) := by decide +kernel
theorem dX11_beginTick_118 : decode cX11_beginTick 118 = .ok (.iconst 0, 1) := by decide +kernel
theorem dX11_beginTick_119 : decode cX11_beginTick 119 = .ok (.iastore, 1) := by decide +kernel
theorem dX11_beginTick_120 : decode cX11_beginTick 120 = .ok (.aload_n 0, 1) := by decide +kernel
theorem dX11_beginTick_121 : decode cX11_beginTick 121 = .ok (.getfield 119, 3) := by decide +kernel
theorem dX11_beginTick_124 : decode cX11_beginTick 124 = .ok (.iload_n 1, 1) := by decide +kernel
theorem dX11_beginTick_125 : decode cX11_beginTick 125 = .ok (.dup2, 1) := by decide +kernel
theorem dX11_beginTick_126 : decode cX11_beginTick 126 = .ok (.iaload, 1) := by decide +kernel
theorem dX11_beginTick_127 : decode cX11_beginTick 127 = .ok (.aload_n 0, 1) := by decide +kernel
theorem dX11_beginTick_128 : decode cX11_beginTick 128 = .ok (.getfield 110, 3) := by decide +kernel
theorem dX11_beginTick_131 : decode cX11_beginTick 131 = .ok (.sipush 900, 3) := by decide +kernel
theorem dX11_beginTick_134 : decode cX11_beginTick 134 = .ok (.iload_n 1, 1) := by decide +kernel
theorem dX11_beginTick_135 : decode cX11_beginTick 135 = .ok (.imul, 1) := by decide +kernel
theorem dX11_beginTick_136 : decode cX11_beginTick 136 = .ok (.aload_n 0, 1) := by decide +kernel
theorem dX11_beginTick_137 : decode cX11_beginTick 137 = .ok (.getfield 167, 3) := by decide +kernel
theorem dX11_beginTick_140 : decode cX11_beginTick 140 = .ok (.sipush 900, 3) := by decide +kernel
theorem dX11_beginTick_143 : decode cX11_beginTick 143 = .ok (.irem, 1) := by decide +kernel
theorem dX11_beginTick_144 : decode cX11_beginTick 144 = .ok (.iadd, 1) := by decide +kernel
theorem dX11_beginTick_145 : decode cX11_beginTick 145 = .ok (.iaload, 1) := by decide +kernel
theorem dX11_beginTick_146 : decode cX11_beginTick 146 = .ok (.isub, 1) := by decide +kernel
theorem dX11_beginTick_147 : decode cX11_beginTick 147 = .ok (.iastore, 1) := by decide +kernel
theorem dX11_beginTick_148 : decode cX11_beginTick 148 = .ok (.aload_n 0, 1) := by decide +kernel
theorem dX11_beginTick_149 : decode cX11_beginTick 149 = .ok (.getfield 110, 3) := by decide +kernel
theorem dX11_beginTick_152 : decode cX11_beginTick 152 = .ok (.sipush 900, 3) := by decide +kernel
theorem dX11_beginTick_155 : decode cX11_beginTick 155 = .ok (.iload_n 1, 1) := by decide +kernel
theorem dX11_beginTick_156 : decode cX11_beginTick 156 = .ok (.imul, 1) := by decide +kernel
theorem dX11_beginTick_157 : decode cX11_beginTick 157 = .ok (.aload_n 0, 1) := by decide +kernel
theorem dX11_beginTick_158 : decode cX11_beginTick 158 = .ok (.getfield 167, 3) := by decide +kernel
theorem dX11_beginTick_161 : decode cX11_beginTick 161 = .ok (.sipush 900, 3) := by decide +kernel
theorem dX11_beginTick_164 : decode cX11_beginTick 164 = .ok (.irem, 1) := by decide +kernel
theorem dX11_beginTick_165 : decode cX11_beginTick 165 = .ok (.iadd, 1) := by decide +kernel
theorem dX11_beginTick_166 : decode cX11_beginTick 166 = .ok (.iconst 0, 1) := by decide +kernel
theorem dX11_beginTick_167 : decode cX11_beginTick 167 = .ok (.iastore, 1) := by decide +kernel
theorem dX11_beginTick_168 : decode cX11_beginTick 168 = .ok (.iinc 1 1, 3) := by decide +kernel
theorem dX11_beginTick_171 : decode cX11_beginTick 171 = .ok (.goto (-159), 3) := by decide +kernel
theorem dX11_beginTick_174 : decode cX11_beginTick 174 = .ok (.return_, 1) := by decide +kernel
set_option maxRecDepth 20000 in
theorem ggX11_deliver_X11_least : GoodIn wsX11_deliver wsX11_least := goodIn_r _ [13] (by decide +kernel) (by decide +kernel)
set_option maxRecDepth 20000 in
theorem gX11_deliver_X11_least : GoodIn wsX11_deliver (va_wsS RX11 282 yX11_least wsX11_least) := goodIn_app (goodIn_of _ (by decide +kernel)) ggX11_deliver_X11_least
set_option maxRecDepth 20000 in
theorem ggX11_deliver_X11_latch : GoodIn wsX11_deliver wsX11_latch := goodIn_r _ [17, 18, 19, 6, 3, 20, 21, 22, 12, 23, 24, 25, 26, 27, 28, 29, 30, 31, 32, 46, 47, 48, 49, 50, 51, 52, 53, 54, 55, 56, 57, 58, 59, 60, 61, 62, 63, 64, 65, 66, 67, 68, 69, 70, 71, 72, 73, 74, 75, 76, 77, 78, 79, 80, 81, 82, 83, 84, 85, 86, 87, 88, 89, 90, 91, 92, 93, 94, 95, 96, 97, 98] (by decide +kernel) (by decide +kernel)
set_option maxRecDepth 20000 in
theorem gX11_deliver_X11_latch : GoodIn wsX11_deliver (wsV RX11 286 RX11 yX11_latch wsX11_latch) := goodIn_app (goodIn_of _ (by decide +kernel)) ggX11_deliver_X11_latch
set_option maxRecDepth 20000 in
theorem ggX11_deliver_X11_stroke : GoodIn wsX11_deliver wsX11_stroke := goodIn_r _ [36, 37, 38, 8, 39, 26, 3, 40, 41, 42, 43, 44, 45, 7, 2, 14, 15, 16, 12, 17, 18, 19, 6, 20, 21, 22, 23, 24, 25, 27, 28, 29, 30, 31, 32, 10, 11, 13, 46, 47, 48, 49, 50, 51, 52, 53, 54, 55, 56, 57, 58, 59, 60, 61, 62, 63, 64, 65, 66, 67, 68, 69, 70, 71, 72, 73, 74, 75, 76, 77, 78, 79, 80, 81, 82, 83, 84, 85, 86, 87, 88, 89, 90, 91, 92, 93, 94, 95, 96, 97, 98] (by decide +kernel) (by decide +kernel)
set_option maxRecDepth 20000 in
theorem gX11_deliver_X11_stroke : GoodIn wsX11_deliver (wsV RX11 289 RX11 yX11_stroke wsX11_stroke) := goodIn_app (goodIn_of _ (by decide +kernel)) ggX11_deliver_X11_stroke
theorem dX11_deliver_0 : decode cX11_deliver 0 = .ok (.aload_n 0, 1) := by decide +kernel
theorem dX11_deliver_1 : decode cX11_deliver 1 = .ok (.getfield 65, 3) := by decide +kernel
theorem dX11_deliver_4 : decode cX11_deliver 4 = .ok (.iload_n 1, 1) := by decide +kernel
theorem dX11_deliver_5 : decode cX11_deliver 5 = .ok (.dup2, 1) := by decide +kernel
theorem dX11_deliver_6 : decode cX11_deliver 6 = .ok (.iaload, 1) := by decide +kernel
theorem dX11_deliver_7 : decode cX11_deliver 7 = .ok (.aload_n 0, 1) := by decide +kernel
theorem dX11_deliver_8 : decode cX11_deliver 8 = .ok (.getfield 56, 3) := by decide +kernel
theorem dX11_deliver_11 : decode cX11_deliver 11 = .ok (.iload_n 1, 1) := by decide +kernel
theorem dX11_deliver_12 : decode cX11_deliver 12 = .ok (.iaload, 1) := by decide +kernel
theorem dX11_deliver_13 : decode cX11_deliver 13 = .ok (.iadd, 1) := by decide +kernel
theorem dX11_deliver_14 : decode cX11_deliver 14 = .ok (.iastore, 1) := by decide +kernel
theorem dX11_deliver_15 : decode cX11_deliver 15 = .ok (.aload_n 0, 1) := by decide +kernel
theorem dX11_deliver_16 : decode cX11_deliver 16 = .ok (.getfield 65, 3) := by decide +kernel
theorem dX11_deliver_19 : decode cX11_deliver 19 = .ok (.iload_n 1, 1) := by decide +kernel
theorem dX11_deliver_20 : decode cX11_deliver 20 = .ok (.iaload, 1) := by decide +kernel
theorem dX11_deliver_21 : decode cX11_deliver 21 = .ok (.sipush 360, 3) := by decide +kernel
theorem dX11_deliver_24 : decode cX11_deliver 24 = .ok (.idiv, 1) := by decide +kernel
theorem dX11_deliver_25 : decode cX11_deliver 25 = .ok (.istore_n 2, 1) := by decide +kernel
theorem dX11_deliver_26 : decode cX11_deliver 26 = .ok (.aload_n 0, 1) := by decide +kernel
theorem dX11_deliver_27 : decode cX11_deliver 27 = .ok (.getfield 65, 3) := by decide +kernel
theorem dX11_deliver_30 : decode cX11_deliver 30 = .ok (.iload_n 1, 1) := by decide +kernel
theorem dX11_deliver_31 : decode cX11_deliver 31 = .ok (.dup2, 1) := by decide +kernel
theorem dX11_deliver_32 : decode cX11_deliver 32 = .ok (.iaload, 1) := by decide +kernel
theorem dX11_deliver_33 : decode cX11_deliver 33 = .ok (.sipush 360, 3) := by decide +kernel
theorem dX11_deliver_36 : decode cX11_deliver 36 = .ok (.irem, 1) := by decide +kernel
theorem dX11_deliver_37 : decode cX11_deliver 37 = .ok (.iastore, 1) := by decide +kernel
theorem dX11_deliver_38 : decode cX11_deliver 38 = .ok (.aload_n 0, 1) := by decide +kernel
theorem dX11_deliver_39 : decode cX11_deliver 39 = .ok (.getfield 68, 3) := by decide +kernel
theorem dX11_deliver_42 : decode cX11_deliver 42 = .ok (.iload_n 1, 1) := by decide +kernel
theorem dX11_deliver_43 : decode cX11_deliver 43 = .ok (.iaload, 1) := by decide +kernel
theorem dX11_deliver_44 : decode cX11_deliver 44 = .ok (.aload_n 0, 1) := by decide +kernel
theorem dX11_deliver_45 : decode cX11_deliver 45 = .ok (.getfield 68, 3) := by decide +kernel
theorem dX11_deliver_48 : decode cX11_deliver 48 = .ok (.iload_n 1, 1) := by decide +kernel
theorem dX11_deliver_49 : decode cX11_deliver 49 = .ok (.iaload, 1) := by decide +kernel
theorem dX11_deliver_50 : decode cX11_deliver 50 = .ok (.ifCond .le 17, 3) := by decide +kernel
theorem dX11_deliver_53 : decode cX11_deliver 53 = .ok (.aload_n 0, 1) := by decide +kernel
theorem dX11_deliver_54 : decode cX11_deliver 54 = .ok (.getfield 38, 3) := by decide +kernel
theorem dX11_deliver_57 : decode cX11_deliver 57 = .ok (.aload_n 0, 1) := by decide +kernel
theorem dX11_deliver_58 : decode cX11_deliver 58 = .ok (.getfield 53, 3) := by decide +kernel
theorem dX11_deliver_61 : decode cX11_deliver 61 = .ok (.iload_n 1, 1) := by decide +kernel
theorem dX11_deliver_62 : decode cX11_deliver 62 = .ok (.iaload, 1) := by decide +kernel
theorem dX11_deliver_63 : decode cX11_deliver 63 = .ok (.iaload, 1) := by decide +kernel
theorem dX11_deliver_64 : decode cX11_deliver 64 = .ok (.goto 4, 3) := by decide +kernel
theorem dX11_deliver_67 : decode cX11_deliver 67 = .ok (.iconst 0, 1) := by decide +kernel
theorem dX11_deliver_68 : decode cX11_deliver 68 = .ok (.invokestatic 282, 3) := by decide +kernel
theorem dX11_deliver_71 : decode cX11_deliver 71 = .ok (.istore_n 3, 1) := by decide +kernel
theorem dX11_deliver_72 : decode cX11_deliver 72 = .ok (.iconst 0, 1) := by decide +kernel
theorem dX11_deliver_73 : decode cX11_deliver 73 = .ok (.istore 4, 2) := by decide +kernel
theorem dX11_deliver_75 : decode cX11_deliver 75 = .ok (.iconst 0, 1) := by decide +kernel
theorem dX11_deliver_76 : decode cX11_deliver 76 = .ok (.istore 5, 2) := by decide +kernel
theorem dX11_deliver_78 : decode cX11_deliver 78 = .ok (.iload 5, 2) := by decide +kernel
theorem dX11_deliver_80 : decode cX11_deliver 80 = .ok (.iload_n 2, 1) := by decide +kernel
theorem dX11_deliver_81 : decode cX11_deliver 81 = .ok (.iload_n 3, 1) := by decide +kernel
theorem dX11_deliver_82 : decode cX11_deliver 82 = .ok (.iadd, 1) := by decide +kernel
theorem dX11_deliver_83 : decode cX11_deliver 83 = .ok (.if_icmp .ge 77, 3) := by decide +kernel
theorem dX11_deliver_86 : decode cX11_deliver 86 = .ok (.aload_n 0, 1) := by decide +kernel
theorem dX11_deliver_87 : decode cX11_deliver 87 = .ok (.getfield 47, 3) := by decide +kernel
theorem dX11_deliver_90 : decode cX11_deliver 90 = .ok (.iload_n 1, 1) := by decide +kernel
theorem dX11_deliver_91 : decode cX11_deliver 91 = .ok (.iaload, 1) := by decide +kernel
theorem dX11_deliver_92 : decode cX11_deliver 92 = .ok (.bipush 7, 2) := by decide +kernel
theorem dX11_deliver_94 : decode cX11_deliver 94 = .ok (.if_icmp .ne 66, 3) := by decide +kernel
theorem dX11_deliver_97 : decode cX11_deliver 97 = .ok (.aload_n 0, 1) := by decide +kernel
theorem dX11_deliver_98 : decode cX11_deliver 98 = .ok (.getfield 98, 3) := by decide +kernel
theorem dX11_deliver_101 : decode cX11_deliver 101 = .ok (.iload_n 1, 1) := by decide +kernel
theorem dX11_deliver_102 : decode cX11_deliver 102 = .ok (.baload, 1) := by decide +kernel
theorem dX11_deliver_103 : decode cX11_deliver 103 = .ok (.ifCond .ne 57, 3) := by decide +kernel
theorem dX11_deliver_106 : decode cX11_deliver 106 = .ok (.aload_n 0, 1) := by decide +kernel
theorem dX11_deliver_107 : decode cX11_deliver 107 = .ok (.getfield 113, 3) := by decide +kernel
theorem dX11_deliver_110 : decode cX11_deliver 110 = .ok (.iload_n 1, 1) := by decide +kernel
theorem dX11_deliver_111 : decode cX11_deliver 111 = .ok (.iaload, 1) := by decide +kernel
theorem dX11_deliver_112 : decode cX11_deliver 112 = .ok (.aload_n 0, 1) := by decide +kernel
theorem dX11_deliver_113 : decode cX11_deliver 113 = .ok (.getfield 32, 3) := by decide +kernel
theorem dX11_deliver_116 : decode cX11_deliver 116 = .ok (.aload_n 0, 1) := by decide +kernel
theorem dX11_deliver_117 : decode cX11_deliver 117 = .ok (.getfield 53, 3) := by decide +kernel
theorem dX11_deliver_120 : decode cX11_deliver 120 = .ok (.iload_n 1, 1) := by decide +kernel
theorem dX11_deliver_121 : decode cX11_deliver 121 = .ok (.iaload, 1) := by decide +kernel
theorem dX11_deliver_122 : decode cX11_deliver 122 = .ok (.iaload, 1) := by decide +kernel
theorem dX11_deliver_123 : decode cX11_deliver 123 = .ok (.if_icmp .lt 12, 3) := by decide +kernel
theorem dX11_deliver_126 : decode cX11_deliver 126 = .ok (.aload_n 0, 1) := by decide +kernel
theorem dX11_deliver_127 : decode cX11_deliver 127 = .ok (.iload_n 1, 1) := by decide +kernel
theorem dX11_deliver_128 : decode cX11_deliver 128 = .ok (.iconst 4, 1) := by decide +kernel
theorem dX11_deliver_129 : decode cX11_deliver 129 = .ok (.invokevirtual 286, 3) := by decide +kernel
theorem dX11_deliver_132 : decode cX11_deliver 132 = .ok (.goto 22, 3) := by decide +kernel
theorem dX11_deliver_135 : decode cX11_deliver 135 = .ok (.aload_n 0, 1) := by decide +kernel
theorem dX11_deliver_136 : decode cX11_deliver 136 = .ok (.iload_n 1, 1) := by decide +kernel
theorem dX11_deliver_137 : decode cX11_deliver 137 = .ok (.iload 5, 2) := by decide +kernel
theorem dX11_deliver_139 : decode cX11_deliver 139 = .ok (.iload_n 2, 1) := by decide +kernel
theorem dX11_deliver_140 : decode cX11_deliver 140 = .ok (.if_icmp .lt 7, 3) := by decide +kernel
theorem dX11_deliver_143 : decode cX11_deliver 143 = .ok (.iconst 1, 1) := by decide +kernel
theorem dX11_deliver_144 : decode cX11_deliver 144 = .ok (.goto 4, 3) := by decide +kernel
theorem dX11_deliver_147 : decode cX11_deliver 147 = .ok (.iconst 0, 1) := by decide +kernel
theorem dX11_deliver_148 : decode cX11_deliver 148 = .ok (.invokevirtual 289, 3) := by decide +kernel
theorem dX11_deliver_151 : decode cX11_deliver 151 = .ok (.iinc 4 1, 3) := by decide +kernel
theorem dX11_deliver_154 : decode cX11_deliver 154 = .ok (.iinc 5 1, 3) := by decide +kernel
theorem dX11_deliver_157 : decode cX11_deliver 157 = .ok (.goto (-79), 3) := by decide +kernel
theorem dX11_deliver_160 : decode cX11_deliver 160 = .ok (.iload 4, 2) := by decide +kernel
theorem dX11_deliver_162 : decode cX11_deliver 162 = .ok (.ireturn, 1) := by decide +kernel
set_option maxRecDepth 20000 in
theorem ggX11_stroke_X11_latch : GoodIn wsX11_stroke wsX11_latch := goodIn_r _ [19, 20, 21, 22, 6, 23, 24, 25, 18, 26, 27, 28, 5, 29, 30, 31, 32, 33, 34, 38, 39, 40, 41, 42, 43, 44, 45, 46, 47, 48, 49, 50, 51, 52, 53, 54, 55, 56, 57, 58, 59, 60, 61, 62, 63, 64, 65, 66, 67, 68, 69, 70, 71, 72, 73, 74, 75, 76, 77, 78, 79, 80, 81, 82, 83, 84, 85, 86, 87, 88, 89, 90] (by decide +kernel) (by decide +kernel)
set_option maxRecDepth 20000 in
theorem gX11_stroke_X11_latch : GoodIn wsX11_stroke (wsV RX11 286 RX11 yX11_latch wsX11_latch) := goodIn_app (goodIn_of _ (by decide +kernel)) ggX11_stroke_X11_latch
set_option maxRecDepth 20000 in
theorem ggX11_stroke_X11_least : GoodIn wsX11_stroke wsX11_least := goodIn_r _ [37] (by decide +kernel) (by decide +kernel)
set_option maxRecDepth 20000 in
theorem gX11_stroke_X11_least : GoodIn wsX11_stroke (va_wsS RX11 282 yX11_least wsX11_least) := goodIn_app (goodIn_of _ (by decide +kernel)) ggX11_stroke_X11_least
theorem dX11_stroke_0 : decode cX11_stroke 0 = .ok (.aload_n 0, 1) := by decide +kernel
theorem dX11_stroke_1 : decode cX11_stroke 1 = .ok (.getfield 62, 3) := by decide +kernel
theorem dX11_stroke_4 : decode cX11_stroke 4 = .ok (.iload_n 1, 1) := by decide +kernel
theorem dX11_stroke_5 : decode cX11_stroke 5 = .ok (.dup2, 1) := by decide +kernel
theorem dX11_stroke_6 : decode cX11_stroke 6 = .ok (.iaload, 1) := by decide +kernel
theorem dX11_stroke_7 : decode cX11_stroke 7 = .ok (.iconst 1, 1) := by decide +kernel
theorem dX11_stroke_8 : decode cX11_stroke 8 = .ok (.iadd, 1) := by decide +kernel
theorem dX11_stroke_9 : decode cX11_stroke 9 = .ok (.iastore, 1) := by decide +kernel
theorem dX11_stroke_10 : decode cX11_stroke 10 = .ok (.aload_n 0, 1) := by decide +kernel
theorem dX11_stroke_11 : decode cX11_stroke 11 = .ok (.getfield 101, 3) := by decide +kernel
theorem dX11_stroke_14 : decode cX11_stroke 14 = .ok (.iload_n 1, 1) := by decide +kernel
theorem dX11_stroke_15 : decode cX11_stroke 15 = .ok (.dup2, 1) := by decide +kernel
theorem dX11_stroke_16 : decode cX11_stroke 16 = .ok (.iaload, 1) := by decide +kernel
theorem dX11_stroke_17 : decode cX11_stroke 17 = .ok (.iconst 1, 1) := by decide +kernel
theorem dX11_stroke_18 : decode cX11_stroke 18 = .ok (.iadd, 1) := by decide +kernel
theorem dX11_stroke_19 : decode cX11_stroke 19 = .ok (.iastore, 1) := by decide +kernel
theorem dX11_stroke_20 : decode cX11_stroke 20 = .ok (.aload_n 0, 1) := by decide +kernel
theorem dX11_stroke_21 : decode cX11_stroke 21 = .ok (.getfield 113, 3) := by decide +kernel
theorem dX11_stroke_24 : decode cX11_stroke 24 = .ok (.iload_n 1, 1) := by decide +kernel
theorem dX11_stroke_25 : decode cX11_stroke 25 = .ok (.dup2, 1) := by decide +kernel
theorem dX11_stroke_26 : decode cX11_stroke 26 = .ok (.iaload, 1) := by decide +kernel
theorem dX11_stroke_27 : decode cX11_stroke 27 = .ok (.iconst 1, 1) := by decide +kernel
theorem dX11_stroke_28 : decode cX11_stroke 28 = .ok (.iadd, 1) := by decide +kernel
theorem dX11_stroke_29 : decode cX11_stroke 29 = .ok (.iastore, 1) := by decide +kernel
theorem dX11_stroke_30 : decode cX11_stroke 30 = .ok (.aload_n 0, 1) := by decide +kernel
theorem dX11_stroke_31 : decode cX11_stroke 31 = .ok (.getfield 104, 3) := by decide +kernel
theorem dX11_stroke_34 : decode cX11_stroke 34 = .ok (.sipush 3600, 3) := by decide +kernel
theorem dX11_stroke_37 : decode cX11_stroke 37 = .ok (.iload_n 1, 1) := by decide +kernel
theorem dX11_stroke_38 : decode cX11_stroke 38 = .ok (.imul, 1) := by decide +kernel
theorem dX11_stroke_39 : decode cX11_stroke 39 = .ok (.aload_n 0, 1) := by decide +kernel
theorem dX11_stroke_40 : decode cX11_stroke 40 = .ok (.getfield 167, 3) := by decide +kernel
theorem dX11_stroke_43 : decode cX11_stroke 43 = .ok (.sipush 3600, 3) := by decide +kernel
theorem dX11_stroke_46 : decode cX11_stroke 46 = .ok (.irem, 1) := by decide +kernel
theorem dX11_stroke_47 : decode cX11_stroke 47 = .ok (.iadd, 1) := by decide +kernel
theorem dX11_stroke_48 : decode cX11_stroke 48 = .ok (.dup2, 1) := by decide +kernel
theorem dX11_stroke_49 : decode cX11_stroke 49 = .ok (.iaload, 1) := by decide +kernel
theorem dX11_stroke_50 : decode cX11_stroke 50 = .ok (.iconst 1, 1) := by decide +kernel
theorem dX11_stroke_51 : decode cX11_stroke 51 = .ok (.iadd, 1) := by decide +kernel
theorem dX11_stroke_52 : decode cX11_stroke 52 = .ok (.iastore, 1) := by decide +kernel
theorem dX11_stroke_53 : decode cX11_stroke 53 = .ok (.iload_n 2, 1) := by decide +kernel
theorem dX11_stroke_54 : decode cX11_stroke 54 = .ok (.ifCond .eq 13, 3) := by decide +kernel
theorem dX11_stroke_57 : decode cX11_stroke 57 = .ok (.aload_n 0, 1) := by decide +kernel
theorem dX11_stroke_58 : decode cX11_stroke 58 = .ok (.getfield 68, 3) := by decide +kernel
theorem dX11_stroke_61 : decode cX11_stroke 61 = .ok (.iload_n 1, 1) := by decide +kernel
theorem dX11_stroke_62 : decode cX11_stroke 62 = .ok (.dup2, 1) := by decide +kernel
theorem dX11_stroke_63 : decode cX11_stroke 63 = .ok (.iaload, 1) := by decide +kernel
theorem dX11_stroke_64 : decode cX11_stroke 64 = .ok (.iconst 1, 1) := by decide +kernel
theorem dX11_stroke_65 : decode cX11_stroke 65 = .ok (.isub, 1) := by decide +kernel
theorem dX11_stroke_66 : decode cX11_stroke 66 = .ok (.iastore, 1) := by decide +kernel
theorem dX11_stroke_67 : decode cX11_stroke 67 = .ok (.aload_n 0, 1) := by decide +kernel
theorem dX11_stroke_68 : decode cX11_stroke 68 = .ok (.getfield 83, 3) := by decide +kernel
theorem dX11_stroke_71 : decode cX11_stroke 71 = .ok (.iload_n 1, 1) := by decide +kernel
theorem dX11_stroke_72 : decode cX11_stroke 72 = .ok (.dup2, 1) := by decide +kernel
theorem dX11_stroke_73 : decode cX11_stroke 73 = .ok (.iaload, 1) := by decide +kernel
theorem dX11_stroke_74 : decode cX11_stroke 74 = .ok (.bipush 6, 2) := by decide +kernel
theorem dX11_stroke_76 : decode cX11_stroke 76 = .ok (.iadd, 1) := by decide +kernel
theorem dX11_stroke_77 : decode cX11_stroke 77 = .ok (.iastore, 1) := by decide +kernel
theorem dX11_stroke_78 : decode cX11_stroke 78 = .ok (.aload_n 0, 1) := by decide +kernel
theorem dX11_stroke_79 : decode cX11_stroke 79 = .ok (.getfield 89, 3) := by decide +kernel
theorem dX11_stroke_82 : decode cX11_stroke 82 = .ok (.iload_n 1, 1) := by decide +kernel
theorem dX11_stroke_83 : decode cX11_stroke 83 = .ok (.aload_n 0, 1) := by decide +kernel
theorem dX11_stroke_84 : decode cX11_stroke 84 = .ok (.getfield 77, 3) := by decide +kernel
theorem dX11_stroke_87 : decode cX11_stroke 87 = .ok (.iload_n 1, 1) := by decide +kernel
theorem dX11_stroke_88 : decode cX11_stroke 88 = .ok (.baload, 1) := by decide +kernel
theorem dX11_stroke_89 : decode cX11_stroke 89 = .ok (.ifCond .eq 14, 3) := by decide +kernel
theorem dX11_stroke_92 : decode cX11_stroke 92 = .ok (.aload_n 0, 1) := by decide +kernel
theorem dX11_stroke_93 : decode cX11_stroke 93 = .ok (.getfield 89, 3) := by decide +kernel
theorem dX11_stroke_96 : decode cX11_stroke 96 = .ok (.iload_n 1, 1) := by decide +kernel
theorem dX11_stroke_97 : decode cX11_stroke 97 = .ok (.iaload, 1) := by decide +kernel
theorem dX11_stroke_98 : decode cX11_stroke 98 = .ok (.iconst 1, 1) := by decide +kernel
theorem dX11_stroke_99 : decode cX11_stroke 99 = .ok (.iadd, 1) := by decide +kernel
theorem dX11_stroke_100 : decode cX11_stroke 100 = .ok (.goto 4, 3) := by decide +kernel
theorem dX11_stroke_103 : decode cX11_stroke 103 = .ok (.iconst 0, 1) := by decide +kernel
theorem dX11_stroke_104 : decode cX11_stroke 104 = .ok (.iastore, 1) := by decide +kernel
theorem dX11_stroke_105 : decode cX11_stroke 105 = .ok (.aload_n 0, 1) := by decide +kernel
theorem dX11_stroke_106 : decode cX11_stroke 106 = .ok (.getfield 77, 3) := by decide +kernel
theorem dX11_stroke_109 : decode cX11_stroke 109 = .ok (.iload_n 1, 1) := by decide +kernel
theorem dX11_stroke_110 : decode cX11_stroke 110 = .ok (.baload, 1) := by decide +kernel
theorem dX11_stroke_111 : decode cX11_stroke 111 = .ok (.ifCond .eq 36, 3) := by decide +kernel
theorem dX11_stroke_114 : decode cX11_stroke 114 = .ok (.aload_n 0, 1) := by decide +kernel
theorem dX11_stroke_115 : decode cX11_stroke 115 = .ok (.getfield 110, 3) := by decide +kernel
theorem dX11_stroke_118 : decode cX11_stroke 118 = .ok (.sipush 900, 3) := by decide +kernel
theorem dX11_stroke_121 : decode cX11_stroke 121 = .ok (.iload_n 1, 1) := by decide +kernel
theorem dX11_stroke_122 : decode cX11_stroke 122 = .ok (.imul, 1) := by decide +kernel
theorem dX11_stroke_123 : decode cX11_stroke 123 = .ok (.aload_n 0, 1) := by decide +kernel
theorem dX11_stroke_124 : decode cX11_stroke 124 = .ok (.getfield 167, 3) := by decide +kernel
theorem dX11_stroke_127 : decode cX11_stroke 127 = .ok (.sipush 900, 3) := by decide +kernel
theorem dX11_stroke_130 : decode cX11_stroke 130 = .ok (.irem, 1) := by decide +kernel
theorem dX11_stroke_131 : decode cX11_stroke 131 = .ok (.iadd, 1) := by decide +kernel
theorem dX11_stroke_132 : decode cX11_stroke 132 = .ok (.dup2, 1) := by decide +kernel
theorem dX11_stroke_133 : decode cX11_stroke 133 = .ok (.iaload, 1) := by decide +kernel
theorem dX11_stroke_134 : decode cX11_stroke 134 = .ok (.iconst 1, 1) := by decide +kernel
theorem dX11_stroke_135 : decode cX11_stroke 135 = .ok (.iadd, 1) := by decide +kernel
theorem dX11_stroke_136 : decode cX11_stroke 136 = .ok (.iastore, 1) := by decide +kernel
theorem dX11_stroke_137 : decode cX11_stroke 137 = .ok (.aload_n 0, 1) := by decide +kernel
theorem dX11_stroke_138 : decode cX11_stroke 138 = .ok (.getfield 119, 3) := by decide +kernel
theorem dX11_stroke_141 : decode cX11_stroke 141 = .ok (.iload_n 1, 1) := by decide +kernel
theorem dX11_stroke_142 : decode cX11_stroke 142 = .ok (.dup2, 1) := by decide +kernel
theorem dX11_stroke_143 : decode cX11_stroke 143 = .ok (.iaload, 1) := by decide +kernel
theorem dX11_stroke_144 : decode cX11_stroke 144 = .ok (.iconst 1, 1) := by decide +kernel
theorem dX11_stroke_145 : decode cX11_stroke 145 = .ok (.iadd, 1) := by decide +kernel
theorem dX11_stroke_146 : decode cX11_stroke 146 = .ok (.iastore, 1) := by decide +kernel
theorem dX11_stroke_147 : decode cX11_stroke 147 = .ok (.aload_n 0, 1) := by decide +kernel
theorem dX11_stroke_148 : decode cX11_stroke 148 = .ok (.getfield 59, 3) := by decide +kernel
theorem dX11_stroke_151 : decode cX11_stroke 151 = .ok (.iload_n 1, 1) := by decide +kernel
theorem dX11_stroke_152 : decode cX11_stroke 152 = .ok (.iaload, 1) := by decide +kernel
theorem dX11_stroke_153 : decode cX11_stroke 153 = .ok (.iconst 1, 1) := by decide +kernel
theorem dX11_stroke_154 : decode cX11_stroke 154 = .ok (.if_icmp .ne 7, 3) := by decide +kernel
theorem dX11_stroke_157 : decode cX11_stroke 157 = .ok (.iconst 1, 1) := by decide +kernel
theorem dX11_stroke_158 : decode cX11_stroke 158 = .ok (.goto 4, 3) := by decide +kernel
theorem dX11_stroke_161 : decode cX11_stroke 161 = .ok (.iconst 0, 1) := by decide +kernel
theorem dX11_stroke_162 : decode cX11_stroke 162 = .ok (.istore_n 3, 1) := by decide +kernel
theorem dX11_stroke_163 : decode cX11_stroke 163 = .ok (.aload_n 0, 1) := by decide +kernel
theorem dX11_stroke_164 : decode cX11_stroke 164 = .ok (.getfield 59, 3) := by decide +kernel
theorem dX11_stroke_167 : decode cX11_stroke 167 = .ok (.iload_n 1, 1) := by decide +kernel
theorem dX11_stroke_168 : decode cX11_stroke 168 = .ok (.iaload, 1) := by decide +kernel
theorem dX11_stroke_169 : decode cX11_stroke 169 = .ok (.ifCond .le 13, 3) := by decide +kernel
theorem dX11_stroke_172 : decode cX11_stroke 172 = .ok (.aload_n 0, 1) := by decide +kernel
theorem dX11_stroke_173 : decode cX11_stroke 173 = .ok (.getfield 59, 3) := by decide +kernel
theorem dX11_stroke_176 : decode cX11_stroke 176 = .ok (.iload_n 1, 1) := by decide +kernel
theorem dX11_stroke_177 : decode cX11_stroke 177 = .ok (.dup2, 1) := by decide +kernel
theorem dX11_stroke_178 : decode cX11_stroke 178 = .ok (.iaload, 1) := by decide +kernel
theorem dX11_stroke_179 : decode cX11_stroke 179 = .ok (.iconst 1, 1) := by decide +kernel
theorem dX11_stroke_180 : decode cX11_stroke 180 = .ok (.isub, 1) := by decide +kernel
theorem dX11_stroke_181 : decode cX11_stroke 181 = .ok (.iastore, 1) := by decide +kernel
theorem dX11_stroke_182 : decode cX11_stroke 182 = .ok (.aload_n 0, 1) := by decide +kernel
theorem dX11_stroke_183 : decode cX11_stroke 183 = .ok (.getfield 89, 3) := by decide +kernel
theorem dX11_stroke_186 : decode cX11_stroke 186 = .ok (.iload_n 1, 1) := by decide +kernel
theorem dX11_stroke_187 : decode cX11_stroke 187 = .ok (.iaload, 1) := by decide +kernel
theorem dX11_stroke_188 : decode cX11_stroke 188 = .ok (.iconst 5, 1) := by decide +kernel
theorem dX11_stroke_189 : decode cX11_stroke 189 = .ok (.if_icmp .ge 14, 3) := by decide +kernel
theorem dX11_stroke_192 : decode cX11_stroke 192 = .ok (.aload_n 0, 1) := by decide +kernel
theorem dX11_stroke_193 : decode cX11_stroke 193 = .ok (.getfield 119, 3) := by decide +kernel
theorem dX11_stroke_196 : decode cX11_stroke 196 = .ok (.iload_n 1, 1) := by decide +kernel
theorem dX11_stroke_197 : decode cX11_stroke 197 = .ok (.iaload, 1) := by decide +kernel
theorem dX11_stroke_198 : decode cX11_stroke 198 = .ok (.bipush 60, 2) := by decide +kernel
theorem dX11_stroke_200 : decode cX11_stroke 200 = .ok (.if_icmp .lt 9, 3) := by decide +kernel
theorem dX11_stroke_203 : decode cX11_stroke 203 = .ok (.aload_n 0, 1) := by decide +kernel
theorem dX11_stroke_204 : decode cX11_stroke 204 = .ok (.iload_n 1, 1) := by decide +kernel
theorem dX11_stroke_205 : decode cX11_stroke 205 = .ok (.iconst 0, 1) := by decide +kernel
theorem dX11_stroke_206 : decode cX11_stroke 206 = .ok (.invokevirtual 286, 3) := by decide +kernel
theorem dX11_stroke_209 : decode cX11_stroke 209 = .ok (.iload_n 3, 1) := by decide +kernel
theorem dX11_stroke_210 : decode cX11_stroke 210 = .ok (.ifCond .ne 4, 3) := by decide +kernel
theorem dX11_stroke_213 : decode cX11_stroke 213 = .ok (.return_, 1) := by decide +kernel
theorem dX11_stroke_214 : decode cX11_stroke 214 = .ok (.aload_n 0, 1) := by decide +kernel
theorem dX11_stroke_215 : decode cX11_stroke 215 = .ok (.getfield 98, 3) := by decide +kernel
theorem dX11_stroke_218 : decode cX11_stroke 218 = .ok (.iload_n 1, 1) := by decide +kernel
theorem dX11_stroke_219 : decode cX11_stroke 219 = .ok (.iconst 1, 1) := by decide +kernel
theorem dX11_stroke_220 : decode cX11_stroke 220 = .ok (.bastore, 1) := by decide +kernel
theorem dX11_stroke_221 : decode cX11_stroke 221 = .ok (.aload_n 0, 1) := by decide +kernel
theorem dX11_stroke_222 : decode cX11_stroke 222 = .ok (.getfield 59, 3) := by decide +kernel
theorem dX11_stroke_225 : decode cX11_stroke 225 = .ok (.iload_n 1, 1) := by decide +kernel
theorem dX11_stroke_226 : decode cX11_stroke 226 = .ok (.iconst (-1), 1) := by decide +kernel
theorem dX11_stroke_227 : decode cX11_stroke 227 = .ok (.iastore, 1) := by decide +kernel
theorem dX11_stroke_228 : decode cX11_stroke 228 = .ok (.aload_n 0, 1) := by decide +kernel
theorem dX11_stroke_229 : decode cX11_stroke 229 = .ok (.getfield 68, 3) := by decide +kernel
theorem dX11_stroke_232 : decode cX11_stroke 232 = .ok (.iload_n 1, 1) := by decide +kernel
theorem dX11_stroke_233 : decode cX11_stroke 233 = .ok (.iconst 0, 1) := by decide +kernel
theorem dX11_stroke_234 : decode cX11_stroke 234 = .ok (.iastore, 1) := by decide +kernel
theorem dX11_stroke_235 : decode cX11_stroke 235 = .ok (.aload_n 0, 1) := by decide +kernel
theorem dX11_stroke_236 : decode cX11_stroke 236 = .ok (.getfield 56, 3) := by decide +kernel
theorem dX11_stroke_239 : decode cX11_stroke 239 = .ok (.iload_n 1, 1) := by decide +kernel
theorem dX11_stroke_240 : decode cX11_stroke 240 = .ok (.aload_n 0, 1) := by decide +kernel
theorem dX11_stroke_241 : decode cX11_stroke 241 = .ok (.getfield 56, 3) := by decide +kernel
theorem dX11_stroke_244 : decode cX11_stroke 244 = .ok (.iload_n 1, 1) := by decide +kernel
theorem dX11_stroke_245 : decode cX11_stroke 245 = .ok (.iaload, 1) := by decide +kernel
theorem dX11_stroke_246 : decode cX11_stroke 246 = .ok (.bipush 10, 2) := by decide +kernel
theorem dX11_stroke_248 : decode cX11_stroke 248 = .ok (.invokestatic 282, 3) := by decide +kernel
theorem dX11_stroke_251 : decode cX11_stroke 251 = .ok (.iastore, 1) := by decide +kernel
theorem dX11_stroke_252 : decode cX11_stroke 252 = .ok (.aload_n 0, 1) := by decide +kernel
theorem dX11_stroke_253 : decode cX11_stroke 253 = .ok (.iload_n 1, 1) := by decide +kernel
theorem dX11_stroke_254 : decode cX11_stroke 254 = .ok (.iconst 5, 1) := by decide +kernel
theorem dX11_stroke_255 : decode cX11_stroke 255 = .ok (.invokevirtual 286, 3) := by decide +kernel
theorem dX11_stroke_258 : decode cX11_stroke 258 = .ok (.return_, 1) := by decide +kernel
set_option maxRecDepth 20000 in
theorem ggX11_lines_X11_most : GoodIn wsX11_lines wsX11_most := goodIn_r _ [7] (by decide +kernel) (by decide +kernel)
set_option maxRecDepth 20000 in
theorem gX11_lines_X11_most : GoodIn wsX11_lines (va_wsS RX11 293 yX11_most wsX11_most) := goodIn_app (goodIn_of _ (by decide +kernel)) ggX11_lines_X11_most
set_option maxRecDepth 20000 in
theorem ggX11_lines_X11_latch : GoodIn wsX11_lines wsX11_latch := goodIn_r _ [11, 12, 13, 14, 15, 16, 17, 18, 6, 19, 20, 21, 22, 23, 24, 25, 26, 27, 28, 29, 30, 31, 32, 33, 34, 35, 36, 37, 38, 39, 40, 41, 42, 43, 44, 45, 46, 47, 48, 49, 50, 51, 52, 53, 54, 55, 56, 57, 58, 59, 60, 61, 62, 63, 64, 65, 66, 67, 68, 69, 70, 71, 72, 73, 74, 75, 76, 77, 78, 79, 80, 81] (by decide +kernel) (by decide +kernel)
set_option maxRecDepth 20000 in
theorem gX11_lines_X11_latch : GoodIn wsX11_lines (wsV RX11 286 RX11 yX11_latch wsX11_latch) := goodIn_app (goodIn_of _ (by decide +kernel)) ggX11_lines_X11_latch
theorem dX11_lines_0 : decode cX11_lines 0 = .ok (.aload_n 0, 1) := by decide +kernel
theorem dX11_lines_1 : decode cX11_lines 1 = .ok (.getfield 83, 3) := by decide +kernel
theorem dX11_lines_4 : decode cX11_lines 4 = .ok (.iload_n 1, 1) := by decide +kernel
theorem dX11_lines_5 : decode cX11_lines 5 = .ok (.iconst 0, 1) := by decide +kernel
theorem dX11_lines_6 : decode cX11_lines 6 = .ok (.aload_n 0, 1) := by decide +kernel
theorem dX11_lines_7 : decode cX11_lines 7 = .ok (.getfield 83, 3) := by decide +kernel
theorem dX11_lines_10 : decode cX11_lines 10 = .ok (.iload_n 1, 1) := by decide +kernel
theorem dX11_lines_11 : decode cX11_lines 11 = .ok (.iaload, 1) := by decide +kernel
theorem dX11_lines_12 : decode cX11_lines 12 = .ok (.aload_n 0, 1) := by decide +kernel
theorem dX11_lines_13 : decode cX11_lines 13 = .ok (.getfield 74, 3) := by decide +kernel
theorem dX11_lines_16 : decode cX11_lines 16 = .ok (.iload_n 1, 1) := by decide +kernel
theorem dX11_lines_17 : decode cX11_lines 17 = .ok (.iaload, 1) := by decide +kernel
theorem dX11_lines_18 : decode cX11_lines 18 = .ok (.isub, 1) := by decide +kernel
theorem dX11_lines_19 : decode cX11_lines 19 = .ok (.invokestatic 293, 3) := by decide +kernel
theorem dX11_lines_22 : decode cX11_lines 22 = .ok (.iastore, 1) := by decide +kernel
theorem dX11_lines_23 : decode cX11_lines 23 = .ok (.aload_n 0, 1) := by decide +kernel
theorem dX11_lines_24 : decode cX11_lines 24 = .ok (.getfield 86, 3) := by decide +kernel
theorem dX11_lines_27 : decode cX11_lines 27 = .ok (.iload_n 1, 1) := by decide +kernel
theorem dX11_lines_28 : decode cX11_lines 28 = .ok (.aload_n 0, 1) := by decide +kernel
theorem dX11_lines_29 : decode cX11_lines 29 = .ok (.getfield 83, 3) := by decide +kernel
theorem dX11_lines_32 : decode cX11_lines 32 = .ok (.iload_n 1, 1) := by decide +kernel
theorem dX11_lines_33 : decode cX11_lines 33 = .ok (.iaload, 1) := by decide +kernel
theorem dX11_lines_34 : decode cX11_lines 34 = .ok (.bipush 100, 2) := by decide +kernel
theorem dX11_lines_36 : decode cX11_lines 36 = .ok (.if_icmp .lt 14, 3) := by decide +kernel
theorem dX11_lines_39 : decode cX11_lines 39 = .ok (.aload_n 0, 1) := by decide +kernel
theorem dX11_lines_40 : decode cX11_lines 40 = .ok (.getfield 86, 3) := by decide +kernel
theorem dX11_lines_43 : decode cX11_lines 43 = .ok (.iload_n 1, 1) := by decide +kernel
theorem dX11_lines_44 : decode cX11_lines 44 = .ok (.iaload, 1) := by decide +kernel
theorem dX11_lines_45 : decode cX11_lines 45 = .ok (.iconst 1, 1) := by decide +kernel
theorem dX11_lines_46 : decode cX11_lines 46 = .ok (.iadd, 1) := by decide +kernel
theorem dX11_lines_47 : decode cX11_lines 47 = .ok (.goto 4, 3) := by decide +kernel
theorem dX11_lines_50 : decode cX11_lines 50 = .ok (.iconst 0, 1) := by decide +kernel
theorem dX11_lines_51 : decode cX11_lines 51 = .ok (.iastore, 1) := by decide +kernel
theorem dX11_lines_52 : decode cX11_lines 52 = .ok (.aload_n 0, 1) := by decide +kernel
theorem dX11_lines_53 : decode cX11_lines 53 = .ok (.getfield 86, 3) := by decide +kernel
theorem dX11_lines_56 : decode cX11_lines 56 = .ok (.iload_n 1, 1) := by decide +kernel
theorem dX11_lines_57 : decode cX11_lines 57 = .ok (.iaload, 1) := by decide +kernel
theorem dX11_lines_58 : decode cX11_lines 58 = .ok (.iconst 3, 1) := by decide +kernel
theorem dX11_lines_59 : decode cX11_lines 59 = .ok (.if_icmp .ge 4, 3) := by decide +kernel
theorem dX11_lines_62 : decode cX11_lines 62 = .ok (.return_, 1) := by decide +kernel
theorem dX11_lines_63 : decode cX11_lines 63 = .ok (.aload_n 0, 1) := by decide +kernel
theorem dX11_lines_64 : decode cX11_lines 64 = .ok (.getfield 86, 3) := by decide +kernel
theorem dX11_lines_67 : decode cX11_lines 67 = .ok (.iload_n 1, 1) := by decide +kernel
theorem dX11_lines_68 : decode cX11_lines 68 = .ok (.iconst 0, 1) := by decide +kernel
theorem dX11_lines_69 : decode cX11_lines 69 = .ok (.iastore, 1) := by decide +kernel
theorem dX11_lines_70 : decode cX11_lines 70 = .ok (.aload_n 0, 1) := by decide +kernel
theorem dX11_lines_71 : decode cX11_lines 71 = .ok (.getfield 83, 3) := by decide +kernel
theorem dX11_lines_74 : decode cX11_lines 74 = .ok (.iload_n 1, 1) := by decide +kernel
theorem dX11_lines_75 : decode cX11_lines 75 = .ok (.iconst 0, 1) := by decide +kernel
theorem dX11_lines_76 : decode cX11_lines 76 = .ok (.iastore, 1) := by decide +kernel
theorem dX11_lines_77 : decode cX11_lines 77 = .ok (.aload_n 0, 1) := by decide +kernel
theorem dX11_lines_78 : decode cX11_lines 78 = .ok (.iload_n 1, 1) := by decide +kernel
theorem dX11_lines_79 : decode cX11_lines 79 = .ok (.iconst 1, 1) := by decide +kernel
theorem dX11_lines_80 : decode cX11_lines 80 = .ok (.invokevirtual 286, 3) := by decide +kernel
theorem dX11_lines_83 : decode cX11_lines 83 = .ok (.return_, 1) := by decide +kernel
set_option maxRecDepth 20000 in
theorem ggX11_tick_X11_beginTick : GoodIn wsX11_tick wsX11_beginTick := goodIn_r _ [13, 2, 8, 14, 15, 16, 17, 18, 19, 99, 100, 101, 102, 103, 104, 105, 106, 107, 108, 109, 110, 111, 112, 113, 114, 115, 116, 117, 118, 119, 120, 121, 122, 123, 124, 125, 126, 127, 128, 129, 130, 131, 132, 133, 134, 135, 136, 137, 138, 139, 140, 141, 142, 143, 144, 145, 146, 147, 148, 149, 150, 151] (by decide +kernel) (by decide +kernel)
set_option maxRecDepth 20000 in
theorem gX11_tick_X11_beginTick : GoodIn wsX11_tick (wsV RX11 296 RX11 yX11_beginTick wsX11_beginTick) := goodIn_app (goodIn_of _ (by decide +kernel)) ggX11_tick_X11_beginTick
set_option maxRecDepth 20000 in
theorem ggX11_tick_X11_deliver : GoodIn wsX11_tick wsX11_deliver := goodIn_r _ [23, 24, 25, 26, 27, 28, 1, 8, 14, 29, 30, 31, 12, 32, 33, 34, 35, 36, 37, 38, 39, 40, 41, 42, 43, 44, 2, 45, 46, 47, 48, 49, 50, 51, 52, 53, 54, 55, 56, 15, 57, 58, 59, 19, 18, 60, 99, 100, 101, 102, 103, 104, 105, 106, 107, 108, 109, 110, 111, 112, 113, 114, 115, 116, 117, 118, 119, 120, 121, 122, 123, 124, 125, 126, 127, 128, 129, 130, 131, 132, 133, 134, 135, 136, 137, 138, 139, 140, 141, 142, 143, 144, 145, 146, 147, 148, 149, 150, 151] (by decide +kernel) (by decide +kernel)
set_option maxRecDepth 20000 in
theorem gX11_tick_X11_deliver : GoodIn wsX11_tick (wsV RX11 299 RX11 yX11_deliver wsX11_deliver) := goodIn_app (goodIn_of _ (by decide +kernel)) ggX11_tick_X11_deliver
set_option maxRecDepth 20000 in
theorem ggX11_tick_X11_lines : GoodIn wsX11_tick wsX11_lines := goodIn_r _ [64, 57, 65, 66, 67, 68, 12, 69, 33, 34, 35, 36, 37, 38, 1, 26, 39, 40, 41, 42, 43, 44, 2, 45, 46, 47, 48, 49, 50, 99, 100, 101, 102, 103, 104, 105, 106, 107, 108, 109, 110, 111, 112, 113, 114, 115, 116, 117, 118, 119, 120, 121, 122, 123, 124, 125, 126, 127, 128, 129, 130, 131, 132, 133, 134, 135, 136, 137, 138, 139, 140, 141, 142, 143, 144, 145, 146, 147, 148, 149, 150, 151] (by decide +kernel) (by decide +kernel)
set_option maxRecDepth 20000 in
theorem gX11_tick_X11_lines : GoodIn wsX11_tick (wsV RX11 302 RX11 yX11_lines wsX11_lines) := goodIn_app (goodIn_of _ (by decide +kernel)) ggX11_tick_X11_lines
set_option maxRecDepth 20000 in
theorem ggX11_tick_X11_isEntry : GoodIn wsX11_tick wsX11_isEntry := goodIn_r _ [73, 1, 99, 100, 101, 102, 103, 104, 105, 106, 107, 108, 109, 110, 111, 112, 113, 114, 115, 116, 117, 118, 119, 120, 121, 122, 123, 124, 125, 126, 127, 128, 129, 130, 131, 132, 133, 134, 135, 136, 137, 138, 139, 140, 141, 142, 143, 144, 145, 146, 147, 148, 149, 150, 151] (by decide +kernel) (by decide +kernel)
set_option maxRecDepth 20000 in
theorem gX11_tick_X11_isEntry : GoodIn wsX11_tick (wsV RX11 240 RX11 yX11_isEntry wsX11_isEntry) := goodIn_app (goodIn_of _ (by decide +kernel)) ggX11_tick_X11_isEntry
set_option maxRecDepth 20000 in
theorem ggX11_tick_X11_drop : GoodIn wsX11_tick wsX11_drop := goodIn_r _ [77, 1, 78, 39, 40, 41, 12, 42, 43, 44, 2, 45, 46, 47, 48, 49, 50, 79, 80, 81, 82, 83, 84, 85, 86, 87, 88, 89, 99, 100, 101, 102, 103, 104, 105, 106, 107, 108, 109, 110, 111, 112, 113, 114, 115, 116, 117, 118, 119, 120, 121, 122, 123, 124, 125, 126, 127, 128, 129, 130, 131, 132, 133, 134, 135, 136, 137, 138, 139, 140, 141, 142, 143, 144, 145, 146, 147, 148, 149, 150, 151] (by decide +kernel) (by decide +kernel)
set_option maxRecDepth 20000 in
theorem gX11_tick_X11_drop : GoodIn wsX11_tick (wsV RX11 223 RX11 yX11_drop wsX11_drop) := goodIn_app (goodIn_of _ (by decide +kernel)) ggX11_tick_X11_drop
set_option maxRecDepth 20000 in
theorem ggX11_tick_X11_least : GoodIn wsX11_tick wsX11_least := goodIn_r _ [32] (by decide +kernel) (by decide +kernel)
set_option maxRecDepth 20000 in
theorem gX11_tick_X11_least : GoodIn wsX11_tick (va_wsS RX11 282 yX11_least wsX11_least) := goodIn_app (goodIn_of _ (by decide +kernel)) ggX11_tick_X11_least
set_option maxRecDepth 20000 in
theorem ggX11_tick_X11_most : GoodIn wsX11_tick wsX11_most := goodIn_r _ [69] (by decide +kernel) (by decide +kernel)
set_option maxRecDepth 20000 in
theorem gX11_tick_X11_most : GoodIn wsX11_tick (va_wsS RX11 293 yX11_most wsX11_most) := goodIn_app (goodIn_of _ (by decide +kernel)) ggX11_tick_X11_most
set_option maxRecDepth 20000 in
theorem ggX11_tick_X11_latch : GoodIn wsX11_tick wsX11_latch := goodIn_r _ [36, 37, 38, 1, 26, 39, 40, 41, 12, 42, 43, 44, 2, 45, 46, 47, 48, 49, 50, 99, 100, 101, 102, 103, 104, 105, 106, 107, 108, 109, 110, 111, 112, 113, 114, 115, 116, 117, 118, 119, 120, 121, 122, 123, 124, 125, 126, 127, 128, 129, 130, 131, 132, 133, 134, 135, 136, 137, 138, 139, 140, 141, 142, 143, 144, 145, 146, 147, 148, 149, 150, 151] (by decide +kernel) (by decide +kernel)
set_option maxRecDepth 20000 in
theorem gX11_tick_X11_latch : GoodIn wsX11_tick (wsV RX11 286 RX11 yX11_latch wsX11_latch) := goodIn_app (goodIn_of _ (by decide +kernel)) ggX11_tick_X11_latch
set_option maxRecDepth 20000 in
theorem ggX11_tick_X11_run : GoodIn wsX11_tick wsX11_run := goodIn_r _ [93, 1, 7, 25, 94, 95, 96, 12, 97, 37, 98, 39, 40, 41, 42, 43, 44, 2, 45, 46, 47, 48, 49, 50, 99, 100, 101, 102, 103, 104, 105, 106, 107, 108, 109, 110, 111, 112, 113, 114, 115, 116, 117, 118, 119, 120, 121, 122, 123, 124, 125, 126, 127, 128, 129, 130, 131, 132, 133, 134, 135, 136, 137, 138, 139, 140, 141, 142, 143, 144, 145, 146, 147, 148, 149, 150, 151] (by decide +kernel) (by decide +kernel)
set_option maxRecDepth 20000 in
theorem gX11_tick_X11_run : GoodIn wsX11_tick (wsV RX11 253 RX11 yX11_run wsX11_run) := goodIn_app (goodIn_of _ (by decide +kernel)) ggX11_tick_X11_run
theorem dX11_tick_0 : decode cX11_tick 0 = .ok (.aload_n 0, 1) := by decide +kernel
theorem dX11_tick_1 : decode cX11_tick 1 = .ok (.invokevirtual 296, 3) := by decide +kernel
theorem dX11_tick_4 : decode cX11_tick 4 = .ok (.iconst 0, 1) := by decide +kernel
theorem dX11_tick_5 : decode cX11_tick 5 = .ok (.istore_n 1, 1) := by decide +kernel
theorem dX11_tick_6 : decode cX11_tick 6 = .ok (.iconst 0, 1) := by decide +kernel
theorem dX11_tick_7 : decode cX11_tick 7 = .ok (.istore_n 2, 1) := by decide +kernel
theorem dX11_tick_8 : decode cX11_tick 8 = .ok (.iload_n 2, 1) := by decide +kernel
theorem dX11_tick_9 : decode cX11_tick 9 = .ok (.iconst 3, 1) := by decide +kernel
theorem dX11_tick_10 : decode cX11_tick 10 = .ok (.if_icmp .ge 62, 3) := by decide +kernel
theorem dX11_tick_13 : decode cX11_tick 13 = .ok (.aload_n 0, 1) := by decide +kernel
theorem dX11_tick_14 : decode cX11_tick 14 = .ok (.getfield 47, 3) := by decide +kernel
theorem dX11_tick_17 : decode cX11_tick 17 = .ok (.iload_n 2, 1) := by decide +kernel
theorem dX11_tick_18 : decode cX11_tick 18 = .ok (.iaload, 1) := by decide +kernel
theorem dX11_tick_19 : decode cX11_tick 19 = .ok (.bipush 7, 2) := by decide +kernel
theorem dX11_tick_21 : decode cX11_tick 21 = .ok (.if_icmp .ne 11, 3) := by decide +kernel
theorem dX11_tick_24 : decode cX11_tick 24 = .ok (.iload_n 1, 1) := by decide +kernel
theorem dX11_tick_25 : decode cX11_tick 25 = .ok (.aload_n 0, 1) := by decide +kernel
theorem dX11_tick_26 : decode cX11_tick 26 = .ok (.iload_n 2, 1) := by decide +kernel
theorem dX11_tick_27 : decode cX11_tick 27 = .ok (.invokevirtual 299, 3) := by decide +kernel
theorem dX11_tick_30 : decode cX11_tick 30 = .ok (.iadd, 1) := by decide +kernel
theorem dX11_tick_31 : decode cX11_tick 31 = .ok (.istore_n 1, 1) := by decide +kernel
theorem dX11_tick_32 : decode cX11_tick 32 = .ok (.aload_n 0, 1) := by decide +kernel
theorem dX11_tick_33 : decode cX11_tick 33 = .ok (.iload_n 2, 1) := by decide +kernel
theorem dX11_tick_34 : decode cX11_tick 34 = .ok (.invokevirtual 302, 3) := by decide +kernel
theorem dX11_tick_37 : decode cX11_tick 37 = .ok (.aload_n 0, 1) := by decide +kernel
theorem dX11_tick_38 : decode cX11_tick 38 = .ok (.iload_n 2, 1) := by decide +kernel
theorem dX11_tick_39 : decode cX11_tick 39 = .ok (.invokevirtual 240, 3) := by decide +kernel
theorem dX11_tick_42 : decode cX11_tick 42 = .ok (.ifCond .eq 24, 3) := by decide +kernel
theorem dX11_tick_45 : decode cX11_tick 45 = .ok (.aload_n 0, 1) := by decide +kernel
theorem dX11_tick_46 : decode cX11_tick 46 = .ok (.getfield 167, 3) := by decide +kernel
theorem dX11_tick_49 : decode cX11_tick 49 = .ok (.aload_n 0, 1) := by decide +kernel
theorem dX11_tick_50 : decode cX11_tick 50 = .ok (.getfield 140, 3) := by decide +kernel
theorem dX11_tick_53 : decode cX11_tick 53 = .ok (.iload_n 2, 1) := by decide +kernel
theorem dX11_tick_54 : decode cX11_tick 54 = .ok (.iaload, 1) := by decide +kernel
theorem dX11_tick_55 : decode cX11_tick 55 = .ok (.isub, 1) := by decide +kernel
theorem dX11_tick_56 : decode cX11_tick 56 = .ok (.bipush 60, 2) := by decide +kernel
theorem dX11_tick_58 : decode cX11_tick 58 = .ok (.if_icmp .lt 8, 3) := by decide +kernel
theorem dX11_tick_61 : decode cX11_tick 61 = .ok (.aload_n 0, 1) := by decide +kernel
theorem dX11_tick_62 : decode cX11_tick 62 = .ok (.iload_n 2, 1) := by decide +kernel
theorem dX11_tick_63 : decode cX11_tick 63 = .ok (.invokevirtual 223, 3) := by decide +kernel
theorem dX11_tick_66 : decode cX11_tick 66 = .ok (.iinc 2 1, 3) := by decide +kernel
theorem dX11_tick_69 : decode cX11_tick 69 = .ok (.goto (-61), 3) := by decide +kernel
theorem dX11_tick_72 : decode cX11_tick 72 = .ok (.aload_n 0, 1) := by decide +kernel
theorem dX11_tick_73 : decode cX11_tick 73 = .ok (.aload_n 0, 1) := by decide +kernel
theorem dX11_tick_74 : decode cX11_tick 74 = .ok (.getfield 148, 3) := by decide +kernel
theorem dX11_tick_77 : decode cX11_tick 77 = .ok (.ifCond .eq 17, 3) := by decide +kernel
theorem dX11_tick_80 : decode cX11_tick 80 = .ok (.ldc 143, 2) := by decide +kernel
theorem dX11_tick_82 : decode cX11_tick 82 = .ok (.aload_n 0, 1) := by decide +kernel
theorem dX11_tick_83 : decode cX11_tick 83 = .ok (.getfield 144, 3) := by decide +kernel
theorem dX11_tick_86 : decode cX11_tick 86 = .ok (.iconst 4, 1) := by decide +kernel
theorem dX11_tick_87 : decode cX11_tick 87 = .ok (.iadd, 1) := by decide +kernel
theorem dX11_tick_88 : decode cX11_tick 88 = .ok (.invokestatic 282, 3) := by decide +kernel
theorem dX11_tick_91 : decode cX11_tick 91 = .ok (.goto 15, 3) := by decide +kernel
theorem dX11_tick_94 : decode cX11_tick 94 = .ok (.iconst 0, 1) := by decide +kernel
theorem dX11_tick_95 : decode cX11_tick 95 = .ok (.aload_n 0, 1) := by decide +kernel
theorem dX11_tick_96 : decode cX11_tick 96 = .ok (.getfield 144, 3) := by decide +kernel
theorem dX11_tick_99 : decode cX11_tick 99 = .ok (.iconst 1, 1) := by decide +kernel
theorem dX11_tick_100 : decode cX11_tick 100 = .ok (.isub, 1) := by decide +kernel
theorem dX11_tick_101 : decode cX11_tick 101 = .ok (.iload_n 1, 1) := by decide +kernel
theorem dX11_tick_102 : decode cX11_tick 102 = .ok (.isub, 1) := by decide +kernel
theorem dX11_tick_103 : decode cX11_tick 103 = .ok (.invokestatic 293, 3) := by decide +kernel
theorem dX11_tick_106 : decode cX11_tick 106 = .ok (.putfield 144, 3) := by decide +kernel
theorem dX11_tick_109 : decode cX11_tick 109 = .ok (.aload_n 0, 1) := by decide +kernel
theorem dX11_tick_110 : decode cX11_tick 110 = .ok (.getfield 148, 3) := by decide +kernel
theorem dX11_tick_113 : decode cX11_tick 113 = .ok (.ifCond .ne 20, 3) := by decide +kernel
theorem dX11_tick_116 : decode cX11_tick 116 = .ok (.aload_n 0, 1) := by decide +kernel
theorem dX11_tick_117 : decode cX11_tick 117 = .ok (.getfield 144, 3) := by decide +kernel
theorem dX11_tick_120 : decode cX11_tick 120 = .ok (.sipush 3600, 3) := by decide +kernel
theorem dX11_tick_123 : decode cX11_tick 123 = .ok (.if_icmp .ge 10, 3) := by decide +kernel
theorem dX11_tick_126 : decode cX11_tick 126 = .ok (.aload_n 0, 1) := by decide +kernel
theorem dX11_tick_127 : decode cX11_tick 127 = .ok (.iconst 0, 1) := by decide +kernel
theorem dX11_tick_128 : decode cX11_tick 128 = .ok (.bipush 6, 2) := by decide +kernel
theorem dX11_tick_130 : decode cX11_tick 130 = .ok (.invokevirtual 286, 3) := by decide +kernel
theorem dX11_tick_133 : decode cX11_tick 133 = .ok (.iconst 0, 1) := by decide +kernel
theorem dX11_tick_134 : decode cX11_tick 134 = .ok (.istore_n 2, 1) := by decide +kernel
theorem dX11_tick_135 : decode cX11_tick 135 = .ok (.iload_n 2, 1) := by decide +kernel
theorem dX11_tick_136 : decode cX11_tick 136 = .ok (.iconst 3, 1) := by decide +kernel
theorem dX11_tick_137 : decode cX11_tick 137 = .ok (.if_icmp .ge 33, 3) := by decide +kernel
theorem dX11_tick_140 : decode cX11_tick 140 = .ok (.aload_n 0, 1) := by decide +kernel
theorem dX11_tick_141 : decode cX11_tick 141 = .ok (.getfield 144, 3) := by decide +kernel
theorem dX11_tick_144 : decode cX11_tick 144 = .ok (.ifCond .ne 20, 3) := by decide +kernel
theorem dX11_tick_147 : decode cX11_tick 147 = .ok (.aload_n 0, 1) := by decide +kernel
theorem dX11_tick_148 : decode cX11_tick 148 = .ok (.getfield 47, 3) := by decide +kernel
theorem dX11_tick_151 : decode cX11_tick 151 = .ok (.iload_n 2, 1) := by decide +kernel
theorem dX11_tick_152 : decode cX11_tick 152 = .ok (.iaload, 1) := by decide +kernel
theorem dX11_tick_153 : decode cX11_tick 153 = .ok (.bipush 7, 2) := by decide +kernel
theorem dX11_tick_155 : decode cX11_tick 155 = .ok (.if_icmp .ne 9, 3) := by decide +kernel
theorem dX11_tick_158 : decode cX11_tick 158 = .ok (.aload_n 0, 1) := by decide +kernel
theorem dX11_tick_159 : decode cX11_tick 159 = .ok (.iload_n 2, 1) := by decide +kernel
theorem dX11_tick_160 : decode cX11_tick 160 = .ok (.iconst 3, 1) := by decide +kernel
theorem dX11_tick_161 : decode cX11_tick 161 = .ok (.invokevirtual 286, 3) := by decide +kernel
theorem dX11_tick_164 : decode cX11_tick 164 = .ok (.iinc 2 1, 3) := by decide +kernel
theorem dX11_tick_167 : decode cX11_tick 167 = .ok (.goto (-32), 3) := by decide +kernel
theorem dX11_tick_170 : decode cX11_tick 170 = .ok (.iconst 0, 1) := by decide +kernel
theorem dX11_tick_171 : decode cX11_tick 171 = .ok (.istore_n 2, 1) := by decide +kernel
theorem dX11_tick_172 : decode cX11_tick 172 = .ok (.iload_n 2, 1) := by decide +kernel
theorem dX11_tick_173 : decode cX11_tick 173 = .ok (.iconst 3, 1) := by decide +kernel
theorem dX11_tick_174 : decode cX11_tick 174 = .ok (.if_icmp .ge 47, 3) := by decide +kernel
theorem dX11_tick_177 : decode cX11_tick 177 = .ok (.aload_n 0, 1) := by decide +kernel
theorem dX11_tick_178 : decode cX11_tick 178 = .ok (.getfield 95, 3) := by decide +kernel
theorem dX11_tick_181 : decode cX11_tick 181 = .ok (.iload_n 2, 1) := by decide +kernel
theorem dX11_tick_182 : decode cX11_tick 182 = .ok (.baload, 1) := by decide +kernel
theorem dX11_tick_183 : decode cX11_tick 183 = .ok (.ifCond .eq 32, 3) := by decide +kernel
theorem dX11_tick_186 : decode cX11_tick 186 = .ok (.aload_n 0, 1) := by decide +kernel
theorem dX11_tick_187 : decode cX11_tick 187 = .ok (.getfield 98, 3) := by decide +kernel
theorem dX11_tick_190 : decode cX11_tick 190 = .ok (.iload_n 2, 1) := by decide +kernel
theorem dX11_tick_191 : decode cX11_tick 191 = .ok (.iconst 2, 1) := by decide +kernel
theorem dX11_tick_192 : decode cX11_tick 192 = .ok (.iadd, 1) := by decide +kernel
theorem dX11_tick_193 : decode cX11_tick 193 = .ok (.iconst 3, 1) := by decide +kernel
theorem dX11_tick_194 : decode cX11_tick 194 = .ok (.irem, 1) := by decide +kernel
theorem dX11_tick_195 : decode cX11_tick 195 = .ok (.baload, 1) := by decide +kernel
theorem dX11_tick_196 : decode cX11_tick 196 = .ok (.ifCond .ne 6, 3) := by decide +kernel
theorem dX11_tick_199 : decode cX11_tick 199 = .ok (.goto 16, 3) := by decide +kernel
theorem dX11_tick_202 : decode cX11_tick 202 = .ok (.aload_n 0, 1) := by decide +kernel
theorem dX11_tick_203 : decode cX11_tick 203 = .ok (.iload_n 2, 1) := by decide +kernel
theorem dX11_tick_204 : decode cX11_tick 204 = .ok (.invokevirtual 253, 3) := by decide +kernel
theorem dX11_tick_207 : decode cX11_tick 207 = .ok (.istore_n 3, 1) := by decide +kernel
theorem dX11_tick_208 : decode cX11_tick 208 = .ok (.aload_n 0, 1) := by decide +kernel
theorem dX11_tick_209 : decode cX11_tick 209 = .ok (.getfield 95, 3) := by decide +kernel
theorem dX11_tick_212 : decode cX11_tick 212 = .ok (.iload_n 2, 1) := by decide +kernel
theorem dX11_tick_213 : decode cX11_tick 213 = .ok (.iconst 0, 1) := by decide +kernel
theorem dX11_tick_214 : decode cX11_tick 214 = .ok (.bastore, 1) := by decide +kernel
theorem dX11_tick_215 : decode cX11_tick 215 = .ok (.iinc 2 1, 3) := by decide +kernel
theorem dX11_tick_218 : decode cX11_tick 218 = .ok (.goto (-46), 3) := by decide +kernel
theorem dX11_tick_221 : decode cX11_tick 221 = .ok (.iload_n 1, 1) := by decide +kernel
theorem dX11_tick_222 : decode cX11_tick 222 = .ok (.ireturn, 1) := by decide +kernel
set_option maxRecDepth 20000 in
theorem ggX11_ticks_X11_isIn : GoodIn wsX11_ticks wsX11_isIn := goodIn_r _ [6] (by decide +kernel) (by decide +kernel)
set_option maxRecDepth 20000 in
theorem gX11_ticks_X11_isIn : GoodIn wsX11_ticks (va_wsS RX11 174 yX11_isIn wsX11_isIn) := goodIn_app (goodIn_of _ (by decide +kernel)) ggX11_ticks_X11_isIn
set_option maxRecDepth 20000 in
theorem ggX11_ticks_X11_tick : GoodIn wsX11_ticks wsX11_tick := goodIn_r _ [10, 11, 12, 13, 14, 15, 16, 17, 18, 19, 20, 21, 5, 22, 23, 24, 25, 26, 27, 28, 29, 30, 31, 32, 33, 34, 35, 36, 37, 38, 39, 40, 41, 42, 43, 44, 45, 46, 47, 48, 49, 50, 51, 52, 53, 54, 55, 56, 57, 58, 59, 60, 61, 62, 63, 64, 65, 66, 67, 68, 69, 70, 71, 72, 73, 74, 75, 76, 77, 78, 79, 80, 81, 82, 83, 84, 85, 86, 87, 88, 89, 90, 91, 92, 93, 94, 95, 96, 97, 98, 99, 100, 101, 102, 103, 104, 105, 106, 107, 108, 109, 110, 111, 112, 113, 114, 115, 116, 117, 118, 119, 120, 121, 122, 123, 124, 125, 126, 127, 128, 129, 130, 131, 132, 133, 134, 135, 136, 137, 138, 139, 140, 141, 142, 143, 144, 145, 146, 147, 148, 149, 150, 151, 152, 153, 154, 155, 156, 157, 158, 159, 160] (by decide +kernel) (by decide +kernel)
set_option maxRecDepth 20000 in
theorem gX11_ticks_X11_tick : GoodIn wsX11_ticks (wsV RX11 307 RX11 yX11_tick wsX11_tick) := goodIn_app (goodIn_of _ (by decide +kernel)) ggX11_ticks_X11_tick
theorem dX11_ticks_0 : decode cX11_ticks 0 = .ok (.aload_n 0, 1) := by decide +kernel
theorem dX11_ticks_1 : decode cX11_ticks 1 = .ok (.iload_n 1, 1) := by decide +kernel
theorem dX11_ticks_2 : decode cX11_ticks 2 = .ok (.i2l, 1) := by decide +kernel
theorem dX11_ticks_3 : decode cX11_ticks 3 = .ok (.lconst 0, 1) := by decide +kernel
theorem dX11_ticks_4 : decode cX11_ticks 4 = .ok (.ldc2_w 305, 3) := by decide +kernel
theorem dX11_ticks_7 : decode cX11_ticks 7 = .ok (.invokestatic 174, 3) := by decide +kernel
theorem dX11_ticks_10 : decode cX11_ticks 10 = .ok (.ifCond .eq 7, 3) := by decide +kernel
theorem dX11_ticks_13 : decode cX11_ticks 13 = .ok (.iconst 0, 1) := by decide +kernel
theorem dX11_ticks_14 : decode cX11_ticks 14 = .ok (.goto 4, 3) := by decide +kernel
theorem dX11_ticks_17 : decode cX11_ticks 17 = .ok (.iconst 1, 1) := by decide +kernel
theorem dX11_ticks_18 : decode cX11_ticks 18 = .ok (.putfield 159, 3) := by decide +kernel
theorem dX11_ticks_21 : decode cX11_ticks 21 = .ok (.aload_n 0, 1) := by decide +kernel
theorem dX11_ticks_22 : decode cX11_ticks 22 = .ok (.getfield 159, 3) := by decide +kernel
theorem dX11_ticks_25 : decode cX11_ticks 25 = .ok (.ifCond .le 5, 3) := by decide +kernel
theorem dX11_ticks_28 : decode cX11_ticks 28 = .ok (.iconst 0, 1) := by decide +kernel
theorem dX11_ticks_29 : decode cX11_ticks 29 = .ok (.ireturn, 1) := by decide +kernel
theorem dX11_ticks_30 : decode cX11_ticks 30 = .ok (.iconst 0, 1) := by decide +kernel
theorem dX11_ticks_31 : decode cX11_ticks 31 = .ok (.istore_n 2, 1) := by decide +kernel
theorem dX11_ticks_32 : decode cX11_ticks 32 = .ok (.iconst 0, 1) := by decide +kernel
theorem dX11_ticks_33 : decode cX11_ticks 33 = .ok (.istore_n 3, 1) := by decide +kernel
theorem dX11_ticks_34 : decode cX11_ticks 34 = .ok (.iload_n 3, 1) := by decide +kernel
theorem dX11_ticks_35 : decode cX11_ticks 35 = .ok (.iload_n 1, 1) := by decide +kernel
theorem dX11_ticks_36 : decode cX11_ticks 36 = .ok (.if_icmp .ge 16, 3) := by decide +kernel
theorem dX11_ticks_39 : decode cX11_ticks 39 = .ok (.iload_n 2, 1) := by decide +kernel
theorem dX11_ticks_40 : decode cX11_ticks 40 = .ok (.aload_n 0, 1) := by decide +kernel
theorem dX11_ticks_41 : decode cX11_ticks 41 = .ok (.invokevirtual 307, 3) := by decide +kernel
theorem dX11_ticks_44 : decode cX11_ticks 44 = .ok (.iadd, 1) := by decide +kernel
theorem dX11_ticks_45 : decode cX11_ticks 45 = .ok (.istore_n 2, 1) := by decide +kernel
theorem dX11_ticks_46 : decode cX11_ticks 46 = .ok (.iinc 3 1, 3) := by decide +kernel
theorem dX11_ticks_49 : decode cX11_ticks 49 = .ok (.goto (-15), 3) := by decide +kernel
theorem dX11_ticks_52 : decode cX11_ticks 52 = .ok (.iload_n 2, 1) := by decide +kernel
theorem dX11_ticks_53 : decode cX11_ticks 53 = .ok (.ireturn, 1) := by decide +kernel
set_option maxRecDepth 20000 in
theorem ggX11_isChannel_X11_isIn : GoodIn wsX11_isChannel wsX11_isIn := goodIn_r _ [6] (by decide +kernel) (by decide +kernel)
set_option maxRecDepth 20000 in
theorem gX11_isChannel_X11_isIn : GoodIn wsX11_isChannel (va_wsS RX11 174 yX11_isIn wsX11_isIn) := goodIn_app (goodIn_of _ (by decide +kernel)) ggX11_isChannel_X11_isIn
theorem dX11_isChannel_0 : decode cX11_isChannel 0 = .ok (.aload_n 0, 1) := by decide +kernel
theorem dX11_isChannel_1 : decode cX11_isChannel 1 = .ok (.iload_n 1, 1) := by decide +kernel
theorem dX11_isChannel_2 : decode cX11_isChannel 2 = .ok (.i2l, 1) := by decide +kernel
theorem dX11_isChannel_3 : decode cX11_isChannel 3 = .ok (.lconst 0, 1) := by decide +kernel
theorem dX11_isChannel_4 : decode cX11_isChannel 4 = .ok (.ldc2_w 206, 3) := by decide +kernel
theorem dX11_isChannel_7 : decode cX11_isChannel 7 = .ok (.invokestatic 174, 3) := by decide +kernel
theorem dX11_isChannel_10 : decode cX11_isChannel 10 = .ok (.ifCond .eq 7, 3) := by decide +kernel
theorem dX11_isChannel_13 : decode cX11_isChannel 13 = .ok (.iconst 0, 1) := by decide +kernel
theorem dX11_isChannel_14 : decode cX11_isChannel 14 = .ok (.goto 4, 3) := by decide +kernel
theorem dX11_isChannel_17 : decode cX11_isChannel 17 = .ok (.iconst 1, 1) := by decide +kernel
theorem dX11_isChannel_18 : decode cX11_isChannel 18 = .ok (.putfield 159, 3) := by decide +kernel
theorem dX11_isChannel_21 : decode cX11_isChannel 21 = .ok (.aload_n 0, 1) := by decide +kernel
theorem dX11_isChannel_22 : decode cX11_isChannel 22 = .ok (.getfield 159, 3) := by decide +kernel
theorem dX11_isChannel_25 : decode cX11_isChannel 25 = .ok (.ifCond .ne 7, 3) := by decide +kernel
theorem dX11_isChannel_28 : decode cX11_isChannel 28 = .ok (.iconst 1, 1) := by decide +kernel
theorem dX11_isChannel_29 : decode cX11_isChannel 29 = .ok (.goto 4, 3) := by decide +kernel
theorem dX11_isChannel_32 : decode cX11_isChannel 32 = .ok (.iconst 0, 1) := by decide +kernel
theorem dX11_isChannel_33 : decode cX11_isChannel 33 = .ok (.ireturn, 1) := by decide +kernel
set_option maxRecDepth 20000 in
theorem ggX11_flow_X11_isIn : GoodIn wsX11_flow wsX11_isIn := goodIn_r _ [8] (by decide +kernel) (by decide +kernel)
set_option maxRecDepth 20000 in
theorem gX11_flow_X11_isIn : GoodIn wsX11_flow (va_wsS RX11 174 yX11_isIn wsX11_isIn) := goodIn_app (goodIn_of _ (by decide +kernel)) ggX11_flow_X11_isIn
theorem dX11_flow_0 : decode cX11_flow 0 = .ok (.aload_n 0, 1) := by decide +kernel
theorem dX11_flow_1 : decode cX11_flow 1 = .ok (.iload_n 1, 1) := by decide +kernel
theorem dX11_flow_2 : decode cX11_flow 2 = .ok (.i2l, 1) := by decide +kernel
theorem dX11_flow_3 : decode cX11_flow 3 = .ok (.lconst 0, 1) := by decide +kernel
theorem dX11_flow_4 : decode cX11_flow 4 = .ok (.ldc2_w 206, 3) := by decide +kernel
theorem dX11_flow_7 : decode cX11_flow 7 = .ok (.invokestatic 174, 3) := by decide +kernel
theorem dX11_flow_10 : decode cX11_flow 10 = .ok (.ifCond .ne 7, 3) := by decide +kernel
theorem dX11_flow_13 : decode cX11_flow 13 = .ok (.iconst 1, 1) := by decide +kernel
theorem dX11_flow_14 : decode cX11_flow 14 = .ok (.goto 20, 3) := by decide +kernel
theorem dX11_flow_17 : decode cX11_flow 17 = .ok (.iload_n 2, 1) := by decide +kernel
theorem dX11_flow_18 : decode cX11_flow 18 = .ok (.i2l, 1) := by decide +kernel
theorem dX11_flow_19 : decode cX11_flow 19 = .ok (.lconst 0, 1) := by decide +kernel
theorem dX11_flow_20 : decode cX11_flow 20 = .ok (.ldc2_w 311, 3) := by decide +kernel
theorem dX11_flow_23 : decode cX11_flow 23 = .ok (.invokestatic 174, 3) := by decide +kernel
theorem dX11_flow_26 : decode cX11_flow 26 = .ok (.ifCond .ne 7, 3) := by decide +kernel
theorem dX11_flow_29 : decode cX11_flow 29 = .ok (.iconst 2, 1) := by decide +kernel
theorem dX11_flow_30 : decode cX11_flow 30 = .ok (.goto 4, 3) := by decide +kernel
theorem dX11_flow_33 : decode cX11_flow 33 = .ok (.iconst 0, 1) := by decide +kernel
theorem dX11_flow_34 : decode cX11_flow 34 = .ok (.putfield 159, 3) := by decide +kernel
theorem dX11_flow_37 : decode cX11_flow 37 = .ok (.aload_n 0, 1) := by decide +kernel
theorem dX11_flow_38 : decode cX11_flow 38 = .ok (.getfield 159, 3) := by decide +kernel
theorem dX11_flow_41 : decode cX11_flow 41 = .ok (.ifCond .le 5, 3) := by decide +kernel
theorem dX11_flow_44 : decode cX11_flow 44 = .ok (.iconst 0, 1) := by decide +kernel
theorem dX11_flow_45 : decode cX11_flow 45 = .ok (.ireturn, 1) := by decide +kernel
theorem dX11_flow_46 : decode cX11_flow 46 = .ok (.aload_n 0, 1) := by decide +kernel
theorem dX11_flow_47 : decode cX11_flow 47 = .ok (.getfield 74, 3) := by decide +kernel
theorem dX11_flow_50 : decode cX11_flow 50 = .ok (.iload_n 1, 1) := by decide +kernel
theorem dX11_flow_51 : decode cX11_flow 51 = .ok (.iaload, 1) := by decide +kernel
theorem dX11_flow_52 : decode cX11_flow 52 = .ok (.istore_n 3, 1) := by decide +kernel
theorem dX11_flow_53 : decode cX11_flow 53 = .ok (.aload_n 0, 1) := by decide +kernel
theorem dX11_flow_54 : decode cX11_flow 54 = .ok (.getfield 74, 3) := by decide +kernel
theorem dX11_flow_57 : decode cX11_flow 57 = .ok (.iload_n 1, 1) := by decide +kernel
theorem dX11_flow_58 : decode cX11_flow 58 = .ok (.iload_n 2, 1) := by decide +kernel
theorem dX11_flow_59 : decode cX11_flow 59 = .ok (.iastore, 1) := by decide +kernel
theorem dX11_flow_60 : decode cX11_flow 60 = .ok (.iload_n 3, 1) := by decide +kernel
theorem dX11_flow_61 : decode cX11_flow 61 = .ok (.ireturn, 1) := by decide +kernel
set_option maxRecDepth 20000 in
theorem ggX11_air_X11_isChannel : GoodIn wsX11_air wsX11_isChannel := goodIn_r _ [6, 7, 8, 9, 10, 5, 11, 12, 13, 14, 15, 16, 17, 18, 19, 20, 21, 22, 23, 24, 25, 26, 27, 28, 29, 30, 31, 32, 33, 34, 35, 36, 37, 38, 39, 40, 41, 42, 43, 44, 45, 46, 47, 48, 49, 50, 51, 52, 53, 54, 55, 56, 57, 58, 59, 60, 61, 62, 63, 64] (by decide +kernel) (by decide +kernel)
set_option maxRecDepth 20000 in
theorem gX11_air_X11_isChannel : GoodIn wsX11_air (wsV RX11 313 RX11 yX11_isChannel wsX11_isChannel) := goodIn_app (goodIn_of _ (by decide +kernel)) ggX11_air_X11_isChannel
theorem dX11_air_0 : decode cX11_air 0 = .ok (.aload_n 0, 1) := by decide +kernel
theorem dX11_air_1 : decode cX11_air 1 = .ok (.iload_n 1, 1) := by decide +kernel
theorem dX11_air_2 : decode cX11_air 2 = .ok (.invokevirtual 313, 3) := by decide +kernel
theorem dX11_air_5 : decode cX11_air 5 = .ok (.ifCond .ne 5, 3) := by decide +kernel
theorem dX11_air_8 : decode cX11_air 8 = .ok (.iconst 0, 1) := by decide +kernel
theorem dX11_air_9 : decode cX11_air 9 = .ok (.ireturn, 1) := by decide +kernel
theorem dX11_air_10 : decode cX11_air 10 = .ok (.aload_n 0, 1) := by decide +kernel
theorem dX11_air_11 : decode cX11_air 11 = .ok (.getfield 77, 3) := by decide +kernel
theorem dX11_air_14 : decode cX11_air 14 = .ok (.iload_n 1, 1) := by decide +kernel
theorem dX11_air_15 : decode cX11_air 15 = .ok (.baload, 1) := by decide +kernel
theorem dX11_air_16 : decode cX11_air 16 = .ok (.istore_n 3, 1) := by decide +kernel
theorem dX11_air_17 : decode cX11_air 17 = .ok (.aload_n 0, 1) := by decide +kernel
theorem dX11_air_18 : decode cX11_air 18 = .ok (.getfield 77, 3) := by decide +kernel
theorem dX11_air_21 : decode cX11_air 21 = .ok (.iload_n 1, 1) := by decide +kernel
theorem dX11_air_22 : decode cX11_air 22 = .ok (.iload_n 2, 1) := by decide +kernel
theorem dX11_air_23 : decode cX11_air 23 = .ok (.bastore, 1) := by decide +kernel
theorem dX11_air_24 : decode cX11_air 24 = .ok (.iload_n 3, 1) := by decide +kernel
theorem dX11_air_25 : decode cX11_air 25 = .ok (.ireturn, 1) := by decide +kernel
set_option maxRecDepth 20000 in
theorem ggX11_door_X11_isChannel : GoodIn wsX11_door wsX11_isChannel := goodIn_r _ [7, 8, 9, 10, 11, 6, 12, 33, 34, 35, 36, 37, 38, 39, 40, 41, 42, 43, 44, 45, 46, 47, 48, 49, 50, 51, 52, 53, 54, 55, 56, 57, 58, 59, 60, 61, 62, 63, 64, 65, 66, 67, 68, 69, 70, 71, 72, 73, 74, 75, 76, 77, 78, 79, 80, 81, 82, 83, 84, 85] (by decide +kernel) (by decide +kernel)
set_option maxRecDepth 20000 in
theorem gX11_door_X11_isChannel : GoodIn wsX11_door (wsV RX11 313 RX11 yX11_isChannel wsX11_isChannel) := goodIn_app (goodIn_of _ (by decide +kernel)) ggX11_door_X11_isChannel
set_option maxRecDepth 20000 in
theorem ggX11_door_X11_latch : GoodIn wsX11_door wsX11_latch := goodIn_r _ [16, 17, 18, 2, 19, 20, 21, 22, 6, 23, 24, 25, 26, 27, 28, 29, 30, 31, 32, 33, 34, 35, 36, 37, 38, 39, 40, 41, 42, 43, 44, 45, 46, 47, 48, 49, 50, 51, 52, 53, 54, 55, 56, 57, 58, 59, 60, 61, 62, 63, 64, 65, 66, 67, 68, 69, 70, 71, 72, 73, 74, 75, 76, 77, 78, 79, 80, 81, 82, 83, 84, 85] (by decide +kernel) (by decide +kernel)
set_option maxRecDepth 20000 in
theorem gX11_door_X11_latch : GoodIn wsX11_door (wsV RX11 286 RX11 yX11_latch wsX11_latch) := goodIn_app (goodIn_of _ (by decide +kernel)) ggX11_door_X11_latch
theorem dX11_door_0 : decode cX11_door 0 = .ok (.aload_n 0, 1) := by decide +kernel
theorem dX11_door_1 : decode cX11_door 1 = .ok (.iload_n 1, 1) := by decide +kernel
theorem dX11_door_2 : decode cX11_door 2 = .ok (.invokevirtual 313, 3) := by decide +kernel
theorem dX11_door_5 : decode cX11_door 5 = .ok (.ifCond .ne 5, 3) := by decide +kernel
theorem dX11_door_8 : decode cX11_door 8 = .ok (.iconst 0, 1) := by decide +kernel
theorem dX11_door_9 : decode cX11_door 9 = .ok (.ireturn, 1) := by decide +kernel
theorem dX11_door_10 : decode cX11_door 10 = .ok (.aload_n 0, 1) := by decide +kernel
theorem dX11_door_11 : decode cX11_door 11 = .ok (.getfield 80, 3) := by decide +kernel
theorem dX11_door_14 : decode cX11_door 14 = .ok (.iload_n 1, 1) := by decide +kernel
theorem dX11_door_15 : decode cX11_door 15 = .ok (.baload, 1) := by decide +kernel
theorem dX11_door_16 : decode cX11_door 16 = .ok (.istore_n 3, 1) := by decide +kernel
theorem dX11_door_17 : decode cX11_door 17 = .ok (.aload_n 0, 1) := by decide +kernel
theorem dX11_door_18 : decode cX11_door 18 = .ok (.getfield 80, 3) := by decide +kernel
theorem dX11_door_21 : decode cX11_door 21 = .ok (.iload_n 1, 1) := by decide +kernel
theorem dX11_door_22 : decode cX11_door 22 = .ok (.iload_n 2, 1) := by decide +kernel
theorem dX11_door_23 : decode cX11_door 23 = .ok (.bastore, 1) := by decide +kernel
theorem dX11_door_24 : decode cX11_door 24 = .ok (.iload_n 2, 1) := by decide +kernel
theorem dX11_door_25 : decode cX11_door 25 = .ok (.ifCond .eq 20, 3) := by decide +kernel
theorem dX11_door_28 : decode cX11_door 28 = .ok (.aload_n 0, 1) := by decide +kernel
theorem dX11_door_29 : decode cX11_door 29 = .ok (.getfield 47, 3) := by decide +kernel
theorem dX11_door_32 : decode cX11_door 32 = .ok (.iload_n 1, 1) := by decide +kernel
theorem dX11_door_33 : decode cX11_door 33 = .ok (.iaload, 1) := by decide +kernel
theorem dX11_door_34 : decode cX11_door 34 = .ok (.bipush 7, 2) := by decide +kernel
theorem dX11_door_36 : decode cX11_door 36 = .ok (.if_icmp .ne 9, 3) := by decide +kernel
theorem dX11_door_39 : decode cX11_door 39 = .ok (.aload_n 0, 1) := by decide +kernel
theorem dX11_door_40 : decode cX11_door 40 = .ok (.iload_n 1, 1) := by decide +kernel
theorem dX11_door_41 : decode cX11_door 41 = .ok (.iconst 2, 1) := by decide +kernel
theorem dX11_door_42 : decode cX11_door 42 = .ok (.invokevirtual 286, 3) := by decide +kernel
theorem dX11_door_45 : decode cX11_door 45 = .ok (.iload_n 3, 1) := by decide +kernel
theorem dX11_door_46 : decode cX11_door 46 = .ok (.ireturn, 1) := by decide +kernel
theorem dX11_mains_0 : decode cX11_mains 0 = .ok (.aload_n 0, 1) := by decide +kernel
theorem dX11_mains_1 : decode cX11_mains 1 = .ok (.iconst 0, 1) := by decide +kernel
theorem dX11_mains_2 : decode cX11_mains 2 = .ok (.putfield 159, 3) := by decide +kernel
theorem dX11_mains_5 : decode cX11_mains 5 = .ok (.aload_n 0, 1) := by decide +kernel
theorem dX11_mains_6 : decode cX11_mains 6 = .ok (.getfield 148, 3) := by decide +kernel
theorem dX11_mains_9 : decode cX11_mains 9 = .ok (.istore_n 2, 1) := by decide +kernel
theorem dX11_mains_10 : decode cX11_mains 10 = .ok (.aload_n 0, 1) := by decide +kernel
theorem dX11_mains_11 : decode cX11_mains 11 = .ok (.iload_n 1, 1) := by decide +kernel
theorem dX11_mains_12 : decode cX11_mains 12 = .ok (.putfield 148, 3) := by decide +kernel
theorem dX11_mains_15 : decode cX11_mains 15 = .ok (.iload_n 2, 1) := by decide +kernel
theorem dX11_mains_16 : decode cX11_mains 16 = .ok (.ireturn, 1) := by decide +kernel
set_option maxRecDepth 20000 in
theorem ggX11_about_X11_isIn : GoodIn wsX11_about wsX11_isIn := goodIn_r _ [12] (by decide +kernel) (by decide +kernel)
set_option maxRecDepth 20000 in
theorem gX11_about_X11_isIn : GoodIn wsX11_about (va_wsS RX11 174 yX11_isIn wsX11_isIn) := goodIn_app (goodIn_of _ (by decide +kernel)) ggX11_about_X11_isIn
theorem dX11_about_0 : decode cX11_about 0 = .ok (.aload_n 0, 1) := by decide +kernel
theorem dX11_about_1 : decode cX11_about 1 = .ok (.iload_n 1, 1) := by decide +kernel
theorem dX11_about_2 : decode cX11_about 2 = .ok (.i2l, 1) := by decide +kernel
theorem dX11_about_3 : decode cX11_about 3 = .ok (.lconst 0, 1) := by decide +kernel
theorem dX11_about_4 : decode cX11_about 4 = .ok (.ldc2_w 316, 3) := by decide +kernel
theorem dX11_about_7 : decode cX11_about 7 = .ok (.invokestatic 174, 3) := by decide +kernel
theorem dX11_about_10 : decode cX11_about 10 = .ok (.ifCond .eq 7, 3) := by decide +kernel
theorem dX11_about_13 : decode cX11_about 13 = .ok (.iconst 0, 1) := by decide +kernel
theorem dX11_about_14 : decode cX11_about 14 = .ok (.goto 4, 3) := by decide +kernel
theorem dX11_about_17 : decode cX11_about 17 = .ok (.iconst 1, 1) := by decide +kernel
theorem dX11_about_18 : decode cX11_about 18 = .ok (.putfield 159, 3) := by decide +kernel
theorem dX11_about_21 : decode cX11_about 21 = .ok (.iload_n 1, 1) := by decide +kernel
theorem dX11_about_22 : decode cX11_about 22 = .ok (.tableswitch 94 0 4 #[34, 39, 44, 49, 89], 34) := by decide +kernel
theorem dX11_about_56 : decode cX11_about 56 = .ok (.aload_n 0, 1) := by decide +kernel
theorem dX11_about_57 : decode cX11_about 57 = .ok (.getfield 167, 3) := by decide +kernel
theorem dX11_about_60 : decode cX11_about 60 = .ok (.ireturn, 1) := by decide +kernel
theorem dX11_about_61 : decode cX11_about 61 = .ok (.aload_n 0, 1) := by decide +kernel
theorem dX11_about_62 : decode cX11_about 62 = .ok (.getfield 144, 3) := by decide +kernel
theorem dX11_about_65 : decode cX11_about 65 = .ok (.ireturn, 1) := by decide +kernel
theorem dX11_about_66 : decode cX11_about 66 = .ok (.aload_n 0, 1) := by decide +kernel
theorem dX11_about_67 : decode cX11_about 67 = .ok (.getfield 268, 3) := by decide +kernel
theorem dX11_about_70 : decode cX11_about 70 = .ok (.ireturn, 1) := by decide +kernel
theorem dX11_about_71 : decode cX11_about 71 = .ok (.aload_n 0, 1) := by decide +kernel
theorem dX11_about_72 : decode cX11_about 72 = .ok (.getfield 92, 3) := by decide +kernel
theorem dX11_about_75 : decode cX11_about 75 = .ok (.iconst 0, 1) := by decide +kernel
theorem dX11_about_76 : decode cX11_about 76 = .ok (.iaload, 1) := by decide +kernel
theorem dX11_about_77 : decode cX11_about 77 = .ok (.aload_n 0, 1) := by decide +kernel
theorem dX11_about_78 : decode cX11_about 78 = .ok (.getfield 92, 3) := by decide +kernel
theorem dX11_about_81 : decode cX11_about 81 = .ok (.iconst 1, 1) := by decide +kernel
theorem dX11_about_82 : decode cX11_about 82 = .ok (.iaload, 1) := by decide +kernel
theorem dX11_about_83 : decode cX11_about 83 = .ok (.ior, 1) := by decide +kernel
theorem dX11_about_84 : decode cX11_about 84 = .ok (.aload_n 0, 1) := by decide +kernel
theorem dX11_about_85 : decode cX11_about 85 = .ok (.getfield 92, 3) := by decide +kernel
theorem dX11_about_88 : decode cX11_about 88 = .ok (.iconst 2, 1) := by decide +kernel
theorem dX11_about_89 : decode cX11_about 89 = .ok (.iaload, 1) := by decide +kernel
theorem dX11_about_90 : decode cX11_about 90 = .ok (.ior, 1) := by decide +kernel
theorem dX11_about_91 : decode cX11_about 91 = .ok (.ifCond .eq 18, 3) := by decide +kernel
theorem dX11_about_94 : decode cX11_about 94 = .ok (.aload_n 0, 1) := by decide +kernel
theorem dX11_about_95 : decode cX11_about 95 = .ok (.getfield 167, 3) := by decide +kernel
theorem dX11_about_98 : decode cX11_about 98 = .ok (.aload_n 0, 1) := by decide +kernel
theorem dX11_about_99 : decode cX11_about 99 = .ok (.getfield 265, 3) := by decide +kernel
theorem dX11_about_102 : decode cX11_about 102 = .ok (.if_icmp .lt 7, 3) := by decide +kernel
theorem dX11_about_105 : decode cX11_about 105 = .ok (.iconst 1, 1) := by decide +kernel
theorem dX11_about_106 : decode cX11_about 106 = .ok (.goto 4, 3) := by decide +kernel
theorem dX11_about_109 : decode cX11_about 109 = .ok (.iconst 0, 1) := by decide +kernel
theorem dX11_about_110 : decode cX11_about 110 = .ok (.ireturn, 1) := by decide +kernel
theorem dX11_about_111 : decode cX11_about 111 = .ok (.aload_n 0, 1) := by decide +kernel
theorem dX11_about_112 : decode cX11_about 112 = .ok (.getfield 164, 3) := by decide +kernel
theorem dX11_about_115 : decode cX11_about 115 = .ok (.ireturn, 1) := by decide +kernel
theorem dX11_about_116 : decode cX11_about 116 = .ok (.iconst 0, 1) := by decide +kernel
theorem dX11_about_117 : decode cX11_about 117 = .ok (.ireturn, 1) := by decide +kernel
set_option maxRecDepth 20000 in
theorem ggX11_channel_X11_isIn : GoodIn wsX11_channel wsX11_isIn := goodIn_r _ [22] (by decide +kernel) (by decide +kernel)
set_option maxRecDepth 20000 in
theorem gX11_channel_X11_isIn : GoodIn wsX11_channel (va_wsS RX11 174 yX11_isIn wsX11_isIn) := goodIn_app (goodIn_of _ (by decide +kernel)) ggX11_channel_X11_isIn
theorem dX11_channel_0 : decode cX11_channel 0 = .ok (.aload_n 0, 1) := by decide +kernel
theorem dX11_channel_1 : decode cX11_channel 1 = .ok (.iload_n 1, 1) := by decide +kernel
theorem dX11_channel_2 : decode cX11_channel 2 = .ok (.i2l, 1) := by decide +kernel
theorem dX11_channel_3 : decode cX11_channel 3 = .ok (.lconst 0, 1) := by decide +kernel
theorem dX11_channel_4 : decode cX11_channel 4 = .ok (.ldc2_w 206, 3) := by decide +kernel
theorem dX11_channel_7 : decode cX11_channel 7 = .ok (.invokestatic 174, 3) := by decide +kernel
theorem dX11_channel_10 : decode cX11_channel 10 = .ok (.ifCond .eq 19, 3) := by decide +kernel
theorem dX11_channel_13 : decode cX11_channel 13 = .ok (.iload_n 2, 1) := by decide +kernel
theorem dX11_channel_14 : decode cX11_channel 14 = .ok (.i2l, 1) := by decide +kernel
theorem dX11_channel_15 : decode cX11_channel 15 = .ok (.lconst 0, 1) := by decide +kernel
theorem dX11_channel_16 : decode cX11_channel 16 = .ok (.ldc2_w 318, 3) := by decide +kernel
theorem dX11_channel_19 : decode cX11_channel 19 = .ok (.invokestatic 174, 3) := by decide +kernel
theorem dX11_channel_22 : decode cX11_channel 22 = .ok (.ifCond .eq 7, 3) := by decide +kernel
theorem dX11_channel_25 : decode cX11_channel 25 = .ok (.iconst 0, 1) := by decide +kernel
theorem dX11_channel_26 : decode cX11_channel 26 = .ok (.goto 4, 3) := by decide +kernel
theorem dX11_channel_29 : decode cX11_channel 29 = .ok (.iconst 1, 1) := by decide +kernel
theorem dX11_channel_30 : decode cX11_channel 30 = .ok (.putfield 159, 3) := by decide +kernel
theorem dX11_channel_33 : decode cX11_channel 33 = .ok (.aload_n 0, 1) := by decide +kernel
theorem dX11_channel_34 : decode cX11_channel 34 = .ok (.getfield 159, 3) := by decide +kernel
theorem dX11_channel_37 : decode cX11_channel 37 = .ok (.ifCond .le 5, 3) := by decide +kernel
theorem dX11_channel_40 : decode cX11_channel 40 = .ok (.iconst 0, 1) := by decide +kernel
theorem dX11_channel_41 : decode cX11_channel 41 = .ok (.ireturn, 1) := by decide +kernel
theorem dX11_channel_42 : decode cX11_channel 42 = .ok (.iload_n 2, 1) := by decide +kernel
theorem dX11_channel_43 : decode cX11_channel 43 = .ok (.tableswitch 188 0 13 #[69, 76, 83, 103, 110, 117, 124, 131, 138, 145, 152, 159, 174, 181], 69) := by decide +kernel
theorem dX11_channel_112 : decode cX11_channel 112 = .ok (.aload_n 0, 1) := by decide +kernel
theorem dX11_channel_113 : decode cX11_channel 113 = .ok (.getfield 47, 3) := by decide +kernel
theorem dX11_channel_116 : decode cX11_channel 116 = .ok (.iload_n 1, 1) := by decide +kernel
theorem dX11_channel_117 : decode cX11_channel 117 = .ok (.iaload, 1) := by decide +kernel
theorem dX11_channel_118 : decode cX11_channel 118 = .ok (.ireturn, 1) := by decide +kernel
theorem dX11_channel_119 : decode cX11_channel 119 = .ok (.aload_n 0, 1) := by decide +kernel
theorem dX11_channel_120 : decode cX11_channel 120 = .ok (.getfield 92, 3) := by decide +kernel
theorem dX11_channel_123 : decode cX11_channel 123 = .ok (.iload_n 1, 1) := by decide +kernel
theorem dX11_channel_124 : decode cX11_channel 124 = .ok (.iaload, 1) := by decide +kernel
theorem dX11_channel_125 : decode cX11_channel 125 = .ok (.ireturn, 1) := by decide +kernel
theorem dX11_channel_126 : decode cX11_channel 126 = .ok (.aload_n 0, 1) := by decide +kernel
theorem dX11_channel_127 : decode cX11_channel 127 = .ok (.getfield 53, 3) := by decide +kernel
theorem dX11_channel_130 : decode cX11_channel 130 = .ok (.iload_n 1, 1) := by decide +kernel
theorem dX11_channel_131 : decode cX11_channel 131 = .ok (.iaload, 1) := by decide +kernel
theorem dX11_channel_132 : decode cX11_channel 132 = .ok (.ifCond .ge 7, 3) := by decide +kernel
theorem dX11_channel_135 : decode cX11_channel 135 = .ok (.iconst 0, 1) := by decide +kernel
theorem dX11_channel_136 : decode cX11_channel 136 = .ok (.goto 9, 3) := by decide +kernel
theorem dX11_channel_139 : decode cX11_channel 139 = .ok (.aload_n 0, 1) := by decide +kernel
theorem dX11_channel_140 : decode cX11_channel 140 = .ok (.getfield 56, 3) := by decide +kernel
theorem dX11_channel_143 : decode cX11_channel 143 = .ok (.iload_n 1, 1) := by decide +kernel
theorem dX11_channel_144 : decode cX11_channel 144 = .ok (.iaload, 1) := by decide +kernel
theorem dX11_channel_145 : decode cX11_channel 145 = .ok (.ireturn, 1) := by decide +kernel
theorem dX11_channel_146 : decode cX11_channel 146 = .ok (.aload_n 0, 1) := by decide +kernel
theorem dX11_channel_147 : decode cX11_channel 147 = .ok (.getfield 59, 3) := by decide +kernel
theorem dX11_channel_150 : decode cX11_channel 150 = .ok (.iload_n 1, 1) := by decide +kernel
theorem dX11_channel_151 : decode cX11_channel 151 = .ok (.iaload, 1) := by decide +kernel
theorem dX11_channel_152 : decode cX11_channel 152 = .ok (.ireturn, 1) := by decide +kernel
theorem dX11_channel_153 : decode cX11_channel 153 = .ok (.aload_n 0, 1) := by decide +kernel
theorem dX11_channel_154 : decode cX11_channel 154 = .ok (.getfield 62, 3) := by decide +kernel
theorem dX11_channel_157 : decode cX11_channel 157 = .ok (.iload_n 1, 1) := by decide +kernel
theorem dX11_channel_158 : decode cX11_channel 158 = .ok (.iaload, 1) := by decide +kernel
theorem dX11_channel_159 : decode cX11_channel 159 = .ok (.ireturn, 1) := by decide +kernel
theorem dX11_channel_160 : decode cX11_channel 160 = .ok (.aload_n 0, 1) := by decide +kernel
theorem dX11_channel_161 : decode cX11_channel 161 = .ok (.getfield 65, 3) := by decide +kernel
theorem dX11_channel_164 : decode cX11_channel 164 = .ok (.iload_n 1, 1) := by decide +kernel
theorem dX11_channel_165 : decode cX11_channel 165 = .ok (.iaload, 1) := by decide +kernel
theorem dX11_channel_166 : decode cX11_channel 166 = .ok (.ireturn, 1) := by decide +kernel
theorem dX11_channel_167 : decode cX11_channel 167 = .ok (.aload_n 0, 1) := by decide +kernel
theorem dX11_channel_168 : decode cX11_channel 168 = .ok (.getfield 68, 3) := by decide +kernel
theorem dX11_channel_171 : decode cX11_channel 171 = .ok (.iload_n 1, 1) := by decide +kernel
theorem dX11_channel_172 : decode cX11_channel 172 = .ok (.iaload, 1) := by decide +kernel
theorem dX11_channel_173 : decode cX11_channel 173 = .ok (.ireturn, 1) := by decide +kernel
theorem dX11_channel_174 : decode cX11_channel 174 = .ok (.aload_n 0, 1) := by decide +kernel
theorem dX11_channel_175 : decode cX11_channel 175 = .ok (.getfield 113, 3) := by decide +kernel
theorem dX11_channel_178 : decode cX11_channel 178 = .ok (.iload_n 1, 1) := by decide +kernel
theorem dX11_channel_179 : decode cX11_channel 179 = .ok (.iaload, 1) := by decide +kernel
theorem dX11_channel_180 : decode cX11_channel 180 = .ok (.ireturn, 1) := by decide +kernel
theorem dX11_channel_181 : decode cX11_channel 181 = .ok (.aload_n 0, 1) := by decide +kernel
theorem dX11_channel_182 : decode cX11_channel 182 = .ok (.getfield 83, 3) := by decide +kernel
theorem dX11_channel_185 : decode cX11_channel 185 = .ok (.iload_n 1, 1) := by decide +kernel
theorem dX11_channel_186 : decode cX11_channel 186 = .ok (.iaload, 1) := by decide +kernel
theorem dX11_channel_187 : decode cX11_channel 187 = .ok (.ireturn, 1) := by decide +kernel
theorem dX11_channel_188 : decode cX11_channel 188 = .ok (.aload_n 0, 1) := by decide +kernel
theorem dX11_channel_189 : decode cX11_channel 189 = .ok (.getfield 89, 3) := by decide +kernel
theorem dX11_channel_192 : decode cX11_channel 192 = .ok (.iload_n 1, 1) := by decide +kernel
theorem dX11_channel_193 : decode cX11_channel 193 = .ok (.iaload, 1) := by decide +kernel
theorem dX11_channel_194 : decode cX11_channel 194 = .ok (.ireturn, 1) := by decide +kernel
theorem dX11_channel_195 : decode cX11_channel 195 = .ok (.aload_n 0, 1) := by decide +kernel
theorem dX11_channel_196 : decode cX11_channel 196 = .ok (.getfield 119, 3) := by decide +kernel
theorem dX11_channel_199 : decode cX11_channel 199 = .ok (.iload_n 1, 1) := by decide +kernel
theorem dX11_channel_200 : decode cX11_channel 200 = .ok (.iaload, 1) := by decide +kernel
theorem dX11_channel_201 : decode cX11_channel 201 = .ok (.ireturn, 1) := by decide +kernel
theorem dX11_channel_202 : decode cX11_channel 202 = .ok (.aload_n 0, 1) := by decide +kernel
theorem dX11_channel_203 : decode cX11_channel 203 = .ok (.getfield 95, 3) := by decide +kernel
theorem dX11_channel_206 : decode cX11_channel 206 = .ok (.iload_n 1, 1) := by decide +kernel
theorem dX11_channel_207 : decode cX11_channel 207 = .ok (.baload, 1) := by decide +kernel
theorem dX11_channel_208 : decode cX11_channel 208 = .ok (.ifCond .eq 7, 3) := by decide +kernel
theorem dX11_channel_211 : decode cX11_channel 211 = .ok (.iconst 1, 1) := by decide +kernel
theorem dX11_channel_212 : decode cX11_channel 212 = .ok (.goto 4, 3) := by decide +kernel
theorem dX11_channel_215 : decode cX11_channel 215 = .ok (.iconst 0, 1) := by decide +kernel
theorem dX11_channel_216 : decode cX11_channel 216 = .ok (.ireturn, 1) := by decide +kernel
theorem dX11_channel_217 : decode cX11_channel 217 = .ok (.aload_n 0, 1) := by decide +kernel
theorem dX11_channel_218 : decode cX11_channel 218 = .ok (.getfield 116, 3) := by decide +kernel
theorem dX11_channel_221 : decode cX11_channel 221 = .ok (.iload_n 1, 1) := by decide +kernel
theorem dX11_channel_222 : decode cX11_channel 222 = .ok (.iaload, 1) := by decide +kernel
theorem dX11_channel_223 : decode cX11_channel 223 = .ok (.ireturn, 1) := by decide +kernel
theorem dX11_channel_224 : decode cX11_channel 224 = .ok (.aload_n 0, 1) := by decide +kernel
theorem dX11_channel_225 : decode cX11_channel 225 = .ok (.getfield 53, 3) := by decide +kernel
theorem dX11_channel_228 : decode cX11_channel 228 = .ok (.iload_n 1, 1) := by decide +kernel
theorem dX11_channel_229 : decode cX11_channel 229 = .ok (.iaload, 1) := by decide +kernel
theorem dX11_channel_230 : decode cX11_channel 230 = .ok (.ireturn, 1) := by decide +kernel
theorem dX11_channel_231 : decode cX11_channel 231 = .ok (.aload_n 0, 1) := by decide +kernel
theorem dX11_channel_232 : decode cX11_channel 232 = .ok (.getfield 101, 3) := by decide +kernel
theorem dX11_channel_235 : decode cX11_channel 235 = .ok (.iload_n 1, 1) := by decide +kernel
theorem dX11_channel_236 : decode cX11_channel 236 = .ok (.iaload, 1) := by decide +kernel
theorem dX11_channel_237 : decode cX11_channel 237 = .ok (.ireturn, 1) := by decide +kernel
set_option maxRecDepth 20000 in
theorem ggX11_entry_X11_isIn : GoodIn wsX11_entry wsX11_isIn := goodIn_r _ [11] (by decide +kernel) (by decide +kernel)
set_option maxRecDepth 20000 in
theorem gX11_entry_X11_isIn : GoodIn wsX11_entry (va_wsS RX11 174 yX11_isIn wsX11_isIn) := goodIn_app (goodIn_of _ (by decide +kernel)) ggX11_entry_X11_isIn
set_option maxRecDepth 20000 in
theorem ggX11_entry_X11_isEntry : GoodIn wsX11_entry wsX11_isEntry := goodIn_r _ [15, 16, 28, 29, 30, 31, 32, 33, 34, 35, 36, 37, 38, 39, 40, 41, 42, 43, 44, 45, 46, 47, 48, 49, 50, 51, 52, 53, 54, 55, 56, 57, 58, 59, 60, 61, 62, 63, 64, 65, 66, 67, 68, 69, 70, 71, 72, 73, 74, 75, 76, 77, 78, 79, 80] (by decide +kernel) (by decide +kernel)
set_option maxRecDepth 20000 in
theorem gX11_entry_X11_isEntry : GoodIn wsX11_entry (wsV RX11 240 RX11 yX11_isEntry wsX11_isEntry) := goodIn_app (goodIn_of _ (by decide +kernel)) ggX11_entry_X11_isEntry
set_option maxRecDepth 20000 in
theorem ggX11_entry_X11_number : GoodIn wsX11_entry wsX11_number := goodIn_r _ [20, 5, 4, 21, 22, 23, 24, 10, 25, 16, 26, 27, 28, 29, 30, 31, 32, 33, 34, 35, 36, 37, 38, 39, 40, 41, 42, 43, 44, 45, 46, 47, 48, 49, 50, 51, 52, 53, 54, 55, 56, 57, 58, 59, 60, 61, 62, 63, 64, 65, 66, 67, 68, 69, 70, 71, 72, 73, 74, 75, 76, 77, 78, 79, 80] (by decide +kernel) (by decide +kernel)
set_option maxRecDepth 20000 in
theorem gX11_entry_X11_number : GoodIn wsX11_entry (wsV RX11 226 RX11 yX11_number wsX11_number) := goodIn_app (goodIn_of _ (by decide +kernel)) ggX11_entry_X11_number
theorem dX11_entry_0 : decode cX11_entry 0 = .ok (.aload_n 0, 1) := by decide +kernel
theorem dX11_entry_1 : decode cX11_entry 1 = .ok (.iload_n 1, 1) := by decide +kernel
theorem dX11_entry_2 : decode cX11_entry 2 = .ok (.i2l, 1) := by decide +kernel
theorem dX11_entry_3 : decode cX11_entry 3 = .ok (.lconst 0, 1) := by decide +kernel
theorem dX11_entry_4 : decode cX11_entry 4 = .ok (.ldc2_w 206, 3) := by decide +kernel
theorem dX11_entry_7 : decode cX11_entry 7 = .ok (.invokestatic 174, 3) := by decide +kernel
theorem dX11_entry_10 : decode cX11_entry 10 = .ok (.ifCond .eq 7, 3) := by decide +kernel
theorem dX11_entry_13 : decode cX11_entry 13 = .ok (.iconst 0, 1) := by decide +kernel
theorem dX11_entry_14 : decode cX11_entry 14 = .ok (.goto 4, 3) := by decide +kernel
theorem dX11_entry_17 : decode cX11_entry 17 = .ok (.iconst 1, 1) := by decide +kernel
theorem dX11_entry_18 : decode cX11_entry 18 = .ok (.putfield 159, 3) := by decide +kernel
theorem dX11_entry_21 : decode cX11_entry 21 = .ok (.aload_n 0, 1) := by decide +kernel
theorem dX11_entry_22 : decode cX11_entry 22 = .ok (.getfield 268, 3) := by decide +kernel
theorem dX11_entry_25 : decode cX11_entry 25 = .ok (.istore_n 2, 1) := by decide +kernel
theorem dX11_entry_26 : decode cX11_entry 26 = .ok (.aload_n 0, 1) := by decide +kernel
theorem dX11_entry_27 : decode cX11_entry 27 = .ok (.getfield 159, 3) := by decide +kernel
theorem dX11_entry_30 : decode cX11_entry 30 = .ok (.ifCond .gt 11, 3) := by decide +kernel
theorem dX11_entry_33 : decode cX11_entry 33 = .ok (.aload_n 0, 1) := by decide +kernel
theorem dX11_entry_34 : decode cX11_entry 34 = .ok (.iload_n 2, 1) := by decide +kernel
theorem dX11_entry_35 : decode cX11_entry 35 = .ok (.invokevirtual 240, 3) := by decide +kernel
theorem dX11_entry_38 : decode cX11_entry 38 = .ok (.ifCond .ne 5, 3) := by decide +kernel
theorem dX11_entry_41 : decode cX11_entry 41 = .ok (.iconst 0, 1) := by decide +kernel
theorem dX11_entry_42 : decode cX11_entry 42 = .ok (.ireturn, 1) := by decide +kernel
theorem dX11_entry_43 : decode cX11_entry 43 = .ok (.iload_n 1, 1) := by decide +kernel
theorem dX11_entry_44 : decode cX11_entry 44 = .ok (.ifCond .ne 24, 3) := by decide +kernel
theorem dX11_entry_47 : decode cX11_entry 47 = .ok (.aload_n 0, 1) := by decide +kernel
theorem dX11_entry_48 : decode cX11_entry 48 = .ok (.getfield 134, 3) := by decide +kernel
theorem dX11_entry_51 : decode cX11_entry 51 = .ok (.iload_n 2, 1) := by decide +kernel
theorem dX11_entry_52 : decode cX11_entry 52 = .ok (.iaload, 1) := by decide +kernel
theorem dX11_entry_53 : decode cX11_entry 53 = .ok (.ifCond .ne 7, 3) := by decide +kernel
theorem dX11_entry_56 : decode cX11_entry 56 = .ok (.iconst 0, 1) := by decide +kernel
theorem dX11_entry_57 : decode cX11_entry 57 = .ok (.goto 51, 3) := by decide +kernel
theorem dX11_entry_60 : decode cX11_entry 60 = .ok (.aload_n 0, 1) := by decide +kernel
theorem dX11_entry_61 : decode cX11_entry 61 = .ok (.iload_n 2, 1) := by decide +kernel
theorem dX11_entry_62 : decode cX11_entry 62 = .ok (.invokevirtual 226, 3) := by decide +kernel
theorem dX11_entry_65 : decode cX11_entry 65 = .ok (.goto 43, 3) := by decide +kernel
theorem dX11_entry_68 : decode cX11_entry 68 = .ok (.iload_n 1, 1) := by decide +kernel
theorem dX11_entry_69 : decode cX11_entry 69 = .ok (.iconst 1, 1) := by decide +kernel
theorem dX11_entry_70 : decode cX11_entry 70 = .ok (.if_icmp .ne 27, 3) := by decide +kernel
theorem dX11_entry_73 : decode cX11_entry 73 = .ok (.aload_n 0, 1) := by decide +kernel
theorem dX11_entry_74 : decode cX11_entry 74 = .ok (.getfield 134, 3) := by decide +kernel
theorem dX11_entry_77 : decode cX11_entry 77 = .ok (.iload_n 2, 1) := by decide +kernel
theorem dX11_entry_78 : decode cX11_entry 78 = .ok (.iaload, 1) := by decide +kernel
theorem dX11_entry_79 : decode cX11_entry 79 = .ok (.aload_n 0, 1) := by decide +kernel
theorem dX11_entry_80 : decode cX11_entry 80 = .ok (.getfield 137, 3) := by decide +kernel
theorem dX11_entry_83 : decode cX11_entry 83 = .ok (.iload_n 2, 1) := by decide +kernel
theorem dX11_entry_84 : decode cX11_entry 84 = .ok (.iaload, 1) := by decide +kernel
theorem dX11_entry_85 : decode cX11_entry 85 = .ok (.ifCond .ge 7, 3) := by decide +kernel
theorem dX11_entry_88 : decode cX11_entry 88 = .ok (.iconst 0, 1) := by decide +kernel
theorem dX11_entry_89 : decode cX11_entry 89 = .ok (.goto 4, 3) := by decide +kernel
theorem dX11_entry_92 : decode cX11_entry 92 = .ok (.iconst 1, 1) := by decide +kernel
theorem dX11_entry_93 : decode cX11_entry 93 = .ok (.iadd, 1) := by decide +kernel
theorem dX11_entry_94 : decode cX11_entry 94 = .ok (.goto 14, 3) := by decide +kernel
theorem dX11_entry_97 : decode cX11_entry 97 = .ok (.aload_n 0, 1) := by decide +kernel
theorem dX11_entry_98 : decode cX11_entry 98 = .ok (.getfield 167, 3) := by decide +kernel
theorem dX11_entry_101 : decode cX11_entry 101 = .ok (.aload_n 0, 1) := by decide +kernel
theorem dX11_entry_102 : decode cX11_entry 102 = .ok (.getfield 140, 3) := by decide +kernel
theorem dX11_entry_105 : decode cX11_entry 105 = .ok (.iload_n 2, 1) := by decide +kernel
theorem dX11_entry_106 : decode cX11_entry 106 = .ok (.iaload, 1) := by decide +kernel
theorem dX11_entry_107 : decode cX11_entry 107 = .ok (.isub, 1) := by decide +kernel
theorem dX11_entry_108 : decode cX11_entry 108 = .ok (.ireturn, 1) := by decide +kernel
theorem dX11_whole_0 : decode cX11_whole 0 = .ok (.lload_n 0, 1) := by decide +kernel
theorem dX11_whole_1 : decode cX11_whole 1 = .ok (.ldc2_w 320, 3) := by decide +kernel
theorem dX11_whole_4 : decode cX11_whole 4 = .ok (.lcmp, 1) := by decide +kernel
theorem dX11_whole_5 : decode cX11_whole 5 = .ok (.ifCond .le 9, 3) := by decide +kernel
theorem dX11_whole_8 : decode cX11_whole 8 = .ok (.ldc_w 322, 3) := by decide +kernel
theorem dX11_whole_11 : decode cX11_whole 11 = .ok (.goto 5, 3) := by decide +kernel
theorem dX11_whole_14 : decode cX11_whole 14 = .ok (.lload_n 0, 1) := by decide +kernel
theorem dX11_whole_15 : decode cX11_whole 15 = .ok (.l2i, 1) := by decide +kernel
theorem dX11_whole_16 : decode cX11_whole 16 = .ok (.ireturn, 1) := by decide +kernel
set_option maxRecDepth 20000 in
theorem ggX11_rate_X11_isDrug : GoodIn wsX11_rate wsX11_isDrug := goodIn_r _ [9, 10, 11, 12, 13, 8, 14, 28, 29, 30, 31, 32, 33, 34, 35, 36, 37, 38, 39, 40, 41, 42, 43, 44, 45, 46, 47, 48, 49, 50, 51, 52, 53, 54, 55, 56, 57, 58, 59, 60, 61, 62, 63, 64, 65, 66, 67, 68, 69, 70, 71, 72, 73, 74, 75, 76, 77, 78, 79, 80] (by decide +kernel) (by decide +kernel)
set_option maxRecDepth 20000 in
theorem gX11_rate_X11_isDrug : GoodIn wsX11_rate (wsV RX11 199 RX11 yX11_isDrug wsX11_isDrug) := goodIn_app (goodIn_of _ (by decide +kernel)) ggX11_rate_X11_isDrug
set_option maxRecDepth 20000 in
theorem ggX11_rate_X11_isIn : GoodIn wsX11_rate wsX11_isIn := goodIn_r _ [14] (by decide +kernel) (by decide +kernel)
set_option maxRecDepth 20000 in
theorem gX11_rate_X11_isIn : GoodIn wsX11_rate (va_wsS RX11 174 yX11_isIn wsX11_isIn) := goodIn_app (goodIn_of _ (by decide +kernel)) ggX11_rate_X11_isIn
set_option maxRecDepth 20000 in
theorem ggX11_rate_X11_rateOf : GoodIn wsX11_rate wsX11_rateOf := goodIn_r _ [18, 19, 20, 2, 21, 22, 28, 29, 30, 31, 32, 33, 34, 35, 36, 37, 38, 39, 40, 41, 42, 43, 44, 45, 46, 47, 48, 49, 50, 51, 52, 53, 54, 55, 56, 57, 58, 59, 60, 61, 62, 63, 64, 65, 66, 67, 68, 69, 70, 71, 72, 73, 74, 75, 76, 77, 78, 79, 80] (by decide +kernel) (by decide +kernel)
set_option maxRecDepth 20000 in
theorem gX11_rate_X11_rateOf : GoodIn wsX11_rate (wsV RX11 231 RX11 yX11_rateOf wsX11_rateOf) := goodIn_app (goodIn_of _ (by decide +kernel)) ggX11_rate_X11_rateOf
set_option maxRecDepth 20000 in
theorem ggX11_rate_X11_whole : GoodIn wsX11_rate wsX11_whole := goodIn_r _ [25, 26, 27] (by decide +kernel) (by decide +kernel)
set_option maxRecDepth 20000 in
theorem gX11_rate_X11_whole : GoodIn wsX11_rate (va_wsS RX11 323 yX11_whole wsX11_whole) := goodIn_app (goodIn_of _ (by decide +kernel)) ggX11_rate_X11_whole
theorem dX11_rate_0 : decode cX11_rate 0 = .ok (.aload_n 0, 1) := by decide +kernel
theorem dX11_rate_1 : decode cX11_rate 1 = .ok (.aload_n 0, 1) := by decide +kernel
theorem dX11_rate_2 : decode cX11_rate 2 = .ok (.iload_n 1, 1) := by decide +kernel
theorem dX11_rate_3 : decode cX11_rate 3 = .ok (.invokevirtual 199, 3) := by decide +kernel
theorem dX11_rate_6 : decode cX11_rate 6 = .ok (.ifCond .ne 7, 3) := by decide +kernel
theorem dX11_rate_9 : decode cX11_rate 9 = .ok (.iconst 1, 1) := by decide +kernel
theorem dX11_rate_10 : decode cX11_rate 10 = .ok (.goto 34, 3) := by decide +kernel
theorem dX11_rate_13 : decode cX11_rate 13 = .ok (.iload_n 2, 1) := by decide +kernel
theorem dX11_rate_14 : decode cX11_rate 14 = .ok (.i2l, 1) := by decide +kernel
theorem dX11_rate_15 : decode cX11_rate 15 = .ok (.lconst 1, 1) := by decide +kernel
theorem dX11_rate_16 : decode cX11_rate 16 = .ok (.ldc2_w 180, 3) := by decide +kernel
theorem dX11_rate_19 : decode cX11_rate 19 = .ok (.invokestatic 174, 3) := by decide +kernel
theorem dX11_rate_22 : decode cX11_rate 22 = .ok (.ifCond .eq 17, 3) := by decide +kernel
theorem dX11_rate_25 : decode cX11_rate 25 = .ok (.iload_n 3, 1) := by decide +kernel
theorem dX11_rate_26 : decode cX11_rate 26 = .ok (.i2l, 1) := by decide +kernel
theorem dX11_rate_27 : decode cX11_rate 27 = .ok (.ldc2_w 204, 3) := by decide +kernel
theorem dX11_rate_30 : decode cX11_rate 30 = .ok (.ldc2_w 229, 3) := by decide +kernel
theorem dX11_rate_33 : decode cX11_rate 33 = .ok (.invokestatic 174, 3) := by decide +kernel
theorem dX11_rate_36 : decode cX11_rate 36 = .ok (.ifCond .ne 7, 3) := by decide +kernel
theorem dX11_rate_39 : decode cX11_rate 39 = .ok (.iconst 2, 1) := by decide +kernel
theorem dX11_rate_40 : decode cX11_rate 40 = .ok (.goto 4, 3) := by decide +kernel
theorem dX11_rate_43 : decode cX11_rate 43 = .ok (.iconst 0, 1) := by decide +kernel
theorem dX11_rate_44 : decode cX11_rate 44 = .ok (.putfield 159, 3) := by decide +kernel
theorem dX11_rate_47 : decode cX11_rate 47 = .ok (.aload_n 0, 1) := by decide +kernel
theorem dX11_rate_48 : decode cX11_rate 48 = .ok (.getfield 159, 3) := by decide +kernel
theorem dX11_rate_51 : decode cX11_rate 51 = .ok (.ifCond .le 7, 3) := by decide +kernel
theorem dX11_rate_54 : decode cX11_rate 54 = .ok (.iconst 0, 1) := by decide +kernel
theorem dX11_rate_55 : decode cX11_rate 55 = .ok (.goto 13, 3) := by decide +kernel
theorem dX11_rate_58 : decode cX11_rate 58 = .ok (.aload_n 0, 1) := by decide +kernel
theorem dX11_rate_59 : decode cX11_rate 59 = .ok (.iload_n 1, 1) := by decide +kernel
theorem dX11_rate_60 : decode cX11_rate 60 = .ok (.iload_n 2, 1) := by decide +kernel
theorem dX11_rate_61 : decode cX11_rate 61 = .ok (.iload_n 3, 1) := by decide +kernel
theorem dX11_rate_62 : decode cX11_rate 62 = .ok (.invokevirtual 231, 3) := by decide +kernel
theorem dX11_rate_65 : decode cX11_rate 65 = .ok (.invokestatic 323, 3) := by decide +kernel
theorem dX11_rate_68 : decode cX11_rate 68 = .ok (.ireturn, 1) := by decide +kernel
set_option maxRecDepth 20000 in
theorem ggX11_log_X11_most : GoodIn wsX11_log wsX11_most := goodIn_r _ [8] (by decide +kernel) (by decide +kernel)
set_option maxRecDepth 20000 in
theorem gX11_log_X11_most : GoodIn wsX11_log (va_wsS RX11 293 yX11_most wsX11_most) := goodIn_app (goodIn_of _ (by decide +kernel)) ggX11_log_X11_most
set_option maxRecDepth 20000 in
theorem ggX11_log_X11_isIn : GoodIn wsX11_log wsX11_isIn := goodIn_r _ [11] (by decide +kernel) (by decide +kernel)
set_option maxRecDepth 20000 in
theorem gX11_log_X11_isIn : GoodIn wsX11_log (va_wsS RX11 174 yX11_isIn wsX11_isIn) := goodIn_app (goodIn_of _ (by decide +kernel)) ggX11_log_X11_isIn
theorem dX11_log_0 : decode cX11_log 0 = .ok (.aload_n 0, 1) := by decide +kernel
theorem dX11_log_1 : decode cX11_log 1 = .ok (.iload_n 1, 1) := by decide +kernel
theorem dX11_log_2 : decode cX11_log 2 = .ok (.i2l, 1) := by decide +kernel
theorem dX11_log_3 : decode cX11_log 3 = .ok (.iconst 0, 1) := by decide +kernel
theorem dX11_log_4 : decode cX11_log 4 = .ok (.aload_n 0, 1) := by decide +kernel
theorem dX11_log_5 : decode cX11_log 5 = .ok (.getfield 164, 3) := by decide +kernel
theorem dX11_log_8 : decode cX11_log 8 = .ok (.bipush 64, 2) := by decide +kernel
theorem dX11_log_10 : decode cX11_log 10 = .ok (.isub, 1) := by decide +kernel
theorem dX11_log_11 : decode cX11_log 11 = .ok (.invokestatic 293, 3) := by decide +kernel
theorem dX11_log_14 : decode cX11_log 14 = .ok (.i2l, 1) := by decide +kernel
theorem dX11_log_15 : decode cX11_log 15 = .ok (.aload_n 0, 1) := by decide +kernel
theorem dX11_log_16 : decode cX11_log 16 = .ok (.getfield 164, 3) := by decide +kernel
theorem dX11_log_19 : decode cX11_log 19 = .ok (.iconst 1, 1) := by decide +kernel
theorem dX11_log_20 : decode cX11_log 20 = .ok (.isub, 1) := by decide +kernel
