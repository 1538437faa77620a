theorem dX7_init_178 : decode cX7_init 178 = .ok (.iaload, 1) := by decide +kernel
theorem dX7_init_179 : decode cX7_init 179 = .ok (.bipush 8, 2) := by decide +kernel
theorem dX7_init_181 : decode cX7_init 181 = .ok (.iload_n 2, 1) := by decide +kernel
theorem dX7_init_182 : decode cX7_init 182 = .ok (.isub, 1) := by decide +kernel
theorem dX7_init_183 : decode cX7_init 183 = .ok (.ishr, 1) := by decide +kernel
theorem dX7_init_184 : decode cX7_init 184 = .ok (.iconst 1, 1) := by decide +kernel
theorem dX7_init_185 : decode cX7_init 185 = .ok (.iand, 1) := by decide +kernel
theorem dX7_init_186 : decode cX7_init 186 = .ok (.ifCond .eq 71, 3) := by decide +kernel
theorem dX7_init_189 : decode cX7_init 189 = .ok (.aload_n 0, 1) := by decide +kernel
theorem dX7_init_190 : decode cX7_init 190 = .ok (.getfield 22, 3) := by decide +kernel
theorem dX7_init_193 : decode cX7_init 193 = .ok (.iconst 3, 1) := by decide +kernel
theorem dX7_init_194 : decode cX7_init 194 = .ok (.iload_n 1, 1) := by decide +kernel
theorem dX7_init_195 : decode cX7_init 195 = .ok (.imul, 1) := by decide +kernel
theorem dX7_init_196 : decode cX7_init 196 = .ok (.aaload, 1) := by decide +kernel
theorem dX7_init_197 : decode cX7_init 197 = .ok (.iload_n 2, 1) := by decide +kernel
theorem dX7_init_198 : decode cX7_init 198 = .ok (.iconst 3, 1) := by decide +kernel
theorem dX7_init_199 : decode cX7_init 199 = .ok (.idiv, 1) := by decide +kernel
theorem dX7_init_200 : decode cX7_init 200 = .ok (.dup2, 1) := by decide +kernel
theorem dX7_init_201 : decode cX7_init 201 = .ok (.iaload, 1) := by decide +kernel
theorem dX7_init_202 : decode cX7_init 202 = .ok (.iconst 1, 1) := by decide +kernel
theorem dX7_init_203 : decode cX7_init 203 = .ok (.iload_n 2, 1) := by decide +kernel
theorem dX7_init_204 : decode cX7_init 204 = .ok (.iconst 3, 1) := by decide +kernel
theorem dX7_init_205 : decode cX7_init 205 = .ok (.irem, 1) := by decide +kernel
theorem dX7_init_206 : decode cX7_init 206 = .ok (.ishl, 1) := by decide +kernel
theorem dX7_init_207 : decode cX7_init 207 = .ok (.ior, 1) := by decide +kernel
theorem dX7_init_208 : decode cX7_init 208 = .ok (.iastore, 1) := by decide +kernel
theorem dX7_init_209 : decode cX7_init 209 = .ok (.aload_n 0, 1) := by decide +kernel
theorem dX7_init_210 : decode cX7_init 210 = .ok (.getfield 22, 3) := by decide +kernel
theorem dX7_init_213 : decode cX7_init 213 = .ok (.iconst 3, 1) := by decide +kernel
theorem dX7_init_214 : decode cX7_init 214 = .ok (.iload_n 1, 1) := by decide +kernel
theorem dX7_init_215 : decode cX7_init 215 = .ok (.imul, 1) := by decide +kernel
theorem dX7_init_216 : decode cX7_init 216 = .ok (.iconst 1, 1) := by decide +kernel
theorem dX7_init_217 : decode cX7_init 217 = .ok (.iadd, 1) := by decide +kernel
theorem dX7_init_218 : decode cX7_init 218 = .ok (.aaload, 1) := by decide +kernel
theorem dX7_init_219 : decode cX7_init 219 = .ok (.iload_n 2, 1) := by decide +kernel
theorem dX7_init_220 : decode cX7_init 220 = .ok (.iconst 3, 1) := by decide +kernel
theorem dX7_init_221 : decode cX7_init 221 = .ok (.idiv, 1) := by decide +kernel
theorem dX7_init_222 : decode cX7_init 222 = .ok (.dup2, 1) := by decide +kernel
theorem dX7_init_223 : decode cX7_init 223 = .ok (.iaload, 1) := by decide +kernel
theorem dX7_init_224 : decode cX7_init 224 = .ok (.iconst 1, 1) := by decide +kernel
theorem dX7_init_225 : decode cX7_init 225 = .ok (.iconst 2, 1) := by decide +kernel
theorem dX7_init_226 : decode cX7_init 226 = .ok (.iload_n 2, 1) := by decide +kernel
theorem dX7_init_227 : decode cX7_init 227 = .ok (.iconst 3, 1) := by decide +kernel
theorem dX7_init_228 : decode cX7_init 228 = .ok (.irem, 1) := by decide +kernel
theorem dX7_init_229 : decode cX7_init 229 = .ok (.isub, 1) := by decide +kernel
theorem dX7_init_230 : decode cX7_init 230 = .ok (.ishl, 1) := by decide +kernel
theorem dX7_init_231 : decode cX7_init 231 = .ok (.ior, 1) := by decide +kernel
theorem dX7_init_232 : decode cX7_init 232 = .ok (.iastore, 1) := by decide +kernel
theorem dX7_init_233 : decode cX7_init 233 = .ok (.aload_n 0, 1) := by decide +kernel
theorem dX7_init_234 : decode cX7_init 234 = .ok (.getfield 22, 3) := by decide +kernel
theorem dX7_init_237 : decode cX7_init 237 = .ok (.iconst 3, 1) := by decide +kernel
theorem dX7_init_238 : decode cX7_init 238 = .ok (.iload_n 1, 1) := by decide +kernel
theorem dX7_init_239 : decode cX7_init 239 = .ok (.imul, 1) := by decide +kernel
theorem dX7_init_240 : decode cX7_init 240 = .ok (.iconst 2, 1) := by decide +kernel
theorem dX7_init_241 : decode cX7_init 241 = .ok (.iadd, 1) := by decide +kernel
theorem dX7_init_242 : decode cX7_init 242 = .ok (.aaload, 1) := by decide +kernel
theorem dX7_init_243 : decode cX7_init 243 = .ok (.iconst 2, 1) := by decide +kernel
theorem dX7_init_244 : decode cX7_init 244 = .ok (.iload_n 2, 1) := by decide +kernel
theorem dX7_init_245 : decode cX7_init 245 = .ok (.iconst 3, 1) := by decide +kernel
theorem dX7_init_246 : decode cX7_init 246 = .ok (.idiv, 1) := by decide +kernel
theorem dX7_init_247 : decode cX7_init 247 = .ok (.isub, 1) := by decide +kernel
theorem dX7_init_248 : decode cX7_init 248 = .ok (.dup2, 1) := by decide +kernel
theorem dX7_init_249 : decode cX7_init 249 = .ok (.iaload, 1) := by decide +kernel
theorem dX7_init_250 : decode cX7_init 250 = .ok (.iconst 1, 1) := by decide +kernel
theorem dX7_init_251 : decode cX7_init 251 = .ok (.iload_n 2, 1) := by decide +kernel
theorem dX7_init_252 : decode cX7_init 252 = .ok (.iconst 3, 1) := by decide +kernel
theorem dX7_init_253 : decode cX7_init 253 = .ok (.irem, 1) := by decide +kernel
theorem dX7_init_254 : decode cX7_init 254 = .ok (.ishl, 1) := by decide +kernel
theorem dX7_init_255 : decode cX7_init 255 = .ok (.ior, 1) := by decide +kernel
theorem dX7_init_256 : decode cX7_init 256 = .ok (.iastore, 1) := by decide +kernel
theorem dX7_init_257 : decode cX7_init 257 = .ok (.iinc 2 1, 3) := by decide +kernel
theorem dX7_init_260 : decode cX7_init 260 = .ok (.goto (-92), 3) := by decide +kernel
theorem dX7_init_263 : decode cX7_init 263 = .ok (.iinc 1 1, 3) := by decide +kernel
theorem dX7_init_266 : decode cX7_init 266 = .ok (.goto (-106), 3) := by decide +kernel
theorem dX7_init_269 : decode cX7_init 269 = .ok (.return_, 1) := by decide +kernel
set_option maxRecDepth 20000 in
theorem ggX7_fillPoint_X7_isSecond : GoodIn wsX7_fillPoint wsX7_isSecond := goodIn_r _ [7, 8, 9, 10, 11, 12, 13, 6, 14] (by decide +kernel) (by decide +kernel)
set_option maxRecDepth 20000 in
theorem gX7_fillPoint_X7_isSecond : GoodIn wsX7_fillPoint (va_wsS RX7 65 yX7_isSecond wsX7_isSecond) := goodIn_app (goodIn_of _ (by decide +kernel)) ggX7_fillPoint_X7_isSecond
set_option maxRecDepth 20000 in
theorem ggX7_fillPoint_X7_isOnOrdinary : GoodIn wsX7_fillPoint wsX7_isOnOrdinary := goodIn_r _ [17, 8, 9, 10, 11, 12, 13, 6, 14, 18, 19, 20] (by decide +kernel) (by decide +kernel)
set_option maxRecDepth 20000 in
theorem gX7_fillPoint_X7_isOnOrdinary : GoodIn wsX7_fillPoint (va_wsS RX7 69 yX7_isOnOrdinary wsX7_isOnOrdinary) := goodIn_app (goodIn_of _ (by decide +kernel)) ggX7_fillPoint_X7_isOnOrdinary
set_option maxRecDepth 20000 in
theorem ggX7_fillPoint_X7_isInShape : GoodIn wsX7_fillPoint wsX7_isInShape := goodIn_r _ [23, 8, 9, 10, 11] (by decide +kernel) (by decide +kernel)
set_option maxRecDepth 20000 in
theorem gX7_fillPoint_X7_isInShape : GoodIn wsX7_fillPoint (va_wsS RX7 72 yX7_isInShape wsX7_isInShape) := goodIn_app (goodIn_of _ (by decide +kernel)) ggX7_fillPoint_X7_isInShape
theorem dX7_fillPoint_0 : decode cX7_fillPoint 0 = .ok (.iconst 0, 1) := by decide +kernel
theorem dX7_fillPoint_1 : decode cX7_fillPoint 1 = .ok (.istore_n 3, 1) := by decide +kernel
theorem dX7_fillPoint_2 : decode cX7_fillPoint 2 = .ok (.iload_n 3, 1) := by decide +kernel
theorem dX7_fillPoint_3 : decode cX7_fillPoint 3 = .ok (.iconst 3, 1) := by decide +kernel
theorem dX7_fillPoint_4 : decode cX7_fillPoint 4 = .ok (.if_icmp .ge 120, 3) := by decide +kernel
theorem dX7_fillPoint_7 : decode cX7_fillPoint 7 = .ok (.iconst 0, 1) := by decide +kernel
theorem dX7_fillPoint_8 : decode cX7_fillPoint 8 = .ok (.istore 4, 2) := by decide +kernel
theorem dX7_fillPoint_10 : decode cX7_fillPoint 10 = .ok (.iload 4, 2) := by decide +kernel
theorem dX7_fillPoint_12 : decode cX7_fillPoint 12 = .ok (.iconst 5, 1) := by decide +kernel
theorem dX7_fillPoint_13 : decode cX7_fillPoint 13 = .ok (.if_icmp .ge 49, 3) := by decide +kernel
theorem dX7_fillPoint_16 : decode cX7_fillPoint 16 = .ok (.aload_n 0, 1) := by decide +kernel
theorem dX7_fillPoint_17 : decode cX7_fillPoint 17 = .ok (.getfield 11, 3) := by decide +kernel
theorem dX7_fillPoint_20 : decode cX7_fillPoint 20 = .ok (.iconst 3, 1) := by decide +kernel
theorem dX7_fillPoint_21 : decode cX7_fillPoint 21 = .ok (.iload 4, 2) := by decide +kernel
theorem dX7_fillPoint_23 : decode cX7_fillPoint 23 = .ok (.imul, 1) := by decide +kernel
theorem dX7_fillPoint_24 : decode cX7_fillPoint 24 = .ok (.iload_n 3, 1) := by decide +kernel
theorem dX7_fillPoint_25 : decode cX7_fillPoint 25 = .ok (.iadd, 1) := by decide +kernel
theorem dX7_fillPoint_26 : decode cX7_fillPoint 26 = .ok (.aaload, 1) := by decide +kernel
theorem dX7_fillPoint_27 : decode cX7_fillPoint 27 = .ok (.iload_n 2, 1) := by decide +kernel
theorem dX7_fillPoint_28 : decode cX7_fillPoint 28 = .ok (.bipush 15, 2) := by decide +kernel
theorem dX7_fillPoint_30 : decode cX7_fillPoint 30 = .ok (.iand, 1) := by decide +kernel
theorem dX7_fillPoint_31 : decode cX7_fillPoint 31 = .ok (.dup2, 1) := by decide +kernel
theorem dX7_fillPoint_32 : decode cX7_fillPoint 32 = .ok (.iaload, 1) := by decide +kernel
theorem dX7_fillPoint_33 : decode cX7_fillPoint 33 = .ok (.bipush 11, 2) := by decide +kernel
theorem dX7_fillPoint_35 : decode cX7_fillPoint 35 = .ok (.iload 4, 2) := by decide +kernel
theorem dX7_fillPoint_37 : decode cX7_fillPoint 37 = .ok (.iadd, 1) := by decide +kernel
theorem dX7_fillPoint_38 : decode cX7_fillPoint 38 = .ok (.iload_n 3, 1) := by decide +kernel
theorem dX7_fillPoint_39 : decode cX7_fillPoint 39 = .ok (.iload_n 1, 1) := by decide +kernel
theorem dX7_fillPoint_40 : decode cX7_fillPoint 40 = .ok (.iload_n 2, 1) := by decide +kernel
theorem dX7_fillPoint_41 : decode cX7_fillPoint 41 = .ok (.invokestatic 65, 3) := by decide +kernel
theorem dX7_fillPoint_44 : decode cX7_fillPoint 44 = .ok (.ifCond .eq 9, 3) := by decide +kernel
theorem dX7_fillPoint_47 : decode cX7_fillPoint 47 = .ok (.iconst 1, 1) := by decide +kernel
theorem dX7_fillPoint_48 : decode cX7_fillPoint 48 = .ok (.iload_n 1, 1) := by decide +kernel
theorem dX7_fillPoint_49 : decode cX7_fillPoint 49 = .ok (.ishl, 1) := by decide +kernel
theorem dX7_fillPoint_50 : decode cX7_fillPoint 50 = .ok (.goto 4, 3) := by decide +kernel
theorem dX7_fillPoint_53 : decode cX7_fillPoint 53 = .ok (.iconst 0, 1) := by decide +kernel
theorem dX7_fillPoint_54 : decode cX7_fillPoint 54 = .ok (.ior, 1) := by decide +kernel
theorem dX7_fillPoint_55 : decode cX7_fillPoint 55 = .ok (.iastore, 1) := by decide +kernel
theorem dX7_fillPoint_56 : decode cX7_fillPoint 56 = .ok (.iinc 4 1, 3) := by decide +kernel
theorem dX7_fillPoint_59 : decode cX7_fillPoint 59 = .ok (.goto (-49), 3) := by decide +kernel
theorem dX7_fillPoint_62 : decode cX7_fillPoint 62 = .ok (.iconst 0, 1) := by decide +kernel
theorem dX7_fillPoint_63 : decode cX7_fillPoint 63 = .ok (.istore 4, 2) := by decide +kernel
theorem dX7_fillPoint_65 : decode cX7_fillPoint 65 = .ok (.iload 4, 2) := by decide +kernel
theorem dX7_fillPoint_67 : decode cX7_fillPoint 67 = .ok (.bipush 8, 2) := by decide +kernel
theorem dX7_fillPoint_69 : decode cX7_fillPoint 69 = .ok (.if_icmp .ge 49, 3) := by decide +kernel
theorem dX7_fillPoint_72 : decode cX7_fillPoint 72 = .ok (.aload_n 0, 1) := by decide +kernel
theorem dX7_fillPoint_73 : decode cX7_fillPoint 73 = .ok (.getfield 16, 3) := by decide +kernel
theorem dX7_fillPoint_76 : decode cX7_fillPoint 76 = .ok (.iconst 3, 1) := by decide +kernel
theorem dX7_fillPoint_77 : decode cX7_fillPoint 77 = .ok (.iload 4, 2) := by decide +kernel
theorem dX7_fillPoint_79 : decode cX7_fillPoint 79 = .ok (.imul, 1) := by decide +kernel
theorem dX7_fillPoint_80 : decode cX7_fillPoint 80 = .ok (.iload_n 3, 1) := by decide +kernel
theorem dX7_fillPoint_81 : decode cX7_fillPoint 81 = .ok (.iadd, 1) := by decide +kernel
theorem dX7_fillPoint_82 : decode cX7_fillPoint 82 = .ok (.aaload, 1) := by decide +kernel
theorem dX7_fillPoint_83 : decode cX7_fillPoint 83 = .ok (.iload_n 2, 1) := by decide +kernel
theorem dX7_fillPoint_84 : decode cX7_fillPoint 84 = .ok (.bipush 15, 2) := by decide +kernel
theorem dX7_fillPoint_86 : decode cX7_fillPoint 86 = .ok (.iand, 1) := by decide +kernel
theorem dX7_fillPoint_87 : decode cX7_fillPoint 87 = .ok (.dup2, 1) := by decide +kernel
theorem dX7_fillPoint_88 : decode cX7_fillPoint 88 = .ok (.iaload, 1) := by decide +kernel
theorem dX7_fillPoint_89 : decode cX7_fillPoint 89 = .ok (.bipush 21, 2) := by decide +kernel
theorem dX7_fillPoint_91 : decode cX7_fillPoint 91 = .ok (.iload 4, 2) := by decide +kernel
theorem dX7_fillPoint_93 : decode cX7_fillPoint 93 = .ok (.iadd, 1) := by decide +kernel
theorem dX7_fillPoint_94 : decode cX7_fillPoint 94 = .ok (.iload_n 3, 1) := by decide +kernel
theorem dX7_fillPoint_95 : decode cX7_fillPoint 95 = .ok (.iload_n 1, 1) := by decide +kernel
theorem dX7_fillPoint_96 : decode cX7_fillPoint 96 = .ok (.iload_n 2, 1) := by decide +kernel
theorem dX7_fillPoint_97 : decode cX7_fillPoint 97 = .ok (.invokestatic 69, 3) := by decide +kernel
theorem dX7_fillPoint_100 : decode cX7_fillPoint 100 = .ok (.ifCond .eq 9, 3) := by decide +kernel
theorem dX7_fillPoint_103 : decode cX7_fillPoint 103 = .ok (.iconst 1, 1) := by decide +kernel
theorem dX7_fillPoint_104 : decode cX7_fillPoint 104 = .ok (.iload_n 1, 1) := by decide +kernel
theorem dX7_fillPoint_105 : decode cX7_fillPoint 105 = .ok (.ishl, 1) := by decide +kernel
theorem dX7_fillPoint_106 : decode cX7_fillPoint 106 = .ok (.goto 4, 3) := by decide +kernel
theorem dX7_fillPoint_109 : decode cX7_fillPoint 109 = .ok (.iconst 0, 1) := by decide +kernel
theorem dX7_fillPoint_110 : decode cX7_fillPoint 110 = .ok (.ior, 1) := by decide +kernel
theorem dX7_fillPoint_111 : decode cX7_fillPoint 111 = .ok (.iastore, 1) := by decide +kernel
theorem dX7_fillPoint_112 : decode cX7_fillPoint 112 = .ok (.iinc 4 1, 3) := by decide +kernel
theorem dX7_fillPoint_115 : decode cX7_fillPoint 115 = .ok (.goto (-50), 3) := by decide +kernel
theorem dX7_fillPoint_118 : decode cX7_fillPoint 118 = .ok (.iinc 3 1, 3) := by decide +kernel
theorem dX7_fillPoint_121 : decode cX7_fillPoint 121 = .ok (.goto (-119), 3) := by decide +kernel
theorem dX7_fillPoint_124 : decode cX7_fillPoint 124 = .ok (.iconst 0, 1) := by decide +kernel
theorem dX7_fillPoint_125 : decode cX7_fillPoint 125 = .ok (.istore_n 3, 1) := by decide +kernel
theorem dX7_fillPoint_126 : decode cX7_fillPoint 126 = .ok (.iload_n 3, 1) := by decide +kernel
theorem dX7_fillPoint_127 : decode cX7_fillPoint 127 = .ok (.iconst 4, 1) := by decide +kernel
theorem dX7_fillPoint_128 : decode cX7_fillPoint 128 = .ok (.if_icmp .ge 39, 3) := by decide +kernel
theorem dX7_fillPoint_131 : decode cX7_fillPoint 131 = .ok (.aload_n 0, 1) := by decide +kernel
theorem dX7_fillPoint_132 : decode cX7_fillPoint 132 = .ok (.getfield 19, 3) := by decide +kernel
theorem dX7_fillPoint_135 : decode cX7_fillPoint 135 = .ok (.iload_n 3, 1) := by decide +kernel
theorem dX7_fillPoint_136 : decode cX7_fillPoint 136 = .ok (.aaload, 1) := by decide +kernel
theorem dX7_fillPoint_137 : decode cX7_fillPoint 137 = .ok (.iload_n 2, 1) := by decide +kernel
theorem dX7_fillPoint_138 : decode cX7_fillPoint 138 = .ok (.bipush 15, 2) := by decide +kernel
theorem dX7_fillPoint_140 : decode cX7_fillPoint 140 = .ok (.iand, 1) := by decide +kernel
theorem dX7_fillPoint_141 : decode cX7_fillPoint 141 = .ok (.dup2, 1) := by decide +kernel
theorem dX7_fillPoint_142 : decode cX7_fillPoint 142 = .ok (.iaload, 1) := by decide +kernel
theorem dX7_fillPoint_143 : decode cX7_fillPoint 143 = .ok (.iload_n 3, 1) := by decide +kernel
theorem dX7_fillPoint_144 : decode cX7_fillPoint 144 = .ok (.iload_n 1, 1) := by decide +kernel
theorem dX7_fillPoint_145 : decode cX7_fillPoint 145 = .ok (.iload_n 2, 1) := by decide +kernel
theorem dX7_fillPoint_146 : decode cX7_fillPoint 146 = .ok (.invokestatic 72, 3) := by decide +kernel
theorem dX7_fillPoint_149 : decode cX7_fillPoint 149 = .ok (.ifCond .eq 9, 3) := by decide +kernel
theorem dX7_fillPoint_152 : decode cX7_fillPoint 152 = .ok (.iconst 1, 1) := by decide +kernel
theorem dX7_fillPoint_153 : decode cX7_fillPoint 153 = .ok (.iload_n 1, 1) := by decide +kernel
theorem dX7_fillPoint_154 : decode cX7_fillPoint 154 = .ok (.ishl, 1) := by decide +kernel
theorem dX7_fillPoint_155 : decode cX7_fillPoint 155 = .ok (.goto 4, 3) := by decide +kernel
theorem dX7_fillPoint_158 : decode cX7_fillPoint 158 = .ok (.iconst 0, 1) := by decide +kernel
theorem dX7_fillPoint_159 : decode cX7_fillPoint 159 = .ok (.ior, 1) := by decide +kernel
theorem dX7_fillPoint_160 : decode cX7_fillPoint 160 = .ok (.iastore, 1) := by decide +kernel
theorem dX7_fillPoint_161 : decode cX7_fillPoint 161 = .ok (.iinc 3 1, 3) := by decide +kernel
theorem dX7_fillPoint_164 : decode cX7_fillPoint 164 = .ok (.goto (-38), 3) := by decide +kernel
theorem dX7_fillPoint_167 : decode cX7_fillPoint 167 = .ok (.return_, 1) := by decide +kernel
set_option maxRecDepth 20000 in
theorem ggX7_isSecond_X7_shift : GoodIn wsX7_isSecond wsX7_shift := goodIn_r _ [8] (by decide +kernel) (by decide +kernel)
set_option maxRecDepth 20000 in
theorem gX7_isSecond_X7_shift : GoodIn wsX7_isSecond (va_wsS RX7 76 yX7_shift wsX7_shift) := goodIn_app (goodIn_of _ (by decide +kernel)) ggX7_isSecond_X7_shift
theorem dX7_isSecond_0 : decode cX7_isSecond 0 = .ok (.iload_n 0, 1) := by decide +kernel
theorem dX7_isSecond_1 : decode cX7_isSecond 1 = .ok (.tableswitch 111 11 14 #[31, 49, 67, 84], 31) := by decide +kernel
theorem dX7_isSecond_32 : decode cX7_isSecond 32 = .ok (.iload_n 2, 1) := by decide +kernel
theorem dX7_isSecond_33 : decode cX7_isSecond 33 = .ok (.iload_n 1, 1) := by decide +kernel
theorem dX7_isSecond_34 : decode cX7_isSecond 34 = .ok (.iload_n 3, 1) := by decide +kernel
theorem dX7_isSecond_35 : decode cX7_isSecond 35 = .ok (.invokestatic 76, 3) := by decide +kernel
theorem dX7_isSecond_38 : decode cX7_isSecond 38 = .ok (.iadd, 1) := by decide +kernel
theorem dX7_isSecond_39 : decode cX7_isSecond 39 = .ok (.bipush 8, 2) := by decide +kernel
theorem dX7_isSecond_41 : decode cX7_isSecond 41 = .ok (.if_icmp .lt 7, 3) := by decide +kernel
theorem dX7_isSecond_44 : decode cX7_isSecond 44 = .ok (.iconst 1, 1) := by decide +kernel
theorem dX7_isSecond_45 : decode cX7_isSecond 45 = .ok (.goto 4, 3) := by decide +kernel
theorem dX7_isSecond_48 : decode cX7_isSecond 48 = .ok (.iconst 0, 1) := by decide +kernel
theorem dX7_isSecond_49 : decode cX7_isSecond 49 = .ok (.ireturn, 1) := by decide +kernel
theorem dX7_isSecond_50 : decode cX7_isSecond 50 = .ok (.iload_n 3, 1) := by decide +kernel
theorem dX7_isSecond_51 : decode cX7_isSecond 51 = .ok (.iload_n 1, 1) := by decide +kernel
theorem dX7_isSecond_52 : decode cX7_isSecond 52 = .ok (.iload_n 2, 1) := by decide +kernel
theorem dX7_isSecond_53 : decode cX7_isSecond 53 = .ok (.invokestatic 76, 3) := by decide +kernel
theorem dX7_isSecond_56 : decode cX7_isSecond 56 = .ok (.iadd, 1) := by decide +kernel
theorem dX7_isSecond_57 : decode cX7_isSecond 57 = .ok (.bipush 8, 2) := by decide +kernel
theorem dX7_isSecond_59 : decode cX7_isSecond 59 = .ok (.if_icmp .lt 7, 3) := by decide +kernel
theorem dX7_isSecond_62 : decode cX7_isSecond 62 = .ok (.iconst 1, 1) := by decide +kernel
theorem dX7_isSecond_63 : decode cX7_isSecond 63 = .ok (.goto 4, 3) := by decide +kernel
theorem dX7_isSecond_66 : decode cX7_isSecond 66 = .ok (.iconst 0, 1) := by decide +kernel
theorem dX7_isSecond_67 : decode cX7_isSecond 67 = .ok (.ireturn, 1) := by decide +kernel
theorem dX7_isSecond_68 : decode cX7_isSecond 68 = .ok (.iload_n 3, 1) := by decide +kernel
theorem dX7_isSecond_69 : decode cX7_isSecond 69 = .ok (.iload_n 1, 1) := by decide +kernel
theorem dX7_isSecond_70 : decode cX7_isSecond 70 = .ok (.iload_n 2, 1) := by decide +kernel
theorem dX7_isSecond_71 : decode cX7_isSecond 71 = .ok (.invokestatic 76, 3) := by decide +kernel
theorem dX7_isSecond_74 : decode cX7_isSecond 74 = .ok (.iadd, 1) := by decide +kernel
theorem dX7_isSecond_75 : decode cX7_isSecond 75 = .ok (.iload_n 2, 1) := by decide +kernel
theorem dX7_isSecond_76 : decode cX7_isSecond 76 = .ok (.if_icmp .le 7, 3) := by decide +kernel
theorem dX7_isSecond_79 : decode cX7_isSecond 79 = .ok (.iconst 1, 1) := by decide +kernel
theorem dX7_isSecond_80 : decode cX7_isSecond 80 = .ok (.goto 4, 3) := by decide +kernel
theorem dX7_isSecond_83 : decode cX7_isSecond 83 = .ok (.iconst 0, 1) := by decide +kernel
theorem dX7_isSecond_84 : decode cX7_isSecond 84 = .ok (.ireturn, 1) := by decide +kernel
theorem dX7_isSecond_85 : decode cX7_isSecond 85 = .ok (.iconst 2, 1) := by decide +kernel
theorem dX7_isSecond_86 : decode cX7_isSecond 86 = .ok (.iload_n 2, 1) := by decide +kernel
theorem dX7_isSecond_87 : decode cX7_isSecond 87 = .ok (.imul, 1) := by decide +kernel
theorem dX7_isSecond_88 : decode cX7_isSecond 88 = .ok (.bipush 15, 2) := by decide +kernel
theorem dX7_isSecond_90 : decode cX7_isSecond 90 = .ok (.isub, 1) := by decide +kernel
theorem dX7_isSecond_91 : decode cX7_isSecond 91 = .ok (.invokestatic 80, 3) := by decide +kernel
theorem dX7_isSecond_94 : decode cX7_isSecond 94 = .ok (.iconst 2, 1) := by decide +kernel
theorem dX7_isSecond_95 : decode cX7_isSecond 95 = .ok (.iload_n 3, 1) := by decide +kernel
theorem dX7_isSecond_96 : decode cX7_isSecond 96 = .ok (.imul, 1) := by decide +kernel
theorem dX7_isSecond_97 : decode cX7_isSecond 97 = .ok (.bipush 15, 2) := by decide +kernel
theorem dX7_isSecond_99 : decode cX7_isSecond 99 = .ok (.isub, 1) := by decide +kernel
theorem dX7_isSecond_100 : decode cX7_isSecond 100 = .ok (.invokestatic 80, 3) := by decide +kernel
theorem dX7_isSecond_103 : decode cX7_isSecond 103 = .ok (.if_icmp .le 7, 3) := by decide +kernel
theorem dX7_isSecond_106 : decode cX7_isSecond 106 = .ok (.iconst 1, 1) := by decide +kernel
theorem dX7_isSecond_107 : decode cX7_isSecond 107 = .ok (.goto 4, 3) := by decide +kernel
theorem dX7_isSecond_110 : decode cX7_isSecond 110 = .ok (.iconst 0, 1) := by decide +kernel
theorem dX7_isSecond_111 : decode cX7_isSecond 111 = .ok (.ireturn, 1) := by decide +kernel
theorem dX7_isSecond_112 : decode cX7_isSecond 112 = .ok (.iload_n 2, 1) := by decide +kernel
theorem dX7_isSecond_113 : decode cX7_isSecond 113 = .ok (.bipush 8, 2) := by decide +kernel
theorem dX7_isSecond_115 : decode cX7_isSecond 115 = .ok (.if_icmp .lt 7, 3) := by decide +kernel
theorem dX7_isSecond_118 : decode cX7_isSecond 118 = .ok (.iconst 1, 1) := by decide +kernel
theorem dX7_isSecond_119 : decode cX7_isSecond 119 = .ok (.goto 4, 3) := by decide +kernel
theorem dX7_isSecond_122 : decode cX7_isSecond 122 = .ok (.iconst 0, 1) := by decide +kernel
theorem dX7_isSecond_123 : decode cX7_isSecond 123 = .ok (.iload_n 3, 1) := by decide +kernel
theorem dX7_isSecond_124 : decode cX7_isSecond 124 = .ok (.bipush 8, 2) := by decide +kernel
theorem dX7_isSecond_126 : decode cX7_isSecond 126 = .ok (.if_icmp .lt 7, 3) := by decide +kernel
theorem dX7_isSecond_129 : decode cX7_isSecond 129 = .ok (.iconst 1, 1) := by decide +kernel
theorem dX7_isSecond_130 : decode cX7_isSecond 130 = .ok (.goto 4, 3) := by decide +kernel
theorem dX7_isSecond_133 : decode cX7_isSecond 133 = .ok (.iconst 0, 1) := by decide +kernel
theorem dX7_isSecond_134 : decode cX7_isSecond 134 = .ok (.if_icmp .eq 7, 3) := by decide +kernel
theorem dX7_isSecond_137 : decode cX7_isSecond 137 = .ok (.iconst 1, 1) := by decide +kernel
theorem dX7_isSecond_138 : decode cX7_isSecond 138 = .ok (.goto 4, 3) := by decide +kernel
theorem dX7_isSecond_141 : decode cX7_isSecond 141 = .ok (.iconst 0, 1) := by decide +kernel
theorem dX7_isSecond_142 : decode cX7_isSecond 142 = .ok (.ireturn, 1) := by decide +kernel
set_option maxRecDepth 20000 in
theorem ggX7_isOnOrdinary_X7_shift : GoodIn wsX7_isOnOrdinary wsX7_shift := goodIn_r _ [8] (by decide +kernel) (by decide +kernel)
set_option maxRecDepth 20000 in
theorem gX7_isOnOrdinary_X7_shift : GoodIn wsX7_isOnOrdinary (va_wsS RX7 76 yX7_shift wsX7_shift) := goodIn_app (goodIn_of _ (by decide +kernel)) ggX7_isOnOrdinary_X7_shift
set_option maxRecDepth 20000 in
theorem ggX7_isOnOrdinary_X7_isFromTo : GoodIn wsX7_isOnOrdinary wsX7_isFromTo := goodIn_r _ [11] (by decide +kernel) (by decide +kernel)
set_option maxRecDepth 20000 in
theorem gX7_isOnOrdinary_X7_isFromTo : GoodIn wsX7_isOnOrdinary (va_wsS RX7 86 yX7_isFromTo wsX7_isFromTo) := goodIn_app (goodIn_of _ (by decide +kernel)) ggX7_isOnOrdinary_X7_isFromTo
theorem dX7_isOnOrdinary_0 : decode cX7_isOnOrdinary 0 = .ok (.iload_n 0, 1) := by decide +kernel
theorem dX7_isOnOrdinary_1 : decode cX7_isOnOrdinary 1 = .ok (.tableswitch 191 21 27 #[43, 58, 73, 89, 106, 134, 165], 43) := by decide +kernel
theorem dX7_isOnOrdinary_44 : decode cX7_isOnOrdinary 44 = .ok (.iload_n 2, 1) := by decide +kernel
theorem dX7_isOnOrdinary_45 : decode cX7_isOnOrdinary 45 = .ok (.iload_n 1, 1) := by decide +kernel
theorem dX7_isOnOrdinary_46 : decode cX7_isOnOrdinary 46 = .ok (.iload_n 3, 1) := by decide +kernel
theorem dX7_isOnOrdinary_47 : decode cX7_isOnOrdinary 47 = .ok (.invokestatic 76, 3) := by decide +kernel
theorem dX7_isOnOrdinary_50 : decode cX7_isOnOrdinary 50 = .ok (.iadd, 1) := by decide +kernel
theorem dX7_isOnOrdinary_51 : decode cX7_isOnOrdinary 51 = .ok (.bipush 6, 2) := by decide +kernel
theorem dX7_isOnOrdinary_53 : decode cX7_isOnOrdinary 53 = .ok (.bipush 9, 2) := by decide +kernel
theorem dX7_isOnOrdinary_55 : decode cX7_isOnOrdinary 55 = .ok (.invokestatic 86, 3) := by decide +kernel
theorem dX7_isOnOrdinary_58 : decode cX7_isOnOrdinary 58 = .ok (.ireturn, 1) := by decide +kernel
theorem dX7_isOnOrdinary_59 : decode cX7_isOnOrdinary 59 = .ok (.iload_n 3, 1) := by decide +kernel
theorem dX7_isOnOrdinary_60 : decode cX7_isOnOrdinary 60 = .ok (.iload_n 1, 1) := by decide +kernel
theorem dX7_isOnOrdinary_61 : decode cX7_isOnOrdinary 61 = .ok (.iload_n 2, 1) := by decide +kernel
theorem dX7_isOnOrdinary_62 : decode cX7_isOnOrdinary 62 = .ok (.invokestatic 76, 3) := by decide +kernel
theorem dX7_isOnOrdinary_65 : decode cX7_isOnOrdinary 65 = .ok (.iadd, 1) := by decide +kernel
theorem dX7_isOnOrdinary_66 : decode cX7_isOnOrdinary 66 = .ok (.bipush 6, 2) := by decide +kernel
theorem dX7_isOnOrdinary_68 : decode cX7_isOnOrdinary 68 = .ok (.bipush 9, 2) := by decide +kernel
theorem dX7_isOnOrdinary_70 : decode cX7_isOnOrdinary 70 = .ok (.invokestatic 86, 3) := by decide +kernel
theorem dX7_isOnOrdinary_73 : decode cX7_isOnOrdinary 73 = .ok (.ireturn, 1) := by decide +kernel
theorem dX7_isOnOrdinary_74 : decode cX7_isOnOrdinary 74 = .ok (.iload_n 3, 1) := by decide +kernel
theorem dX7_isOnOrdinary_75 : decode cX7_isOnOrdinary 75 = .ok (.iload_n 2, 1) := by decide +kernel
theorem dX7_isOnOrdinary_76 : decode cX7_isOnOrdinary 76 = .ok (.isub, 1) := by decide +kernel
theorem dX7_isOnOrdinary_77 : decode cX7_isOnOrdinary 77 = .ok (.iload_n 1, 1) := by decide +kernel
theorem dX7_isOnOrdinary_78 : decode cX7_isOnOrdinary 78 = .ok (.iload_n 2, 1) := by decide +kernel
theorem dX7_isOnOrdinary_79 : decode cX7_isOnOrdinary 79 = .ok (.invokestatic 76, 3) := by decide +kernel
theorem dX7_isOnOrdinary_82 : decode cX7_isOnOrdinary 82 = .ok (.iadd, 1) := by decide +kernel
theorem dX7_isOnOrdinary_83 : decode cX7_isOnOrdinary 83 = .ok (.bipush (-2), 2) := by decide +kernel
theorem dX7_isOnOrdinary_85 : decode cX7_isOnOrdinary 85 = .ok (.iconst 2, 1) := by decide +kernel
theorem dX7_isOnOrdinary_86 : decode cX7_isOnOrdinary 86 = .ok (.invokestatic 86, 3) := by decide +kernel
theorem dX7_isOnOrdinary_89 : decode cX7_isOnOrdinary 89 = .ok (.ireturn, 1) := by decide +kernel
theorem dX7_isOnOrdinary_90 : decode cX7_isOnOrdinary 90 = .ok (.iload_n 3, 1) := by decide +kernel
theorem dX7_isOnOrdinary_91 : decode cX7_isOnOrdinary 91 = .ok (.iload_n 1, 1) := by decide +kernel
theorem dX7_isOnOrdinary_92 : decode cX7_isOnOrdinary 92 = .ok (.iload_n 2, 1) := by decide +kernel
theorem dX7_isOnOrdinary_93 : decode cX7_isOnOrdinary 93 = .ok (.invokestatic 76, 3) := by decide +kernel
theorem dX7_isOnOrdinary_96 : decode cX7_isOnOrdinary 96 = .ok (.iadd, 1) := by decide +kernel
theorem dX7_isOnOrdinary_97 : decode cX7_isOnOrdinary 97 = .ok (.iconst 4, 1) := by decide +kernel
theorem dX7_isOnOrdinary_98 : decode cX7_isOnOrdinary 98 = .ok (.if_icmp .gt 7, 3) := by decide +kernel
theorem dX7_isOnOrdinary_101 : decode cX7_isOnOrdinary 101 = .ok (.iconst 1, 1) := by decide +kernel
theorem dX7_isOnOrdinary_102 : decode cX7_isOnOrdinary 102 = .ok (.goto 4, 3) := by decide +kernel
theorem dX7_isOnOrdinary_105 : decode cX7_isOnOrdinary 105 = .ok (.iconst 0, 1) := by decide +kernel
theorem dX7_isOnOrdinary_106 : decode cX7_isOnOrdinary 106 = .ok (.ireturn, 1) := by decide +kernel
theorem dX7_isOnOrdinary_107 : decode cX7_isOnOrdinary 107 = .ok (.iload_n 2, 1) := by decide +kernel
theorem dX7_isOnOrdinary_108 : decode cX7_isOnOrdinary 108 = .ok (.bipush 7, 2) := by decide +kernel
theorem dX7_isOnOrdinary_110 : decode cX7_isOnOrdinary 110 = .ok (.bipush 8, 2) := by decide +kernel
theorem dX7_isOnOrdinary_112 : decode cX7_isOnOrdinary 112 = .ok (.invokestatic 86, 3) := by decide +kernel
theorem dX7_isOnOrdinary_115 : decode cX7_isOnOrdinary 115 = .ok (.ifCond .ne 14, 3) := by decide +kernel
theorem dX7_isOnOrdinary_118 : decode cX7_isOnOrdinary 118 = .ok (.iload_n 3, 1) := by decide +kernel
theorem dX7_isOnOrdinary_119 : decode cX7_isOnOrdinary 119 = .ok (.bipush 7, 2) := by decide +kernel
theorem dX7_isOnOrdinary_121 : decode cX7_isOnOrdinary 121 = .ok (.bipush 8, 2) := by decide +kernel
theorem dX7_isOnOrdinary_123 : decode cX7_isOnOrdinary 123 = .ok (.invokestatic 86, 3) := by decide +kernel
theorem dX7_isOnOrdinary_126 : decode cX7_isOnOrdinary 126 = .ok (.ifCond .eq 7, 3) := by decide +kernel
theorem dX7_isOnOrdinary_129 : decode cX7_isOnOrdinary 129 = .ok (.iconst 1, 1) := by decide +kernel
theorem dX7_isOnOrdinary_130 : decode cX7_isOnOrdinary 130 = .ok (.goto 4, 3) := by decide +kernel
theorem dX7_isOnOrdinary_133 : decode cX7_isOnOrdinary 133 = .ok (.iconst 0, 1) := by decide +kernel
theorem dX7_isOnOrdinary_134 : decode cX7_isOnOrdinary 134 = .ok (.ireturn, 1) := by decide +kernel
theorem dX7_isOnOrdinary_135 : decode cX7_isOnOrdinary 135 = .ok (.iload_n 2, 1) := by decide +kernel
theorem dX7_isOnOrdinary_136 : decode cX7_isOnOrdinary 136 = .ok (.iload_n 3, 1) := by decide +kernel
theorem dX7_isOnOrdinary_137 : decode cX7_isOnOrdinary 137 = .ok (.isub, 1) := by decide +kernel
theorem dX7_isOnOrdinary_138 : decode cX7_isOnOrdinary 138 = .ok (.iconst (-1), 1) := by decide +kernel
theorem dX7_isOnOrdinary_139 : decode cX7_isOnOrdinary 139 = .ok (.iconst 1, 1) := by decide +kernel
theorem dX7_isOnOrdinary_140 : decode cX7_isOnOrdinary 140 = .ok (.invokestatic 86, 3) := by decide +kernel
theorem dX7_isOnOrdinary_143 : decode cX7_isOnOrdinary 143 = .ok (.ifCond .ne 17, 3) := by decide +kernel
theorem dX7_isOnOrdinary_146 : decode cX7_isOnOrdinary 146 = .ok (.iload_n 2, 1) := by decide +kernel
theorem dX7_isOnOrdinary_147 : decode cX7_isOnOrdinary 147 = .ok (.iload_n 3, 1) := by decide +kernel
theorem dX7_isOnOrdinary_148 : decode cX7_isOnOrdinary 148 = .ok (.iadd, 1) := by decide +kernel
theorem dX7_isOnOrdinary_149 : decode cX7_isOnOrdinary 149 = .ok (.bipush 15, 2) := by decide +kernel
theorem dX7_isOnOrdinary_151 : decode cX7_isOnOrdinary 151 = .ok (.isub, 1) := by decide +kernel
theorem dX7_isOnOrdinary_152 : decode cX7_isOnOrdinary 152 = .ok (.iconst (-1), 1) := by decide +kernel
theorem dX7_isOnOrdinary_153 : decode cX7_isOnOrdinary 153 = .ok (.iconst 1, 1) := by decide +kernel
theorem dX7_isOnOrdinary_154 : decode cX7_isOnOrdinary 154 = .ok (.invokestatic 86, 3) := by decide +kernel
theorem dX7_isOnOrdinary_157 : decode cX7_isOnOrdinary 157 = .ok (.ifCond .eq 7, 3) := by decide +kernel
theorem dX7_isOnOrdinary_160 : decode cX7_isOnOrdinary 160 = .ok (.iconst 1, 1) := by decide +kernel
theorem dX7_isOnOrdinary_161 : decode cX7_isOnOrdinary 161 = .ok (.goto 4, 3) := by decide +kernel
theorem dX7_isOnOrdinary_164 : decode cX7_isOnOrdinary 164 = .ok (.iconst 0, 1) := by decide +kernel
theorem dX7_isOnOrdinary_165 : decode cX7_isOnOrdinary 165 = .ok (.ireturn, 1) := by decide +kernel
theorem dX7_isOnOrdinary_166 : decode cX7_isOnOrdinary 166 = .ok (.iload_n 3, 1) := by decide +kernel
theorem dX7_isOnOrdinary_167 : decode cX7_isOnOrdinary 167 = .ok (.iload_n 1, 1) := by decide +kernel
theorem dX7_isOnOrdinary_168 : decode cX7_isOnOrdinary 168 = .ok (.iload_n 2, 1) := by decide +kernel
theorem dX7_isOnOrdinary_169 : decode cX7_isOnOrdinary 169 = .ok (.invokestatic 76, 3) := by decide +kernel
theorem dX7_isOnOrdinary_172 : decode cX7_isOnOrdinary 172 = .ok (.iadd, 1) := by decide +kernel
theorem dX7_isOnOrdinary_173 : decode cX7_isOnOrdinary 173 = .ok (.iconst 2, 1) := by decide +kernel
theorem dX7_isOnOrdinary_174 : decode cX7_isOnOrdinary 174 = .ok (.iload_n 2, 1) := by decide +kernel
theorem dX7_isOnOrdinary_175 : decode cX7_isOnOrdinary 175 = .ok (.imul, 1) := by decide +kernel
theorem dX7_isOnOrdinary_176 : decode cX7_isOnOrdinary 176 = .ok (.bipush 15, 2) := by decide +kernel
theorem dX7_isOnOrdinary_178 : decode cX7_isOnOrdinary 178 = .ok (.isub, 1) := by decide +kernel
theorem dX7_isOnOrdinary_179 : decode cX7_isOnOrdinary 179 = .ok (.invokestatic 80, 3) := by decide +kernel
theorem dX7_isOnOrdinary_182 : decode cX7_isOnOrdinary 182 = .ok (.iconst 2, 1) := by decide +kernel
theorem dX7_isOnOrdinary_183 : decode cX7_isOnOrdinary 183 = .ok (.idiv, 1) := by decide +kernel
theorem dX7_isOnOrdinary_184 : decode cX7_isOnOrdinary 184 = .ok (.isub, 1) := by decide +kernel
theorem dX7_isOnOrdinary_185 : decode cX7_isOnOrdinary 185 = .ok (.iconst 3, 1) := by decide +kernel
theorem dX7_isOnOrdinary_186 : decode cX7_isOnOrdinary 186 = .ok (.bipush 6, 2) := by decide +kernel
theorem dX7_isOnOrdinary_188 : decode cX7_isOnOrdinary 188 = .ok (.invokestatic 86, 3) := by decide +kernel
theorem dX7_isOnOrdinary_191 : decode cX7_isOnOrdinary 191 = .ok (.ireturn, 1) := by decide +kernel
theorem dX7_isOnOrdinary_192 : decode cX7_isOnOrdinary 192 = .ok (.iload_n 2, 1) := by decide +kernel
theorem dX7_isOnOrdinary_193 : decode cX7_isOnOrdinary 193 = .ok (.iconst 2, 1) := by decide +kernel
theorem dX7_isOnOrdinary_194 : decode cX7_isOnOrdinary 194 = .ok (.bipush 13, 2) := by decide +kernel
theorem dX7_isOnOrdinary_196 : decode cX7_isOnOrdinary 196 = .ok (.invokestatic 86, 3) := by decide +kernel
theorem dX7_isOnOrdinary_199 : decode cX7_isOnOrdinary 199 = .ok (.ifCond .eq 13, 3) := by decide +kernel
theorem dX7_isOnOrdinary_202 : decode cX7_isOnOrdinary 202 = .ok (.iload_n 3, 1) := by decide +kernel
theorem dX7_isOnOrdinary_203 : decode cX7_isOnOrdinary 203 = .ok (.iconst 2, 1) := by decide +kernel
theorem dX7_isOnOrdinary_204 : decode cX7_isOnOrdinary 204 = .ok (.bipush 13, 2) := by decide +kernel
theorem dX7_isOnOrdinary_206 : decode cX7_isOnOrdinary 206 = .ok (.invokestatic 86, 3) := by decide +kernel
theorem dX7_isOnOrdinary_209 : decode cX7_isOnOrdinary 209 = .ok (.ifCond .ne 7, 3) := by decide +kernel
theorem dX7_isOnOrdinary_212 : decode cX7_isOnOrdinary 212 = .ok (.iconst 1, 1) := by decide +kernel
theorem dX7_isOnOrdinary_213 : decode cX7_isOnOrdinary 213 = .ok (.goto 4, 3) := by decide +kernel
theorem dX7_isOnOrdinary_216 : decode cX7_isOnOrdinary 216 = .ok (.iconst 0, 1) := by decide +kernel
theorem dX7_isOnOrdinary_217 : decode cX7_isOnOrdinary 217 = .ok (.ireturn, 1) := by decide +kernel
theorem dX7_isInShape_0 : decode cX7_isInShape 0 = .ok (.iconst 2, 1) := by decide +kernel
theorem dX7_isInShape_1 : decode cX7_isInShape 1 = .ok (.iload_n 1, 1) := by decide +kernel
theorem dX7_isInShape_2 : decode cX7_isInShape 2 = .ok (.imul, 1) := by decide +kernel
theorem dX7_isInShape_3 : decode cX7_isInShape 3 = .ok (.bipush 15, 2) := by decide +kernel
theorem dX7_isInShape_5 : decode cX7_isInShape 5 = .ok (.isub, 1) := by decide +kernel
theorem dX7_isInShape_6 : decode cX7_isInShape 6 = .ok (.invokestatic 80, 3) := by decide +kernel
theorem dX7_isInShape_9 : decode cX7_isInShape 9 = .ok (.istore_n 3, 1) := by decide +kernel
theorem dX7_isInShape_10 : decode cX7_isInShape 10 = .ok (.iconst 2, 1) := by decide +kernel
theorem dX7_isInShape_11 : decode cX7_isInShape 11 = .ok (.iload_n 2, 1) := by decide +kernel
theorem dX7_isInShape_12 : decode cX7_isInShape 12 = .ok (.imul, 1) := by decide +kernel
theorem dX7_isInShape_13 : decode cX7_isInShape 13 = .ok (.bipush 15, 2) := by decide +kernel
theorem dX7_isInShape_15 : decode cX7_isInShape 15 = .ok (.isub, 1) := by decide +kernel
theorem dX7_isInShape_16 : decode cX7_isInShape 16 = .ok (.invokestatic 80, 3) := by decide +kernel
theorem dX7_isInShape_19 : decode cX7_isInShape 19 = .ok (.istore 4, 2) := by decide +kernel
theorem dX7_isInShape_21 : decode cX7_isInShape 21 = .ok (.iload_n 0, 1) := by decide +kernel
theorem dX7_isInShape_22 : decode cX7_isInShape 22 = .ok (.tableswitch 65 0 2 #[26, 48, 63], 26) := by decide +kernel
theorem dX7_isInShape_48 : decode cX7_isInShape 48 = .ok (.iload_n 2, 1) := by decide +kernel
theorem dX7_isInShape_49 : decode cX7_isInShape 49 = .ok (.bipush 8, 2) := by decide +kernel
theorem dX7_isInShape_51 : decode cX7_isInShape 51 = .ok (.if_icmp .lt 13, 3) := by decide +kernel
theorem dX7_isInShape_54 : decode cX7_isInShape 54 = .ok (.iload_n 3, 1) := by decide +kernel
theorem dX7_isInShape_55 : decode cX7_isInShape 55 = .ok (.bipush 31, 2) := by decide +kernel
theorem dX7_isInShape_57 : decode cX7_isInShape 57 = .ok (.iconst 2, 1) := by decide +kernel
theorem dX7_isInShape_58 : decode cX7_isInShape 58 = .ok (.iload_n 2, 1) := by decide +kernel
theorem dX7_isInShape_59 : decode cX7_isInShape 59 = .ok (.imul, 1) := by decide +kernel
theorem dX7_isInShape_60 : decode cX7_isInShape 60 = .ok (.isub, 1) := by decide +kernel
theorem dX7_isInShape_61 : decode cX7_isInShape 61 = .ok (.if_icmp .gt 7, 3) := by decide +kernel
theorem dX7_isInShape_64 : decode cX7_isInShape 64 = .ok (.iconst 1, 1) := by decide +kernel
theorem dX7_isInShape_65 : decode cX7_isInShape 65 = .ok (.goto 4, 3) := by decide +kernel
theorem dX7_isInShape_68 : decode cX7_isInShape 68 = .ok (.iconst 0, 1) := by decide +kernel
theorem dX7_isInShape_69 : decode cX7_isInShape 69 = .ok (.ireturn, 1) := by decide +kernel
theorem dX7_isInShape_70 : decode cX7_isInShape 70 = .ok (.iload_n 3, 1) := by decide +kernel
theorem dX7_isInShape_71 : decode cX7_isInShape 71 = .ok (.iload 4, 2) := by decide +kernel
theorem dX7_isInShape_73 : decode cX7_isInShape 73 = .ok (.iadd, 1) := by decide +kernel
theorem dX7_isInShape_74 : decode cX7_isInShape 74 = .ok (.bipush 16, 2) := by decide +kernel
theorem dX7_isInShape_76 : decode cX7_isInShape 76 = .ok (.if_icmp .gt 7, 3) := by decide +kernel
theorem dX7_isInShape_79 : decode cX7_isInShape 79 = .ok (.iconst 1, 1) := by decide +kernel
theorem dX7_isInShape_80 : decode cX7_isInShape 80 = .ok (.goto 4, 3) := by decide +kernel
theorem dX7_isInShape_83 : decode cX7_isInShape 83 = .ok (.iconst 0, 1) := by decide +kernel
theorem dX7_isInShape_84 : decode cX7_isInShape 84 = .ok (.ireturn, 1) := by decide +kernel
theorem dX7_isInShape_85 : decode cX7_isInShape 85 = .ok (.iconst 1, 1) := by decide +kernel
theorem dX7_isInShape_86 : decode cX7_isInShape 86 = .ok (.ireturn, 1) := by decide +kernel
theorem dX7_isInShape_87 : decode cX7_isInShape 87 = .ok (.iload_n 3, 1) := by decide +kernel
theorem dX7_isInShape_88 : decode cX7_isInShape 88 = .ok (.iload_n 3, 1) := by decide +kernel
theorem dX7_isInShape_89 : decode cX7_isInShape 89 = .ok (.imul, 1) := by decide +kernel
theorem dX7_isInShape_90 : decode cX7_isInShape 90 = .ok (.iload 4, 2) := by decide +kernel
theorem dX7_isInShape_92 : decode cX7_isInShape 92 = .ok (.iload 4, 2) := by decide +kernel
theorem dX7_isInShape_94 : decode cX7_isInShape 94 = .ok (.imul, 1) := by decide +kernel
theorem dX7_isInShape_95 : decode cX7_isInShape 95 = .ok (.iadd, 1) := by decide +kernel
theorem dX7_isInShape_96 : decode cX7_isInShape 96 = .ok (.sipush 240, 3) := by decide +kernel
theorem dX7_isInShape_99 : decode cX7_isInShape 99 = .ok (.if_icmp .gt 7, 3) := by decide +kernel
theorem dX7_isInShape_102 : decode cX7_isInShape 102 = .ok (.iconst 1, 1) := by decide +kernel
theorem dX7_isInShape_103 : decode cX7_isInShape 103 = .ok (.goto 4, 3) := by decide +kernel
theorem dX7_isInShape_106 : decode cX7_isInShape 106 = .ok (.iconst 0, 1) := by decide +kernel
theorem dX7_isInShape_107 : decode cX7_isInShape 107 = .ok (.ireturn, 1) := by decide +kernel
theorem dX7_isFromTo_0 : decode cX7_isFromTo 0 = .ok (.iload_n 0, 1) := by decide +kernel
theorem dX7_isFromTo_1 : decode cX7_isFromTo 1 = .ok (.iload_n 1, 1) := by decide +kernel
theorem dX7_isFromTo_2 : decode cX7_isFromTo 2 = .ok (.if_icmp .lt 12, 3) := by decide +kernel
theorem dX7_isFromTo_5 : decode cX7_isFromTo 5 = .ok (.iload_n 0, 1) := by decide +kernel
theorem dX7_isFromTo_6 : decode cX7_isFromTo 6 = .ok (.iload_n 2, 1) := by decide +kernel
theorem dX7_isFromTo_7 : decode cX7_isFromTo 7 = .ok (.if_icmp .gt 7, 3) := by decide +kernel
theorem dX7_isFromTo_10 : decode cX7_isFromTo 10 = .ok (.iconst 1, 1) := by decide +kernel
theorem dX7_isFromTo_11 : decode cX7_isFromTo 11 = .ok (.goto 4, 3) := by decide +kernel
theorem dX7_isFromTo_14 : decode cX7_isFromTo 14 = .ok (.iconst 0, 1) := by decide +kernel
theorem dX7_isFromTo_15 : decode cX7_isFromTo 15 = .ok (.ireturn, 1) := by decide +kernel
theorem dX7_shift_0 : decode cX7_shift 0 = .ok (.iload_n 1, 1) := by decide +kernel
theorem dX7_shift_1 : decode cX7_shift 1 = .ok (.iconst 4, 1) := by decide +kernel
theorem dX7_shift_2 : decode cX7_shift 2 = .ok (.irem, 1) := by decide +kernel
theorem dX7_shift_3 : decode cX7_shift 3 = .ok (.iconst 2, 1) := by decide +kernel
theorem dX7_shift_4 : decode cX7_shift 4 = .ok (.if_icmp .lt 7, 3) := by decide +kernel
theorem dX7_shift_7 : decode cX7_shift 7 = .ok (.iload_n 0, 1) := by decide +kernel
theorem dX7_shift_8 : decode cX7_shift 8 = .ok (.goto 4, 3) := by decide +kernel
theorem dX7_shift_11 : decode cX7_shift 11 = .ok (.iconst 0, 1) := by decide +kernel
theorem dX7_shift_12 : decode cX7_shift 12 = .ok (.ireturn, 1) := by decide +kernel
theorem dX7_lineIndex_0 : decode cX7_lineIndex 0 = .ok (.iload_n 0, 1) := by decide +kernel
theorem dX7_lineIndex_1 : decode cX7_lineIndex 1 = .ok (.bipush 9, 2) := by decide +kernel
theorem dX7_lineIndex_3 : decode cX7_lineIndex 3 = .ok (.if_icmp .ne 7, 3) := by decide +kernel
theorem dX7_lineIndex_6 : decode cX7_lineIndex 6 = .ok (.iconst 1, 1) := by decide +kernel
theorem dX7_lineIndex_7 : decode cX7_lineIndex 7 = .ok (.goto 14, 3) := by decide +kernel
theorem dX7_lineIndex_10 : decode cX7_lineIndex 10 = .ok (.iload_n 0, 1) := by decide +kernel
theorem dX7_lineIndex_11 : decode cX7_lineIndex 11 = .ok (.bipush 10, 2) := by decide +kernel
theorem dX7_lineIndex_13 : decode cX7_lineIndex 13 = .ok (.if_icmp .ne 7, 3) := by decide +kernel
theorem dX7_lineIndex_16 : decode cX7_lineIndex 16 = .ok (.iconst 2, 1) := by decide +kernel
theorem dX7_lineIndex_17 : decode cX7_lineIndex 17 = .ok (.goto 4, 3) := by decide +kernel
theorem dX7_lineIndex_20 : decode cX7_lineIndex 20 = .ok (.iconst 0, 1) := by decide +kernel
theorem dX7_lineIndex_21 : decode cX7_lineIndex 21 = .ok (.ireturn, 1) := by decide +kernel
theorem dX7_shapeRows_0 : decode cX7_shapeRows 0 = .ok (.iload_n 1, 1) := by decide +kernel
theorem dX7_shapeRows_1 : decode cX7_shapeRows 1 = .ok (.ifCond .lt 17, 3) := by decide +kernel
theorem dX7_shapeRows_4 : decode cX7_shapeRows 4 = .ok (.iload_n 1, 1) := by decide +kernel
theorem dX7_shapeRows_5 : decode cX7_shapeRows 5 = .ok (.iconst 4, 1) := by decide +kernel
theorem dX7_shapeRows_6 : decode cX7_shapeRows 6 = .ok (.if_icmp .ge 12, 3) := by decide +kernel
theorem dX7_shapeRows_9 : decode cX7_shapeRows 9 = .ok (.aload_n 0, 1) := by decide +kernel
theorem dX7_shapeRows_10 : decode cX7_shapeRows 10 = .ok (.getfield 19, 3) := by decide +kernel
theorem dX7_shapeRows_13 : decode cX7_shapeRows 13 = .ok (.iload_n 1, 1) := by decide +kernel
theorem dX7_shapeRows_14 : decode cX7_shapeRows 14 = .ok (.aaload, 1) := by decide +kernel
theorem dX7_shapeRows_15 : decode cX7_shapeRows 15 = .ok (.goto 7, 3) := by decide +kernel
theorem dX7_shapeRows_18 : decode cX7_shapeRows 18 = .ok (.aload_n 0, 1) := by decide +kernel
theorem dX7_shapeRows_19 : decode cX7_shapeRows 19 = .ok (.getfield 25, 3) := by decide +kernel
theorem dX7_shapeRows_22 : decode cX7_shapeRows 22 = .ok (.areturn, 1) := by decide +kernel
set_option maxRecDepth 20000 in
theorem ggX7_partingRows_X7_lineIndex : GoodIn wsX7_partingRows wsX7_lineIndex := goodIn_r _ [6] (by decide +kernel) (by decide +kernel)
set_option maxRecDepth 20000 in
theorem gX7_partingRows_X7_lineIndex : GoodIn wsX7_partingRows (va_wsS RX7 89 yX7_lineIndex wsX7_lineIndex) := goodIn_app (goodIn_of _ (by decide +kernel)) ggX7_partingRows_X7_lineIndex
theorem dX7_partingRows_0 : decode cX7_partingRows 0 = .ok (.iconst 3, 1) := by decide +kernel
theorem dX7_partingRows_1 : decode cX7_partingRows 1 = .ok (.iload_n 1, 1) := by decide +kernel
theorem dX7_partingRows_2 : decode cX7_partingRows 2 = .ok (.bipush 11, 2) := by decide +kernel
theorem dX7_partingRows_4 : decode cX7_partingRows 4 = .ok (.isub, 1) := by decide +kernel
theorem dX7_partingRows_5 : decode cX7_partingRows 5 = .ok (.imul, 1) := by decide +kernel
theorem dX7_partingRows_6 : decode cX7_partingRows 6 = .ok (.iload_n 2, 1) := by decide +kernel
theorem dX7_partingRows_7 : decode cX7_partingRows 7 = .ok (.invokestatic 89, 3) := by decide +kernel
theorem dX7_partingRows_10 : decode cX7_partingRows 10 = .ok (.iadd, 1) := by decide +kernel
theorem dX7_partingRows_11 : decode cX7_partingRows 11 = .ok (.istore_n 3, 1) := by decide +kernel
theorem dX7_partingRows_12 : decode cX7_partingRows 12 = .ok (.iload_n 3, 1) := by decide +kernel
theorem dX7_partingRows_13 : decode cX7_partingRows 13 = .ok (.ifCond .lt 18, 3) := by decide +kernel
theorem dX7_partingRows_16 : decode cX7_partingRows 16 = .ok (.iload_n 3, 1) := by decide +kernel
theorem dX7_partingRows_17 : decode cX7_partingRows 17 = .ok (.bipush 15, 2) := by decide +kernel
theorem dX7_partingRows_19 : decode cX7_partingRows 19 = .ok (.if_icmp .ge 12, 3) := by decide +kernel
theorem dX7_partingRows_22 : decode cX7_partingRows 22 = .ok (.aload_n 0, 1) := by decide +kernel
theorem dX7_partingRows_23 : decode cX7_partingRows 23 = .ok (.getfield 11, 3) := by decide +kernel
theorem dX7_partingRows_26 : decode cX7_partingRows 26 = .ok (.iload_n 3, 1) := by decide +kernel
theorem dX7_partingRows_27 : decode cX7_partingRows 27 = .ok (.aaload, 1) := by decide +kernel
theorem dX7_partingRows_28 : decode cX7_partingRows 28 = .ok (.goto 7, 3) := by decide +kernel
theorem dX7_partingRows_31 : decode cX7_partingRows 31 = .ok (.aload_n 0, 1) := by decide +kernel
theorem dX7_partingRows_32 : decode cX7_partingRows 32 = .ok (.getfield 25, 3) := by decide +kernel
theorem dX7_partingRows_35 : decode cX7_partingRows 35 = .ok (.areturn, 1) := by decide +kernel
set_option maxRecDepth 20000 in
theorem ggX7_ordinaryRows_X7_lineIndex : GoodIn wsX7_ordinaryRows wsX7_lineIndex := goodIn_r _ [6] (by decide +kernel) (by decide +kernel)
set_option maxRecDepth 20000 in
theorem gX7_ordinaryRows_X7_lineIndex : GoodIn wsX7_ordinaryRows (va_wsS RX7 89 yX7_lineIndex wsX7_lineIndex) := goodIn_app (goodIn_of _ (by decide +kernel)) ggX7_ordinaryRows_X7_lineIndex
theorem dX7_ordinaryRows_0 : decode cX7_ordinaryRows 0 = .ok (.iconst 3, 1) := by decide +kernel
theorem dX7_ordinaryRows_1 : decode cX7_ordinaryRows 1 = .ok (.iload_n 1, 1) := by decide +kernel
theorem dX7_ordinaryRows_2 : decode cX7_ordinaryRows 2 = .ok (.bipush 21, 2) := by decide +kernel
theorem dX7_ordinaryRows_4 : decode cX7_ordinaryRows 4 = .ok (.isub, 1) := by decide +kernel
theorem dX7_ordinaryRows_5 : decode cX7_ordinaryRows 5 = .ok (.imul, 1) := by decide +kernel
theorem dX7_ordinaryRows_6 : decode cX7_ordinaryRows 6 = .ok (.iload_n 2, 1) := by decide +kernel
theorem dX7_ordinaryRows_7 : decode cX7_ordinaryRows 7 = .ok (.invokestatic 89, 3) := by decide +kernel
theorem dX7_ordinaryRows_10 : decode cX7_ordinaryRows 10 = .ok (.iadd, 1) := by decide +kernel
theorem dX7_ordinaryRows_11 : decode cX7_ordinaryRows 11 = .ok (.istore_n 3, 1) := by decide +kernel
theorem dX7_ordinaryRows_12 : decode cX7_ordinaryRows 12 = .ok (.iload_n 3, 1) := by decide +kernel
theorem dX7_ordinaryRows_13 : decode cX7_ordinaryRows 13 = .ok (.ifCond .lt 18, 3) := by decide +kernel
theorem dX7_ordinaryRows_16 : decode cX7_ordinaryRows 16 = .ok (.iload_n 3, 1) := by decide +kernel
theorem dX7_ordinaryRows_17 : decode cX7_ordinaryRows 17 = .ok (.bipush 24, 2) := by decide +kernel
theorem dX7_ordinaryRows_19 : decode cX7_ordinaryRows 19 = .ok (.if_icmp .ge 12, 3) := by decide +kernel
theorem dX7_ordinaryRows_22 : decode cX7_ordinaryRows 22 = .ok (.aload_n 0, 1) := by decide +kernel
theorem dX7_ordinaryRows_23 : decode cX7_ordinaryRows 23 = .ok (.getfield 16, 3) := by decide +kernel
theorem dX7_ordinaryRows_26 : decode cX7_ordinaryRows 26 = .ok (.iload_n 3, 1) := by decide +kernel
theorem dX7_ordinaryRows_27 : decode cX7_ordinaryRows 27 = .ok (.aaload, 1) := by decide +kernel
theorem dX7_ordinaryRows_28 : decode cX7_ordinaryRows 28 = .ok (.goto 7, 3) := by decide +kernel
theorem dX7_ordinaryRows_31 : decode cX7_ordinaryRows 31 = .ok (.aload_n 0, 1) := by decide +kernel
theorem dX7_ordinaryRows_32 : decode cX7_ordinaryRows 32 = .ok (.getfield 25, 3) := by decide +kernel
theorem dX7_ordinaryRows_35 : decode cX7_ordinaryRows 35 = .ok (.areturn, 1) := by decide +kernel
theorem dX7_chargeRows_0 : decode cX7_chargeRows 0 = .ok (.iload_n 2, 1) := by decide +kernel
theorem dX7_chargeRows_1 : decode cX7_chargeRows 1 = .ok (.bipush 45, 2) := by decide +kernel
theorem dX7_chargeRows_3 : decode cX7_chargeRows 3 = .ok (.if_icmp .ne 7, 3) := by decide +kernel
theorem dX7_chargeRows_6 : decode cX7_chargeRows 6 = .ok (.iconst 1, 1) := by decide +kernel
theorem dX7_chargeRows_7 : decode cX7_chargeRows 7 = .ok (.goto 14, 3) := by decide +kernel
theorem dX7_chargeRows_10 : decode cX7_chargeRows 10 = .ok (.iload_n 2, 1) := by decide +kernel
theorem dX7_chargeRows_11 : decode cX7_chargeRows 11 = .ok (.bipush 46, 2) := by decide +kernel
theorem dX7_chargeRows_13 : decode cX7_chargeRows 13 = .ok (.if_icmp .ne 7, 3) := by decide +kernel
theorem dX7_chargeRows_16 : decode cX7_chargeRows 16 = .ok (.iconst 2, 1) := by decide +kernel
theorem dX7_chargeRows_17 : decode cX7_chargeRows 17 = .ok (.goto 4, 3) := by decide +kernel
theorem dX7_chargeRows_20 : decode cX7_chargeRows 20 = .ok (.iconst 0, 1) := by decide +kernel
theorem dX7_chargeRows_21 : decode cX7_chargeRows 21 = .ok (.istore_n 3, 1) := by decide +kernel
theorem dX7_chargeRows_22 : decode cX7_chargeRows 22 = .ok (.iconst 3, 1) := by decide +kernel
theorem dX7_chargeRows_23 : decode cX7_chargeRows 23 = .ok (.iload_n 1, 1) := by decide +kernel
theorem dX7_chargeRows_24 : decode cX7_chargeRows 24 = .ok (.bipush 51, 2) := by decide +kernel
theorem dX7_chargeRows_26 : decode cX7_chargeRows 26 = .ok (.isub, 1) := by decide +kernel
theorem dX7_chargeRows_27 : decode cX7_chargeRows 27 = .ok (.imul, 1) := by decide +kernel
theorem dX7_chargeRows_28 : decode cX7_chargeRows 28 = .ok (.iload_n 3, 1) := by decide +kernel
theorem dX7_chargeRows_29 : decode cX7_chargeRows 29 = .ok (.iadd, 1) := by decide +kernel
theorem dX7_chargeRows_30 : decode cX7_chargeRows 30 = .ok (.istore 4, 2) := by decide +kernel
theorem dX7_chargeRows_32 : decode cX7_chargeRows 32 = .ok (.iload 4, 2) := by decide +kernel
theorem dX7_chargeRows_34 : decode cX7_chargeRows 34 = .ok (.ifCond .lt 20, 3) := by decide +kernel
theorem dX7_chargeRows_37 : decode cX7_chargeRows 37 = .ok (.iload 4, 2) := by decide +kernel
theorem dX7_chargeRows_39 : decode cX7_chargeRows 39 = .ok (.bipush 24, 2) := by decide +kernel
theorem dX7_chargeRows_41 : decode cX7_chargeRows 41 = .ok (.if_icmp .ge 13, 3) := by decide +kernel
theorem dX7_chargeRows_44 : decode cX7_chargeRows 44 = .ok (.aload_n 0, 1) := by decide +kernel
theorem dX7_chargeRows_45 : decode cX7_chargeRows 45 = .ok (.getfield 22, 3) := by decide +kernel
theorem dX7_chargeRows_48 : decode cX7_chargeRows 48 = .ok (.iload 4, 2) := by decide +kernel
theorem dX7_chargeRows_50 : decode cX7_chargeRows 50 = .ok (.aaload, 1) := by decide +kernel
theorem dX7_chargeRows_51 : decode cX7_chargeRows 51 = .ok (.goto 7, 3) := by decide +kernel
theorem dX7_chargeRows_54 : decode cX7_chargeRows 54 = .ok (.aload_n 0, 1) := by decide +kernel
theorem dX7_chargeRows_55 : decode cX7_chargeRows 55 = .ok (.getfield 25, 3) := by decide +kernel
theorem dX7_chargeRows_58 : decode cX7_chargeRows 58 = .ok (.areturn, 1) := by decide +kernel
set_option maxRecDepth 20000 in
theorem ggX7_paintBlazon_X7_paintField : GoodIn wsX7_paintBlazon wsX7_paintField := goodIn_ca (goodIn_r _ [9, 10, 11, 12, 8, 13, 14, 15, 16, 17, 18, 19, 20, 21, 22, 23, 24, 25, 26, 27, 28, 29, 30, 31, 32, 33, 34, 35, 36, 37, 38, 39, 40, 41, 129, 130, 131, 132, 133, 134, 135, 136, 137, 138, 139, 140, 141, 142, 143, 144, 145, 146] (by decide +kernel) (by decide +kernel)) (goodIn_sub (fun _ h => List.mem_cons_of_mem _ (List.mem_append_right _ h)) (by decide +kernel))
set_option maxRecDepth 20000 in
theorem gX7_paintBlazon_X7_paintField : GoodIn wsX7_paintBlazon (wsV RX7 104 RX7 yX7_paintField wsX7_paintField) := goodIn_app (goodIn_of _ (by decide +kernel)) ggX7_paintBlazon_X7_paintField
set_option maxRecDepth 20000 in
theorem ggX7_paintBlazon_X1_group : GoodIn wsX7_paintBlazon wsX1_group := goodIn_r _ [46, 47, 117, 118, 119, 120, 121, 122, 123, 124, 125, 126, 127, 128] (by decide +kernel) (by decide +kernel)
set_option maxRecDepth 20000 in
theorem gX7_paintBlazon_X1_group : GoodIn wsX7_paintBlazon (wsV RX7 111 RX1 yX1_group wsX1_group) := goodIn_app (goodIn_of _ (by decide +kernel)) ggX7_paintBlazon_X1_group
set_option maxRecDepth 20000 in
theorem ggX7_paintBlazon_X7_paintGroup : GoodIn wsX7_paintBlazon wsX7_paintGroup := goodIn_ca (goodIn_r _ [51, 52, 53, 54, 55, 56, 57, 58, 59, 60, 61, 62, 63, 64, 65, 66, 67, 68, 32, 33, 34, 69, 70, 71, 8, 72, 73, 74, 75, 76, 77, 78, 79, 80, 81, 82, 15, 83, 84, 85, 86, 87, 88, 89, 90, 91, 92, 93, 16, 17, 18, 94, 95, 96, 22, 97, 27, 24, 30, 25, 28, 98, 35, 36, 37, 38, 39, 40, 41, 29, 99, 100, 101, 102, 26, 103, 104, 105, 106, 107, 108, 109, 110, 111, 112, 113, 114, 115, 116, 129, 130, 131, 132, 133, 134, 135, 136, 137, 138, 139, 140, 141, 147, 148, 149, 150, 151, 152, 153, 154, 155, 156, 157, 158, 159, 142, 143, 144, 145, 146] (by decide +kernel) (by decide +kernel)) (goodIn_sub (fun _ h => List.mem_cons_of_mem _ (List.mem_append_right _ h)) (by decide +kernel))
set_option maxRecDepth 20000 in
theorem gX7_paintBlazon_X7_paintGroup : GoodIn wsX7_paintBlazon (wsV RX7 115 RX7 yX7_paintGroup wsX7_paintGroup) := goodIn_app (goodIn_of _ (by decide +kernel)) ggX7_paintBlazon_X7_paintGroup
theorem dX7_paintBlazon_0 : decode cX7_paintBlazon 0 = .ok (.aload_n 0, 1) := by decide +kernel
theorem dX7_paintBlazon_1 : decode cX7_paintBlazon 1 = .ok (.aload_n 1, 1) := by decide +kernel
theorem dX7_paintBlazon_2 : decode cX7_paintBlazon 2 = .ok (.aload_n 2, 1) := by decide +kernel
theorem dX7_paintBlazon_3 : decode cX7_paintBlazon 3 = .ok (.getfield 92, 3) := by decide +kernel
theorem dX7_paintBlazon_6 : decode cX7_paintBlazon 6 = .ok (.aload_n 2, 1) := by decide +kernel
theorem dX7_paintBlazon_7 : decode cX7_paintBlazon 7 = .ok (.getfield 98, 3) := by decide +kernel
theorem dX7_paintBlazon_10 : decode cX7_paintBlazon 10 = .ok (.iload_n 3, 1) := by decide +kernel
theorem dX7_paintBlazon_11 : decode cX7_paintBlazon 11 = .ok (.aload_n 2, 1) := by decide +kernel
theorem dX7_paintBlazon_12 : decode cX7_paintBlazon 12 = .ok (.getfield 101, 3) := by decide +kernel
theorem dX7_paintBlazon_15 : decode cX7_paintBlazon 15 = .ok (.invokevirtual 104, 3) := by decide +kernel
theorem dX7_paintBlazon_18 : decode cX7_paintBlazon 18 = .ok (.iconst 0, 1) := by decide +kernel
theorem dX7_paintBlazon_19 : decode cX7_paintBlazon 19 = .ok (.istore 4, 2) := by decide +kernel
theorem dX7_paintBlazon_21 : decode cX7_paintBlazon 21 = .ok (.iload 4, 2) := by decide +kernel
theorem dX7_paintBlazon_23 : decode cX7_paintBlazon 23 = .ok (.aload_n 2, 1) := by decide +kernel
theorem dX7_paintBlazon_24 : decode cX7_paintBlazon 24 = .ok (.getfield 108, 3) := by decide +kernel
theorem dX7_paintBlazon_27 : decode cX7_paintBlazon 27 = .ok (.if_icmp .ge 26, 3) := by decide +kernel
theorem dX7_paintBlazon_30 : decode cX7_paintBlazon 30 = .ok (.iload 4, 2) := by decide +kernel
theorem dX7_paintBlazon_32 : decode cX7_paintBlazon 32 = .ok (.iconst 4, 1) := by decide +kernel
theorem dX7_paintBlazon_33 : decode cX7_paintBlazon 33 = .ok (.if_icmp .ge 20, 3) := by decide +kernel
theorem dX7_paintBlazon_36 : decode cX7_paintBlazon 36 = .ok (.aload_n 0, 1) := by decide +kernel
theorem dX7_paintBlazon_37 : decode cX7_paintBlazon 37 = .ok (.aload_n 1, 1) := by decide +kernel
theorem dX7_paintBlazon_38 : decode cX7_paintBlazon 38 = .ok (.aload_n 2, 1) := by decide +kernel
theorem dX7_paintBlazon_39 : decode cX7_paintBlazon 39 = .ok (.iload 4, 2) := by decide +kernel
theorem dX7_paintBlazon_41 : decode cX7_paintBlazon 41 = .ok (.invokevirtual 111, 3) := by decide +kernel
theorem dX7_paintBlazon_44 : decode cX7_paintBlazon 44 = .ok (.invokevirtual 115, 3) := by decide +kernel
theorem dX7_paintBlazon_47 : decode cX7_paintBlazon 47 = .ok (.iinc 4 1, 3) := by decide +kernel
theorem dX7_paintBlazon_50 : decode cX7_paintBlazon 50 = .ok (.goto (-29), 3) := by decide +kernel
theorem dX7_paintBlazon_53 : decode cX7_paintBlazon 53 = .ok (.return_, 1) := by decide +kernel
set_option maxRecDepth 20000 in
theorem ggX7_paintField_X7_partingRows : GoodIn wsX7_paintField wsX7_partingRows := goodIn_r _ [5, 6, 7, 8, 9, 4, 10, 34, 35, 36, 37, 38, 39, 40, 41, 42, 43, 44, 45, 46] (by decide +kernel) (by decide +kernel)
set_option maxRecDepth 20000 in
theorem gX7_paintField_X7_partingRows : GoodIn wsX7_paintField (wsV RX7 119 RX7 yX7_partingRows wsX7_partingRows) := goodIn_app (goodIn_of _ (by decide +kernel)) ggX7_paintField_X7_partingRows
set_option maxRecDepth 20000 in
theorem ggX7_paintField_X8_begin : GoodIn wsX7_paintField wsX8_begin := goodIn_ca (goodIn_r _ [15, 16, 17, 18, 19, 20, 21, 22, 23, 24, 25, 26, 27, 28, 14, 29, 30, 31, 32, 33, 47, 48, 49, 50, 51] (by decide +kernel) (by decide +kernel)) (goodIn_sub (fun _ h => List.mem_cons_of_mem _ (List.mem_append_right _ h)) (by decide +kernel))
set_option maxRecDepth 20000 in
theorem gX7_paintField_X8_begin : GoodIn wsX7_paintField (wsV RX7 123 RX8 yX8_begin wsX8_begin) := goodIn_app (goodIn_of _ (by decide +kernel)) ggX7_paintField_X8_begin
theorem dX7_paintField_0 : decode cX7_paintField 0 = .ok (.aload_n 1, 1) := by decide +kernel
theorem dX7_paintField_1 : decode cX7_paintField 1 = .ok (.aload_n 0, 1) := by decide +kernel
theorem dX7_paintField_2 : decode cX7_paintField 2 = .ok (.iload_n 2, 1) := by decide +kernel
theorem dX7_paintField_3 : decode cX7_paintField 3 = .ok (.iload_n 3, 1) := by decide +kernel
theorem dX7_paintField_4 : decode cX7_paintField 4 = .ok (.invokevirtual 119, 3) := by decide +kernel
theorem dX7_paintField_7 : decode cX7_paintField 7 = .ok (.iload 4, 2) := by decide +kernel
theorem dX7_paintField_9 : decode cX7_paintField 9 = .ok (.iload 5, 2) := by decide +kernel
theorem dX7_paintField_11 : decode cX7_paintField 11 = .ok (.invokevirtual 123, 3) := by decide +kernel
theorem dX7_paintField_14 : decode cX7_paintField 14 = .ok (.return_, 1) := by decide +kernel
set_option maxRecDepth 20000 in
theorem ggX7_paintGroup_J7_fill_53178 : GoodIn wsX7_paintGroup wsJ7_fill_53178 := goodIn_r _ [20] (by decide +kernel) (by decide +kernel)
set_option maxRecDepth 20000 in
theorem gX7_paintGroup_J7_fill_53178 : GoodIn wsX7_paintGroup (va_wsS RX7 127 yJ7_fill_53178 wsJ7_fill_53178) := goodIn_app (goodIn_of _ (by decide +kernel)) ggX7_paintGroup_J7_fill_53178
set_option maxRecDepth 20000 in
theorem ggX7_paintGroup_X7_layCharges : GoodIn wsX7_paintGroup wsX7_layCharges := goodIn_ca (goodIn_r _ [25, 5, 26, 27, 28, 29, 30, 17, 18, 19, 20, 31, 32, 33, 24, 34, 35, 36, 37, 38, 39, 40, 41, 42, 89, 90, 91, 92, 93, 94, 95, 96, 97, 98, 99, 100, 101, 102, 103, 104, 105, 106, 107, 108, 109, 110, 111, 112, 113, 114] (by decide +kernel) (by decide +kernel)) (goodIn_sub (fun _ h => List.mem_cons_of_mem _ (List.mem_append_right _ h)) (by decide +kernel))
set_option maxRecDepth 20000 in
theorem gX7_paintGroup_X7_layCharges : GoodIn wsX7_paintGroup (wsV RX7 139 RX7 yX7_layCharges wsX7_layCharges) := goodIn_app (goodIn_of _ (by decide +kernel)) ggX7_paintGroup_X7_layCharges
set_option maxRecDepth 20000 in
theorem ggX7_paintGroup_X7_ordinaryRows : GoodIn wsX7_paintGroup wsX7_ordinaryRows := goodIn_r _ [46, 47, 36, 48, 49, 24, 50, 89, 90, 91, 92, 93, 94, 95, 96, 97, 98, 99, 100, 101] (by decide +kernel) (by decide +kernel)
set_option maxRecDepth 20000 in
theorem gX7_paintGroup_X7_ordinaryRows : GoodIn wsX7_paintGroup (wsV RX7 144 RX7 yX7_ordinaryRows wsX7_ordinaryRows) := goodIn_app (goodIn_of _ (by decide +kernel)) ggX7_paintGroup_X7_ordinaryRows
set_option maxRecDepth 20000 in
theorem ggX7_paintGroup_X8_putRows : GoodIn wsX7_paintGroup wsX8_putRows := goodIn_ca (goodIn_r _ [55, 56, 57, 58, 59, 60, 61, 62, 63, 54, 64, 65, 66, 67, 68, 69, 115, 116, 117, 118, 119] (by decide +kernel) (by decide +kernel)) (goodIn_sub (fun _ h => List.mem_cons_of_mem _ (List.mem_append_right _ h)) (by decide +kernel))
set_option maxRecDepth 20000 in
theorem gX7_paintGroup_X8_putRows : GoodIn wsX7_paintGroup (wsV RX7 159 RX8 yX8_putRows wsX8_putRows) := goodIn_app (goodIn_of _ (by decide +kernel)) ggX7_paintGroup_X8_putRows
set_option maxRecDepth 20000 in
theorem ggX7_paintGroup_X8_take : GoodIn wsX7_paintGroup wsX8_take := goodIn_ca (goodIn_r _ [73, 74, 115, 116, 117, 118, 119] (by decide +kernel) (by decide +kernel)) (goodIn_sub (fun _ h => List.mem_cons_of_mem _ (List.mem_append_right _ h)) (by decide +kernel))
set_option maxRecDepth 20000 in
theorem gX7_paintGroup_X8_take : GoodIn wsX7_paintGroup (wsV RX7 162 RX8 yX8_take wsX8_take) := goodIn_app (goodIn_of _ (by decide +kernel)) ggX7_paintGroup_X8_take
set_option maxRecDepth 20000 in
theorem ggX7_paintGroup_X7_layOnBody : GoodIn wsX7_paintGroup wsX7_layOnBody := goodIn_ca (goodIn_r _ [78, 79, 80, 81, 15, 5, 1, 31, 32, 33, 24, 34, 35, 36, 82, 83, 84, 85, 86, 87, 88, 40, 41, 42, 102, 103, 104, 105, 106, 107, 108, 109, 110, 111, 112, 113, 114, 89, 90, 91, 92, 93, 94, 95, 96, 97, 98, 99, 100, 101] (by decide +kernel) (by decide +kernel)) (goodIn_sub (fun _ h => List.mem_cons_of_mem _ (List.mem_append_right _ h)) (by decide +kernel))
set_option maxRecDepth 20000 in
theorem gX7_paintGroup_X7_layOnBody : GoodIn wsX7_paintGroup (wsV RX7 169 RX7 yX7_layOnBody wsX7_layOnBody) := goodIn_app (goodIn_of _ (by decide +kernel)) ggX7_paintGroup_X7_layOnBody
theorem dX7_paintGroup_0 : decode cX7_paintGroup 0 = .ok (.aload_n 0, 1) := by decide +kernel
theorem dX7_paintGroup_1 : decode cX7_paintGroup 1 = .ok (.getfield 32, 3) := by decide +kernel
theorem dX7_paintGroup_4 : decode cX7_paintGroup 4 = .ok (.iconst 0, 1) := by decide +kernel
theorem dX7_paintGroup_5 : decode cX7_paintGroup 5 = .ok (.invokestatic 127, 3) := by decide +kernel
theorem dX7_paintGroup_8 : decode cX7_paintGroup 8 = .ok (.aload_n 2, 1) := by decide +kernel
theorem dX7_paintGroup_9 : decode cX7_paintGroup 9 = .ok (.getfield 133, 3) := by decide +kernel
theorem dX7_paintGroup_12 : decode cX7_paintGroup 12 = .ok (.ifCond .ne 15, 3) := by decide +kernel
theorem dX7_paintGroup_15 : decode cX7_paintGroup 15 = .ok (.aload_n 0, 1) := by decide +kernel
theorem dX7_paintGroup_16 : decode cX7_paintGroup 16 = .ok (.aload_n 1, 1) := by decide +kernel
theorem dX7_paintGroup_17 : decode cX7_paintGroup 17 = .ok (.getfield 136, 3) := by decide +kernel
theorem dX7_paintGroup_20 : decode cX7_paintGroup 20 = .ok (.aload_n 2, 1) := by decide +kernel
theorem dX7_paintGroup_21 : decode cX7_paintGroup 21 = .ok (.invokevirtual 139, 3) := by decide +kernel
theorem dX7_paintGroup_24 : decode cX7_paintGroup 24 = .ok (.goto 33, 3) := by decide +kernel
theorem dX7_paintGroup_27 : decode cX7_paintGroup 27 = .ok (.aload_n 0, 1) := by decide +kernel
theorem dX7_paintGroup_28 : decode cX7_paintGroup 28 = .ok (.aload_n 2, 1) := by decide +kernel
theorem dX7_paintGroup_29 : decode cX7_paintGroup 29 = .ok (.getfield 133, 3) := by decide +kernel
theorem dX7_paintGroup_32 : decode cX7_paintGroup 32 = .ok (.aload_n 2, 1) := by decide +kernel
theorem dX7_paintGroup_33 : decode cX7_paintGroup 33 = .ok (.getfield 143, 3) := by decide +kernel
theorem dX7_paintGroup_36 : decode cX7_paintGroup 36 = .ok (.invokevirtual 144, 3) := by decide +kernel
theorem dX7_paintGroup_39 : decode cX7_paintGroup 39 = .ok (.astore_n 3, 1) := by decide +kernel
theorem dX7_paintGroup_40 : decode cX7_paintGroup 40 = .ok (.aload_n 3, 1) := by decide +kernel
theorem dX7_paintGroup_41 : decode cX7_paintGroup 41 = .ok (.iconst 0, 1) := by decide +kernel
theorem dX7_paintGroup_42 : decode cX7_paintGroup 42 = .ok (.aload_n 0, 1) := by decide +kernel
theorem dX7_paintGroup_43 : decode cX7_paintGroup 43 = .ok (.getfield 29, 3) := by decide +kernel
theorem dX7_paintGroup_46 : decode cX7_paintGroup 46 = .ok (.iconst 0, 1) := by decide +kernel
theorem dX7_paintGroup_47 : decode cX7_paintGroup 47 = .ok (.aload_n 3, 1) := by decide +kernel
theorem dX7_paintGroup_48 : decode cX7_paintGroup 48 = .ok (.arraylength, 1) := by decide +kernel
theorem dX7_paintGroup_49 : decode cX7_paintGroup 49 = .ok (.bipush 16, 2) := by decide +kernel
theorem dX7_paintGroup_51 : decode cX7_paintGroup 51 = .ok (.invokestatic 147, 3) := by decide +kernel
theorem dX7_paintGroup_54 : decode cX7_paintGroup 54 = .ok (.invokestatic 150, 3) := by decide +kernel
theorem dX7_paintGroup_57 : decode cX7_paintGroup 57 = .ok (.aload_n 1, 1) := by decide +kernel
theorem dX7_paintGroup_58 : decode cX7_paintGroup 58 = .ok (.aload_n 0, 1) := by decide +kernel
theorem dX7_paintGroup_59 : decode cX7_paintGroup 59 = .ok (.getfield 29, 3) := by decide +kernel
theorem dX7_paintGroup_62 : decode cX7_paintGroup 62 = .ok (.aload_n 2, 1) := by decide +kernel
theorem dX7_paintGroup_63 : decode cX7_paintGroup 63 = .ok (.getfield 156, 3) := by decide +kernel
theorem dX7_paintGroup_66 : decode cX7_paintGroup 66 = .ok (.invokevirtual 159, 3) := by decide +kernel
theorem dX7_paintGroup_69 : decode cX7_paintGroup 69 = .ok (.aload_n 1, 1) := by decide +kernel
theorem dX7_paintGroup_70 : decode cX7_paintGroup 70 = .ok (.aload_n 0, 1) := by decide +kernel
theorem dX7_paintGroup_71 : decode cX7_paintGroup 71 = .ok (.getfield 29, 3) := by decide +kernel
theorem dX7_paintGroup_74 : decode cX7_paintGroup 74 = .ok (.invokevirtual 162, 3) := by decide +kernel
theorem dX7_paintGroup_77 : decode cX7_paintGroup 77 = .ok (.aload_n 2, 1) := by decide +kernel
theorem dX7_paintGroup_78 : decode cX7_paintGroup 78 = .ok (.getfield 166, 3) := by decide +kernel
theorem dX7_paintGroup_81 : decode cX7_paintGroup 81 = .ok (.ifCond .le 20, 3) := by decide +kernel
theorem dX7_paintGroup_84 : decode cX7_paintGroup 84 = .ok (.aload_n 0, 1) := by decide +kernel
theorem dX7_paintGroup_85 : decode cX7_paintGroup 85 = .ok (.aload_n 2, 1) := by decide +kernel
theorem dX7_paintGroup_86 : decode cX7_paintGroup 86 = .ok (.invokevirtual 169, 3) := by decide +kernel
theorem dX7_paintGroup_89 : decode cX7_paintGroup 89 = .ok (.aload_n 1, 1) := by decide +kernel
theorem dX7_paintGroup_90 : decode cX7_paintGroup 90 = .ok (.aload_n 0, 1) := by decide +kernel
theorem dX7_paintGroup_91 : decode cX7_paintGroup 91 = .ok (.getfield 32, 3) := by decide +kernel
theorem dX7_paintGroup_94 : decode cX7_paintGroup 94 = .ok (.aload_n 2, 1) := by decide +kernel
theorem dX7_paintGroup_95 : decode cX7_paintGroup 95 = .ok (.getfield 173, 3) := by decide +kernel
theorem dX7_paintGroup_98 : decode cX7_paintGroup 98 = .ok (.invokevirtual 159, 3) := by decide +kernel
theorem dX7_paintGroup_101 : decode cX7_paintGroup 101 = .ok (.return_, 1) := by decide +kernel
set_option maxRecDepth 20000 in
theorem ggX7_layCharges_J7_fill_53178 : GoodIn wsX7_layCharges wsJ7_fill_53178 := goodIn_r _ [10] (by decide +kernel) (by decide +kernel)
set_option maxRecDepth 20000 in
theorem gX7_layCharges_J7_fill_53178 : GoodIn wsX7_layCharges (va_wsS RX7 127 yJ7_fill_53178 wsJ7_fill_53178) := goodIn_app (goodIn_of _ (by decide +kernel)) ggX7_layCharges_J7_fill_53178
set_option maxRecDepth 20000 in
theorem ggX7_layCharges_X7_chargeRows : GoodIn wsX7_layCharges wsX7_chargeRows := goodIn_r _ [15, 16, 17, 24, 25, 26, 27, 28, 29, 30, 31, 32, 33, 34, 35, 36] (by decide +kernel) (by decide +kernel)
set_option maxRecDepth 20000 in
theorem gX7_layCharges_X7_chargeRows : GoodIn wsX7_layCharges (wsV RX7 182 RX7 yX7_chargeRows wsX7_chargeRows) := goodIn_app (goodIn_of _ (by decide +kernel)) ggX7_layCharges_X7_chargeRows
set_option maxRecDepth 20000 in
theorem ggX7_layCharges_X7_isAtPlace : GoodIn wsX7_layCharges wsX7_isAtPlace := goodIn_r _ [20] (by decide +kernel) (by decide +kernel)
set_option maxRecDepth 20000 in
theorem gX7_layCharges_X7_isAtPlace : GoodIn wsX7_layCharges (va_wsS RX7 194 yX7_isAtPlace wsX7_isAtPlace) := goodIn_app (goodIn_of _ (by decide +kernel)) ggX7_layCharges_X7_isAtPlace
set_option maxRecDepth 20000 in
theorem ggX7_layCharges_X7_stamp : GoodIn wsX7_layCharges wsX7_stamp := goodIn_ca (goodIn_r _ [23] (by decide +kernel) (by decide +kernel)) (goodIn_sub (fun _ h => List.mem_cons_of_mem _ (List.mem_append_right _ h)) (by decide +kernel))
set_option maxRecDepth 20000 in
theorem gX7_layCharges_X7_stamp : GoodIn wsX7_layCharges (va_wsS RX7 197 yX7_stamp wsX7_stamp) := goodIn_app (goodIn_of _ (by decide +kernel)) ggX7_layCharges_X7_stamp
theorem dX7_layCharges_0 : decode cX7_layCharges 0 = .ok (.aload_n 0, 1) := by decide +kernel
theorem dX7_layCharges_1 : decode cX7_layCharges 1 = .ok (.getfield 29, 3) := by decide +kernel
theorem dX7_layCharges_4 : decode cX7_layCharges 4 = .ok (.iconst 0, 1) := by decide +kernel
theorem dX7_layCharges_5 : decode cX7_layCharges 5 = .ok (.invokestatic 127, 3) := by decide +kernel
theorem dX7_layCharges_8 : decode cX7_layCharges 8 = .ok (.aload_n 0, 1) := by decide +kernel
theorem dX7_layCharges_9 : decode cX7_layCharges 9 = .ok (.aload_n 2, 1) := by decide +kernel
theorem dX7_layCharges_10 : decode cX7_layCharges 10 = .ok (.getfield 176, 3) := by decide +kernel
theorem dX7_layCharges_13 : decode cX7_layCharges 13 = .ok (.aload_n 2, 1) := by decide +kernel
theorem dX7_layCharges_14 : decode cX7_layCharges 14 = .ok (.getfield 179, 3) := by decide +kernel
theorem dX7_layCharges_17 : decode cX7_layCharges 17 = .ok (.invokevirtual 182, 3) := by decide +kernel
theorem dX7_layCharges_20 : decode cX7_layCharges 20 = .ok (.astore_n 3, 1) := by decide +kernel
theorem dX7_layCharges_21 : decode cX7_layCharges 21 = .ok (.aload_n 2, 1) := by decide +kernel
theorem dX7_layCharges_22 : decode cX7_layCharges 22 = .ok (.iconst 0, 1) := by decide +kernel
theorem dX7_layCharges_23 : decode cX7_layCharges 23 = .ok (.putfield 185, 3) := by decide +kernel
theorem dX7_layCharges_26 : decode cX7_layCharges 26 = .ok (.iconst 0, 1) := by decide +kernel
theorem dX7_layCharges_27 : decode cX7_layCharges 27 = .ok (.istore 4, 2) := by decide +kernel
theorem dX7_layCharges_29 : decode cX7_layCharges 29 = .ok (.iload 4, 2) := by decide +kernel
theorem dX7_layCharges_31 : decode cX7_layCharges 31 = .ok (.bipush 16, 2) := by decide +kernel
theorem dX7_layCharges_33 : decode cX7_layCharges 33 = .ok (.if_icmp .ge 103, 3) := by decide +kernel
theorem dX7_layCharges_36 : decode cX7_layCharges 36 = .ok (.aload_n 2, 1) := by decide +kernel
theorem dX7_layCharges_37 : decode cX7_layCharges 37 = .ok (.getfield 185, 3) := by decide +kernel
theorem dX7_layCharges_40 : decode cX7_layCharges 40 = .ok (.aload_n 2, 1) := by decide +kernel
theorem dX7_layCharges_41 : decode cX7_layCharges 41 = .ok (.getfield 188, 3) := by decide +kernel
theorem dX7_layCharges_44 : decode cX7_layCharges 44 = .ok (.if_icmp .ge 92, 3) := by decide +kernel
theorem dX7_layCharges_47 : decode cX7_layCharges 47 = .ok (.iload 4, 2) := by decide +kernel
theorem dX7_layCharges_49 : decode cX7_layCharges 49 = .ok (.iconst 4, 1) := by decide +kernel
theorem dX7_layCharges_50 : decode cX7_layCharges 50 = .ok (.idiv, 1) := by decide +kernel
theorem dX7_layCharges_51 : decode cX7_layCharges 51 = .ok (.iconst 4, 1) := by decide +kernel
theorem dX7_layCharges_52 : decode cX7_layCharges 52 = .ok (.imul, 1) := by decide +kernel
theorem dX7_layCharges_53 : decode cX7_layCharges 53 = .ok (.istore 5, 2) := by decide +kernel
theorem dX7_layCharges_55 : decode cX7_layCharges 55 = .ok (.iload 4, 2) := by decide +kernel
theorem dX7_layCharges_57 : decode cX7_layCharges 57 = .ok (.iconst 4, 1) := by decide +kernel
theorem dX7_layCharges_58 : decode cX7_layCharges 58 = .ok (.irem, 1) := by decide +kernel
theorem dX7_layCharges_59 : decode cX7_layCharges 59 = .ok (.iconst 4, 1) := by decide +kernel
theorem dX7_layCharges_60 : decode cX7_layCharges 60 = .ok (.imul, 1) := by decide +kernel
theorem dX7_layCharges_61 : decode cX7_layCharges 61 = .ok (.istore 6, 2) := by decide +kernel
theorem dX7_layCharges_63 : decode cX7_layCharges 63 = .ok (.aload_n 1, 1) := by decide +kernel
theorem dX7_layCharges_64 : decode cX7_layCharges 64 = .ok (.iload 5, 2) := by decide +kernel
theorem dX7_layCharges_66 : decode cX7_layCharges 66 = .ok (.iaload, 1) := by decide +kernel
theorem dX7_layCharges_67 : decode cX7_layCharges 67 = .ok (.aload_n 1, 1) := by decide +kernel
theorem dX7_layCharges_68 : decode cX7_layCharges 68 = .ok (.iload 5, 2) := by decide +kernel
theorem dX7_layCharges_70 : decode cX7_layCharges 70 = .ok (.iconst 1, 1) := by decide +kernel
theorem dX7_layCharges_71 : decode cX7_layCharges 71 = .ok (.iadd, 1) := by decide +kernel
theorem dX7_layCharges_72 : decode cX7_layCharges 72 = .ok (.iaload, 1) := by decide +kernel
theorem dX7_layCharges_73 : decode cX7_layCharges 73 = .ok (.ior, 1) := by decide +kernel
theorem dX7_layCharges_74 : decode cX7_layCharges 74 = .ok (.aload_n 1, 1) := by decide +kernel
theorem dX7_layCharges_75 : decode cX7_layCharges 75 = .ok (.iload 5, 2) := by decide +kernel
theorem dX7_layCharges_77 : decode cX7_layCharges 77 = .ok (.iconst 2, 1) := by decide +kernel
theorem dX7_layCharges_78 : decode cX7_layCharges 78 = .ok (.iadd, 1) := by decide +kernel
theorem dX7_layCharges_79 : decode cX7_layCharges 79 = .ok (.iaload, 1) := by decide +kernel
theorem dX7_layCharges_80 : decode cX7_layCharges 80 = .ok (.ior, 1) := by decide +kernel
theorem dX7_layCharges_81 : decode cX7_layCharges 81 = .ok (.bipush 7, 2) := by decide +kernel
theorem dX7_layCharges_83 : decode cX7_layCharges 83 = .ok (.iload 6, 2) := by decide +kernel
theorem dX7_layCharges_85 : decode cX7_layCharges 85 = .ok (.ishl, 1) := by decide +kernel
theorem dX7_layCharges_86 : decode cX7_layCharges 86 = .ok (.iand, 1) := by decide +kernel
theorem dX7_layCharges_87 : decode cX7_layCharges 87 = .ok (.istore 7, 2) := by decide +kernel
theorem dX7_layCharges_89 : decode cX7_layCharges 89 = .ok (.iload 7, 2) := by decide +kernel
theorem dX7_layCharges_91 : decode cX7_layCharges 91 = .ok (.ifCond .ne 39, 3) := by decide +kernel
theorem dX7_layCharges_94 : decode cX7_layCharges 94 = .ok (.aload_n 2, 1) := by decide +kernel
theorem dX7_layCharges_95 : decode cX7_layCharges 95 = .ok (.getfield 191, 3) := by decide +kernel
theorem dX7_layCharges_98 : decode cX7_layCharges 98 = .ok (.iload 5, 2) := by decide +kernel
theorem dX7_layCharges_100 : decode cX7_layCharges 100 = .ok (.iload 6, 2) := by decide +kernel
theorem dX7_layCharges_102 : decode cX7_layCharges 102 = .ok (.invokestatic 194, 3) := by decide +kernel
theorem dX7_layCharges_105 : decode cX7_layCharges 105 = .ok (.ifCond .eq 25, 3) := by decide +kernel
theorem dX7_layCharges_108 : decode cX7_layCharges 108 = .ok (.aload_n 0, 1) := by decide +kernel
theorem dX7_layCharges_109 : decode cX7_layCharges 109 = .ok (.getfield 29, 3) := by decide +kernel
theorem dX7_layCharges_112 : decode cX7_layCharges 112 = .ok (.aload_n 3, 1) := by decide +kernel
theorem dX7_layCharges_113 : decode cX7_layCharges 113 = .ok (.iload 5, 2) := by decide +kernel
theorem dX7_layCharges_115 : decode cX7_layCharges 115 = .ok (.iload 6, 2) := by decide +kernel
theorem dX7_layCharges_117 : decode cX7_layCharges 117 = .ok (.invokestatic 197, 3) := by decide +kernel
theorem dX7_layCharges_120 : decode cX7_layCharges 120 = .ok (.aload_n 2, 1) := by decide +kernel
theorem dX7_layCharges_121 : decode cX7_layCharges 121 = .ok (.dup, 1) := by decide +kernel
theorem dX7_layCharges_122 : decode cX7_layCharges 122 = .ok (.getfield 185, 3) := by decide +kernel
theorem dX7_layCharges_125 : decode cX7_layCharges 125 = .ok (.iconst 1, 1) := by decide +kernel
theorem dX7_layCharges_126 : decode cX7_layCharges 126 = .ok (.iadd, 1) := by decide +kernel
theorem dX7_layCharges_127 : decode cX7_layCharges 127 = .ok (.putfield 185, 3) := by decide +kernel
theorem dX7_layCharges_130 : decode cX7_layCharges 130 = .ok (.iinc 4 1, 3) := by decide +kernel
theorem dX7_layCharges_133 : decode cX7_layCharges 133 = .ok (.goto (-104), 3) := by decide +kernel
theorem dX7_layCharges_136 : decode cX7_layCharges 136 = .ok (.return_, 1) := by decide +kernel
theorem dX7_isAtPlace_0 : decode cX7_isAtPlace 0 = .ok (.iload_n 0, 1) := by decide +kernel
theorem dX7_isAtPlace_1 : decode cX7_isAtPlace 1 = .ok (.tableswitch 79 41 44 #[31, 43, 55, 67], 31) := by decide +kernel
theorem dX7_isAtPlace_32 : decode cX7_isAtPlace 32 = .ok (.iload_n 1, 1) := by decide +kernel
theorem dX7_isAtPlace_33 : decode cX7_isAtPlace 33 = .ok (.bipush 8, 2) := by decide +kernel
theorem dX7_isAtPlace_35 : decode cX7_isAtPlace 35 = .ok (.if_icmp .ge 7, 3) := by decide +kernel
theorem dX7_isAtPlace_38 : decode cX7_isAtPlace 38 = .ok (.iconst 1, 1) := by decide +kernel
theorem dX7_isAtPlace_39 : decode cX7_isAtPlace 39 = .ok (.goto 4, 3) := by decide +kernel
theorem dX7_isAtPlace_42 : decode cX7_isAtPlace 42 = .ok (.iconst 0, 1) := by decide +kernel
theorem dX7_isAtPlace_43 : decode cX7_isAtPlace 43 = .ok (.ireturn, 1) := by decide +kernel
theorem dX7_isAtPlace_44 : decode cX7_isAtPlace 44 = .ok (.iload_n 1, 1) := by decide +kernel
theorem dX7_isAtPlace_45 : decode cX7_isAtPlace 45 = .ok (.bipush 8, 2) := by decide +kernel
theorem dX7_isAtPlace_47 : decode cX7_isAtPlace 47 = .ok (.if_icmp .lt 7, 3) := by decide +kernel
theorem dX7_isAtPlace_50 : decode cX7_isAtPlace 50 = .ok (.iconst 1, 1) := by decide +kernel
theorem dX7_isAtPlace_51 : decode cX7_isAtPlace 51 = .ok (.goto 4, 3) := by decide +kernel
theorem dX7_isAtPlace_54 : decode cX7_isAtPlace 54 = .ok (.iconst 0, 1) := by decide +kernel
theorem dX7_isAtPlace_55 : decode cX7_isAtPlace 55 = .ok (.ireturn, 1) := by decide +kernel
theorem dX7_isAtPlace_56 : decode cX7_isAtPlace 56 = .ok (.iload_n 2, 1) := by decide +kernel
theorem dX7_isAtPlace_57 : decode cX7_isAtPlace 57 = .ok (.bipush 8, 2) := by decide +kernel
theorem dX7_isAtPlace_59 : decode cX7_isAtPlace 59 = .ok (.if_icmp .ge 7, 3) := by decide +kernel
theorem dX7_isAtPlace_62 : decode cX7_isAtPlace 62 = .ok (.iconst 1, 1) := by decide +kernel
theorem dX7_isAtPlace_63 : decode cX7_isAtPlace 63 = .ok (.goto 4, 3) := by decide +kernel
theorem dX7_isAtPlace_66 : decode cX7_isAtPlace 66 = .ok (.iconst 0, 1) := by decide +kernel
theorem dX7_isAtPlace_67 : decode cX7_isAtPlace 67 = .ok (.ireturn, 1) := by decide +kernel
theorem dX7_isAtPlace_68 : decode cX7_isAtPlace 68 = .ok (.iload_n 2, 1) := by decide +kernel
theorem dX7_isAtPlace_69 : decode cX7_isAtPlace 69 = .ok (.bipush 8, 2) := by decide +kernel
theorem dX7_isAtPlace_71 : decode cX7_isAtPlace 71 = .ok (.if_icmp .lt 7, 3) := by decide +kernel
theorem dX7_isAtPlace_74 : decode cX7_isAtPlace 74 = .ok (.iconst 1, 1) := by decide +kernel
theorem dX7_isAtPlace_75 : decode cX7_isAtPlace 75 = .ok (.goto 4, 3) := by decide +kernel
theorem dX7_isAtPlace_78 : decode cX7_isAtPlace 78 = .ok (.iconst 0, 1) := by decide +kernel
theorem dX7_isAtPlace_79 : decode cX7_isAtPlace 79 = .ok (.ireturn, 1) := by decide +kernel
theorem dX7_isAtPlace_80 : decode cX7_isAtPlace 80 = .ok (.iconst 1, 1) := by decide +kernel
theorem dX7_isAtPlace_81 : decode cX7_isAtPlace 81 = .ok (.ireturn, 1) := by decide +kernel
set_option maxRecDepth 20000 in
theorem ggX7_layOnBody_X7_chargeRows : GoodIn wsX7_layOnBody wsX7_chargeRows := goodIn_r _ [11, 12, 13, 37, 38, 39, 40, 41, 42, 43, 44, 45, 46, 47, 48, 49] (by decide +kernel) (by decide +kernel)
set_option maxRecDepth 20000 in
theorem gX7_layOnBody_X7_chargeRows : GoodIn wsX7_layOnBody (wsV RX7 182 RX7 yX7_chargeRows wsX7_chargeRows) := goodIn_app (goodIn_of _ (by decide +kernel)) ggX7_layOnBody_X7_chargeRows
set_option maxRecDepth 20000 in
theorem ggX7_layOnBody_J6_bitCount_0f7a4 : GoodIn wsX7_layOnBody wsJ6_bitCount_0f7a4 := goodIn_r _ [17, 18, 19, 20] (by decide +kernel) (by decide +kernel)
set_option maxRecDepth 20000 in
theorem gX7_layOnBody_J6_bitCount_0f7a4 : GoodIn wsX7_layOnBody (va_wsS RX7 210 yJ6_bitCount_0f7a4 wsJ6_bitCount_0f7a4) := goodIn_app (goodIn_of _ (by decide +kernel)) ggX7_layOnBody_J6_bitCount_0f7a4
set_option maxRecDepth 20000 in
theorem ggX7_layOnBody_X7_stamp : GoodIn wsX7_layOnBody wsX7_stamp := goodIn_ca (goodIn_r _ [23] (by decide +kernel) (by decide +kernel)) (goodIn_sub (fun _ h => List.mem_cons_of_mem _ (List.mem_append_right _ h)) (by decide +kernel))
set_option maxRecDepth 20000 in
theorem gX7_layOnBody_X7_stamp : GoodIn wsX7_layOnBody (va_wsS RX7 197 yX7_stamp wsX7_stamp) := goodIn_app (goodIn_of _ (by decide +kernel)) ggX7_layOnBody_X7_stamp
theorem dX7_layOnBody_0 : decode cX7_layOnBody 0 = .ok (.aload_n 0, 1) := by decide +kernel
theorem dX7_layOnBody_1 : decode cX7_layOnBody 1 = .ok (.aload_n 1, 1) := by decide +kernel
theorem dX7_layOnBody_2 : decode cX7_layOnBody 2 = .ok (.getfield 201, 3) := by decide +kernel
theorem dX7_layOnBody_5 : decode cX7_layOnBody 5 = .ok (.aload_n 1, 1) := by decide +kernel
theorem dX7_layOnBody_6 : decode cX7_layOnBody 6 = .ok (.getfield 204, 3) := by decide +kernel
theorem dX7_layOnBody_9 : decode cX7_layOnBody 9 = .ok (.invokevirtual 182, 3) := by decide +kernel
theorem dX7_layOnBody_12 : decode cX7_layOnBody 12 = .ok (.astore_n 2, 1) := by decide +kernel
theorem dX7_layOnBody_13 : decode cX7_layOnBody 13 = .ok (.aload_n 1, 1) := by decide +kernel
theorem dX7_layOnBody_14 : decode cX7_layOnBody 14 = .ok (.iconst 0, 1) := by decide +kernel
theorem dX7_layOnBody_15 : decode cX7_layOnBody 15 = .ok (.putfield 207, 3) := by decide +kernel
theorem dX7_layOnBody_18 : decode cX7_layOnBody 18 = .ok (.iconst 0, 1) := by decide +kernel
theorem dX7_layOnBody_19 : decode cX7_layOnBody 19 = .ok (.istore_n 3, 1) := by decide +kernel
theorem dX7_layOnBody_20 : decode cX7_layOnBody 20 = .ok (.iload_n 3, 1) := by decide +kernel
theorem dX7_layOnBody_21 : decode cX7_layOnBody 21 = .ok (.bipush 16, 2) := by decide +kernel
theorem dX7_layOnBody_23 : decode cX7_layOnBody 23 = .ok (.if_icmp .ge 104, 3) := by decide +kernel
theorem dX7_layOnBody_26 : decode cX7_layOnBody 26 = .ok (.aload_n 1, 1) := by decide +kernel
theorem dX7_layOnBody_27 : decode cX7_layOnBody 27 = .ok (.getfield 207, 3) := by decide +kernel
theorem dX7_layOnBody_30 : decode cX7_layOnBody 30 = .ok (.aload_n 1, 1) := by decide +kernel
theorem dX7_layOnBody_31 : decode cX7_layOnBody 31 = .ok (.getfield 166, 3) := by decide +kernel
theorem dX7_layOnBody_34 : decode cX7_layOnBody 34 = .ok (.if_icmp .ge 93, 3) := by decide +kernel
theorem dX7_layOnBody_37 : decode cX7_layOnBody 37 = .ok (.iload_n 3, 1) := by decide +kernel
theorem dX7_layOnBody_38 : decode cX7_layOnBody 38 = .ok (.iconst 4, 1) := by decide +kernel
theorem dX7_layOnBody_39 : decode cX7_layOnBody 39 = .ok (.idiv, 1) := by decide +kernel
theorem dX7_layOnBody_40 : decode cX7_layOnBody 40 = .ok (.iconst 4, 1) := by decide +kernel
theorem dX7_layOnBody_41 : decode cX7_layOnBody 41 = .ok (.imul, 1) := by decide +kernel
theorem dX7_layOnBody_42 : decode cX7_layOnBody 42 = .ok (.istore 4, 2) := by decide +kernel
theorem dX7_layOnBody_44 : decode cX7_layOnBody 44 = .ok (.iload_n 3, 1) := by decide +kernel
theorem dX7_layOnBody_45 : decode cX7_layOnBody 45 = .ok (.iconst 4, 1) := by decide +kernel
theorem dX7_layOnBody_46 : decode cX7_layOnBody 46 = .ok (.irem, 1) := by decide +kernel
theorem dX7_layOnBody_47 : decode cX7_layOnBody 47 = .ok (.iconst 4, 1) := by decide +kernel
theorem dX7_layOnBody_48 : decode cX7_layOnBody 48 = .ok (.imul, 1) := by decide +kernel
theorem dX7_layOnBody_49 : decode cX7_layOnBody 49 = .ok (.istore 5, 2) := by decide +kernel
theorem dX7_layOnBody_51 : decode cX7_layOnBody 51 = .ok (.iconst 0, 1) := by decide +kernel
theorem dX7_layOnBody_52 : decode cX7_layOnBody 52 = .ok (.istore 6, 2) := by decide +kernel
theorem dX7_layOnBody_54 : decode cX7_layOnBody 54 = .ok (.iconst 0, 1) := by decide +kernel
theorem dX7_layOnBody_55 : decode cX7_layOnBody 55 = .ok (.istore 7, 2) := by decide +kernel
theorem dX7_layOnBody_57 : decode cX7_layOnBody 57 = .ok (.iload 7, 2) := by decide +kernel
theorem dX7_layOnBody_59 : decode cX7_layOnBody 59 = .ok (.iconst 3, 1) := by decide +kernel
theorem dX7_layOnBody_60 : decode cX7_layOnBody 60 = .ok (.if_icmp .ge 33, 3) := by decide +kernel
theorem dX7_layOnBody_63 : decode cX7_layOnBody 63 = .ok (.iload 6, 2) := by decide +kernel
theorem dX7_layOnBody_65 : decode cX7_layOnBody 65 = .ok (.aload_n 0, 1) := by decide +kernel
theorem dX7_layOnBody_66 : decode cX7_layOnBody 66 = .ok (.getfield 29, 3) := by decide +kernel
theorem dX7_layOnBody_69 : decode cX7_layOnBody 69 = .ok (.iload 4, 2) := by decide +kernel
theorem dX7_layOnBody_71 : decode cX7_layOnBody 71 = .ok (.iload 7, 2) := by decide +kernel
theorem dX7_layOnBody_73 : decode cX7_layOnBody 73 = .ok (.iadd, 1) := by decide +kernel
theorem dX7_layOnBody_74 : decode cX7_layOnBody 74 = .ok (.iaload, 1) := by decide +kernel
theorem dX7_layOnBody_75 : decode cX7_layOnBody 75 = .ok (.bipush 7, 2) := by decide +kernel
theorem dX7_layOnBody_77 : decode cX7_layOnBody 77 = .ok (.iload 5, 2) := by decide +kernel
theorem dX7_layOnBody_79 : decode cX7_layOnBody 79 = .ok (.ishl, 1) := by decide +kernel
theorem dX7_layOnBody_80 : decode cX7_layOnBody 80 = .ok (.iand, 1) := by decide +kernel
theorem dX7_layOnBody_81 : decode cX7_layOnBody 81 = .ok (.invokestatic 210, 3) := by decide +kernel
theorem dX7_layOnBody_84 : decode cX7_layOnBody 84 = .ok (.iadd, 1) := by decide +kernel
theorem dX7_layOnBody_85 : decode cX7_layOnBody 85 = .ok (.istore 6, 2) := by decide +kernel
theorem dX7_layOnBody_87 : decode cX7_layOnBody 87 = .ok (.iinc 7 1, 3) := by decide +kernel
theorem dX7_layOnBody_90 : decode cX7_layOnBody 90 = .ok (.goto (-33), 3) := by decide +kernel
theorem dX7_layOnBody_93 : decode cX7_layOnBody 93 = .ok (.iload 6, 2) := by decide +kernel
theorem dX7_layOnBody_95 : decode cX7_layOnBody 95 = .ok (.iconst 5, 1) := by decide +kernel
theorem dX7_layOnBody_96 : decode cX7_layOnBody 96 = .ok (.if_icmp .lt 25, 3) := by decide +kernel
theorem dX7_layOnBody_99 : decode cX7_layOnBody 99 = .ok (.aload_n 0, 1) := by decide +kernel
theorem dX7_layOnBody_100 : decode cX7_layOnBody 100 = .ok (.getfield 32, 3) := by decide +kernel
theorem dX7_layOnBody_103 : decode cX7_layOnBody 103 = .ok (.aload_n 2, 1) := by decide +kernel
theorem dX7_layOnBody_104 : decode cX7_layOnBody 104 = .ok (.iload 4, 2) := by decide +kernel
theorem dX7_layOnBody_106 : decode cX7_layOnBody 106 = .ok (.iload 5, 2) := by decide +kernel
theorem dX7_layOnBody_108 : decode cX7_layOnBody 108 = .ok (.invokestatic 197, 3) := by decide +kernel
theorem dX7_layOnBody_111 : decode cX7_layOnBody 111 = .ok (.aload_n 1, 1) := by decide +kernel
theorem dX7_layOnBody_112 : decode cX7_layOnBody 112 = .ok (.dup, 1) := by decide +kernel
theorem dX7_layOnBody_113 : decode cX7_layOnBody 113 = .ok (.getfield 207, 3) := by decide +kernel
theorem dX7_layOnBody_116 : decode cX7_layOnBody 116 = .ok (.iconst 1, 1) := by decide +kernel
theorem dX7_layOnBody_117 : decode cX7_layOnBody 117 = .ok (.iadd, 1) := by decide +kernel
theorem dX7_layOnBody_118 : decode cX7_layOnBody 118 = .ok (.putfield 207, 3) := by decide +kernel
theorem dX7_layOnBody_121 : decode cX7_layOnBody 121 = .ok (.iinc 3 1, 3) := by decide +kernel
theorem dX7_layOnBody_124 : decode cX7_layOnBody 124 = .ok (.goto (-104), 3) := by decide +kernel
theorem dX7_layOnBody_127 : decode cX7_layOnBody 127 = .ok (.iconst 0, 1) := by decide +kernel
theorem dX7_layOnBody_128 : decode cX7_layOnBody 128 = .ok (.istore_n 3, 1) := by decide +kernel
theorem dX7_layOnBody_129 : decode cX7_layOnBody 129 = .ok (.iload_n 3, 1) := by decide +kernel
theorem dX7_layOnBody_130 : decode cX7_layOnBody 130 = .ok (.bipush 16, 2) := by decide +kernel
theorem dX7_layOnBody_132 : decode cX7_layOnBody 132 = .ok (.if_icmp .ge 24, 3) := by decide +kernel
theorem dX7_layOnBody_135 : decode cX7_layOnBody 135 = .ok (.aload_n 0, 1) := by decide +kernel
theorem dX7_layOnBody_136 : decode cX7_layOnBody 136 = .ok (.getfield 32, 3) := by decide +kernel
theorem dX7_layOnBody_139 : decode cX7_layOnBody 139 = .ok (.iload_n 3, 1) := by decide +kernel
theorem dX7_layOnBody_140 : decode cX7_layOnBody 140 = .ok (.dup2, 1) := by decide +kernel
theorem dX7_layOnBody_141 : decode cX7_layOnBody 141 = .ok (.iaload, 1) := by decide +kernel
theorem dX7_layOnBody_142 : decode cX7_layOnBody 142 = .ok (.aload_n 0, 1) := by decide +kernel
theorem dX7_layOnBody_143 : decode cX7_layOnBody 143 = .ok (.getfield 29, 3) := by decide +kernel
theorem dX7_layOnBody_146 : decode cX7_layOnBody 146 = .ok (.iload_n 3, 1) := by decide +kernel
theorem dX7_layOnBody_147 : decode cX7_layOnBody 147 = .ok (.iaload, 1) := by decide +kernel
theorem dX7_layOnBody_148 : decode cX7_layOnBody 148 = .ok (.iand, 1) := by decide +kernel
theorem dX7_layOnBody_149 : decode cX7_layOnBody 149 = .ok (.iastore, 1) := by decide +kernel
theorem dX7_layOnBody_150 : decode cX7_layOnBody 150 = .ok (.iinc 3 1, 3) := by decide +kernel
theorem dX7_layOnBody_153 : decode cX7_layOnBody 153 = .ok (.goto (-24), 3) := by decide +kernel
theorem dX7_layOnBody_156 : decode cX7_layOnBody 156 = .ok (.return_, 1) := by decide +kernel
theorem dX7_stamp_0 : decode cX7_stamp 0 = .ok (.iconst 0, 1) := by decide +kernel
theorem dX7_stamp_1 : decode cX7_stamp 1 = .ok (.istore 4, 2) := by decide +kernel
theorem dX7_stamp_3 : decode cX7_stamp 3 = .ok (.iload 4, 2) := by decide +kernel
theorem dX7_stamp_5 : decode cX7_stamp 5 = .ok (.iconst 3, 1) := by decide +kernel
theorem dX7_stamp_6 : decode cX7_stamp 6 = .ok (.if_icmp .ge 34, 3) := by decide +kernel
theorem dX7_stamp_9 : decode cX7_stamp 9 = .ok (.iload 4, 2) := by decide +kernel
theorem dX7_stamp_11 : decode cX7_stamp 11 = .ok (.aload_n 1, 1) := by decide +kernel
theorem dX7_stamp_12 : decode cX7_stamp 12 = .ok (.arraylength, 1) := by decide +kernel
theorem dX7_stamp_13 : decode cX7_stamp 13 = .ok (.if_icmp .ge 27, 3) := by decide +kernel
theorem dX7_stamp_16 : decode cX7_stamp 16 = .ok (.aload_n 0, 1) := by decide +kernel
theorem dX7_stamp_17 : decode cX7_stamp 17 = .ok (.iload_n 2, 1) := by decide +kernel
theorem dX7_stamp_18 : decode cX7_stamp 18 = .ok (.iload 4, 2) := by decide +kernel
theorem dX7_stamp_20 : decode cX7_stamp 20 = .ok (.iadd, 1) := by decide +kernel
theorem dX7_stamp_21 : decode cX7_stamp 21 = .ok (.bipush 15, 2) := by decide +kernel
theorem dX7_stamp_23 : decode cX7_stamp 23 = .ok (.iand, 1) := by decide +kernel
theorem dX7_stamp_24 : decode cX7_stamp 24 = .ok (.dup2, 1) := by decide +kernel
theorem dX7_stamp_25 : decode cX7_stamp 25 = .ok (.iaload, 1) := by decide +kernel
theorem dX7_stamp_26 : decode cX7_stamp 26 = .ok (.aload_n 1, 1) := by decide +kernel
theorem dX7_stamp_27 : decode cX7_stamp 27 = .ok (.iload 4, 2) := by decide +kernel
theorem dX7_stamp_29 : decode cX7_stamp 29 = .ok (.iaload, 1) := by decide +kernel
theorem dX7_stamp_30 : decode cX7_stamp 30 = .ok (.iload_n 3, 1) := by decide +kernel
theorem dX7_stamp_31 : decode cX7_stamp 31 = .ok (.ishl, 1) := by decide +kernel
theorem dX7_stamp_32 : decode cX7_stamp 32 = .ok (.ior, 1) := by decide +kernel
theorem dX7_stamp_33 : decode cX7_stamp 33 = .ok (.iastore, 1) := by decide +kernel
theorem dX7_stamp_34 : decode cX7_stamp 34 = .ok (.iinc 4 1, 3) := by decide +kernel
theorem dX7_stamp_37 : decode cX7_stamp 37 = .ok (.goto (-34), 3) := by decide +kernel
theorem dX7_stamp_40 : decode cX7_stamp 40 = .ok (.return_, 1) := by decide +kernel
theorem dX7_firstBorne_0 : decode cX7_firstBorne 0 = .ok (.iconst 0, 1) := by decide +kernel
theorem dX7_firstBorne_1 : decode cX7_firstBorne 1 = .ok (.istore 4, 2) := by decide +kernel
theorem dX7_firstBorne_3 : decode cX7_firstBorne 3 = .ok (.iconst 0, 1) := by decide +kernel
theorem dX7_firstBorne_4 : decode cX7_firstBorne 4 = .ok (.istore 5, 2) := by decide +kernel
theorem dX7_firstBorne_6 : decode cX7_firstBorne 6 = .ok (.iload 5, 2) := by decide +kernel
theorem dX7_firstBorne_8 : decode cX7_firstBorne 8 = .ok (.iload_n 3, 1) := by decide +kernel
theorem dX7_firstBorne_9 : decode cX7_firstBorne 9 = .ok (.if_icmp .ge 25, 3) := by decide +kernel
theorem dX7_firstBorne_12 : decode cX7_firstBorne 12 = .ok (.iload 5, 2) := by decide +kernel
theorem dX7_firstBorne_14 : decode cX7_firstBorne 14 = .ok (.aload_n 2, 1) := by decide +kernel
theorem dX7_firstBorne_15 : decode cX7_firstBorne 15 = .ok (.arraylength, 1) := by decide +kernel
theorem dX7_firstBorne_16 : decode cX7_firstBorne 16 = .ok (.if_icmp .ge 18, 3) := by decide +kernel
theorem dX7_firstBorne_19 : decode cX7_firstBorne 19 = .ok (.iload 4, 2) := by decide +kernel
theorem dX7_firstBorne_21 : decode cX7_firstBorne 21 = .ok (.aload_n 2, 1) := by decide +kernel
theorem dX7_firstBorne_22 : decode cX7_firstBorne 22 = .ok (.iload 5, 2) := by decide +kernel
theorem dX7_firstBorne_24 : decode cX7_firstBorne 24 = .ok (.iaload, 1) := by decide +kernel
theorem dX7_firstBorne_25 : decode cX7_firstBorne 25 = .ok (.iadd, 1) := by decide +kernel
theorem dX7_firstBorne_26 : decode cX7_firstBorne 26 = .ok (.istore 4, 2) := by decide +kernel
theorem dX7_firstBorne_28 : decode cX7_firstBorne 28 = .ok (.iinc 5 1, 3) := by decide +kernel
theorem dX7_firstBorne_31 : decode cX7_firstBorne 31 = .ok (.goto (-25), 3) := by decide +kernel
theorem dX7_firstBorne_34 : decode cX7_firstBorne 34 = .ok (.iload_n 0, 1) := by decide +kernel
theorem dX7_firstBorne_35 : decode cX7_firstBorne 35 = .ok (.iconst 2, 1) := by decide +kernel
theorem dX7_firstBorne_36 : decode cX7_firstBorne 36 = .ok (.if_icmp .ne 14, 3) := by decide +kernel
theorem dX7_firstBorne_39 : decode cX7_firstBorne 39 = .ok (.iload_n 1, 1) := by decide +kernel
theorem dX7_firstBorne_40 : decode cX7_firstBorne 40 = .ok (.bipush 8, 2) := by decide +kernel
theorem dX7_firstBorne_42 : decode cX7_firstBorne 42 = .ok (.if_icmp .ge 8, 3) := by decide +kernel
theorem dX7_firstBorne_45 : decode cX7_firstBorne 45 = .ok (.iload 4, 2) := by decide +kernel
theorem dX7_firstBorne_47 : decode cX7_firstBorne 47 = .ok (.ifCond .ge 5, 3) := by decide +kernel
theorem dX7_firstBorne_50 : decode cX7_firstBorne 50 = .ok (.iload_n 1, 1) := by decide +kernel
theorem dX7_firstBorne_51 : decode cX7_firstBorne 51 = .ok (.ireturn, 1) := by decide +kernel
theorem dX7_firstBorne_52 : decode cX7_firstBorne 52 = .ok (.iload_n 1, 1) := by decide +kernel
theorem dX7_firstBorne_53 : decode cX7_firstBorne 53 = .ok (.iconst 2, 1) := by decide +kernel
theorem dX7_firstBorne_54 : decode cX7_firstBorne 54 = .ok (.if_icmp .gt 16, 3) := by decide +kernel
theorem dX7_firstBorne_57 : decode cX7_firstBorne 57 = .ok (.iconst 1, 1) := by decide +kernel
theorem dX7_firstBorne_58 : decode cX7_firstBorne 58 = .ok (.iload_n 1, 1) := by decide +kernel
theorem dX7_firstBorne_59 : decode cX7_firstBorne 59 = .ok (.iconst 1, 1) := by decide +kernel
theorem dX7_firstBorne_60 : decode cX7_firstBorne 60 = .ok (.isub, 1) := by decide +kernel
theorem dX7_firstBorne_61 : decode cX7_firstBorne 61 = .ok (.iload 4, 2) := by decide +kernel
theorem dX7_firstBorne_63 : decode cX7_firstBorne 63 = .ok (.iadd, 1) := by decide +kernel
theorem dX7_firstBorne_64 : decode cX7_firstBorne 64 = .ok (.iconst 2, 1) := by decide +kernel
theorem dX7_firstBorne_65 : decode cX7_firstBorne 65 = .ok (.irem, 1) := by decide +kernel
theorem dX7_firstBorne_66 : decode cX7_firstBorne 66 = .ok (.iadd, 1) := by decide +kernel
theorem dX7_firstBorne_67 : decode cX7_firstBorne 67 = .ok (.goto 13, 3) := by decide +kernel
theorem dX7_firstBorne_70 : decode cX7_firstBorne 70 = .ok (.iconst 3, 1) := by decide +kernel
theorem dX7_firstBorne_71 : decode cX7_firstBorne 71 = .ok (.iload_n 1, 1) := by decide +kernel
theorem dX7_firstBorne_72 : decode cX7_firstBorne 72 = .ok (.iconst 3, 1) := by decide +kernel
theorem dX7_firstBorne_73 : decode cX7_firstBorne 73 = .ok (.isub, 1) := by decide +kernel
theorem dX7_firstBorne_74 : decode cX7_firstBorne 74 = .ok (.iload 4, 2) := by decide +kernel
theorem dX7_firstBorne_76 : decode cX7_firstBorne 76 = .ok (.iadd, 1) := by decide +kernel
theorem dX7_firstBorne_77 : decode cX7_firstBorne 77 = .ok (.iconst 5, 1) := by decide +kernel
theorem dX7_firstBorne_78 : decode cX7_firstBorne 78 = .ok (.irem, 1) := by decide +kernel
theorem dX7_firstBorne_79 : decode cX7_firstBorne 79 = .ok (.iadd, 1) := by decide +kernel
theorem dX7_firstBorne_80 : decode cX7_firstBorne 80 = .ok (.ireturn, 1) := by decide +kernel
set_option maxRecDepth 20000 in
theorem ggX7_paintMarks_X3_clear : GoodIn wsX7_paintMarks wsX3_clear := goodIn_r _ [15, 16, 17, 18, 19, 20, 21, 22, 23, 24, 25, 26, 14, 27, 28, 29, 30, 31, 32, 129, 130, 131, 132, 133, 134, 135, 136, 137, 138, 139, 140, 141] (by decide +kernel) (by decide +kernel)
set_option maxRecDepth 20000 in
theorem gX7_paintMarks_X3_clear : GoodIn wsX7_paintMarks (wsV RX7 215 RX3 yX3_clear wsX3_clear) := goodIn_app (goodIn_of _ (by decide +kernel)) ggX7_paintMarks_X3_clear
set_option maxRecDepth 20000 in
theorem ggX7_paintMarks_X7_paintGroup : GoodIn wsX7_paintMarks wsX7_paintGroup := goodIn_ca (goodIn_r _ [37, 38, 10, 39, 40, 41, 3, 4, 5, 6, 42, 43, 44, 45, 9, 46, 47, 48, 49, 50, 51, 52, 53, 54, 36, 55, 7, 56, 57, 2, 8, 58, 59, 60, 61, 62, 63, 64, 65, 66, 67, 68, 69, 70, 71, 72, 73, 74, 75, 76, 77, 78, 79, 80, 81, 82, 83, 84, 85, 86, 87, 88, 89, 90, 91, 92, 93, 94, 95, 96, 97, 98, 99, 100, 101, 102, 103, 104, 105, 106, 107, 108, 109, 110, 111, 112, 113, 114, 115, 116, 117, 118, 119, 120, 121, 122, 123, 124, 125, 126, 127, 128, 129, 130, 131, 132, 133, 134, 135, 136, 137, 138, 139, 140, 141, 142, 143, 144, 145, 146] (by decide +kernel) (by decide +kernel)) (goodIn_sub (fun _ h => List.mem_cons_of_mem _ (List.mem_append_right _ h)) (by decide +kernel))
set_option maxRecDepth 20000 in
theorem gX7_paintMarks_X7_paintGroup : GoodIn wsX7_paintMarks (wsV RX7 115 RX7 yX7_paintGroup wsX7_paintGroup) := goodIn_app (goodIn_of _ (by decide +kernel)) ggX7_paintMarks_X7_paintGroup
theorem dX7_paintMarks_0 : decode cX7_paintMarks 0 = .ok (.iconst 0, 1) := by decide +kernel
theorem dX7_paintMarks_1 : decode cX7_paintMarks 1 = .ok (.istore 6, 2) := by decide +kernel
theorem dX7_paintMarks_3 : decode cX7_paintMarks 3 = .ok (.iload 6, 2) := by decide +kernel
theorem dX7_paintMarks_5 : decode cX7_paintMarks 5 = .ok (.iload 5, 2) := by decide +kernel
theorem dX7_paintMarks_7 : decode cX7_paintMarks 7 = .ok (.if_icmp .ge 127, 3) := by decide +kernel
theorem dX7_paintMarks_10 : decode cX7_paintMarks 10 = .ok (.iload 6, 2) := by decide +kernel
theorem dX7_paintMarks_12 : decode cX7_paintMarks 12 = .ok (.aload 4, 2) := by decide +kernel
theorem dX7_paintMarks_14 : decode cX7_paintMarks 14 = .ok (.arraylength, 1) := by decide +kernel
theorem dX7_paintMarks_15 : decode cX7_paintMarks 15 = .ok (.if_icmp .ge 119, 3) := by decide +kernel
theorem dX7_paintMarks_18 : decode cX7_paintMarks 18 = .ok (.iload_n 2, 1) := by decide +kernel
theorem dX7_paintMarks_19 : decode cX7_paintMarks 19 = .ok (.iconst 2, 1) := by decide +kernel
theorem dX7_paintMarks_20 : decode cX7_paintMarks 20 = .ok (.if_icmp .ge 114, 3) := by decide +kernel
theorem dX7_paintMarks_23 : decode cX7_paintMarks 23 = .ok (.aload_n 0, 1) := by decide +kernel
theorem dX7_paintMarks_24 : decode cX7_paintMarks 24 = .ok (.getfield 47, 3) := by decide +kernel
theorem dX7_paintMarks_27 : decode cX7_paintMarks 27 = .ok (.invokevirtual 215, 3) := by decide +kernel
theorem dX7_paintMarks_30 : decode cX7_paintMarks 30 = .ok (.iload_n 2, 1) := by decide +kernel
theorem dX7_paintMarks_31 : decode cX7_paintMarks 31 = .ok (.ifCond .ne 60, 3) := by decide +kernel
theorem dX7_paintMarks_34 : decode cX7_paintMarks 34 = .ok (.aload_n 0, 1) := by decide +kernel
theorem dX7_paintMarks_35 : decode cX7_paintMarks 35 = .ok (.getfield 47, 3) := by decide +kernel
theorem dX7_paintMarks_38 : decode cX7_paintMarks 38 = .ok (.iconst 1, 1) := by decide +kernel
theorem dX7_paintMarks_39 : decode cX7_paintMarks 39 = .ok (.putfield 188, 3) := by decide +kernel
theorem dX7_paintMarks_42 : decode cX7_paintMarks 42 = .ok (.aload_n 0, 1) := by decide +kernel
theorem dX7_paintMarks_43 : decode cX7_paintMarks 43 = .ok (.getfield 47, 3) := by decide +kernel
theorem dX7_paintMarks_46 : decode cX7_paintMarks 46 = .ok (.bipush 50, 2) := by decide +kernel
theorem dX7_paintMarks_48 : decode cX7_paintMarks 48 = .ok (.aload 4, 2) := by decide +kernel
theorem dX7_paintMarks_50 : decode cX7_paintMarks 50 = .ok (.iload 6, 2) := by decide +kernel
theorem dX7_paintMarks_52 : decode cX7_paintMarks 52 = .ok (.iaload, 1) := by decide +kernel
theorem dX7_paintMarks_53 : decode cX7_paintMarks 53 = .ok (.iadd, 1) := by decide +kernel
theorem dX7_paintMarks_54 : decode cX7_paintMarks 54 = .ok (.bipush 58, 2) := by decide +kernel
theorem dX7_paintMarks_56 : decode cX7_paintMarks 56 = .ok (.invokestatic 147, 3) := by decide +kernel
theorem dX7_paintMarks_59 : decode cX7_paintMarks 59 = .ok (.putfield 176, 3) := by decide +kernel
theorem dX7_paintMarks_62 : decode cX7_paintMarks 62 = .ok (.aload_n 0, 1) := by decide +kernel
theorem dX7_paintMarks_63 : decode cX7_paintMarks 63 = .ok (.getfield 47, 3) := by decide +kernel
theorem dX7_paintMarks_66 : decode cX7_paintMarks 66 = .ok (.bipush 41, 2) := by decide +kernel
theorem dX7_paintMarks_68 : decode cX7_paintMarks 68 = .ok (.putfield 191, 3) := by decide +kernel
theorem dX7_paintMarks_71 : decode cX7_paintMarks 71 = .ok (.aload_n 0, 1) := by decide +kernel
theorem dX7_paintMarks_72 : decode cX7_paintMarks 72 = .ok (.getfield 47, 3) := by decide +kernel
theorem dX7_paintMarks_75 : decode cX7_paintMarks 75 = .ok (.iload_n 3, 1) := by decide +kernel
theorem dX7_paintMarks_76 : decode cX7_paintMarks 76 = .ok (.iconst 5, 1) := by decide +kernel
theorem dX7_paintMarks_77 : decode cX7_paintMarks 77 = .ok (.if_icmp .ne 7, 3) := by decide +kernel
theorem dX7_paintMarks_80 : decode cX7_paintMarks 80 = .ok (.iconst 2, 1) := by decide +kernel
theorem dX7_paintMarks_81 : decode cX7_paintMarks 81 = .ok (.goto 4, 3) := by decide +kernel
theorem dX7_paintMarks_84 : decode cX7_paintMarks 84 = .ok (.iconst 5, 1) := by decide +kernel
theorem dX7_paintMarks_85 : decode cX7_paintMarks 85 = .ok (.putfield 156, 3) := by decide +kernel
theorem dX7_paintMarks_88 : decode cX7_paintMarks 88 = .ok (.goto 31, 3) := by decide +kernel
theorem dX7_paintMarks_91 : decode cX7_paintMarks 91 = .ok (.aload_n 0, 1) := by decide +kernel
theorem dX7_paintMarks_92 : decode cX7_paintMarks 92 = .ok (.getfield 47, 3) := by decide +kernel
theorem dX7_paintMarks_95 : decode cX7_paintMarks 95 = .ok (.bipush 28, 2) := by decide +kernel
theorem dX7_paintMarks_97 : decode cX7_paintMarks 97 = .ok (.putfield 133, 3) := by decide +kernel
theorem dX7_paintMarks_100 : decode cX7_paintMarks 100 = .ok (.aload_n 0, 1) := by decide +kernel
theorem dX7_paintMarks_101 : decode cX7_paintMarks 101 = .ok (.getfield 47, 3) := by decide +kernel
theorem dX7_paintMarks_104 : decode cX7_paintMarks 104 = .ok (.iconst 2, 1) := by decide +kernel
theorem dX7_paintMarks_105 : decode cX7_paintMarks 105 = .ok (.aload 4, 2) := by decide +kernel
theorem dX7_paintMarks_107 : decode cX7_paintMarks 107 = .ok (.iload 6, 2) := by decide +kernel
theorem dX7_paintMarks_109 : decode cX7_paintMarks 109 = .ok (.iaload, 1) := by decide +kernel
theorem dX7_paintMarks_110 : decode cX7_paintMarks 110 = .ok (.iadd, 1) := by decide +kernel
theorem dX7_paintMarks_111 : decode cX7_paintMarks 111 = .ok (.bipush 7, 2) := by decide +kernel
theorem dX7_paintMarks_113 : decode cX7_paintMarks 113 = .ok (.invokestatic 147, 3) := by decide +kernel
theorem dX7_paintMarks_116 : decode cX7_paintMarks 116 = .ok (.putfield 156, 3) := by decide +kernel
theorem dX7_paintMarks_119 : decode cX7_paintMarks 119 = .ok (.aload_n 0, 1) := by decide +kernel
theorem dX7_paintMarks_120 : decode cX7_paintMarks 120 = .ok (.aload_n 1, 1) := by decide +kernel
theorem dX7_paintMarks_121 : decode cX7_paintMarks 121 = .ok (.aload_n 0, 1) := by decide +kernel
theorem dX7_paintMarks_122 : decode cX7_paintMarks 122 = .ok (.getfield 47, 3) := by decide +kernel
theorem dX7_paintMarks_125 : decode cX7_paintMarks 125 = .ok (.invokevirtual 115, 3) := by decide +kernel
theorem dX7_paintMarks_128 : decode cX7_paintMarks 128 = .ok (.iinc 6 1, 3) := by decide +kernel
theorem dX7_paintMarks_131 : decode cX7_paintMarks 131 = .ok (.goto (-128), 3) := by decide +kernel
theorem dX7_paintMarks_134 : decode cX7_paintMarks 134 = .ok (.return_, 1) := by decide +kernel
theorem dX7_honourOf_0 : decode cX7_honourOf 0 = .ok (.iload_n 0, 1) := by decide +kernel
theorem dX7_honourOf_1 : decode cX7_honourOf 1 = .ok (.iload_n 1, 1) := by decide +kernel
theorem dX7_honourOf_2 : decode cX7_honourOf 2 = .ok (.bipush 8, 2) := by decide +kernel
theorem dX7_honourOf_4 : decode cX7_honourOf 4 = .ok (.ishl, 1) := by decide +kernel
theorem dX7_honourOf_5 : decode cX7_honourOf 5 = .ok (.ior, 1) := by decide +kernel
theorem dX7_honourOf_6 : decode cX7_honourOf 6 = .ok (.iload_n 2, 1) := by decide +kernel
theorem dX7_honourOf_7 : decode cX7_honourOf 7 = .ok (.bipush 16, 2) := by decide +kernel
theorem dX7_honourOf_9 : decode cX7_honourOf 9 = .ok (.ishl, 1) := by decide +kernel
theorem dX7_honourOf_10 : decode cX7_honourOf 10 = .ok (.ior, 1) := by decide +kernel
theorem dX7_honourOf_11 : decode cX7_honourOf 11 = .ok (.ireturn, 1) := by decide +kernel
set_option maxRecDepth 20000 in
theorem ggX7_paintHonour_X7_layHonour : GoodIn wsX7_paintHonour wsX7_layHonour := goodIn_ca (goodIn_r _ [7, 1, 2, 8, 9, 10, 6, 11, 12, 13, 14, 15, 16, 36, 37, 38, 39, 40, 41, 42, 43, 44, 45, 46, 47, 48] (by decide +kernel) (by decide +kernel)) (goodIn_sub (fun _ h => List.mem_cons_of_mem _ (List.mem_append_right _ h)) (by decide +kernel))
set_option maxRecDepth 20000 in
theorem gX7_paintHonour_X7_layHonour : GoodIn wsX7_paintHonour (wsV RX7 218 RX7 yX7_layHonour wsX7_layHonour) := goodIn_app (goodIn_of _ (by decide +kernel)) ggX7_paintHonour_X7_layHonour
set_option maxRecDepth 20000 in
theorem ggX7_paintHonour_X8_putRows : GoodIn wsX7_paintHonour wsX8_putRows := goodIn_ca (goodIn_r _ [21, 22, 23, 24, 25, 26, 27, 28, 29, 20, 30, 31, 32, 33, 34, 35, 49, 50, 51, 52, 53] (by decide +kernel) (by decide +kernel)) (goodIn_sub (fun _ h => List.mem_cons_of_mem _ (List.mem_append_right _ h)) (by decide +kernel))
set_option maxRecDepth 20000 in
theorem gX7_paintHonour_X8_putRows : GoodIn wsX7_paintHonour (wsV RX7 159 RX8 yX8_putRows wsX8_putRows) := goodIn_app (goodIn_of _ (by decide +kernel)) ggX7_paintHonour_X8_putRows
theorem dX7_paintHonour_0 : decode cX7_paintHonour 0 = .ok (.iload_n 2, 1) := by decide +kernel
theorem dX7_paintHonour_1 : decode cX7_paintHonour 1 = .ok (.ifCond .eq 37, 3) := by decide +kernel
theorem dX7_paintHonour_4 : decode cX7_paintHonour 4 = .ok (.aload_n 0, 1) := by decide +kernel
theorem dX7_paintHonour_5 : decode cX7_paintHonour 5 = .ok (.iload_n 2, 1) := by decide +kernel
theorem dX7_paintHonour_6 : decode cX7_paintHonour 6 = .ok (.invokevirtual 218, 3) := by decide +kernel
theorem dX7_paintHonour_9 : decode cX7_paintHonour 9 = .ok (.aload_n 1, 1) := by decide +kernel
theorem dX7_paintHonour_10 : decode cX7_paintHonour 10 = .ok (.aload_n 0, 1) := by decide +kernel
theorem dX7_paintHonour_11 : decode cX7_paintHonour 11 = .ok (.getfield 29, 3) := by decide +kernel
theorem dX7_paintHonour_14 : decode cX7_paintHonour 14 = .ok (.iload_n 2, 1) := by decide +kernel
theorem dX7_paintHonour_15 : decode cX7_paintHonour 15 = .ok (.sipush 255, 3) := by decide +kernel
theorem dX7_paintHonour_18 : decode cX7_paintHonour 18 = .ok (.iand, 1) := by decide +kernel
theorem dX7_paintHonour_19 : decode cX7_paintHonour 19 = .ok (.invokevirtual 159, 3) := by decide +kernel
theorem dX7_paintHonour_22 : decode cX7_paintHonour 22 = .ok (.aload_n 1, 1) := by decide +kernel
theorem dX7_paintHonour_23 : decode cX7_paintHonour 23 = .ok (.aload_n 0, 1) := by decide +kernel
theorem dX7_paintHonour_24 : decode cX7_paintHonour 24 = .ok (.getfield 32, 3) := by decide +kernel
theorem dX7_paintHonour_27 : decode cX7_paintHonour 27 = .ok (.iload_n 2, 1) := by decide +kernel
theorem dX7_paintHonour_28 : decode cX7_paintHonour 28 = .ok (.bipush 16, 2) := by decide +kernel
theorem dX7_paintHonour_30 : decode cX7_paintHonour 30 = .ok (.ishr, 1) := by decide +kernel
theorem dX7_paintHonour_31 : decode cX7_paintHonour 31 = .ok (.sipush 255, 3) := by decide +kernel
theorem dX7_paintHonour_34 : decode cX7_paintHonour 34 = .ok (.iand, 1) := by decide +kernel
theorem dX7_paintHonour_35 : decode cX7_paintHonour 35 = .ok (.invokevirtual 159, 3) := by decide +kernel
theorem dX7_paintHonour_38 : decode cX7_paintHonour 38 = .ok (.return_, 1) := by decide +kernel
set_option maxRecDepth 20000 in
theorem ggX7_layHonour_X7_chargeRows : GoodIn wsX7_layHonour wsX7_chargeRows := goodIn_r _ [7, 8, 9, 13, 14, 15, 16, 17, 18, 19, 20, 21, 22, 23, 24, 25] (by decide +kernel) (by decide +kernel)
set_option maxRecDepth 20000 in
theorem gX7_layHonour_X7_chargeRows : GoodIn wsX7_layHonour (wsV RX7 182 RX7 yX7_chargeRows wsX7_chargeRows) := goodIn_app (goodIn_of _ (by decide +kernel)) ggX7_layHonour_X7_chargeRows
set_option maxRecDepth 20000 in
theorem ggX7_layHonour_X7_stamp : GoodIn wsX7_layHonour wsX7_stamp := goodIn_ca (goodIn_r _ [12] (by decide +kernel) (by decide +kernel)) (goodIn_sub (fun _ h => List.mem_cons_of_mem _ (List.mem_append_right _ h)) (by decide +kernel))
set_option maxRecDepth 20000 in
theorem gX7_layHonour_X7_stamp : GoodIn wsX7_layHonour (va_wsS RX7 197 yX7_stamp wsX7_stamp) := goodIn_app (goodIn_of _ (by decide +kernel)) ggX7_layHonour_X7_stamp
theorem dX7_layHonour_0 : decode cX7_layHonour 0 = .ok (.iconst 0, 1) := by decide +kernel
theorem dX7_layHonour_1 : decode cX7_layHonour 1 = .ok (.istore_n 2, 1) := by decide +kernel
theorem dX7_layHonour_2 : decode cX7_layHonour 2 = .ok (.iload_n 2, 1) := by decide +kernel
theorem dX7_layHonour_3 : decode cX7_layHonour 3 = .ok (.bipush 16, 2) := by decide +kernel
theorem dX7_layHonour_5 : decode cX7_layHonour 5 = .ok (.if_icmp .ge 33, 3) := by decide +kernel
theorem dX7_layHonour_8 : decode cX7_layHonour 8 = .ok (.aload_n 0, 1) := by decide +kernel
theorem dX7_layHonour_9 : decode cX7_layHonour 9 = .ok (.getfield 29, 3) := by decide +kernel
theorem dX7_layHonour_12 : decode cX7_layHonour 12 = .ok (.iload_n 2, 1) := by decide +kernel
theorem dX7_layHonour_13 : decode cX7_layHonour 13 = .ok (.iload_n 2, 1) := by decide +kernel
theorem dX7_layHonour_14 : decode cX7_layHonour 14 = .ok (.iconst 4, 1) := by decide +kernel
theorem dX7_layHonour_15 : decode cX7_layHonour 15 = .ok (.if_icmp .gt 8, 3) := by decide +kernel
theorem dX7_layHonour_18 : decode cX7_layHonour 18 = .ok (.bipush 31, 2) := by decide +kernel
theorem dX7_layHonour_20 : decode cX7_layHonour 20 = .ok (.goto 4, 3) := by decide +kernel
theorem dX7_layHonour_23 : decode cX7_layHonour 23 = .ok (.iconst 0, 1) := by decide +kernel
theorem dX7_layHonour_24 : decode cX7_layHonour 24 = .ok (.iastore, 1) := by decide +kernel
theorem dX7_layHonour_25 : decode cX7_layHonour 25 = .ok (.aload_n 0, 1) := by decide +kernel
theorem dX7_layHonour_26 : decode cX7_layHonour 26 = .ok (.getfield 32, 3) := by decide +kernel
theorem dX7_layHonour_29 : decode cX7_layHonour 29 = .ok (.iload_n 2, 1) := by decide +kernel
theorem dX7_layHonour_30 : decode cX7_layHonour 30 = .ok (.iconst 0, 1) := by decide +kernel
theorem dX7_layHonour_31 : decode cX7_layHonour 31 = .ok (.iastore, 1) := by decide +kernel
theorem dX7_layHonour_32 : decode cX7_layHonour 32 = .ok (.iinc 2 1, 3) := by decide +kernel
theorem dX7_layHonour_35 : decode cX7_layHonour 35 = .ok (.goto (-33), 3) := by decide +kernel
theorem dX7_layHonour_38 : decode cX7_layHonour 38 = .ok (.aload_n 0, 1) := by decide +kernel
theorem dX7_layHonour_39 : decode cX7_layHonour 39 = .ok (.getfield 32, 3) := by decide +kernel
theorem dX7_layHonour_42 : decode cX7_layHonour 42 = .ok (.aload_n 0, 1) := by decide +kernel
theorem dX7_layHonour_43 : decode cX7_layHonour 43 = .ok (.iload_n 1, 1) := by decide +kernel
theorem dX7_layHonour_44 : decode cX7_layHonour 44 = .ok (.bipush 8, 2) := by decide +kernel
theorem dX7_layHonour_46 : decode cX7_layHonour 46 = .ok (.ishr, 1) := by decide +kernel
theorem dX7_layHonour_47 : decode cX7_layHonour 47 = .ok (.sipush 255, 3) := by decide +kernel
theorem dX7_layHonour_50 : decode cX7_layHonour 50 = .ok (.iand, 1) := by decide +kernel
theorem dX7_layHonour_51 : decode cX7_layHonour 51 = .ok (.iconst 0, 1) := by decide +kernel
theorem dX7_layHonour_52 : decode cX7_layHonour 52 = .ok (.invokevirtual 182, 3) := by decide +kernel
theorem dX7_layHonour_55 : decode cX7_layHonour 55 = .ok (.iconst 1, 1) := by decide +kernel
theorem dX7_layHonour_56 : decode cX7_layHonour 56 = .ok (.iconst 1, 1) := by decide +kernel
theorem dX7_layHonour_57 : decode cX7_layHonour 57 = .ok (.invokestatic 197, 3) := by decide +kernel
theorem dX7_layHonour_60 : decode cX7_layHonour 60 = .ok (.return_, 1) := by decide +kernel
set_option maxRecDepth 20000 in
theorem ggX7_isSoughtBack_X7_paintField : GoodIn wsX7_isSoughtBack wsX7_paintField := goodIn_ca (goodIn_r _ [19, 20, 21, 22, 18, 23, 24, 25, 26, 27, 28, 29, 30, 31, 32, 33, 34, 35, 36, 37, 38, 39, 40, 41, 42, 43, 44, 45, 46, 47, 48, 49, 50, 51, 150, 151, 152, 153, 154, 155, 156, 157, 158, 159, 160, 161, 162, 188, 189, 190, 191, 192] (by decide +kernel) (by decide +kernel)) (goodIn_sub (fun _ h => List.mem_cons_of_mem _ (List.mem_append_right _ h)) (by decide +kernel))
set_option maxRecDepth 20000 in
theorem gX7_isSoughtBack_X7_paintField : GoodIn wsX7_isSoughtBack (wsV RX7 104 RX7 yX7_paintField wsX7_paintField) := goodIn_app (goodIn_of _ (by decide +kernel)) ggX7_isSoughtBack_X7_paintField
set_option maxRecDepth 20000 in
theorem ggX7_isSoughtBack_X1_group : GoodIn wsX7_isSoughtBack wsX1_group := goodIn_r _ [56, 57, 163, 164, 165, 166, 167, 168, 169, 170, 171, 172, 173, 174] (by decide +kernel) (by decide +kernel)
set_option maxRecDepth 20000 in
theorem gX7_isSoughtBack_X1_group : GoodIn wsX7_isSoughtBack (wsV RX7 111 RX1 yX1_group wsX1_group) := goodIn_app (goodIn_of _ (by decide +kernel)) ggX7_isSoughtBack_X1_group
set_option maxRecDepth 20000 in
theorem ggX7_isSoughtBack_X7_paintGroup : GoodIn wsX7_isSoughtBack wsX7_paintGroup := goodIn_ca (goodIn_r _ [61, 62, 63, 64, 65, 66, 67, 68, 69, 70, 71, 72, 73, 74, 8, 75, 9, 76, 42, 43, 44, 77, 78, 79, 18, 80, 81, 82, 83, 84, 85, 86, 87, 88, 89, 90, 25, 91, 92, 93, 94, 95, 96, 97, 98, 99, 100, 101, 26, 27, 28, 102, 103, 104, 32, 105, 37, 34, 40, 35, 38, 106, 45, 46, 47, 48, 49, 50, 51, 39, 107, 108, 109, 110, 36, 111, 112, 113, 114, 115, 116, 117, 118, 119, 120, 121, 122, 123, 124, 150, 151, 152, 153, 154, 155, 156, 157, 158, 159, 160, 161, 162, 175, 176, 177, 178, 179, 180, 181, 182, 183, 184, 185, 186, 187, 188, 189, 190, 191, 192] (by decide +kernel) (by decide +kernel)) (goodIn_sub (fun _ h => List.mem_cons_of_mem _ (List.mem_append_right _ h)) (by decide +kernel))
set_option maxRecDepth 20000 in
theorem gX7_isSoughtBack_X7_paintGroup : GoodIn wsX7_isSoughtBack (wsV RX7 115 RX7 yX7_paintGroup wsX7_paintGroup) := goodIn_app (goodIn_of _ (by decide +kernel)) ggX7_isSoughtBack_X7_paintGroup
set_option maxRecDepth 20000 in
theorem ggX7_isSoughtBack_X7_addLayers : GoodIn wsX7_isSoughtBack wsX7_addLayers := goodIn_ca (goodIn_r _ [128, 1, 12, 66, 71, 72, 73, 74, 62, 13, 150, 151, 152, 153, 154, 155, 156, 157, 158, 159, 160, 161, 162] (by decide +kernel) (by decide +kernel)) (goodIn_sub (fun _ h => List.mem_cons_of_mem _ (List.mem_append_right _ h)) (by decide +kernel))
set_option maxRecDepth 20000 in
theorem gX7_isSoughtBack_X7_addLayers : GoodIn wsX7_isSoughtBack (wsV RX7 228 RX7 yX7_addLayers wsX7_addLayers) := goodIn_app (goodIn_of _ (by decide +kernel)) ggX7_isSoughtBack_X7_addLayers
set_option maxRecDepth 20000 in
theorem ggX7_isSoughtBack_X7_layHonour : GoodIn wsX7_isSoughtBack wsX7_layHonour := goodIn_ca (goodIn_r _ [132, 66, 62, 86, 87, 88, 18, 89, 90, 25, 94, 95, 96, 150, 151, 152, 153, 154, 155, 156, 157, 158, 159, 160, 161, 162] (by decide +kernel) (by decide +kernel)) (goodIn_sub (fun _ h => List.mem_cons_of_mem _ (List.mem_append_right _ h)) (by decide +kernel))
set_option maxRecDepth 20000 in
theorem gX7_isSoughtBack_X7_layHonour : GoodIn wsX7_isSoughtBack (wsV RX7 218 RX7 yX7_layHonour wsX7_layHonour) := goodIn_app (goodIn_of _ (by decide +kernel)) ggX7_isSoughtBack_X7_layHonour
set_option maxRecDepth 20000 in
theorem ggX7_isSoughtBack_J7_fill_53178 : GoodIn wsX7_isSoughtBack wsJ7_fill_53178 := goodIn_r _ [44] (by decide +kernel) (by decide +kernel)
set_option maxRecDepth 20000 in
theorem gX7_isSoughtBack_J7_fill_53178 : GoodIn wsX7_isSoughtBack (va_wsS RX7 127 yJ7_fill_53178 wsJ7_fill_53178) := goodIn_app (goodIn_of _ (by decide +kernel)) ggX7_isSoughtBack_J7_fill_53178
set_option maxRecDepth 20000 in
theorem ggX7_isSoughtBack_X7_paintOpen : GoodIn wsX7_isSoughtBack wsX7_paintOpen := goodIn_ca (goodIn_r _ [136, 66, 10, 2, 102, 103, 104, 32, 105, 37, 34, 40, 35, 38, 106, 45, 46, 47, 48, 49, 50, 51, 39, 150, 151, 152, 153, 154, 155, 156, 157, 158, 159, 160, 161, 162, 188, 189, 190, 191, 192] (by decide +kernel) (by decide +kernel)) (goodIn_sub (fun _ h => List.mem_cons_of_mem _ (List.mem_append_right _ h)) (by decide +kernel))
set_option maxRecDepth 20000 in
theorem gX7_isSoughtBack_X7_paintOpen : GoodIn wsX7_isSoughtBack (wsV RX7 232 RX7 yX7_paintOpen wsX7_paintOpen) := goodIn_app (goodIn_of _ (by decide +kernel)) ggX7_isSoughtBack_X7_paintOpen
set_option maxRecDepth 20000 in
theorem ggX7_isSoughtBack_X8_countUnlike : GoodIn wsX7_isSoughtBack wsX8_countUnlike := goodIn_ca (goodIn_r _ [139, 140, 141, 32, 142, 39, 143, 144, 145, 146, 147, 148, 149] (by decide +kernel) (by decide +kernel)) (goodIn_sub (fun _ h => List.mem_cons_of_mem _ (List.mem_append_right _ h)) (by decide +kernel))
set_option maxRecDepth 20000 in
theorem gX7_isSoughtBack_X8_countUnlike : GoodIn wsX7_isSoughtBack (va_wsS RX7 239 yX8_countUnlike wsX8_countUnlike) := goodIn_app (goodIn_of _ (by decide +kernel)) ggX7_isSoughtBack_X8_countUnlike
theorem dX7_isSoughtBack_0 : decode cX7_isSoughtBack 0 = .ok (.aload_n 0, 1) := by decide +kernel
theorem dX7_isSoughtBack_1 : decode cX7_isSoughtBack 1 = .ok (.iconst 0, 1) := by decide +kernel
theorem dX7_isSoughtBack_2 : decode cX7_isSoughtBack 2 = .ok (.putfield 222, 3) := by decide +kernel
theorem dX7_isSoughtBack_5 : decode cX7_isSoughtBack 5 = .ok (.aload_n 0, 1) := by decide +kernel
theorem dX7_isSoughtBack_6 : decode cX7_isSoughtBack 6 = .ok (.aload_n 0, 1) := by decide +kernel
theorem dX7_isSoughtBack_7 : decode cX7_isSoughtBack 7 = .ok (.getfield 54, 3) := by decide +kernel
theorem dX7_isSoughtBack_10 : decode cX7_isSoughtBack 10 = .ok (.aload_n 1, 1) := by decide +kernel
theorem dX7_isSoughtBack_11 : decode cX7_isSoughtBack 11 = .ok (.getfield 92, 3) := by decide +kernel
theorem dX7_isSoughtBack_14 : decode cX7_isSoughtBack 14 = .ok (.aload_n 1, 1) := by decide +kernel
theorem dX7_isSoughtBack_15 : decode cX7_isSoughtBack 15 = .ok (.getfield 98, 3) := by decide +kernel
theorem dX7_isSoughtBack_18 : decode cX7_isSoughtBack 18 = .ok (.aload_n 1, 1) := by decide +kernel
theorem dX7_isSoughtBack_19 : decode cX7_isSoughtBack 19 = .ok (.getfield 225, 3) := by decide +kernel
theorem dX7_isSoughtBack_22 : decode cX7_isSoughtBack 22 = .ok (.aload_n 1, 1) := by decide +kernel
theorem dX7_isSoughtBack_23 : decode cX7_isSoughtBack 23 = .ok (.getfield 101, 3) := by decide +kernel
theorem dX7_isSoughtBack_26 : decode cX7_isSoughtBack 26 = .ok (.invokevirtual 104, 3) := by decide +kernel
theorem dX7_isSoughtBack_29 : decode cX7_isSoughtBack 29 = .ok (.iconst 0, 1) := by decide +kernel
theorem dX7_isSoughtBack_30 : decode cX7_isSoughtBack 30 = .ok (.istore 4, 2) := by decide +kernel
theorem dX7_isSoughtBack_32 : decode cX7_isSoughtBack 32 = .ok (.iload 4, 2) := by decide +kernel
theorem dX7_isSoughtBack_34 : decode cX7_isSoughtBack 34 = .ok (.aload_n 1, 1) := by decide +kernel
theorem dX7_isSoughtBack_35 : decode cX7_isSoughtBack 35 = .ok (.getfield 108, 3) := by decide +kernel
theorem dX7_isSoughtBack_38 : decode cX7_isSoughtBack 38 = .ok (.if_icmp .ge 47, 3) := by decide +kernel
theorem dX7_isSoughtBack_41 : decode cX7_isSoughtBack 41 = .ok (.iload 4, 2) := by decide +kernel
theorem dX7_isSoughtBack_43 : decode cX7_isSoughtBack 43 = .ok (.iconst 4, 1) := by decide +kernel
theorem dX7_isSoughtBack_44 : decode cX7_isSoughtBack 44 = .ok (.if_icmp .ge 41, 3) := by decide +kernel
theorem dX7_isSoughtBack_47 : decode cX7_isSoughtBack 47 = .ok (.aload_n 1, 1) := by decide +kernel
theorem dX7_isSoughtBack_48 : decode cX7_isSoughtBack 48 = .ok (.iload 4, 2) := by decide +kernel
theorem dX7_isSoughtBack_50 : decode cX7_isSoughtBack 50 = .ok (.invokevirtual 111, 3) := by decide +kernel
theorem dX7_isSoughtBack_53 : decode cX7_isSoughtBack 53 = .ok (.astore 5, 2) := by decide +kernel
theorem dX7_isSoughtBack_55 : decode cX7_isSoughtBack 55 = .ok (.aload_n 0, 1) := by decide +kernel
theorem dX7_isSoughtBack_56 : decode cX7_isSoughtBack 56 = .ok (.aload_n 0, 1) := by decide +kernel
theorem dX7_isSoughtBack_57 : decode cX7_isSoughtBack 57 = .ok (.getfield 54, 3) := by decide +kernel
theorem dX7_isSoughtBack_60 : decode cX7_isSoughtBack 60 = .ok (.aload 5, 2) := by decide +kernel
theorem dX7_isSoughtBack_62 : decode cX7_isSoughtBack 62 = .ok (.invokevirtual 115, 3) := by decide +kernel
theorem dX7_isSoughtBack_65 : decode cX7_isSoughtBack 65 = .ok (.aload_n 0, 1) := by decide +kernel
theorem dX7_isSoughtBack_66 : decode cX7_isSoughtBack 66 = .ok (.aload 5, 2) := by decide +kernel
theorem dX7_isSoughtBack_68 : decode cX7_isSoughtBack 68 = .ok (.getfield 156, 3) := by decide +kernel
theorem dX7_isSoughtBack_71 : decode cX7_isSoughtBack 71 = .ok (.aload 5, 2) := by decide +kernel
theorem dX7_isSoughtBack_73 : decode cX7_isSoughtBack 73 = .ok (.getfield 173, 3) := by decide +kernel
theorem dX7_isSoughtBack_76 : decode cX7_isSoughtBack 76 = .ok (.invokevirtual 228, 3) := by decide +kernel
theorem dX7_isSoughtBack_79 : decode cX7_isSoughtBack 79 = .ok (.iinc 4 1, 3) := by decide +kernel
theorem dX7_isSoughtBack_82 : decode cX7_isSoughtBack 82 = .ok (.goto (-50), 3) := by decide +kernel
theorem dX7_isSoughtBack_85 : decode cX7_isSoughtBack 85 = .ok (.iload_n 2, 1) := by decide +kernel
theorem dX7_isSoughtBack_86 : decode cX7_isSoughtBack 86 = .ok (.ifCond .eq 25, 3) := by decide +kernel
theorem dX7_isSoughtBack_89 : decode cX7_isSoughtBack 89 = .ok (.aload_n 0, 1) := by decide +kernel
theorem dX7_isSoughtBack_90 : decode cX7_isSoughtBack 90 = .ok (.iload_n 2, 1) := by decide +kernel
theorem dX7_isSoughtBack_91 : decode cX7_isSoughtBack 91 = .ok (.invokevirtual 218, 3) := by decide +kernel
theorem dX7_isSoughtBack_94 : decode cX7_isSoughtBack 94 = .ok (.aload_n 0, 1) := by decide +kernel
theorem dX7_isSoughtBack_95 : decode cX7_isSoughtBack 95 = .ok (.iload_n 2, 1) := by decide +kernel
theorem dX7_isSoughtBack_96 : decode cX7_isSoughtBack 96 = .ok (.sipush 255, 3) := by decide +kernel
theorem dX7_isSoughtBack_99 : decode cX7_isSoughtBack 99 = .ok (.iand, 1) := by decide +kernel
theorem dX7_isSoughtBack_100 : decode cX7_isSoughtBack 100 = .ok (.iload_n 2, 1) := by decide +kernel
theorem dX7_isSoughtBack_101 : decode cX7_isSoughtBack 101 = .ok (.bipush 16, 2) := by decide +kernel
theorem dX7_isSoughtBack_103 : decode cX7_isSoughtBack 103 = .ok (.ishr, 1) := by decide +kernel
theorem dX7_isSoughtBack_104 : decode cX7_isSoughtBack 104 = .ok (.sipush 255, 3) := by decide +kernel
theorem dX7_isSoughtBack_107 : decode cX7_isSoughtBack 107 = .ok (.iand, 1) := by decide +kernel
theorem dX7_isSoughtBack_108 : decode cX7_isSoughtBack 108 = .ok (.invokevirtual 228, 3) := by decide +kernel
theorem dX7_isSoughtBack_111 : decode cX7_isSoughtBack 111 = .ok (.aload_n 0, 1) := by decide +kernel
theorem dX7_isSoughtBack_112 : decode cX7_isSoughtBack 112 = .ok (.aload_n 0, 1) := by decide +kernel
theorem dX7_isSoughtBack_113 : decode cX7_isSoughtBack 113 = .ok (.getfield 54, 3) := by decide +kernel
theorem dX7_isSoughtBack_116 : decode cX7_isSoughtBack 116 = .ok (.aload_n 1, 1) := by decide +kernel
theorem dX7_isSoughtBack_117 : decode cX7_isSoughtBack 117 = .ok (.getfield 92, 3) := by decide +kernel
theorem dX7_isSoughtBack_120 : decode cX7_isSoughtBack 120 = .ok (.aload_n 1, 1) := by decide +kernel
theorem dX7_isSoughtBack_121 : decode cX7_isSoughtBack 121 = .ok (.getfield 98, 3) := by decide +kernel
theorem dX7_isSoughtBack_124 : decode cX7_isSoughtBack 124 = .ok (.aload_n 1, 1) := by decide +kernel
theorem dX7_isSoughtBack_125 : decode cX7_isSoughtBack 125 = .ok (.getfield 225, 3) := by decide +kernel
theorem dX7_isSoughtBack_128 : decode cX7_isSoughtBack 128 = .ok (.aload_n 1, 1) := by decide +kernel
theorem dX7_isSoughtBack_129 : decode cX7_isSoughtBack 129 = .ok (.getfield 101, 3) := by decide +kernel
theorem dX7_isSoughtBack_132 : decode cX7_isSoughtBack 132 = .ok (.invokevirtual 104, 3) := by decide +kernel
theorem dX7_isSoughtBack_135 : decode cX7_isSoughtBack 135 = .ok (.aload_n 0, 1) := by decide +kernel
theorem dX7_isSoughtBack_136 : decode cX7_isSoughtBack 136 = .ok (.getfield 41, 3) := by decide +kernel
theorem dX7_isSoughtBack_139 : decode cX7_isSoughtBack 139 = .ok (.ldc 231, 2) := by decide +kernel
theorem dX7_isSoughtBack_141 : decode cX7_isSoughtBack 141 = .ok (.invokestatic 127, 3) := by decide +kernel
theorem dX7_isSoughtBack_144 : decode cX7_isSoughtBack 144 = .ok (.aload_n 0, 1) := by decide +kernel
theorem dX7_isSoughtBack_145 : decode cX7_isSoughtBack 145 = .ok (.getfield 222, 3) := by decide +kernel
theorem dX7_isSoughtBack_148 : decode cX7_isSoughtBack 148 = .ok (.iconst 1, 1) := by decide +kernel
theorem dX7_isSoughtBack_149 : decode cX7_isSoughtBack 149 = .ok (.isub, 1) := by decide +kernel
theorem dX7_isSoughtBack_150 : decode cX7_isSoughtBack 150 = .ok (.istore 4, 2) := by decide +kernel
theorem dX7_isSoughtBack_152 : decode cX7_isSoughtBack 152 = .ok (.iload 4, 2) := by decide +kernel
theorem dX7_isSoughtBack_154 : decode cX7_isSoughtBack 154 = .ok (.ifCond .lt 27, 3) := by decide +kernel
theorem dX7_isSoughtBack_157 : decode cX7_isSoughtBack 157 = .ok (.aload_n 0, 1) := by decide +kernel
theorem dX7_isSoughtBack_158 : decode cX7_isSoughtBack 158 = .ok (.aload_n 0, 1) := by decide +kernel
theorem dX7_isSoughtBack_159 : decode cX7_isSoughtBack 159 = .ok (.getfield 35, 3) := by decide +kernel
theorem dX7_isSoughtBack_162 : decode cX7_isSoughtBack 162 = .ok (.iload 4, 2) := by decide +kernel
theorem dX7_isSoughtBack_164 : decode cX7_isSoughtBack 164 = .ok (.aaload, 1) := by decide +kernel
theorem dX7_isSoughtBack_165 : decode cX7_isSoughtBack 165 = .ok (.aload_n 0, 1) := by decide +kernel
theorem dX7_isSoughtBack_166 : decode cX7_isSoughtBack 166 = .ok (.getfield 38, 3) := by decide +kernel
theorem dX7_isSoughtBack_169 : decode cX7_isSoughtBack 169 = .ok (.iload 4, 2) := by decide +kernel
theorem dX7_isSoughtBack_171 : decode cX7_isSoughtBack 171 = .ok (.iaload, 1) := by decide +kernel
theorem dX7_isSoughtBack_172 : decode cX7_isSoughtBack 172 = .ok (.invokevirtual 232, 3) := by decide +kernel
theorem dX7_isSoughtBack_175 : decode cX7_isSoughtBack 175 = .ok (.iinc 4 (-1), 3) := by decide +kernel
theorem dX7_isSoughtBack_178 : decode cX7_isSoughtBack 178 = .ok (.goto (-26), 3) := by decide +kernel
theorem dX7_isSoughtBack_181 : decode cX7_isSoughtBack 181 = .ok (.aload_n 0, 1) := by decide +kernel
theorem dX7_isSoughtBack_182 : decode cX7_isSoughtBack 182 = .ok (.getfield 54, 3) := by decide +kernel
theorem dX7_isSoughtBack_185 : decode cX7_isSoughtBack 185 = .ok (.getfield 235, 3) := by decide +kernel
theorem dX7_isSoughtBack_188 : decode cX7_isSoughtBack 188 = .ok (.aload_n 3, 1) := by decide +kernel
theorem dX7_isSoughtBack_189 : decode cX7_isSoughtBack 189 = .ok (.invokestatic 239, 3) := by decide +kernel
theorem dX7_isSoughtBack_192 : decode cX7_isSoughtBack 192 = .ok (.ifCond .ne 7, 3) := by decide +kernel
theorem dX7_isSoughtBack_195 : decode cX7_isSoughtBack 195 = .ok (.iconst 1, 1) := by decide +kernel
theorem dX7_isSoughtBack_196 : decode cX7_isSoughtBack 196 = .ok (.goto 4, 3) := by decide +kernel
theorem dX7_isSoughtBack_199 : decode cX7_isSoughtBack 199 = .ok (.iconst 0, 1) := by decide +kernel
theorem dX7_isSoughtBack_200 : decode cX7_isSoughtBack 200 = .ok (.ireturn, 1) := by decide +kernel
theorem dX7_addLayers_0 : decode cX7_addLayers 0 = .ok (.aload_n 0, 1) := by decide +kernel
theorem dX7_addLayers_1 : decode cX7_addLayers 1 = .ok (.getfield 222, 3) := by decide +kernel
theorem dX7_addLayers_4 : decode cX7_addLayers 4 = .ok (.ifCond .lt 17, 3) := by decide +kernel
theorem dX7_addLayers_7 : decode cX7_addLayers 7 = .ok (.aload_n 0, 1) := by decide +kernel
theorem dX7_addLayers_8 : decode cX7_addLayers 8 = .ok (.getfield 222, 3) := by decide +kernel
theorem dX7_addLayers_11 : decode cX7_addLayers 11 = .ok (.iconst 1, 1) := by decide +kernel
theorem dX7_addLayers_12 : decode cX7_addLayers 12 = .ok (.iadd, 1) := by decide +kernel
theorem dX7_addLayers_13 : decode cX7_addLayers 13 = .ok (.aload_n 0, 1) := by decide +kernel
theorem dX7_addLayers_14 : decode cX7_addLayers 14 = .ok (.getfield 35, 3) := by decide +kernel
theorem dX7_addLayers_17 : decode cX7_addLayers 17 = .ok (.arraylength, 1) := by decide +kernel
theorem dX7_addLayers_18 : decode cX7_addLayers 18 = .ok (.if_icmp .lt 4, 3) := by decide +kernel
theorem dX7_addLayers_21 : decode cX7_addLayers 21 = .ok (.return_, 1) := by decide +kernel
theorem dX7_addLayers_22 : decode cX7_addLayers 22 = .ok (.aload_n 0, 1) := by decide +kernel
theorem dX7_addLayers_23 : decode cX7_addLayers 23 = .ok (.getfield 29, 3) := by decide +kernel
theorem dX7_addLayers_26 : decode cX7_addLayers 26 = .ok (.iconst 0, 1) := by decide +kernel
theorem dX7_addLayers_27 : decode cX7_addLayers 27 = .ok (.aload_n 0, 1) := by decide +kernel
theorem dX7_addLayers_28 : decode cX7_addLayers 28 = .ok (.getfield 35, 3) := by decide +kernel
theorem dX7_addLayers_31 : decode cX7_addLayers 31 = .ok (.aload_n 0, 1) := by decide +kernel
theorem dX7_addLayers_32 : decode cX7_addLayers 32 = .ok (.getfield 222, 3) := by decide +kernel
theorem dX7_addLayers_35 : decode cX7_addLayers 35 = .ok (.aaload, 1) := by decide +kernel
theorem dX7_addLayers_36 : decode cX7_addLayers 36 = .ok (.iconst 0, 1) := by decide +kernel
theorem dX7_addLayers_37 : decode cX7_addLayers 37 = .ok (.bipush 16, 2) := by decide +kernel
theorem dX7_addLayers_39 : decode cX7_addLayers 39 = .ok (.invokestatic 150, 3) := by decide +kernel
theorem dX7_addLayers_42 : decode cX7_addLayers 42 = .ok (.aload_n 0, 1) := by decide +kernel
theorem dX7_addLayers_43 : decode cX7_addLayers 43 = .ok (.getfield 32, 3) := by decide +kernel
theorem dX7_addLayers_46 : decode cX7_addLayers 46 = .ok (.iconst 0, 1) := by decide +kernel
theorem dX7_addLayers_47 : decode cX7_addLayers 47 = .ok (.aload_n 0, 1) := by decide +kernel
theorem dX7_addLayers_48 : decode cX7_addLayers 48 = .ok (.getfield 35, 3) := by decide +kernel
theorem dX7_addLayers_51 : decode cX7_addLayers 51 = .ok (.aload_n 0, 1) := by decide +kernel
theorem dX7_addLayers_52 : decode cX7_addLayers 52 = .ok (.getfield 222, 3) := by decide +kernel
theorem dX7_addLayers_55 : decode cX7_addLayers 55 = .ok (.iconst 1, 1) := by decide +kernel
theorem dX7_addLayers_56 : decode cX7_addLayers 56 = .ok (.iadd, 1) := by decide +kernel
theorem dX7_addLayers_57 : decode cX7_addLayers 57 = .ok (.aaload, 1) := by decide +kernel
theorem dX7_addLayers_58 : decode cX7_addLayers 58 = .ok (.iconst 0, 1) := by decide +kernel
theorem dX7_addLayers_59 : decode cX7_addLayers 59 = .ok (.bipush 16, 2) := by decide +kernel
theorem dX7_addLayers_61 : decode cX7_addLayers 61 = .ok (.invokestatic 150, 3) := by decide +kernel
theorem dX7_addLayers_64 : decode cX7_addLayers 64 = .ok (.aload_n 0, 1) := by decide +kernel
theorem dX7_addLayers_65 : decode cX7_addLayers 65 = .ok (.getfield 38, 3) := by decide +kernel
theorem dX7_addLayers_68 : decode cX7_addLayers 68 = .ok (.aload_n 0, 1) := by decide +kernel
theorem dX7_addLayers_69 : decode cX7_addLayers 69 = .ok (.getfield 222, 3) := by decide +kernel
theorem dX7_addLayers_72 : decode cX7_addLayers 72 = .ok (.iload_n 1, 1) := by decide +kernel
theorem dX7_addLayers_73 : decode cX7_addLayers 73 = .ok (.iastore, 1) := by decide +kernel
theorem dX7_addLayers_74 : decode cX7_addLayers 74 = .ok (.aload_n 0, 1) := by decide +kernel
theorem dX7_addLayers_75 : decode cX7_addLayers 75 = .ok (.getfield 38, 3) := by decide +kernel
theorem dX7_addLayers_78 : decode cX7_addLayers 78 = .ok (.aload_n 0, 1) := by decide +kernel
theorem dX7_addLayers_79 : decode cX7_addLayers 79 = .ok (.getfield 222, 3) := by decide +kernel
theorem dX7_addLayers_82 : decode cX7_addLayers 82 = .ok (.iconst 1, 1) := by decide +kernel
theorem dX7_addLayers_83 : decode cX7_addLayers 83 = .ok (.iadd, 1) := by decide +kernel
theorem dX7_addLayers_84 : decode cX7_addLayers 84 = .ok (.iload_n 2, 1) := by decide +kernel
theorem dX7_addLayers_85 : decode cX7_addLayers 85 = .ok (.iastore, 1) := by decide +kernel
theorem dX7_addLayers_86 : decode cX7_addLayers 86 = .ok (.aload_n 0, 1) := by decide +kernel
theorem dX7_addLayers_87 : decode cX7_addLayers 87 = .ok (.dup, 1) := by decide +kernel
theorem dX7_addLayers_88 : decode cX7_addLayers 88 = .ok (.getfield 222, 3) := by decide +kernel
theorem dX7_addLayers_91 : decode cX7_addLayers 91 = .ok (.iconst 2, 1) := by decide +kernel
theorem dX7_addLayers_92 : decode cX7_addLayers 92 = .ok (.iadd, 1) := by decide +kernel
theorem dX7_addLayers_93 : decode cX7_addLayers 93 = .ok (.putfield 222, 3) := by decide +kernel
theorem dX7_addLayers_96 : decode cX7_addLayers 96 = .ok (.return_, 1) := by decide +kernel
set_option maxRecDepth 20000 in
theorem ggX7_paintOpen_X8_putRows : GoodIn wsX7_paintOpen wsX8_putRows := goodIn_ca (goodIn_r _ [8, 9, 10, 11, 12, 13, 14, 15, 16, 7, 17, 18, 19, 20, 21, 22, 36, 37, 38, 39, 40] (by decide +kernel) (by decide +kernel)) (goodIn_sub (fun _ h => List.mem_cons_of_mem _ (List.mem_append_right _ h)) (by decide +kernel))
set_option maxRecDepth 20000 in
theorem gX7_paintOpen_X8_putRows : GoodIn wsX7_paintOpen (wsV RX7 159 RX8 yX8_putRows wsX8_putRows) := goodIn_app (goodIn_of _ (by decide +kernel)) ggX7_paintOpen_X8_putRows
theorem dX7_paintOpen_0 : decode cX7_paintOpen 0 = .ok (.iconst 0, 1) := by decide +kernel
theorem dX7_paintOpen_1 : decode cX7_paintOpen 1 = .ok (.istore_n 3, 1) := by decide +kernel
theorem dX7_paintOpen_2 : decode cX7_paintOpen 2 = .ok (.iload_n 3, 1) := by decide +kernel
theorem dX7_paintOpen_3 : decode cX7_paintOpen 3 = .ok (.bipush 16, 2) := by decide +kernel
theorem dX7_paintOpen_5 : decode cX7_paintOpen 5 = .ok (.if_icmp .ge 45, 3) := by decide +kernel
theorem dX7_paintOpen_8 : decode cX7_paintOpen 8 = .ok (.iload_n 3, 1) := by decide +kernel
theorem dX7_paintOpen_9 : decode cX7_paintOpen 9 = .ok (.aload_n 1, 1) := by decide +kernel
theorem dX7_paintOpen_10 : decode cX7_paintOpen 10 = .ok (.arraylength, 1) := by decide +kernel
theorem dX7_paintOpen_11 : decode cX7_paintOpen 11 = .ok (.if_icmp .ge 39, 3) := by decide +kernel
theorem dX7_paintOpen_14 : decode cX7_paintOpen 14 = .ok (.aload_n 0, 1) := by decide +kernel
theorem dX7_paintOpen_15 : decode cX7_paintOpen 15 = .ok (.getfield 29, 3) := by decide +kernel
theorem dX7_paintOpen_18 : decode cX7_paintOpen 18 = .ok (.iload_n 3, 1) := by decide +kernel
theorem dX7_paintOpen_19 : decode cX7_paintOpen 19 = .ok (.aload_n 1, 1) := by decide +kernel
theorem dX7_paintOpen_20 : decode cX7_paintOpen 20 = .ok (.iload_n 3, 1) := by decide +kernel
theorem dX7_paintOpen_21 : decode cX7_paintOpen 21 = .ok (.iaload, 1) := by decide +kernel
theorem dX7_paintOpen_22 : decode cX7_paintOpen 22 = .ok (.aload_n 0, 1) := by decide +kernel
theorem dX7_paintOpen_23 : decode cX7_paintOpen 23 = .ok (.getfield 41, 3) := by decide +kernel
theorem dX7_paintOpen_26 : decode cX7_paintOpen 26 = .ok (.iload_n 3, 1) := by decide +kernel
theorem dX7_paintOpen_27 : decode cX7_paintOpen 27 = .ok (.iaload, 1) := by decide +kernel
theorem dX7_paintOpen_28 : decode cX7_paintOpen 28 = .ok (.iand, 1) := by decide +kernel
theorem dX7_paintOpen_29 : decode cX7_paintOpen 29 = .ok (.iastore, 1) := by decide +kernel
theorem dX7_paintOpen_30 : decode cX7_paintOpen 30 = .ok (.aload_n 0, 1) := by decide +kernel
theorem dX7_paintOpen_31 : decode cX7_paintOpen 31 = .ok (.getfield 41, 3) := by decide +kernel
theorem dX7_paintOpen_34 : decode cX7_paintOpen 34 = .ok (.iload_n 3, 1) := by decide +kernel
theorem dX7_paintOpen_35 : decode cX7_paintOpen 35 = .ok (.dup2, 1) := by decide +kernel
theorem dX7_paintOpen_36 : decode cX7_paintOpen 36 = .ok (.iaload, 1) := by decide +kernel
theorem dX7_paintOpen_37 : decode cX7_paintOpen 37 = .ok (.aload_n 1, 1) := by decide +kernel
theorem dX7_paintOpen_38 : decode cX7_paintOpen 38 = .ok (.iload_n 3, 1) := by decide +kernel
theorem dX7_paintOpen_39 : decode cX7_paintOpen 39 = .ok (.iaload, 1) := by decide +kernel
theorem dX7_paintOpen_40 : decode cX7_paintOpen 40 = .ok (.iconst (-1), 1) := by decide +kernel
theorem dX7_paintOpen_41 : decode cX7_paintOpen 41 = .ok (.ixor, 1) := by decide +kernel
theorem dX7_paintOpen_42 : decode cX7_paintOpen 42 = .ok (.iand, 1) := by decide +kernel
theorem dX7_paintOpen_43 : decode cX7_paintOpen 43 = .ok (.iastore, 1) := by decide +kernel
theorem dX7_paintOpen_44 : decode cX7_paintOpen 44 = .ok (.iinc 3 1, 3) := by decide +kernel
theorem dX7_paintOpen_47 : decode cX7_paintOpen 47 = .ok (.goto (-45), 3) := by decide +kernel
theorem dX7_paintOpen_50 : decode cX7_paintOpen 50 = .ok (.aload_n 0, 1) := by decide +kernel
theorem dX7_paintOpen_51 : decode cX7_paintOpen 51 = .ok (.getfield 54, 3) := by decide +kernel
theorem dX7_paintOpen_54 : decode cX7_paintOpen 54 = .ok (.aload_n 0, 1) := by decide +kernel
theorem dX7_paintOpen_55 : decode cX7_paintOpen 55 = .ok (.getfield 29, 3) := by decide +kernel
theorem dX7_paintOpen_58 : decode cX7_paintOpen 58 = .ok (.iload_n 2, 1) := by decide +kernel
theorem dX7_paintOpen_59 : decode cX7_paintOpen 59 = .ok (.invokevirtual 159, 3) := by decide +kernel
theorem dX7_paintOpen_62 : decode cX7_paintOpen 62 = .ok (.return_, 1) := by decide +kernel
theorem dX8_init_0 : decode cX8_init 0 = .ok (.aload_n 0, 1) := by decide +kernel
theorem dX8_init_1 : decode cX8_init 1 = .ok (.invokespecial 3, 3) := by decide +kernel
theorem dX8_init_4 : decode cX8_init 4 = .ok (.aload_n 0, 1) := by decide +kernel
theorem dX8_init_5 : decode cX8_init 5 = .ok (.bipush 16, 2) := by decide +kernel
theorem dX8_init_7 : decode cX8_init 7 = .ok (.newarray .long, 2) := by decide +kernel
theorem dX8_init_9 : decode cX8_init 9 = .ok (.putfield 9, 3) := by decide +kernel
theorem dX8_init_12 : decode cX8_init 12 = .ok (.aload_n 0, 1) := by decide +kernel
theorem dX8_init_13 : decode cX8_init 13 = .ok (.bipush 16, 2) := by decide +kernel
theorem dX8_init_15 : decode cX8_init 15 = .ok (.newarray .int, 2) := by decide +kernel
theorem dX8_init_17 : decode cX8_init 17 = .ok (.putfield 15, 3) := by decide +kernel
theorem dX8_init_20 : decode cX8_init 20 = .ok (.aload_n 0, 1) := by decide +kernel
theorem dX8_init_21 : decode cX8_init 21 = .ok (.bipush 16, 2) := by decide +kernel
theorem dX8_init_23 : decode cX8_init 23 = .ok (.newarray .long, 2) := by decide +kernel
theorem dX8_init_25 : decode cX8_init 25 = .ok (.putfield 19, 3) := by decide +kernel
theorem dX8_init_28 : decode cX8_init 28 = .ok (.return_, 1) := by decide +kernel
set_option maxRecDepth 20000 in
theorem ggX8_begin_J7_fill_53178 : GoodIn wsX8_begin wsJ7_fill_53178 := goodIn_r _ [11] (by decide +kernel) (by decide +kernel)
set_option maxRecDepth 20000 in
theorem gX8_begin_J7_fill_53178 : GoodIn wsX8_begin (va_wsS RX8 29 yJ7_fill_53178 wsJ7_fill_53178) := goodIn_app (goodIn_of _ (by decide +kernel)) ggX8_begin_J7_fill_53178
set_option maxRecDepth 20000 in
theorem ggX8_begin_X8_spread : GoodIn wsX8_begin wsX8_spread := goodIn_r _ [15, 16, 17, 18, 19, 6] (by decide +kernel) (by decide +kernel)
set_option maxRecDepth 20000 in
theorem gX8_begin_X8_spread : GoodIn wsX8_begin (va_wsS RX8 35 yX8_spread wsX8_spread) := goodIn_app (goodIn_of _ (by decide +kernel)) ggX8_begin_X8_spread
theorem dX8_begin_0 : decode cX8_begin 0 = .ok (.aload_n 0, 1) := by decide +kernel
theorem dX8_begin_1 : decode cX8_begin 1 = .ok (.iload_n 2, 1) := by decide +kernel
theorem dX8_begin_2 : decode cX8_begin 2 = .ok (.putfield 22, 3) := by decide +kernel
theorem dX8_begin_5 : decode cX8_begin 5 = .ok (.aload_n 0, 1) := by decide +kernel
theorem dX8_begin_6 : decode cX8_begin 6 = .ok (.iload_n 3, 1) := by decide +kernel
theorem dX8_begin_7 : decode cX8_begin 7 = .ok (.putfield 26, 3) := by decide +kernel
theorem dX8_begin_10 : decode cX8_begin 10 = .ok (.aload_n 0, 1) := by decide +kernel
theorem dX8_begin_11 : decode cX8_begin 11 = .ok (.getfield 15, 3) := by decide +kernel
theorem dX8_begin_14 : decode cX8_begin 14 = .ok (.iconst 0, 1) := by decide +kernel
theorem dX8_begin_15 : decode cX8_begin 15 = .ok (.invokestatic 29, 3) := by decide +kernel
theorem dX8_begin_18 : decode cX8_begin 18 = .ok (.iconst 0, 1) := by decide +kernel
theorem dX8_begin_19 : decode cX8_begin 19 = .ok (.istore 4, 2) := by decide +kernel
theorem dX8_begin_21 : decode cX8_begin 21 = .ok (.iload 4, 2) := by decide +kernel
theorem dX8_begin_23 : decode cX8_begin 23 = .ok (.bipush 16, 2) := by decide +kernel
theorem dX8_begin_25 : decode cX8_begin 25 = .ok (.if_icmp .ge 66, 3) := by decide +kernel
theorem dX8_begin_28 : decode cX8_begin 28 = .ok (.iload 4, 2) := by decide +kernel
theorem dX8_begin_30 : decode cX8_begin 30 = .ok (.aload_n 1, 1) := by decide +kernel
theorem dX8_begin_31 : decode cX8_begin 31 = .ok (.arraylength, 1) := by decide +kernel
theorem dX8_begin_32 : decode cX8_begin 32 = .ok (.if_icmp .ge 59, 3) := by decide +kernel
theorem dX8_begin_35 : decode cX8_begin 35 = .ok (.aload_n 1, 1) := by decide +kernel
theorem dX8_begin_36 : decode cX8_begin 36 = .ok (.iload 4, 2) := by decide +kernel
theorem dX8_begin_38 : decode cX8_begin 38 = .ok (.iaload, 1) := by decide +kernel
theorem dX8_begin_39 : decode cX8_begin 39 = .ok (.invokestatic 35, 3) := by decide +kernel
theorem dX8_begin_42 : decode cX8_begin 42 = .ok (.lstore 5, 2) := by decide +kernel
theorem dX8_begin_44 : decode cX8_begin 44 = .ok (.aload_n 0, 1) := by decide +kernel
theorem dX8_begin_45 : decode cX8_begin 45 = .ok (.getfield 19, 3) := by decide +kernel
theorem dX8_begin_48 : decode cX8_begin 48 = .ok (.iload 4, 2) := by decide +kernel
theorem dX8_begin_50 : decode cX8_begin 50 = .ok (.lload 5, 2) := by decide +kernel
theorem dX8_begin_52 : decode cX8_begin 52 = .ok (.lastore, 1) := by decide +kernel
theorem dX8_begin_53 : decode cX8_begin 53 = .ok (.aload_n 0, 1) := by decide +kernel
theorem dX8_begin_54 : decode cX8_begin 54 = .ok (.getfield 9, 3) := by decide +kernel
theorem dX8_begin_57 : decode cX8_begin 57 = .ok (.iload 4, 2) := by decide +kernel
theorem dX8_begin_59 : decode cX8_begin 59 = .ok (.ldc2_w 39, 3) := by decide +kernel
theorem dX8_begin_62 : decode cX8_begin 62 = .ok (.lload 5, 2) := by decide +kernel
theorem dX8_begin_64 : decode cX8_begin 64 = .ok (.ldc2_w 41, 3) := by decide +kernel
theorem dX8_begin_67 : decode cX8_begin 67 = .ok (.lxor, 1) := by decide +kernel
theorem dX8_begin_68 : decode cX8_begin 68 = .ok (.land, 1) := by decide +kernel
theorem dX8_begin_69 : decode cX8_begin 69 = .ok (.aload_n 0, 1) := by decide +kernel
theorem dX8_begin_70 : decode cX8_begin 70 = .ok (.getfield 22, 3) := by decide +kernel
theorem dX8_begin_73 : decode cX8_begin 73 = .ok (.i2l, 1) := by decide +kernel
theorem dX8_begin_74 : decode cX8_begin 74 = .ok (.lmul, 1) := by decide +kernel
theorem dX8_begin_75 : decode cX8_begin 75 = .ok (.lload 5, 2) := by decide +kernel
theorem dX8_begin_77 : decode cX8_begin 77 = .ok (.aload_n 0, 1) := by decide +kernel
theorem dX8_begin_78 : decode cX8_begin 78 = .ok (.getfield 26, 3) := by decide +kernel
theorem dX8_begin_81 : decode cX8_begin 81 = .ok (.i2l, 1) := by decide +kernel
theorem dX8_begin_82 : decode cX8_begin 82 = .ok (.lmul, 1) := by decide +kernel
theorem dX8_begin_83 : decode cX8_begin 83 = .ok (.lor, 1) := by decide +kernel
theorem dX8_begin_84 : decode cX8_begin 84 = .ok (.lastore, 1) := by decide +kernel
theorem dX8_begin_85 : decode cX8_begin 85 = .ok (.iinc 4 1, 3) := by decide +kernel
theorem dX8_begin_88 : decode cX8_begin 88 = .ok (.goto (-67), 3) := by decide +kernel
theorem dX8_begin_91 : decode cX8_begin 91 = .ok (.return_, 1) := by decide +kernel
theorem dX8_copyFrom_0 : decode cX8_copyFrom 0 = .ok (.aload_n 0, 1) := by decide +kernel
theorem dX8_copyFrom_1 : decode cX8_copyFrom 1 = .ok (.aload_n 1, 1) := by decide +kernel
theorem dX8_copyFrom_2 : decode cX8_copyFrom 2 = .ok (.getfield 22, 3) := by decide +kernel
theorem dX8_copyFrom_5 : decode cX8_copyFrom 5 = .ok (.putfield 22, 3) := by decide +kernel
theorem dX8_copyFrom_8 : decode cX8_copyFrom 8 = .ok (.aload_n 0, 1) := by decide +kernel
theorem dX8_copyFrom_9 : decode cX8_copyFrom 9 = .ok (.aload_n 1, 1) := by decide +kernel
theorem dX8_copyFrom_10 : decode cX8_copyFrom 10 = .ok (.getfield 26, 3) := by decide +kernel
theorem dX8_copyFrom_13 : decode cX8_copyFrom 13 = .ok (.putfield 26, 3) := by decide +kernel
theorem dX8_copyFrom_16 : decode cX8_copyFrom 16 = .ok (.aload_n 1, 1) := by decide +kernel
theorem dX8_copyFrom_17 : decode cX8_copyFrom 17 = .ok (.getfield 9, 3) := by decide +kernel
theorem dX8_copyFrom_20 : decode cX8_copyFrom 20 = .ok (.iconst 0, 1) := by decide +kernel
theorem dX8_copyFrom_21 : decode cX8_copyFrom 21 = .ok (.aload_n 0, 1) := by decide +kernel
theorem dX8_copyFrom_22 : decode cX8_copyFrom 22 = .ok (.getfield 9, 3) := by decide +kernel
theorem dX8_copyFrom_25 : decode cX8_copyFrom 25 = .ok (.iconst 0, 1) := by decide +kernel
theorem dX8_copyFrom_26 : decode cX8_copyFrom 26 = .ok (.bipush 16, 2) := by decide +kernel
theorem dX8_copyFrom_28 : decode cX8_copyFrom 28 = .ok (.invokestatic 43, 3) := by decide +kernel
theorem dX8_copyFrom_31 : decode cX8_copyFrom 31 = .ok (.aload_n 1, 1) := by decide +kernel
theorem dX8_copyFrom_32 : decode cX8_copyFrom 32 = .ok (.getfield 15, 3) := by decide +kernel
theorem dX8_copyFrom_35 : decode cX8_copyFrom 35 = .ok (.iconst 0, 1) := by decide +kernel
theorem dX8_copyFrom_36 : decode cX8_copyFrom 36 = .ok (.aload_n 0, 1) := by decide +kernel
theorem dX8_copyFrom_37 : decode cX8_copyFrom 37 = .ok (.getfield 15, 3) := by decide +kernel
theorem dX8_copyFrom_40 : decode cX8_copyFrom 40 = .ok (.iconst 0, 1) := by decide +kernel
theorem dX8_copyFrom_41 : decode cX8_copyFrom 41 = .ok (.bipush 16, 2) := by decide +kernel
theorem dX8_copyFrom_43 : decode cX8_copyFrom 43 = .ok (.invokestatic 43, 3) := by decide +kernel
theorem dX8_copyFrom_46 : decode cX8_copyFrom 46 = .ok (.aload_n 1, 1) := by decide +kernel
theorem dX8_copyFrom_47 : decode cX8_copyFrom 47 = .ok (.getfield 19, 3) := by decide +kernel
theorem dX8_copyFrom_50 : decode cX8_copyFrom 50 = .ok (.iconst 0, 1) := by decide +kernel
theorem dX8_copyFrom_51 : decode cX8_copyFrom 51 = .ok (.aload_n 0, 1) := by decide +kernel
theorem dX8_copyFrom_52 : decode cX8_copyFrom 52 = .ok (.getfield 19, 3) := by decide +kernel
theorem dX8_copyFrom_55 : decode cX8_copyFrom 55 = .ok (.iconst 0, 1) := by decide +kernel
theorem dX8_copyFrom_56 : decode cX8_copyFrom 56 = .ok (.bipush 16, 2) := by decide +kernel
theorem dX8_copyFrom_58 : decode cX8_copyFrom 58 = .ok (.invokestatic 43, 3) := by decide +kernel
theorem dX8_copyFrom_61 : decode cX8_copyFrom 61 = .ok (.return_, 1) := by decide +kernel
set_option maxRecDepth 20000 in
theorem ggX8_putRows_X8_spread : GoodIn wsX8_putRows wsX8_spread := goodIn_r _ [10, 11, 12, 13, 14, 15] (by decide +kernel) (by decide +kernel)
set_option maxRecDepth 20000 in
theorem gX8_putRows_X8_spread : GoodIn wsX8_putRows (va_wsS RX8 35 yX8_spread wsX8_spread) := goodIn_app (goodIn_of _ (by decide +kernel)) ggX8_putRows_X8_spread
theorem dX8_putRows_0 : decode cX8_putRows 0 = .ok (.iconst 0, 1) := by decide +kernel
theorem dX8_putRows_1 : decode cX8_putRows 1 = .ok (.istore_n 3, 1) := by decide +kernel
theorem dX8_putRows_2 : decode cX8_putRows 2 = .ok (.iload_n 3, 1) := by decide +kernel
theorem dX8_putRows_3 : decode cX8_putRows 3 = .ok (.bipush 16, 2) := by decide +kernel
theorem dX8_putRows_5 : decode cX8_putRows 5 = .ok (.if_icmp .ge 100, 3) := by decide +kernel
theorem dX8_putRows_8 : decode cX8_putRows 8 = .ok (.iload_n 3, 1) := by decide +kernel
theorem dX8_putRows_9 : decode cX8_putRows 9 = .ok (.aload_n 1, 1) := by decide +kernel
theorem dX8_putRows_10 : decode cX8_putRows 10 = .ok (.arraylength, 1) := by decide +kernel
theorem dX8_putRows_11 : decode cX8_putRows 11 = .ok (.if_icmp .ge 94, 3) := by decide +kernel
theorem dX8_putRows_14 : decode cX8_putRows 14 = .ok (.aload_n 1, 1) := by decide +kernel
theorem dX8_putRows_15 : decode cX8_putRows 15 = .ok (.iload_n 3, 1) := by decide +kernel
theorem dX8_putRows_16 : decode cX8_putRows 16 = .ok (.iaload, 1) := by decide +kernel
theorem dX8_putRows_17 : decode cX8_putRows 17 = .ok (.invokestatic 35, 3) := by decide +kernel
theorem dX8_putRows_20 : decode cX8_putRows 20 = .ok (.lstore 4, 2) := by decide +kernel
theorem dX8_putRows_22 : decode cX8_putRows 22 = .ok (.iload_n 2, 1) := by decide +kernel
theorem dX8_putRows_23 : decode cX8_putRows 23 = .ok (.bipush 35, 2) := by decide +kernel
theorem dX8_putRows_25 : decode cX8_putRows 25 = .ok (.if_icmp .ne 41, 3) := by decide +kernel
theorem dX8_putRows_28 : decode cX8_putRows 28 = .ok (.lload 4, 2) := by decide +kernel
theorem dX8_putRows_30 : decode cX8_putRows 30 = .ok (.aload_n 0, 1) := by decide +kernel
theorem dX8_putRows_31 : decode cX8_putRows 31 = .ok (.getfield 19, 3) := by decide +kernel
theorem dX8_putRows_34 : decode cX8_putRows 34 = .ok (.iload_n 3, 1) := by decide +kernel
theorem dX8_putRows_35 : decode cX8_putRows 35 = .ok (.laload, 1) := by decide +kernel
theorem dX8_putRows_36 : decode cX8_putRows 36 = .ok (.land, 1) := by decide +kernel
theorem dX8_putRows_37 : decode cX8_putRows 37 = .ok (.aload_n 0, 1) := by decide +kernel
theorem dX8_putRows_38 : decode cX8_putRows 38 = .ok (.getfield 22, 3) := by decide +kernel
theorem dX8_putRows_41 : decode cX8_putRows 41 = .ok (.i2l, 1) := by decide +kernel
theorem dX8_putRows_42 : decode cX8_putRows 42 = .ok (.lmul, 1) := by decide +kernel
theorem dX8_putRows_43 : decode cX8_putRows 43 = .ok (.lload 4, 2) := by decide +kernel
theorem dX8_putRows_45 : decode cX8_putRows 45 = .ok (.aload_n 0, 1) := by decide +kernel
theorem dX8_putRows_46 : decode cX8_putRows 46 = .ok (.getfield 19, 3) := by decide +kernel
theorem dX8_putRows_49 : decode cX8_putRows 49 = .ok (.iload_n 3, 1) := by decide +kernel
theorem dX8_putRows_50 : decode cX8_putRows 50 = .ok (.laload, 1) := by decide +kernel
theorem dX8_putRows_51 : decode cX8_putRows 51 = .ok (.ldc2_w 41, 3) := by decide +kernel
theorem dX8_putRows_54 : decode cX8_putRows 54 = .ok (.lxor, 1) := by decide +kernel
theorem dX8_putRows_55 : decode cX8_putRows 55 = .ok (.land, 1) := by decide +kernel
theorem dX8_putRows_56 : decode cX8_putRows 56 = .ok (.aload_n 0, 1) := by decide +kernel
theorem dX8_putRows_57 : decode cX8_putRows 57 = .ok (.getfield 26, 3) := by decide +kernel
theorem dX8_putRows_60 : decode cX8_putRows 60 = .ok (.i2l, 1) := by decide +kernel
theorem dX8_putRows_61 : decode cX8_putRows 61 = .ok (.lmul, 1) := by decide +kernel
theorem dX8_putRows_62 : decode cX8_putRows 62 = .ok (.lor, 1) := by decide +kernel
theorem dX8_putRows_63 : decode cX8_putRows 63 = .ok (.goto 8, 3) := by decide +kernel
theorem dX8_putRows_66 : decode cX8_putRows 66 = .ok (.lload 4, 2) := by decide +kernel
theorem dX8_putRows_68 : decode cX8_putRows 68 = .ok (.iload_n 2, 1) := by decide +kernel
theorem dX8_putRows_69 : decode cX8_putRows 69 = .ok (.i2l, 1) := by decide +kernel
theorem dX8_putRows_70 : decode cX8_putRows 70 = .ok (.lmul, 1) := by decide +kernel
theorem dX8_putRows_71 : decode cX8_putRows 71 = .ok (.lstore 6, 2) := by decide +kernel
theorem dX8_putRows_73 : decode cX8_putRows 73 = .ok (.aload_n 0, 1) := by decide +kernel
theorem dX8_putRows_74 : decode cX8_putRows 74 = .ok (.getfield 9, 3) := by decide +kernel
theorem dX8_putRows_77 : decode cX8_putRows 77 = .ok (.iload_n 3, 1) := by decide +kernel
theorem dX8_putRows_78 : decode cX8_putRows 78 = .ok (.aload_n 0, 1) := by decide +kernel
theorem dX8_putRows_79 : decode cX8_putRows 79 = .ok (.getfield 9, 3) := by decide +kernel
theorem dX8_putRows_82 : decode cX8_putRows 82 = .ok (.iload_n 3, 1) := by decide +kernel
theorem dX8_putRows_83 : decode cX8_putRows 83 = .ok (.laload, 1) := by decide +kernel
theorem dX8_putRows_84 : decode cX8_putRows 84 = .ok (.lload 4, 2) := by decide +kernel
theorem dX8_putRows_86 : decode cX8_putRows 86 = .ok (.ldc2_w 49, 3) := by decide +kernel
theorem dX8_putRows_89 : decode cX8_putRows 89 = .ok (.lmul, 1) := by decide +kernel
theorem dX8_putRows_90 : decode cX8_putRows 90 = .ok (.ldc2_w 41, 3) := by decide +kernel
theorem dX8_putRows_93 : decode cX8_putRows 93 = .ok (.lxor, 1) := by decide +kernel
theorem dX8_putRows_94 : decode cX8_putRows 94 = .ok (.land, 1) := by decide +kernel
theorem dX8_putRows_95 : decode cX8_putRows 95 = .ok (.lload 6, 2) := by decide +kernel
theorem dX8_putRows_97 : decode cX8_putRows 97 = .ok (.lor, 1) := by decide +kernel
theorem dX8_putRows_98 : decode cX8_putRows 98 = .ok (.lastore, 1) := by decide +kernel
theorem dX8_putRows_99 : decode cX8_putRows 99 = .ok (.iinc 3 1, 3) := by decide +kernel
theorem dX8_putRows_102 : decode cX8_putRows 102 = .ok (.goto (-100), 3) := by decide +kernel
theorem dX8_putRows_105 : decode cX8_putRows 105 = .ok (.return_, 1) := by decide +kernel
theorem dX8_take_0 : decode cX8_take 0 = .ok (.iconst 0, 1) := by decide +kernel
theorem dX8_take_1 : decode cX8_take 1 = .ok (.istore_n 2, 1) := by decide +kernel
theorem dX8_take_2 : decode cX8_take 2 = .ok (.iload_n 2, 1) := by decide +kernel
theorem dX8_take_3 : decode cX8_take 3 = .ok (.bipush 16, 2) := by decide +kernel
theorem dX8_take_5 : decode cX8_take 5 = .ok (.if_icmp .ge 27, 3) := by decide +kernel
theorem dX8_take_8 : decode cX8_take 8 = .ok (.iload_n 2, 1) := by decide +kernel
theorem dX8_take_9 : decode cX8_take 9 = .ok (.aload_n 1, 1) := by decide +kernel
theorem dX8_take_10 : decode cX8_take 10 = .ok (.arraylength, 1) := by decide +kernel
theorem dX8_take_11 : decode cX8_take 11 = .ok (.if_icmp .ge 21, 3) := by decide +kernel
theorem dX8_take_14 : decode cX8_take 14 = .ok (.aload_n 0, 1) := by decide +kernel
theorem dX8_take_15 : decode cX8_take 15 = .ok (.getfield 15, 3) := by decide +kernel
theorem dX8_take_18 : decode cX8_take 18 = .ok (.iload_n 2, 1) := by decide +kernel
theorem dX8_take_19 : decode cX8_take 19 = .ok (.dup2, 1) := by decide +kernel
theorem dX8_take_20 : decode cX8_take 20 = .ok (.iaload, 1) := by decide +kernel
theorem dX8_take_21 : decode cX8_take 21 = .ok (.aload_n 1, 1) := by decide +kernel
theorem dX8_take_22 : decode cX8_take 22 = .ok (.iload_n 2, 1) := by decide +kernel
theorem dX8_take_23 : decode cX8_take 23 = .ok (.iaload, 1) := by decide +kernel
theorem dX8_take_24 : decode cX8_take 24 = .ok (.ior, 1) := by decide +kernel
theorem dX8_take_25 : decode cX8_take 25 = .ok (.iastore, 1) := by decide +kernel
theorem dX8_take_26 : decode cX8_take 26 = .ok (.iinc 2 1, 3) := by decide +kernel
theorem dX8_take_29 : decode cX8_take 29 = .ok (.goto (-27), 3) := by decide +kernel
theorem dX8_take_32 : decode cX8_take 32 = .ok (.return_, 1) := by decide +kernel
set_option maxRecDepth 20000 in
theorem ggX8_overlay_X8_spread : GoodIn wsX8_overlay wsX8_spread := goodIn_r _ [11, 12, 13, 14, 15, 16] (by decide +kernel) (by decide +kernel)
set_option maxRecDepth 20000 in
theorem gX8_overlay_X8_spread : GoodIn wsX8_overlay (va_wsS RX8 35 yX8_spread wsX8_spread) := goodIn_app (goodIn_of _ (by decide +kernel)) ggX8_overlay_X8_spread
theorem dX8_overlay_0 : decode cX8_overlay 0 = .ok (.iload 4, 2) := by decide +kernel
theorem dX8_overlay_2 : decode cX8_overlay 2 = .ok (.invokestatic 35, 3) := by decide +kernel
theorem dX8_overlay_5 : decode cX8_overlay 5 = .ok (.ldc2_w 49, 3) := by decide +kernel
theorem dX8_overlay_8 : decode cX8_overlay 8 = .ok (.lmul, 1) := by decide +kernel
theorem dX8_overlay_9 : decode cX8_overlay 9 = .ok (.lstore 5, 2) := by decide +kernel
theorem dX8_overlay_11 : decode cX8_overlay 11 = .ok (.iload_n 2, 1) := by decide +kernel
theorem dX8_overlay_12 : decode cX8_overlay 12 = .ok (.iconst 0, 1) := by decide +kernel
theorem dX8_overlay_13 : decode cX8_overlay 13 = .ok (.invokestatic 51, 3) := by decide +kernel
theorem dX8_overlay_16 : decode cX8_overlay 16 = .ok (.istore 7, 2) := by decide +kernel
theorem dX8_overlay_18 : decode cX8_overlay 18 = .ok (.iload 7, 2) := by decide +kernel
theorem dX8_overlay_20 : decode cX8_overlay 20 = .ok (.iload_n 3, 1) := by decide +kernel
theorem dX8_overlay_21 : decode cX8_overlay 21 = .ok (.if_icmp .gt 48, 3) := by decide +kernel
theorem dX8_overlay_24 : decode cX8_overlay 24 = .ok (.iload 7, 2) := by decide +kernel
theorem dX8_overlay_26 : decode cX8_overlay 26 = .ok (.bipush 16, 2) := by decide +kernel
theorem dX8_overlay_28 : decode cX8_overlay 28 = .ok (.if_icmp .ge 41, 3) := by decide +kernel
theorem dX8_overlay_31 : decode cX8_overlay 31 = .ok (.aload_n 0, 1) := by decide +kernel
theorem dX8_overlay_32 : decode cX8_overlay 32 = .ok (.getfield 9, 3) := by decide +kernel
theorem dX8_overlay_35 : decode cX8_overlay 35 = .ok (.iload 7, 2) := by decide +kernel
theorem dX8_overlay_37 : decode cX8_overlay 37 = .ok (.aload_n 0, 1) := by decide +kernel
theorem dX8_overlay_38 : decode cX8_overlay 38 = .ok (.getfield 9, 3) := by decide +kernel
theorem dX8_overlay_41 : decode cX8_overlay 41 = .ok (.iload 7, 2) := by decide +kernel
theorem dX8_overlay_43 : decode cX8_overlay 43 = .ok (.laload, 1) := by decide +kernel
theorem dX8_overlay_44 : decode cX8_overlay 44 = .ok (.lload 5, 2) := by decide +kernel
theorem dX8_overlay_46 : decode cX8_overlay 46 = .ok (.ldc2_w 41, 3) := by decide +kernel
theorem dX8_overlay_49 : decode cX8_overlay 49 = .ok (.lxor, 1) := by decide +kernel
theorem dX8_overlay_50 : decode cX8_overlay 50 = .ok (.land, 1) := by decide +kernel
theorem dX8_overlay_51 : decode cX8_overlay 51 = .ok (.aload_n 1, 1) := by decide +kernel
theorem dX8_overlay_52 : decode cX8_overlay 52 = .ok (.getfield 9, 3) := by decide +kernel
theorem dX8_overlay_55 : decode cX8_overlay 55 = .ok (.iload 7, 2) := by decide +kernel
theorem dX8_overlay_57 : decode cX8_overlay 57 = .ok (.laload, 1) := by decide +kernel
theorem dX8_overlay_58 : decode cX8_overlay 58 = .ok (.lload 5, 2) := by decide +kernel
theorem dX8_overlay_60 : decode cX8_overlay 60 = .ok (.land, 1) := by decide +kernel
theorem dX8_overlay_61 : decode cX8_overlay 61 = .ok (.lor, 1) := by decide +kernel
theorem dX8_overlay_62 : decode cX8_overlay 62 = .ok (.lastore, 1) := by decide +kernel
theorem dX8_overlay_63 : decode cX8_overlay 63 = .ok (.iinc 7 1, 3) := by decide +kernel
theorem dX8_overlay_66 : decode cX8_overlay 66 = .ok (.goto (-48), 3) := by decide +kernel
theorem dX8_overlay_69 : decode cX8_overlay 69 = .ok (.return_, 1) := by decide +kernel
theorem dX8_quarterFrom_0 : decode cX8_quarterFrom 0 = .ok (.iload_n 2, 1) := by decide +kernel
theorem dX8_quarterFrom_1 : decode cX8_quarterFrom 1 = .ok (.iconst 1, 1) := by decide +kernel
theorem dX8_quarterFrom_2 : decode cX8_quarterFrom 2 = .ok (.iand, 1) := by decide +kernel
theorem dX8_quarterFrom_3 : decode cX8_quarterFrom 3 = .ok (.bipush 32, 2) := by decide +kernel
theorem dX8_quarterFrom_5 : decode cX8_quarterFrom 5 = .ok (.imul, 1) := by decide +kernel
theorem dX8_quarterFrom_6 : decode cX8_quarterFrom 6 = .ok (.istore_n 3, 1) := by decide +kernel
theorem dX8_quarterFrom_7 : decode cX8_quarterFrom 7 = .ok (.iload_n 2, 1) := by decide +kernel
theorem dX8_quarterFrom_8 : decode cX8_quarterFrom 8 = .ok (.iconst 2, 1) := by decide +kernel
theorem dX8_quarterFrom_9 : decode cX8_quarterFrom 9 = .ok (.iand, 1) := by decide +kernel
theorem dX8_quarterFrom_10 : decode cX8_quarterFrom 10 = .ok (.iconst 4, 1) := by decide +kernel
theorem dX8_quarterFrom_11 : decode cX8_quarterFrom 11 = .ok (.imul, 1) := by decide +kernel
theorem dX8_quarterFrom_12 : decode cX8_quarterFrom 12 = .ok (.istore 4, 2) := by decide +kernel
theorem dX8_quarterFrom_14 : decode cX8_quarterFrom 14 = .ok (.iconst 0, 1) := by decide +kernel
theorem dX8_quarterFrom_15 : decode cX8_quarterFrom 15 = .ok (.istore 5, 2) := by decide +kernel
theorem dX8_quarterFrom_17 : decode cX8_quarterFrom 17 = .ok (.iload 5, 2) := by decide +kernel
theorem dX8_quarterFrom_19 : decode cX8_quarterFrom 19 = .ok (.bipush 8, 2) := by decide +kernel
theorem dX8_quarterFrom_21 : decode cX8_quarterFrom 21 = .ok (.if_icmp .ge 100, 3) := by decide +kernel
theorem dX8_quarterFrom_24 : decode cX8_quarterFrom 24 = .ok (.aload_n 1, 1) := by decide +kernel
theorem dX8_quarterFrom_25 : decode cX8_quarterFrom 25 = .ok (.getfield 9, 3) := by decide +kernel
theorem dX8_quarterFrom_28 : decode cX8_quarterFrom 28 = .ok (.iconst 2, 1) := by decide +kernel
theorem dX8_quarterFrom_29 : decode cX8_quarterFrom 29 = .ok (.iload 5, 2) := by decide +kernel
theorem dX8_quarterFrom_31 : decode cX8_quarterFrom 31 = .ok (.imul, 1) := by decide +kernel
theorem dX8_quarterFrom_32 : decode cX8_quarterFrom 32 = .ok (.laload, 1) := by decide +kernel
theorem dX8_quarterFrom_33 : decode cX8_quarterFrom 33 = .ok (.ldc2_w 57, 3) := by decide +kernel
theorem dX8_quarterFrom_36 : decode cX8_quarterFrom 36 = .ok (.land, 1) := by decide +kernel
theorem dX8_quarterFrom_37 : decode cX8_quarterFrom 37 = .ok (.lstore 6, 2) := by decide +kernel
theorem dX8_quarterFrom_39 : decode cX8_quarterFrom 39 = .ok (.lload 6, 2) := by decide +kernel
theorem dX8_quarterFrom_41 : decode cX8_quarterFrom 41 = .ok (.lload 6, 2) := by decide +kernel
theorem dX8_quarterFrom_43 : decode cX8_quarterFrom 43 = .ok (.iconst 4, 1) := by decide +kernel
theorem dX8_quarterFrom_44 : decode cX8_quarterFrom 44 = .ok (.lushr, 1) := by decide +kernel
theorem dX8_quarterFrom_45 : decode cX8_quarterFrom 45 = .ok (.lor, 1) := by decide +kernel
theorem dX8_quarterFrom_46 : decode cX8_quarterFrom 46 = .ok (.ldc2_w 59, 3) := by decide +kernel
theorem dX8_quarterFrom_49 : decode cX8_quarterFrom 49 = .ok (.land, 1) := by decide +kernel
theorem dX8_quarterFrom_50 : decode cX8_quarterFrom 50 = .ok (.lstore 6, 2) := by decide +kernel
theorem dX8_quarterFrom_52 : decode cX8_quarterFrom 52 = .ok (.lload 6, 2) := by decide +kernel
theorem dX8_quarterFrom_54 : decode cX8_quarterFrom 54 = .ok (.lload 6, 2) := by decide +kernel
theorem dX8_quarterFrom_56 : decode cX8_quarterFrom 56 = .ok (.bipush 8, 2) := by decide +kernel
theorem dX8_quarterFrom_58 : decode cX8_quarterFrom 58 = .ok (.lushr, 1) := by decide +kernel
theorem dX8_quarterFrom_59 : decode cX8_quarterFrom 59 = .ok (.lor, 1) := by decide +kernel
theorem dX8_quarterFrom_60 : decode cX8_quarterFrom 60 = .ok (.ldc2_w 61, 3) := by decide +kernel
theorem dX8_quarterFrom_63 : decode cX8_quarterFrom 63 = .ok (.land, 1) := by decide +kernel
theorem dX8_quarterFrom_64 : decode cX8_quarterFrom 64 = .ok (.lstore 6, 2) := by decide +kernel
theorem dX8_quarterFrom_66 : decode cX8_quarterFrom 66 = .ok (.lload 6, 2) := by decide +kernel
theorem dX8_quarterFrom_68 : decode cX8_quarterFrom 68 = .ok (.lload 6, 2) := by decide +kernel
theorem dX8_quarterFrom_70 : decode cX8_quarterFrom 70 = .ok (.bipush 16, 2) := by decide +kernel
theorem dX8_quarterFrom_72 : decode cX8_quarterFrom 72 = .ok (.lushr, 1) := by decide +kernel
theorem dX8_quarterFrom_73 : decode cX8_quarterFrom 73 = .ok (.lor, 1) := by decide +kernel
theorem dX8_quarterFrom_74 : decode cX8_quarterFrom 74 = .ok (.ldc2_w 63, 3) := by decide +kernel
theorem dX8_quarterFrom_77 : decode cX8_quarterFrom 77 = .ok (.land, 1) := by decide +kernel
theorem dX8_quarterFrom_78 : decode cX8_quarterFrom 78 = .ok (.lstore 6, 2) := by decide +kernel
theorem dX8_quarterFrom_80 : decode cX8_quarterFrom 80 = .ok (.aload_n 0, 1) := by decide +kernel
theorem dX8_quarterFrom_81 : decode cX8_quarterFrom 81 = .ok (.getfield 9, 3) := by decide +kernel
theorem dX8_quarterFrom_84 : decode cX8_quarterFrom 84 = .ok (.iload 5, 2) := by decide +kernel
theorem dX8_quarterFrom_86 : decode cX8_quarterFrom 86 = .ok (.iload 4, 2) := by decide +kernel
theorem dX8_quarterFrom_88 : decode cX8_quarterFrom 88 = .ok (.iadd, 1) := by decide +kernel
theorem dX8_quarterFrom_89 : decode cX8_quarterFrom 89 = .ok (.aload_n 0, 1) := by decide +kernel
theorem dX8_quarterFrom_90 : decode cX8_quarterFrom 90 = .ok (.getfield 9, 3) := by decide +kernel
theorem dX8_quarterFrom_93 : decode cX8_quarterFrom 93 = .ok (.iload 5, 2) := by decide +kernel
theorem dX8_quarterFrom_95 : decode cX8_quarterFrom 95 = .ok (.iload 4, 2) := by decide +kernel
theorem dX8_quarterFrom_97 : decode cX8_quarterFrom 97 = .ok (.iadd, 1) := by decide +kernel
theorem dX8_quarterFrom_98 : decode cX8_quarterFrom 98 = .ok (.laload, 1) := by decide +kernel
theorem dX8_quarterFrom_99 : decode cX8_quarterFrom 99 = .ok (.ldc2_w 63, 3) := by decide +kernel
theorem dX8_quarterFrom_102 : decode cX8_quarterFrom 102 = .ok (.iload_n 3, 1) := by decide +kernel
theorem dX8_quarterFrom_103 : decode cX8_quarterFrom 103 = .ok (.lshl, 1) := by decide +kernel
theorem dX8_quarterFrom_104 : decode cX8_quarterFrom 104 = .ok (.ldc2_w 41, 3) := by decide +kernel
theorem dX8_quarterFrom_107 : decode cX8_quarterFrom 107 = .ok (.lxor, 1) := by decide +kernel
theorem dX8_quarterFrom_108 : decode cX8_quarterFrom 108 = .ok (.land, 1) := by decide +kernel
theorem dX8_quarterFrom_109 : decode cX8_quarterFrom 109 = .ok (.lload 6, 2) := by decide +kernel
theorem dX8_quarterFrom_111 : decode cX8_quarterFrom 111 = .ok (.iload_n 3, 1) := by decide +kernel
theorem dX8_quarterFrom_112 : decode cX8_quarterFrom 112 = .ok (.lshl, 1) := by decide +kernel
theorem dX8_quarterFrom_113 : decode cX8_quarterFrom 113 = .ok (.lor, 1) := by decide +kernel
theorem dX8_quarterFrom_114 : decode cX8_quarterFrom 114 = .ok (.lastore, 1) := by decide +kernel
theorem dX8_quarterFrom_115 : decode cX8_quarterFrom 115 = .ok (.iinc 5 1, 3) := by decide +kernel
theorem dX8_quarterFrom_118 : decode cX8_quarterFrom 118 = .ok (.goto (-101), 3) := by decide +kernel
theorem dX8_quarterFrom_121 : decode cX8_quarterFrom 121 = .ok (.return_, 1) := by decide +kernel
set_option maxRecDepth 20000 in
theorem ggX8_tinctureAt_X8_inRow : GoodIn wsX8_tinctureAt wsX8_inRow := goodIn_r _ [5] (by decide +kernel) (by decide +kernel)
set_option maxRecDepth 20000 in
theorem gX8_tinctureAt_X8_inRow : GoodIn wsX8_tinctureAt (va_wsS RX8 65 yX8_inRow wsX8_inRow) := goodIn_app (goodIn_of _ (by decide +kernel)) ggX8_tinctureAt_X8_inRow
theorem dX8_tinctureAt_0 : decode cX8_tinctureAt 0 = .ok (.aload_n 0, 1) := by decide +kernel
theorem dX8_tinctureAt_1 : decode cX8_tinctureAt 1 = .ok (.getfield 9, 3) := by decide +kernel
theorem dX8_tinctureAt_4 : decode cX8_tinctureAt 4 = .ok (.iload_n 2, 1) := by decide +kernel
theorem dX8_tinctureAt_5 : decode cX8_tinctureAt 5 = .ok (.bipush 15, 2) := by decide +kernel
theorem dX8_tinctureAt_7 : decode cX8_tinctureAt 7 = .ok (.iand, 1) := by decide +kernel
theorem dX8_tinctureAt_8 : decode cX8_tinctureAt 8 = .ok (.laload, 1) := by decide +kernel
theorem dX8_tinctureAt_9 : decode cX8_tinctureAt 9 = .ok (.iload_n 1, 1) := by decide +kernel
theorem dX8_tinctureAt_10 : decode cX8_tinctureAt 10 = .ok (.invokestatic 65, 3) := by decide +kernel
theorem dX8_tinctureAt_13 : decode cX8_tinctureAt 13 = .ok (.ireturn, 1) := by decide +kernel
theorem dX8_inRow_0 : decode cX8_inRow 0 = .ok (.lload_n 0, 1) := by decide +kernel
theorem dX8_inRow_1 : decode cX8_inRow 1 = .ok (.iconst 4, 1) := by decide +kernel
theorem dX8_inRow_2 : decode cX8_inRow 2 = .ok (.iload_n 2, 1) := by decide +kernel
theorem dX8_inRow_3 : decode cX8_inRow 3 = .ok (.bipush 15, 2) := by decide +kernel
theorem dX8_inRow_5 : decode cX8_inRow 5 = .ok (.iand, 1) := by decide +kernel
theorem dX8_inRow_6 : decode cX8_inRow 6 = .ok (.imul, 1) := by decide +kernel
theorem dX8_inRow_7 : decode cX8_inRow 7 = .ok (.lushr, 1) := by decide +kernel
theorem dX8_inRow_8 : decode cX8_inRow 8 = .ok (.l2i, 1) := by decide +kernel
theorem dX8_inRow_9 : decode cX8_inRow 9 = .ok (.bipush 15, 2) := by decide +kernel
theorem dX8_inRow_11 : decode cX8_inRow 11 = .ok (.iand, 1) := by decide +kernel
theorem dX8_inRow_12 : decode cX8_inRow 12 = .ok (.ireturn, 1) := by decide +kernel
set_option maxRecDepth 20000 in
theorem ggX8_countOf_X8_unlikeOnes : GoodIn wsX8_countOf wsX8_unlikeOnes := goodIn_r _ [7, 2] (by decide +kernel) (by decide +kernel)
set_option maxRecDepth 20000 in
theorem gX8_countOf_X8_unlikeOnes : GoodIn wsX8_countOf (va_wsS RX8 69 yX8_unlikeOnes wsX8_unlikeOnes) := goodIn_app (goodIn_of _ (by decide +kernel)) ggX8_countOf_X8_unlikeOnes
set_option maxRecDepth 20000 in
theorem ggX8_countOf_X8_spread : GoodIn wsX8_countOf wsX8_spread := goodIn_r _ [10, 11, 12, 13, 14, 2] (by decide +kernel) (by decide +kernel)
set_option maxRecDepth 20000 in
theorem gX8_countOf_X8_spread : GoodIn wsX8_countOf (va_wsS RX8 35 yX8_spread wsX8_spread) := goodIn_app (goodIn_of _ (by decide +kernel)) ggX8_countOf_X8_spread
set_option maxRecDepth 20000 in
theorem ggX8_countOf_J13_bitCount_95d88 : GoodIn wsX8_countOf wsJ13_bitCount_95d88 := goodIn_r _ [18, 19, 20, 21] (by decide +kernel) (by decide +kernel)
set_option maxRecDepth 20000 in
theorem gX8_countOf_J13_bitCount_95d88 : GoodIn wsX8_countOf (va_wsS RX8 73 yJ13_bitCount_95d88 wsJ13_bitCount_95d88) := goodIn_app (goodIn_of _ (by decide +kernel)) ggX8_countOf_J13_bitCount_95d88
theorem dX8_countOf_0 : decode cX8_countOf 0 = .ok (.iconst 0, 1) := by decide +kernel
theorem dX8_countOf_1 : decode cX8_countOf 1 = .ok (.istore_n 3, 1) := by decide +kernel
theorem dX8_countOf_2 : decode cX8_countOf 2 = .ok (.iconst 0, 1) := by decide +kernel
theorem dX8_countOf_3 : decode cX8_countOf 3 = .ok (.istore 4, 2) := by decide +kernel
theorem dX8_countOf_5 : decode cX8_countOf 5 = .ok (.iload 4, 2) := by decide +kernel
theorem dX8_countOf_7 : decode cX8_countOf 7 = .ok (.bipush 16, 2) := by decide +kernel
theorem dX8_countOf_9 : decode cX8_countOf 9 = .ok (.if_icmp .ge 54, 3) := by decide +kernel
theorem dX8_countOf_12 : decode cX8_countOf 12 = .ok (.iload 4, 2) := by decide +kernel
theorem dX8_countOf_14 : decode cX8_countOf 14 = .ok (.aload_n 1, 1) := by decide +kernel
theorem dX8_countOf_15 : decode cX8_countOf 15 = .ok (.arraylength, 1) := by decide +kernel
theorem dX8_countOf_16 : decode cX8_countOf 16 = .ok (.if_icmp .ge 47, 3) := by decide +kernel
theorem dX8_countOf_19 : decode cX8_countOf 19 = .ok (.aload_n 0, 1) := by decide +kernel
theorem dX8_countOf_20 : decode cX8_countOf 20 = .ok (.getfield 9, 3) := by decide +kernel
theorem dX8_countOf_23 : decode cX8_countOf 23 = .ok (.iload 4, 2) := by decide +kernel
theorem dX8_countOf_25 : decode cX8_countOf 25 = .ok (.laload, 1) := by decide +kernel
theorem dX8_countOf_26 : decode cX8_countOf 26 = .ok (.ldc2_w 39, 3) := by decide +kernel
theorem dX8_countOf_29 : decode cX8_countOf 29 = .ok (.iload_n 2, 1) := by decide +kernel
theorem dX8_countOf_30 : decode cX8_countOf 30 = .ok (.i2l, 1) := by decide +kernel
theorem dX8_countOf_31 : decode cX8_countOf 31 = .ok (.lmul, 1) := by decide +kernel
theorem dX8_countOf_32 : decode cX8_countOf 32 = .ok (.invokestatic 69, 3) := by decide +kernel
theorem dX8_countOf_35 : decode cX8_countOf 35 = .ok (.lstore 5, 2) := by decide +kernel
theorem dX8_countOf_37 : decode cX8_countOf 37 = .ok (.iload_n 3, 1) := by decide +kernel
theorem dX8_countOf_38 : decode cX8_countOf 38 = .ok (.aload_n 1, 1) := by decide +kernel
theorem dX8_countOf_39 : decode cX8_countOf 39 = .ok (.iload 4, 2) := by decide +kernel
theorem dX8_countOf_41 : decode cX8_countOf 41 = .ok (.iaload, 1) := by decide +kernel
theorem dX8_countOf_42 : decode cX8_countOf 42 = .ok (.invokestatic 35, 3) := by decide +kernel
theorem dX8_countOf_45 : decode cX8_countOf 45 = .ok (.lload 5, 2) := by decide +kernel
theorem dX8_countOf_47 : decode cX8_countOf 47 = .ok (.ldc2_w 41, 3) := by decide +kernel
theorem dX8_countOf_50 : decode cX8_countOf 50 = .ok (.lxor, 1) := by decide +kernel
theorem dX8_countOf_51 : decode cX8_countOf 51 = .ok (.land, 1) := by decide +kernel
theorem dX8_countOf_52 : decode cX8_countOf 52 = .ok (.invokestatic 73, 3) := by decide +kernel
theorem dX8_countOf_55 : decode cX8_countOf 55 = .ok (.iadd, 1) := by decide +kernel
theorem dX8_countOf_56 : decode cX8_countOf 56 = .ok (.istore_n 3, 1) := by decide +kernel
theorem dX8_countOf_57 : decode cX8_countOf 57 = .ok (.iinc 4 1, 3) := by decide +kernel
theorem dX8_countOf_60 : decode cX8_countOf 60 = .ok (.goto (-55), 3) := by decide +kernel
theorem dX8_countOf_63 : decode cX8_countOf 63 = .ok (.iload_n 3, 1) := by decide +kernel
theorem dX8_countOf_64 : decode cX8_countOf 64 = .ok (.ireturn, 1) := by decide +kernel
set_option maxRecDepth 20000 in
theorem ggX8_countUnlike_X8_unlikeOnes : GoodIn wsX8_countUnlike wsX8_unlikeOnes := goodIn_r _ [4, 5] (by decide +kernel) (by decide +kernel)
set_option maxRecDepth 20000 in
theorem gX8_countUnlike_X8_unlikeOnes : GoodIn wsX8_countUnlike (va_wsS RX8 69 yX8_unlikeOnes wsX8_unlikeOnes) := goodIn_app (goodIn_of _ (by decide +kernel)) ggX8_countUnlike_X8_unlikeOnes
set_option maxRecDepth 20000 in
theorem ggX8_countUnlike_J13_bitCount_95d88 : GoodIn wsX8_countUnlike wsJ13_bitCount_95d88 := goodIn_r _ [9, 10, 11, 12] (by decide +kernel) (by decide +kernel)
set_option maxRecDepth 20000 in
theorem gX8_countUnlike_J13_bitCount_95d88 : GoodIn wsX8_countUnlike (va_wsS RX8 73 yJ13_bitCount_95d88 wsJ13_bitCount_95d88) := goodIn_app (goodIn_of _ (by decide +kernel)) ggX8_countUnlike_J13_bitCount_95d88
theorem dX8_countUnlike_0 : decode cX8_countUnlike 0 = .ok (.iconst 0, 1) := by decide +kernel
theorem dX8_countUnlike_1 : decode cX8_countUnlike 1 = .ok (.istore_n 2, 1) := by decide +kernel
theorem dX8_countUnlike_2 : decode cX8_countUnlike 2 = .ok (.iconst 0, 1) := by decide +kernel
theorem dX8_countUnlike_3 : decode cX8_countUnlike 3 = .ok (.istore_n 3, 1) := by decide +kernel
theorem dX8_countUnlike_4 : decode cX8_countUnlike 4 = .ok (.iload_n 3, 1) := by decide +kernel
theorem dX8_countUnlike_5 : decode cX8_countUnlike 5 = .ok (.bipush 16, 2) := by decide +kernel
theorem dX8_countUnlike_7 : decode cX8_countUnlike 7 = .ok (.if_icmp .ge 36, 3) := by decide +kernel
theorem dX8_countUnlike_10 : decode cX8_countUnlike 10 = .ok (.iload_n 3, 1) := by decide +kernel
theorem dX8_countUnlike_11 : decode cX8_countUnlike 11 = .ok (.aload_n 0, 1) := by decide +kernel
theorem dX8_countUnlike_12 : decode cX8_countUnlike 12 = .ok (.arraylength, 1) := by decide +kernel
theorem dX8_countUnlike_13 : decode cX8_countUnlike 13 = .ok (.if_icmp .ge 30, 3) := by decide +kernel
theorem dX8_countUnlike_16 : decode cX8_countUnlike 16 = .ok (.iload_n 3, 1) := by decide +kernel
theorem dX8_countUnlike_17 : decode cX8_countUnlike 17 = .ok (.aload_n 1, 1) := by decide +kernel
theorem dX8_countUnlike_18 : decode cX8_countUnlike 18 = .ok (.arraylength, 1) := by decide +kernel
theorem dX8_countUnlike_19 : decode cX8_countUnlike 19 = .ok (.if_icmp .ge 24, 3) := by decide +kernel
theorem dX8_countUnlike_22 : decode cX8_countUnlike 22 = .ok (.iload_n 2, 1) := by decide +kernel
theorem dX8_countUnlike_23 : decode cX8_countUnlike 23 = .ok (.aload_n 0, 1) := by decide +kernel
theorem dX8_countUnlike_24 : decode cX8_countUnlike 24 = .ok (.iload_n 3, 1) := by decide +kernel
theorem dX8_countUnlike_25 : decode cX8_countUnlike 25 = .ok (.laload, 1) := by decide +kernel
theorem dX8_countUnlike_26 : decode cX8_countUnlike 26 = .ok (.aload_n 1, 1) := by decide +kernel
theorem dX8_countUnlike_27 : decode cX8_countUnlike 27 = .ok (.iload_n 3, 1) := by decide +kernel
theorem dX8_countUnlike_28 : decode cX8_countUnlike 28 = .ok (.laload, 1) := by decide +kernel
theorem dX8_countUnlike_29 : decode cX8_countUnlike 29 = .ok (.invokestatic 69, 3) := by decide +kernel
theorem dX8_countUnlike_32 : decode cX8_countUnlike 32 = .ok (.invokestatic 73, 3) := by decide +kernel
theorem dX8_countUnlike_35 : decode cX8_countUnlike 35 = .ok (.iadd, 1) := by decide +kernel
theorem dX8_countUnlike_36 : decode cX8_countUnlike 36 = .ok (.istore_n 2, 1) := by decide +kernel
theorem dX8_countUnlike_37 : decode cX8_countUnlike 37 = .ok (.iinc 3 1, 3) := by decide +kernel
theorem dX8_countUnlike_40 : decode cX8_countUnlike 40 = .ok (.goto (-36), 3) := by decide +kernel
theorem dX8_countUnlike_43 : decode cX8_countUnlike 43 = .ok (.iload_n 2, 1) := by decide +kernel
theorem dX8_countUnlike_44 : decode cX8_countUnlike 44 = .ok (.ireturn, 1) := by decide +kernel
theorem dX8_unlikeOnes_0 : decode cX8_unlikeOnes 0 = .ok (.lload_n 0, 1) := by decide +kernel
theorem dX8_unlikeOnes_1 : decode cX8_unlikeOnes 1 = .ok (.lload_n 2, 1) := by decide +kernel
theorem dX8_unlikeOnes_2 : decode cX8_unlikeOnes 2 = .ok (.lxor, 1) := by decide +kernel
theorem dX8_unlikeOnes_3 : decode cX8_unlikeOnes 3 = .ok (.lstore 4, 2) := by decide +kernel
theorem dX8_unlikeOnes_5 : decode cX8_unlikeOnes 5 = .ok (.lload 4, 2) := by decide +kernel
theorem dX8_unlikeOnes_7 : decode cX8_unlikeOnes 7 = .ok (.lload 4, 2) := by decide +kernel
theorem dX8_unlikeOnes_9 : decode cX8_unlikeOnes 9 = .ok (.iconst 2, 1) := by decide +kernel
theorem dX8_unlikeOnes_10 : decode cX8_unlikeOnes 10 = .ok (.lushr, 1) := by decide +kernel
theorem dX8_unlikeOnes_11 : decode cX8_unlikeOnes 11 = .ok (.lor, 1) := by decide +kernel
theorem dX8_unlikeOnes_12 : decode cX8_unlikeOnes 12 = .ok (.lstore 4, 2) := by decide +kernel
theorem dX8_unlikeOnes_14 : decode cX8_unlikeOnes 14 = .ok (.lload 4, 2) := by decide +kernel
theorem dX8_unlikeOnes_16 : decode cX8_unlikeOnes 16 = .ok (.lload 4, 2) := by decide +kernel
theorem dX8_unlikeOnes_18 : decode cX8_unlikeOnes 18 = .ok (.iconst 1, 1) := by decide +kernel
theorem dX8_unlikeOnes_19 : decode cX8_unlikeOnes 19 = .ok (.lushr, 1) := by decide +kernel
theorem dX8_unlikeOnes_20 : decode cX8_unlikeOnes 20 = .ok (.lor, 1) := by decide +kernel
theorem dX8_unlikeOnes_21 : decode cX8_unlikeOnes 21 = .ok (.lstore 4, 2) := by decide +kernel
theorem dX8_unlikeOnes_23 : decode cX8_unlikeOnes 23 = .ok (.lload 4, 2) := by decide +kernel
theorem dX8_unlikeOnes_25 : decode cX8_unlikeOnes 25 = .ok (.ldc2_w 39, 3) := by decide +kernel
theorem dX8_unlikeOnes_28 : decode cX8_unlikeOnes 28 = .ok (.land, 1) := by decide +kernel
theorem dX8_unlikeOnes_29 : decode cX8_unlikeOnes 29 = .ok (.lreturn, 1) := by decide +kernel
theorem dX8_spread_0 : decode cX8_spread 0 = .ok (.iload_n 0, 1) := by decide +kernel
theorem dX8_spread_1 : decode cX8_spread 1 = .ok (.ldc 79, 2) := by decide +kernel
theorem dX8_spread_3 : decode cX8_spread 3 = .ok (.iand, 1) := by decide +kernel
theorem dX8_spread_4 : decode cX8_spread 4 = .ok (.i2l, 1) := by decide +kernel
theorem dX8_spread_5 : decode cX8_spread 5 = .ok (.lstore_n 1, 1) := by decide +kernel
theorem dX8_spread_6 : decode cX8_spread 6 = .ok (.lload_n 1, 1) := by decide +kernel
theorem dX8_spread_7 : decode cX8_spread 7 = .ok (.lload_n 1, 1) := by decide +kernel
theorem dX8_spread_8 : decode cX8_spread 8 = .ok (.bipush 24, 2) := by decide +kernel
theorem dX8_spread_10 : decode cX8_spread 10 = .ok (.lshl, 1) := by decide +kernel
theorem dX8_spread_11 : decode cX8_spread 11 = .ok (.lor, 1) := by decide +kernel
theorem dX8_spread_12 : decode cX8_spread 12 = .ok (.ldc2_w 80, 3) := by decide +kernel
theorem dX8_spread_15 : decode cX8_spread 15 = .ok (.land, 1) := by decide +kernel
theorem dX8_spread_16 : decode cX8_spread 16 = .ok (.lstore_n 1, 1) := by decide +kernel
theorem dX8_spread_17 : decode cX8_spread 17 = .ok (.lload_n 1, 1) := by decide +kernel
theorem dX8_spread_18 : decode cX8_spread 18 = .ok (.lload_n 1, 1) := by decide +kernel
theorem dX8_spread_19 : decode cX8_spread 19 = .ok (.bipush 12, 2) := by decide +kernel
theorem dX8_spread_21 : decode cX8_spread 21 = .ok (.lshl, 1) := by decide +kernel
theorem dX8_spread_22 : decode cX8_spread 22 = .ok (.lor, 1) := by decide +kernel
theorem dX8_spread_23 : decode cX8_spread 23 = .ok (.ldc2_w 82, 3) := by decide +kernel
theorem dX8_spread_26 : decode cX8_spread 26 = .ok (.land, 1) := by decide +kernel
theorem dX8_spread_27 : decode cX8_spread 27 = .ok (.lstore_n 1, 1) := by decide +kernel
theorem dX8_spread_28 : decode cX8_spread 28 = .ok (.lload_n 1, 1) := by decide +kernel
theorem dX8_spread_29 : decode cX8_spread 29 = .ok (.lload_n 1, 1) := by decide +kernel
theorem dX8_spread_30 : decode cX8_spread 30 = .ok (.bipush 6, 2) := by decide +kernel
theorem dX8_spread_32 : decode cX8_spread 32 = .ok (.lshl, 1) := by decide +kernel
theorem dX8_spread_33 : decode cX8_spread 33 = .ok (.lor, 1) := by decide +kernel
theorem dX8_spread_34 : decode cX8_spread 34 = .ok (.ldc2_w 84, 3) := by decide +kernel
theorem dX8_spread_37 : decode cX8_spread 37 = .ok (.land, 1) := by decide +kernel
theorem dX8_spread_38 : decode cX8_spread 38 = .ok (.lstore_n 1, 1) := by decide +kernel
theorem dX8_spread_39 : decode cX8_spread 39 = .ok (.lload_n 1, 1) := by decide +kernel
theorem dX8_spread_40 : decode cX8_spread 40 = .ok (.lload_n 1, 1) := by decide +kernel
theorem dX8_spread_41 : decode cX8_spread 41 = .ok (.iconst 3, 1) := by decide +kernel
theorem dX8_spread_42 : decode cX8_spread 42 = .ok (.lshl, 1) := by decide +kernel
theorem dX8_spread_43 : decode cX8_spread 43 = .ok (.lor, 1) := by decide +kernel
theorem dX8_spread_44 : decode cX8_spread 44 = .ok (.ldc2_w 39, 3) := by decide +kernel
theorem dX8_spread_47 : decode cX8_spread 47 = .ok (.land, 1) := by decide +kernel
theorem dX8_spread_48 : decode cX8_spread 48 = .ok (.lreturn, 1) := by decide +kernel
set_option maxRecDepth 20000 in
theorem ggX9_init_X8_init : GoodIn wsX9_init wsX8_init := goodIn_r _ [27, 28, 2, 3, 7, 29, 9, 30, 31, 57, 58, 59, 60, 61] (by decide +kernel) (by decide +kernel)
set_option maxRecDepth 20000 in
theorem gX9_init_X8_init_n48 : GoodIn wsX9_init (wsX8_init) := ggX9_init_X8_init
set_option maxRecDepth 20000 in
theorem ggX9_init_X1_init : GoodIn wsX9_init wsX1_init := goodIn_r _ [34, 35, 2, 3, 9, 36, 37, 38, 39, 40, 41, 42, 43, 44, 62, 63, 64, 65, 66, 67, 68, 69, 70, 71, 72, 73, 74, 75, 76, 77, 78, 79, 80, 81, 82, 83, 84, 85, 86] (by decide +kernel) (by decide +kernel)
set_option maxRecDepth 20000 in
theorem gX9_init_X1_init : GoodIn wsX9_init (wsX1_init) := ggX9_init_X1_init
theorem dX9_init_0 : decode cX9_init 0 = .ok (.aload_n 0, 1) := by decide +kernel
theorem dX9_init_1 : decode cX9_init 1 = .ok (.invokespecial 3, 3) := by decide +kernel
theorem dX9_init_4 : decode cX9_init 4 = .ok (.aload_n 0, 1) := by decide +kernel
theorem dX9_init_5 : decode cX9_init 5 = .ok (.bipush 24, 2) := by decide +kernel
theorem dX9_init_7 : decode cX9_init 7 = .ok (.anewarray 9, 3) := by decide +kernel
theorem dX9_init_10 : decode cX9_init 10 = .ok (.putfield 11, 3) := by decide +kernel
theorem dX9_init_13 : decode cX9_init 13 = .ok (.aload_n 0, 1) := by decide +kernel
theorem dX9_init_14 : decode cX9_init 14 = .ok (.bipush 24, 2) := by decide +kernel
theorem dX9_init_16 : decode cX9_init 16 = .ok (.bipush 16, 2) := by decide +kernel
theorem dX9_init_18 : decode cX9_init 18 = .ok (.multianewarray 17 2, 4) := by decide +kernel
theorem dX9_init_22 : decode cX9_init 22 = .ok (.putfield 19, 3) := by decide +kernel
theorem dX9_init_25 : decode cX9_init 25 = .ok (.aload_n 0, 1) := by decide +kernel
theorem dX9_init_26 : decode cX9_init 26 = .ok (.bipush 24, 2) := by decide +kernel
theorem dX9_init_28 : decode cX9_init 28 = .ok (.newarray .int, 2) := by decide +kernel
theorem dX9_init_30 : decode cX9_init 30 = .ok (.putfield 22, 3) := by decide +kernel
theorem dX9_init_33 : decode cX9_init 33 = .ok (.aload_n 0, 1) := by decide +kernel
theorem dX9_init_34 : decode cX9_init 34 = .ok (.bipush 24, 2) := by decide +kernel
theorem dX9_init_36 : decode cX9_init 36 = .ok (.newarray .int, 2) := by decide +kernel
theorem dX9_init_38 : decode cX9_init 38 = .ok (.putfield 26, 3) := by decide +kernel
theorem dX9_init_41 : decode cX9_init 41 = .ok (.aload_n 0, 1) := by decide +kernel
theorem dX9_init_42 : decode cX9_init 42 = .ok (.bipush 24, 2) := by decide +kernel
theorem dX9_init_44 : decode cX9_init 44 = .ok (.newarray .int, 2) := by decide +kernel
theorem dX9_init_46 : decode cX9_init 46 = .ok (.putfield 29, 3) := by decide +kernel
theorem dX9_init_49 : decode cX9_init 49 = .ok (.aload_n 0, 1) := by decide +kernel
theorem dX9_init_50 : decode cX9_init 50 = .ok (.bipush 24, 2) := by decide +kernel
theorem dX9_init_52 : decode cX9_init 52 = .ok (.newarray .int, 2) := by decide +kernel
theorem dX9_init_54 : decode cX9_init 54 = .ok (.putfield 32, 3) := by decide +kernel
theorem dX9_init_57 : decode cX9_init 57 = .ok (.aload_n 0, 1) := by decide +kernel
theorem dX9_init_58 : decode cX9_init 58 = .ok (.bipush 24, 2) := by decide +kernel
theorem dX9_init_60 : decode cX9_init 60 = .ok (.newarray .int, 2) := by decide +kernel
theorem dX9_init_62 : decode cX9_init 62 = .ok (.putfield 35, 3) := by decide +kernel
theorem dX9_init_65 : decode cX9_init 65 = .ok (.aload_n 0, 1) := by decide +kernel
theorem dX9_init_66 : decode cX9_init 66 = .ok (.bipush 24, 2) := by decide +kernel
theorem dX9_init_68 : decode cX9_init 68 = .ok (.newarray .char, 2) := by decide +kernel
theorem dX9_init_70 : decode cX9_init 70 = .ok (.putfield 38, 3) := by decide +kernel
theorem dX9_init_73 : decode cX9_init 73 = .ok (.aload_n 0, 1) := by decide +kernel
theorem dX9_init_74 : decode cX9_init 74 = .ok (.bipush 24, 2) := by decide +kernel
theorem dX9_init_76 : decode cX9_init 76 = .ok (.newarray .boolean, 2) := by decide +kernel
theorem dX9_init_78 : decode cX9_init 78 = .ok (.putfield 42, 3) := by decide +kernel
theorem dX9_init_81 : decode cX9_init 81 = .ok (.aload_n 0, 1) := by decide +kernel
theorem dX9_init_82 : decode cX9_init 82 = .ok (.new 46, 3) := by decide +kernel
theorem dX9_init_85 : decode cX9_init 85 = .ok (.dup, 1) := by decide +kernel
theorem dX9_init_86 : decode cX9_init 86 = .ok (.invokespecial 48, 3) := by decide +kernel
theorem dX9_init_89 : decode cX9_init 89 = .ok (.putfield 49, 3) := by decide +kernel
theorem dX9_init_92 : decode cX9_init 92 = .ok (.aload_n 0, 1) := by decide +kernel
theorem dX9_init_93 : decode cX9_init 93 = .ok (.aload_n 1, 1) := by decide +kernel
theorem dX9_init_94 : decode cX9_init 94 = .ok (.putfield 53, 3) := by decide +kernel
theorem dX9_init_97 : decode cX9_init 97 = .ok (.iconst 0, 1) := by decide +kernel
theorem dX9_init_98 : decode cX9_init 98 = .ok (.istore_n 2, 1) := by decide +kernel
theorem dX9_init_99 : decode cX9_init 99 = .ok (.iload_n 2, 1) := by decide +kernel
theorem dX9_init_100 : decode cX9_init 100 = .ok (.bipush 24, 2) := by decide +kernel
theorem dX9_init_102 : decode cX9_init 102 = .ok (.if_icmp .ge 22, 3) := by decide +kernel
theorem dX9_init_105 : decode cX9_init 105 = .ok (.aload_n 0, 1) := by decide +kernel
theorem dX9_init_106 : decode cX9_init 106 = .ok (.getfield 11, 3) := by decide +kernel
theorem dX9_init_109 : decode cX9_init 109 = .ok (.iload_n 2, 1) := by decide +kernel
theorem dX9_init_110 : decode cX9_init 110 = .ok (.new 9, 3) := by decide +kernel
theorem dX9_init_113 : decode cX9_init 113 = .ok (.dup, 1) := by decide +kernel
theorem dX9_init_114 : decode cX9_init 114 = .ok (.invokespecial 57, 3) := by decide +kernel
theorem dX9_init_117 : decode cX9_init 117 = .ok (.aastore, 1) := by decide +kernel
theorem dX9_init_118 : decode cX9_init 118 = .ok (.iinc 2 1, 3) := by decide +kernel
theorem dX9_init_121 : decode cX9_init 121 = .ok (.goto (-22), 3) := by decide +kernel
theorem dX9_init_124 : decode cX9_init 124 = .ok (.return_, 1) := by decide +kernel
set_option maxRecDepth 20000 in
theorem ggX9_add_X1_takeWords : GoodIn wsX9_add wsX1_takeWords := goodIn_ca (goodIn_r _ [14, 15, 16, 17, 18, 13, 19, 20, 253, 254, 255, 256, 257, 258, 259, 260, 261, 262, 263, 264] (by decide +kernel) (by decide +kernel)) (goodIn_sub (fun _ h => List.mem_cons_of_mem _ (List.mem_append_right _ h)) (by decide +kernel))
set_option maxRecDepth 20000 in
theorem gX9_add_X1_takeWords : GoodIn wsX9_add (wsV RX9 66 RX1 yX1_takeWords wsX1_takeWords) := goodIn_app (goodIn_of _ (by decide +kernel)) ggX9_add_X1_takeWords
set_option maxRecDepth 20000 in
theorem ggX9_add_X1_read : GoodIn wsX9_add wsX1_read := goodIn_ca (goodIn_r _ [24, 25, 26, 27, 28, 29, 30, 31, 32, 33, 15, 34, 35, 36, 37, 38, 39, 40, 41, 13, 42, 43, 44, 45, 46, 20, 47, 48, 49, 50, 51, 52, 53, 54, 55, 56, 57, 58, 59, 60, 61, 62, 63, 64, 65, 66, 67, 68, 69, 70, 71, 72, 73, 74, 75, 76, 77, 78, 79, 80, 81, 82, 83, 84, 85, 86, 87, 88, 89, 90, 91, 92, 93, 94, 95, 96, 97, 98, 99, 100, 101, 102, 103, 253, 254, 255, 256, 257, 258, 259, 260, 261, 262, 263, 264, 265, 266, 267, 268, 269, 270, 271, 272, 273, 274, 275, 276, 277] (by decide +kernel) (by decide +kernel)) (goodIn_sub (fun _ h => List.mem_cons_of_mem _ (List.mem_append_right _ h)) (by decide +kernel))
set_option maxRecDepth 20000 in
theorem gX9_add_X1_read : GoodIn wsX9_add (wsV RX9 70 RX1 yX1_read wsX1_read) := goodIn_app (goodIn_of _ (by decide +kernel)) ggX9_add_X1_read
set_option maxRecDepth 20000 in
theorem ggX9_add_X9_repaint : GoodIn wsX9_add wsX9_repaint := goodIn_ca (goodIn_r _ [108, 109, 110, 2, 111, 8, 112, 113, 114, 115, 116, 117, 118, 119, 120, 107, 121, 1, 122, 123, 124, 125, 126, 127, 128, 129, 130, 131, 132, 133, 134, 135, 136, 137, 138, 139, 140, 141, 142, 143, 144, 145, 146, 147, 148, 149, 150, 151, 152, 153, 154, 155, 156, 36, 37, 38, 157, 158, 159, 160, 161, 162, 163, 164, 165, 166, 13, 167, 34, 168, 169, 170, 171, 172, 173, 174, 175, 176, 177, 178, 88, 179, 180, 181, 182, 183, 184, 185, 186, 187, 188, 189, 190, 191, 192, 193, 194, 195, 196, 197, 198, 199, 200, 201, 202, 203, 204, 205, 206, 207, 208, 209, 210, 211, 212, 213, 214, 215, 216, 217, 218, 219, 220, 221, 222, 223, 224, 225, 226, 227, 228, 229, 230, 231, 232, 233, 234, 235, 236, 237, 238, 239, 240, 241, 242, 243, 244, 245, 246, 247, 248, 249, 250, 251, 252, 253, 254, 255, 256, 257, 258, 259, 260, 261, 262, 263, 264, 278, 279, 280, 281, 282, 283, 284, 285, 286, 287, 288, 289, 290, 291, 292, 293, 294, 295, 265, 266, 267, 268, 269, 270, 271, 272, 273, 274, 275, 276, 277] (by decide +kernel) (by decide +kernel)) (goodIn_sub (fun _ h => List.mem_cons_of_mem _ (List.mem_append_right _ h)) (by decide +kernel))
set_option maxRecDepth 20000 in
theorem gX9_add_X9_repaint : GoodIn wsX9_add (wsV RX9 73 RX9 yX9_repaint wsX9_repaint) := goodIn_app (goodIn_of _ (by decide +kernel)) ggX9_add_X9_repaint
theorem dX9_add_0 : decode cX9_add 0 = .ok (.aload_n 0, 1) := by decide +kernel
theorem dX9_add_1 : decode cX9_add 1 = .ok (.getfield 58, 3) := by decide +kernel
theorem dX9_add_4 : decode cX9_add 4 = .ok (.ifCond .lt 12, 3) := by decide +kernel
theorem dX9_add_7 : decode cX9_add 7 = .ok (.aload_n 0, 1) := by decide +kernel
theorem dX9_add_8 : decode cX9_add 8 = .ok (.getfield 58, 3) := by decide +kernel
theorem dX9_add_11 : decode cX9_add 11 = .ok (.bipush 24, 2) := by decide +kernel
theorem dX9_add_13 : decode cX9_add 13 = .ok (.if_icmp .lt 5, 3) := by decide +kernel
theorem dX9_add_16 : decode cX9_add 16 = .ok (.iconst (-1), 1) := by decide +kernel
theorem dX9_add_17 : decode cX9_add 17 = .ok (.ireturn, 1) := by decide +kernel
theorem dX9_add_18 : decode cX9_add 18 = .ok (.aload_n 0, 1) := by decide +kernel
theorem dX9_add_19 : decode cX9_add 19 = .ok (.getfield 58, 3) := by decide +kernel
theorem dX9_add_22 : decode cX9_add 22 = .ok (.istore 6, 2) := by decide +kernel
theorem dX9_add_24 : decode cX9_add 24 = .ok (.aload_n 0, 1) := by decide +kernel
theorem dX9_add_25 : decode cX9_add 25 = .ok (.dup, 1) := by decide +kernel
theorem dX9_add_26 : decode cX9_add 26 = .ok (.getfield 58, 3) := by decide +kernel
theorem dX9_add_29 : decode cX9_add 29 = .ok (.iconst 1, 1) := by decide +kernel
theorem dX9_add_30 : decode cX9_add 30 = .ok (.iadd, 1) := by decide +kernel
theorem dX9_add_31 : decode cX9_add 31 = .ok (.putfield 58, 3) := by decide +kernel
theorem dX9_add_34 : decode cX9_add 34 = .ok (.aload_n 0, 1) := by decide +kernel
theorem dX9_add_35 : decode cX9_add 35 = .ok (.getfield 11, 3) := by decide +kernel
theorem dX9_add_38 : decode cX9_add 38 = .ok (.iload 6, 2) := by decide +kernel
theorem dX9_add_40 : decode cX9_add 40 = .ok (.aaload, 1) := by decide +kernel
theorem dX9_add_41 : decode cX9_add 41 = .ok (.aload_n 1, 1) := by decide +kernel
theorem dX9_add_42 : decode cX9_add 42 = .ok (.getfield 62, 3) := by decide +kernel
theorem dX9_add_45 : decode cX9_add 45 = .ok (.aload_n 1, 1) := by decide +kernel
theorem dX9_add_46 : decode cX9_add 46 = .ok (.getfield 65, 3) := by decide +kernel
theorem dX9_add_49 : decode cX9_add 49 = .ok (.invokevirtual 66, 3) := by decide +kernel
theorem dX9_add_52 : decode cX9_add 52 = .ok (.aload_n 0, 1) := by decide +kernel
theorem dX9_add_53 : decode cX9_add 53 = .ok (.getfield 11, 3) := by decide +kernel
theorem dX9_add_56 : decode cX9_add 56 = .ok (.iload 6, 2) := by decide +kernel
theorem dX9_add_58 : decode cX9_add 58 = .ok (.aaload, 1) := by decide +kernel
theorem dX9_add_59 : decode cX9_add 59 = .ok (.invokevirtual 70, 3) := by decide +kernel
theorem dX9_add_62 : decode cX9_add 62 = .ok (.aload_n 0, 1) := by decide +kernel
theorem dX9_add_63 : decode cX9_add 63 = .ok (.getfield 22, 3) := by decide +kernel
theorem dX9_add_66 : decode cX9_add 66 = .ok (.iload 6, 2) := by decide +kernel
theorem dX9_add_68 : decode cX9_add 68 = .ok (.iload_n 3, 1) := by decide +kernel
theorem dX9_add_69 : decode cX9_add 69 = .ok (.iastore, 1) := by decide +kernel
theorem dX9_add_70 : decode cX9_add 70 = .ok (.aload_n 0, 1) := by decide +kernel
theorem dX9_add_71 : decode cX9_add 71 = .ok (.getfield 26, 3) := by decide +kernel
theorem dX9_add_74 : decode cX9_add 74 = .ok (.iload 6, 2) := by decide +kernel
theorem dX9_add_76 : decode cX9_add 76 = .ok (.iload_n 2, 1) := by decide +kernel
theorem dX9_add_77 : decode cX9_add 77 = .ok (.iastore, 1) := by decide +kernel
theorem dX9_add_78 : decode cX9_add 78 = .ok (.aload_n 0, 1) := by decide +kernel
theorem dX9_add_79 : decode cX9_add 79 = .ok (.getfield 29, 3) := by decide +kernel
theorem dX9_add_82 : decode cX9_add 82 = .ok (.iload 6, 2) := by decide +kernel
theorem dX9_add_84 : decode cX9_add 84 = .ok (.iload 4, 2) := by decide +kernel
theorem dX9_add_86 : decode cX9_add 86 = .ok (.iastore, 1) := by decide +kernel
theorem dX9_add_87 : decode cX9_add 87 = .ok (.aload_n 0, 1) := by decide +kernel
theorem dX9_add_88 : decode cX9_add 88 = .ok (.getfield 32, 3) := by decide +kernel
theorem dX9_add_91 : decode cX9_add 91 = .ok (.iload 6, 2) := by decide +kernel
theorem dX9_add_93 : decode cX9_add 93 = .ok (.iconst (-1), 1) := by decide +kernel
theorem dX9_add_94 : decode cX9_add 94 = .ok (.iastore, 1) := by decide +kernel
theorem dX9_add_95 : decode cX9_add 95 = .ok (.aload_n 0, 1) := by decide +kernel
theorem dX9_add_96 : decode cX9_add 96 = .ok (.getfield 35, 3) := by decide +kernel
theorem dX9_add_99 : decode cX9_add 99 = .ok (.iload 6, 2) := by decide +kernel
theorem dX9_add_101 : decode cX9_add 101 = .ok (.iconst 0, 1) := by decide +kernel
theorem dX9_add_102 : decode cX9_add 102 = .ok (.iastore, 1) := by decide +kernel
theorem dX9_add_103 : decode cX9_add 103 = .ok (.aload_n 0, 1) := by decide +kernel
theorem dX9_add_104 : decode cX9_add 104 = .ok (.getfield 38, 3) := by decide +kernel
theorem dX9_add_107 : decode cX9_add 107 = .ok (.iload 6, 2) := by decide +kernel
theorem dX9_add_109 : decode cX9_add 109 = .ok (.iload 5, 2) := by decide +kernel
theorem dX9_add_111 : decode cX9_add 111 = .ok (.castore, 1) := by decide +kernel
theorem dX9_add_112 : decode cX9_add 112 = .ok (.aload_n 0, 1) := by decide +kernel
theorem dX9_add_113 : decode cX9_add 113 = .ok (.iload 6, 2) := by decide +kernel
theorem dX9_add_115 : decode cX9_add 115 = .ok (.invokevirtual 73, 3) := by decide +kernel
theorem dX9_add_118 : decode cX9_add 118 = .ok (.iload 6, 2) := by decide +kernel
theorem dX9_add_120 : decode cX9_add 120 = .ok (.ireturn, 1) := by decide +kernel
set_option maxRecDepth 20000 in
theorem ggX9_addHonour_X9_has : GoodIn wsX9_addHonour wsX9_has := goodIn_r _ [6, 7, 150, 151, 152, 153, 154, 155, 156, 157, 158, 159, 160, 161] (by decide +kernel) (by decide +kernel)
set_option maxRecDepth 20000 in
theorem gX9_addHonour_X9_has : GoodIn wsX9_addHonour (wsV RX9 77 RX9 yX9_has wsX9_has) := goodIn_app (goodIn_of _ (by decide +kernel)) ggX9_addHonour_X9_has
set_option maxRecDepth 20000 in
theorem ggX9_addHonour_X7_honourOf : GoodIn wsX9_addHonour wsX7_honourOf := goodIn_r _ [11] (by decide +kernel) (by decide +kernel)
set_option maxRecDepth 20000 in
theorem gX9_addHonour_X7_honourOf : GoodIn wsX9_addHonour (va_wsS RX9 81 yX7_honourOf wsX7_honourOf) := goodIn_app (goodIn_of _ (by decide +kernel)) ggX9_addHonour_X7_honourOf
set_option maxRecDepth 20000 in
theorem ggX9_addHonour_X9_repaint : GoodIn wsX9_addHonour wsX9_repaint := goodIn_ca (goodIn_r _ [15, 16, 17, 18, 19, 1, 20, 21, 22, 23, 24, 25, 2, 3, 4, 5, 6, 7, 26, 27, 28, 10, 29, 30, 31, 32, 33, 34, 35, 36, 37, 38, 39, 40, 41, 42, 43, 44, 45, 46, 47, 48, 49, 50, 51, 52, 53, 54, 55, 56, 57, 58, 59, 60, 61, 62, 63, 64, 65, 66, 67, 68, 69, 70, 71, 72, 73, 74, 75, 76, 77, 78, 79, 80, 81, 82, 83, 84, 85, 86, 87, 88, 89, 90, 91, 92, 93, 94, 95, 96, 97, 98, 99, 100, 101, 102, 103, 104, 105, 106, 107, 108, 109, 110, 111, 112, 113, 114, 115, 116, 117, 118, 119, 120, 121, 122, 123, 124, 125, 126, 127, 128, 129, 130, 131, 132, 133, 134, 135, 136, 137, 138, 139, 140, 141, 142, 143, 144, 145, 146, 147, 148, 149, 150, 151, 152, 153, 154, 155, 156, 157, 158, 159, 160, 161, 162, 163, 164, 165, 166, 167, 168, 169, 170, 171, 172, 173, 174, 175, 176, 177, 178, 179, 180, 181, 182, 183, 184, 185, 186, 187, 188, 189, 190, 191, 192, 193, 194, 195, 196, 197, 198, 199, 200, 201, 202, 203, 204] (by decide +kernel) (by decide +kernel)) (goodIn_sub (fun _ h => List.mem_cons_of_mem _ (List.mem_append_right _ h)) (by decide +kernel))
set_option maxRecDepth 20000 in
theorem gX9_addHonour_X9_repaint : GoodIn wsX9_addHonour (wsV RX9 73 RX9 yX9_repaint wsX9_repaint) := goodIn_app (goodIn_of _ (by decide +kernel)) ggX9_addHonour_X9_repaint
theorem dX9_addHonour_0 : decode cX9_addHonour 0 = .ok (.aload_n 0, 1) := by decide +kernel
theorem dX9_addHonour_1 : decode cX9_addHonour 1 = .ok (.iload_n 1, 1) := by decide +kernel
theorem dX9_addHonour_2 : decode cX9_addHonour 2 = .ok (.invokevirtual 77, 3) := by decide +kernel
theorem dX9_addHonour_5 : decode cX9_addHonour 5 = .ok (.ifCond .ne 5, 3) := by decide +kernel
theorem dX9_addHonour_8 : decode cX9_addHonour 8 = .ok (.iconst 0, 1) := by decide +kernel
theorem dX9_addHonour_9 : decode cX9_addHonour 9 = .ok (.ireturn, 1) := by decide +kernel
theorem dX9_addHonour_10 : decode cX9_addHonour 10 = .ok (.aload_n 0, 1) := by decide +kernel
theorem dX9_addHonour_11 : decode cX9_addHonour 11 = .ok (.getfield 35, 3) := by decide +kernel
theorem dX9_addHonour_14 : decode cX9_addHonour 14 = .ok (.iload_n 1, 1) := by decide +kernel
theorem dX9_addHonour_15 : decode cX9_addHonour 15 = .ok (.iaload, 1) := by decide +kernel
theorem dX9_addHonour_16 : decode cX9_addHonour 16 = .ok (.ifCond .ne 7, 3) := by decide +kernel
theorem dX9_addHonour_19 : decode cX9_addHonour 19 = .ok (.iconst 1, 1) := by decide +kernel
theorem dX9_addHonour_20 : decode cX9_addHonour 20 = .ok (.goto 4, 3) := by decide +kernel
theorem dX9_addHonour_23 : decode cX9_addHonour 23 = .ok (.iconst 0, 1) := by decide +kernel
theorem dX9_addHonour_24 : decode cX9_addHonour 24 = .ok (.istore 5, 2) := by decide +kernel
theorem dX9_addHonour_26 : decode cX9_addHonour 26 = .ok (.aload_n 0, 1) := by decide +kernel
theorem dX9_addHonour_27 : decode cX9_addHonour 27 = .ok (.getfield 35, 3) := by decide +kernel
theorem dX9_addHonour_30 : decode cX9_addHonour 30 = .ok (.iload_n 1, 1) := by decide +kernel
theorem dX9_addHonour_31 : decode cX9_addHonour 31 = .ok (.iload_n 2, 1) := by decide +kernel
theorem dX9_addHonour_32 : decode cX9_addHonour 32 = .ok (.iload_n 3, 1) := by decide +kernel
theorem dX9_addHonour_33 : decode cX9_addHonour 33 = .ok (.iload 4, 2) := by decide +kernel
theorem dX9_addHonour_35 : decode cX9_addHonour 35 = .ok (.invokestatic 81, 3) := by decide +kernel
theorem dX9_addHonour_38 : decode cX9_addHonour 38 = .ok (.iastore, 1) := by decide +kernel
theorem dX9_addHonour_39 : decode cX9_addHonour 39 = .ok (.aload_n 0, 1) := by decide +kernel
theorem dX9_addHonour_40 : decode cX9_addHonour 40 = .ok (.iload_n 1, 1) := by decide +kernel
theorem dX9_addHonour_41 : decode cX9_addHonour 41 = .ok (.invokevirtual 73, 3) := by decide +kernel
theorem dX9_addHonour_44 : decode cX9_addHonour 44 = .ok (.iload 5, 2) := by decide +kernel
theorem dX9_addHonour_46 : decode cX9_addHonour 46 = .ok (.ireturn, 1) := by decide +kernel
set_option maxRecDepth 20000 in
theorem ggX9_repaint_X9_has : GoodIn wsX9_repaint wsX9_has := goodIn_r _ [16, 17, 143, 144, 145, 146, 147, 148, 149, 150, 151, 152, 153, 154] (by decide +kernel) (by decide +kernel)
set_option maxRecDepth 20000 in
theorem gX9_repaint_X9_has : GoodIn wsX9_repaint (wsV RX9 77 RX9 yX9_has wsX9_has) := goodIn_app (goodIn_of _ (by decide +kernel)) ggX9_repaint_X9_has
set_option maxRecDepth 20000 in
theorem ggX9_repaint_X7_paintBlazon : GoodIn wsX9_repaint wsX7_paintBlazon := goodIn_ca (goodIn_r _ [22, 23, 24, 25, 26, 27, 28, 29, 21, 30, 31, 32, 33, 34, 35, 36, 37, 38, 39, 40, 41, 42, 43, 44, 45, 46, 47, 48, 49, 50, 51, 52, 53, 54, 55, 56, 57, 58, 59, 60, 61, 62, 63, 64, 65, 66, 67, 68, 69, 70, 71, 72, 73, 74, 75, 76, 77, 78, 79, 80, 81, 82, 9, 10, 11, 83, 84, 85, 86, 87, 88, 89, 90, 91, 92, 93, 94, 95, 96, 97, 98, 99, 100, 101, 102, 103, 104, 105, 106, 107, 108, 109, 110, 111, 112, 113, 114, 115, 116, 117, 118, 119, 120, 121, 122, 123, 124, 125, 126, 127, 128, 129, 130, 131, 132, 133, 134, 155, 156, 157, 158, 159, 160, 161, 162, 163, 164, 165, 166, 172, 173, 174, 175, 176, 177, 178, 179, 180, 181, 182, 183, 184, 167, 168, 169, 170, 171, 185, 186, 187, 188, 189, 190, 191, 192, 193, 194, 195, 196, 197] (by decide +kernel) (by decide +kernel)) (goodIn_sub (fun _ h => List.mem_cons_of_mem _ (List.mem_append_right _ h)) (by decide +kernel))
set_option maxRecDepth 20000 in
theorem gX9_repaint_X7_paintBlazon : GoodIn wsX9_repaint (wsV RX9 90 RX7 yX7_paintBlazon wsX7_paintBlazon) := goodIn_app (goodIn_of _ (by decide +kernel)) ggX9_repaint_X7_paintBlazon
set_option maxRecDepth 20000 in
theorem ggX9_repaint_X7_paintHonour : GoodIn wsX9_repaint wsX7_paintHonour := goodIn_ca (goodIn_r _ [138, 77, 73, 139, 140, 141, 21, 142, 96, 97, 98, 99, 100, 36, 104, 105, 106, 112, 113, 114, 43, 115, 48, 45, 51, 46, 49, 116, 56, 57, 58, 59, 60, 61, 62, 50, 172, 173, 174, 175, 176, 177, 178, 179, 180, 181, 182, 183, 184, 167, 168, 169, 170, 171] (by decide +kernel) (by decide +kernel)) (goodIn_sub (fun _ h => List.mem_cons_of_mem _ (List.mem_append_right _ h)) (by decide +kernel))
set_option maxRecDepth 20000 in
theorem gX9_repaint_X7_paintHonour : GoodIn wsX9_repaint (wsV RX9 94 RX7 yX7_paintHonour wsX7_paintHonour) := goodIn_app (goodIn_of _ (by decide +kernel)) ggX9_repaint_X7_paintHonour
theorem dX9_repaint_0 : decode cX9_repaint 0 = .ok (.aload_n 0, 1) := by decide +kernel
theorem dX9_repaint_1 : decode cX9_repaint 1 = .ok (.iload_n 1, 1) := by decide +kernel
theorem dX9_repaint_2 : decode cX9_repaint 2 = .ok (.invokevirtual 77, 3) := by decide +kernel
theorem dX9_repaint_5 : decode cX9_repaint 5 = .ok (.ifCond .eq 66, 3) := by decide +kernel
theorem dX9_repaint_8 : decode cX9_repaint 8 = .ok (.aload_n 0, 1) := by decide +kernel
theorem dX9_repaint_9 : decode cX9_repaint 9 = .ok (.getfield 53, 3) := by decide +kernel
theorem dX9_repaint_12 : decode cX9_repaint 12 = .ok (.aload_n 0, 1) := by decide +kernel
theorem dX9_repaint_13 : decode cX9_repaint 13 = .ok (.getfield 49, 3) := by decide +kernel
theorem dX9_repaint_16 : decode cX9_repaint 16 = .ok (.aload_n 0, 1) := by decide +kernel
theorem dX9_repaint_17 : decode cX9_repaint 17 = .ok (.getfield 11, 3) := by decide +kernel
theorem dX9_repaint_20 : decode cX9_repaint 20 = .ok (.iload_n 1, 1) := by decide +kernel
theorem dX9_repaint_21 : decode cX9_repaint 21 = .ok (.aaload, 1) := by decide +kernel
theorem dX9_repaint_22 : decode cX9_repaint 22 = .ok (.aload_n 0, 1) := by decide +kernel
theorem dX9_repaint_23 : decode cX9_repaint 23 = .ok (.getfield 11, 3) := by decide +kernel
theorem dX9_repaint_26 : decode cX9_repaint 26 = .ok (.iload_n 1, 1) := by decide +kernel
theorem dX9_repaint_27 : decode cX9_repaint 27 = .ok (.aaload, 1) := by decide +kernel
theorem dX9_repaint_28 : decode cX9_repaint 28 = .ok (.getfield 87, 3) := by decide +kernel
theorem dX9_repaint_31 : decode cX9_repaint 31 = .ok (.invokevirtual 90, 3) := by decide +kernel
theorem dX9_repaint_34 : decode cX9_repaint 34 = .ok (.aload_n 0, 1) := by decide +kernel
theorem dX9_repaint_35 : decode cX9_repaint 35 = .ok (.getfield 53, 3) := by decide +kernel
theorem dX9_repaint_38 : decode cX9_repaint 38 = .ok (.aload_n 0, 1) := by decide +kernel
theorem dX9_repaint_39 : decode cX9_repaint 39 = .ok (.getfield 49, 3) := by decide +kernel
theorem dX9_repaint_42 : decode cX9_repaint 42 = .ok (.aload_n 0, 1) := by decide +kernel
theorem dX9_repaint_43 : decode cX9_repaint 43 = .ok (.getfield 35, 3) := by decide +kernel
theorem dX9_repaint_46 : decode cX9_repaint 46 = .ok (.iload_n 1, 1) := by decide +kernel
theorem dX9_repaint_47 : decode cX9_repaint 47 = .ok (.iaload, 1) := by decide +kernel
theorem dX9_repaint_48 : decode cX9_repaint 48 = .ok (.invokevirtual 94, 3) := by decide +kernel
theorem dX9_repaint_51 : decode cX9_repaint 51 = .ok (.aload_n 0, 1) := by decide +kernel
theorem dX9_repaint_52 : decode cX9_repaint 52 = .ok (.getfield 49, 3) := by decide +kernel
theorem dX9_repaint_55 : decode cX9_repaint 55 = .ok (.getfield 98, 3) := by decide +kernel
theorem dX9_repaint_58 : decode cX9_repaint 58 = .ok (.iconst 0, 1) := by decide +kernel
theorem dX9_repaint_59 : decode cX9_repaint 59 = .ok (.aload_n 0, 1) := by decide +kernel
theorem dX9_repaint_60 : decode cX9_repaint 60 = .ok (.getfield 19, 3) := by decide +kernel
theorem dX9_repaint_63 : decode cX9_repaint 63 = .ok (.iload_n 1, 1) := by decide +kernel
theorem dX9_repaint_64 : decode cX9_repaint 64 = .ok (.aaload, 1) := by decide +kernel
theorem dX9_repaint_65 : decode cX9_repaint 65 = .ok (.iconst 0, 1) := by decide +kernel
theorem dX9_repaint_66 : decode cX9_repaint 66 = .ok (.bipush 16, 2) := by decide +kernel
theorem dX9_repaint_68 : decode cX9_repaint 68 = .ok (.invokestatic 102, 3) := by decide +kernel
theorem dX9_repaint_71 : decode cX9_repaint 71 = .ok (.return_, 1) := by decide +kernel
theorem dX9_has_0 : decode cX9_has 0 = .ok (.iload_n 1, 1) := by decide +kernel
theorem dX9_has_1 : decode cX9_has 1 = .ok (.ifCond .lt 21, 3) := by decide +kernel
theorem dX9_has_4 : decode cX9_has 4 = .ok (.iload_n 1, 1) := by decide +kernel
theorem dX9_has_5 : decode cX9_has 5 = .ok (.aload_n 0, 1) := by decide +kernel
theorem dX9_has_6 : decode cX9_has 6 = .ok (.getfield 58, 3) := by decide +kernel
theorem dX9_has_9 : decode cX9_has 9 = .ok (.if_icmp .ge 13, 3) := by decide +kernel
theorem dX9_has_12 : decode cX9_has 12 = .ok (.iload_n 1, 1) := by decide +kernel
theorem dX9_has_13 : decode cX9_has 13 = .ok (.bipush 24, 2) := by decide +kernel
theorem dX9_has_15 : decode cX9_has 15 = .ok (.if_icmp .ge 7, 3) := by decide +kernel
theorem dX9_has_18 : decode cX9_has 18 = .ok (.iconst 1, 1) := by decide +kernel
theorem dX9_has_19 : decode cX9_has 19 = .ok (.goto 4, 3) := by decide +kernel
theorem dX9_has_22 : decode cX9_has 22 = .ok (.iconst 0, 1) := by decide +kernel
theorem dX9_has_23 : decode cX9_has 23 = .ok (.ireturn, 1) := by decide +kernel
set_option maxRecDepth 20000 in
theorem ggX9_safe_X9_has : GoodIn wsX9_safe wsX9_has := goodIn_r _ [5, 6, 7, 8, 9, 10, 11, 12, 13, 14, 15, 16, 17, 18] (by decide +kernel) (by decide +kernel)
set_option maxRecDepth 20000 in
theorem gX9_safe_X9_has : GoodIn wsX9_safe (wsV RX9 77 RX9 yX9_has wsX9_has) := goodIn_app (goodIn_of _ (by decide +kernel)) ggX9_safe_X9_has
theorem dX9_safe_0 : decode cX9_safe 0 = .ok (.aload_n 0, 1) := by decide +kernel
theorem dX9_safe_1 : decode cX9_safe 1 = .ok (.iload_n 1, 1) := by decide +kernel
theorem dX9_safe_2 : decode cX9_safe 2 = .ok (.invokevirtual 77, 3) := by decide +kernel
theorem dX9_safe_5 : decode cX9_safe 5 = .ok (.ifCond .eq 7, 3) := by decide +kernel
theorem dX9_safe_8 : decode cX9_safe 8 = .ok (.iload_n 1, 1) := by decide +kernel
theorem dX9_safe_9 : decode cX9_safe 9 = .ok (.goto 4, 3) := by decide +kernel
theorem dX9_safe_12 : decode cX9_safe 12 = .ok (.iconst 0, 1) := by decide +kernel
theorem dX9_safe_13 : decode cX9_safe 13 = .ok (.ireturn, 1) := by decide +kernel
set_option maxRecDepth 20000 in
theorem ggX9_blazonOf_X9_safe : GoodIn wsX9_blazonOf wsX9_safe := goodIn_r _ [6, 7, 8, 9, 5, 10, 11, 12, 13, 14, 15, 16, 17, 18, 19, 20, 21, 22, 23] (by decide +kernel) (by decide +kernel)
set_option maxRecDepth 20000 in
theorem gX9_blazonOf_X9_safe : GoodIn wsX9_blazonOf (wsV RX9 108 RX9 yX9_safe wsX9_safe) := goodIn_app (goodIn_of _ (by decide +kernel)) ggX9_blazonOf_X9_safe
theorem dX9_blazonOf_0 : decode cX9_blazonOf 0 = .ok (.aload_n 0, 1) := by decide +kernel
theorem dX9_blazonOf_1 : decode cX9_blazonOf 1 = .ok (.getfield 11, 3) := by decide +kernel
theorem dX9_blazonOf_4 : decode cX9_blazonOf 4 = .ok (.aload_n 0, 1) := by decide +kernel
theorem dX9_blazonOf_5 : decode cX9_blazonOf 5 = .ok (.iload_n 1, 1) := by decide +kernel
theorem dX9_blazonOf_6 : decode cX9_blazonOf 6 = .ok (.invokevirtual 108, 3) := by decide +kernel
theorem dX9_blazonOf_9 : decode cX9_blazonOf 9 = .ok (.aaload, 1) := by decide +kernel
theorem dX9_blazonOf_10 : decode cX9_blazonOf 10 = .ok (.areturn, 1) := by decide +kernel
set_option maxRecDepth 20000 in
theorem ggX9_rowsOf_X9_safe : GoodIn wsX9_rowsOf wsX9_safe := goodIn_r _ [6, 7, 8, 9, 5, 10, 11, 12, 13, 14, 15, 16, 17, 18, 19, 20, 21, 22, 23] (by decide +kernel) (by decide +kernel)
set_option maxRecDepth 20000 in
theorem gX9_rowsOf_X9_safe : GoodIn wsX9_rowsOf (wsV RX9 108 RX9 yX9_safe wsX9_safe) := goodIn_app (goodIn_of _ (by decide +kernel)) ggX9_rowsOf_X9_safe
theorem dX9_rowsOf_0 : decode cX9_rowsOf 0 = .ok (.aload_n 0, 1) := by decide +kernel
theorem dX9_rowsOf_1 : decode cX9_rowsOf 1 = .ok (.getfield 19, 3) := by decide +kernel
theorem dX9_rowsOf_4 : decode cX9_rowsOf 4 = .ok (.aload_n 0, 1) := by decide +kernel
theorem dX9_rowsOf_5 : decode cX9_rowsOf 5 = .ok (.iload_n 1, 1) := by decide +kernel
theorem dX9_rowsOf_6 : decode cX9_rowsOf 6 = .ok (.invokevirtual 108, 3) := by decide +kernel
theorem dX9_rowsOf_9 : decode cX9_rowsOf 9 = .ok (.aaload, 1) := by decide +kernel
theorem dX9_rowsOf_10 : decode cX9_rowsOf 10 = .ok (.areturn, 1) := by decide +kernel
set_option maxRecDepth 20000 in
theorem ggX9_tinctureAt_X9_safe : GoodIn wsX9_tinctureAt wsX9_safe := goodIn_r _ [6, 7, 8, 9, 5, 10, 11, 16, 17, 18, 19, 20, 21, 22, 23, 24, 25, 26, 27] (by decide +kernel) (by decide +kernel)
set_option maxRecDepth 20000 in
theorem gX9_tinctureAt_X9_safe : GoodIn wsX9_tinctureAt (wsV RX9 108 RX9 yX9_safe wsX9_safe) := goodIn_app (goodIn_of _ (by decide +kernel)) ggX9_tinctureAt_X9_safe
set_option maxRecDepth 20000 in
theorem ggX9_tinctureAt_X8_inRow : GoodIn wsX9_tinctureAt wsX8_inRow := goodIn_r _ [15] (by decide +kernel) (by decide +kernel)
set_option maxRecDepth 20000 in
theorem gX9_tinctureAt_X8_inRow : GoodIn wsX9_tinctureAt (va_wsS RX9 112 yX8_inRow wsX8_inRow) := goodIn_app (goodIn_of _ (by decide +kernel)) ggX9_tinctureAt_X8_inRow
theorem dX9_tinctureAt_0 : decode cX9_tinctureAt 0 = .ok (.aload_n 0, 1) := by decide +kernel
theorem dX9_tinctureAt_1 : decode cX9_tinctureAt 1 = .ok (.getfield 19, 3) := by decide +kernel
theorem dX9_tinctureAt_4 : decode cX9_tinctureAt 4 = .ok (.aload_n 0, 1) := by decide +kernel
theorem dX9_tinctureAt_5 : decode cX9_tinctureAt 5 = .ok (.iload_n 1, 1) := by decide +kernel
theorem dX9_tinctureAt_6 : decode cX9_tinctureAt 6 = .ok (.invokevirtual 108, 3) := by decide +kernel
theorem dX9_tinctureAt_9 : decode cX9_tinctureAt 9 = .ok (.aaload, 1) := by decide +kernel
theorem dX9_tinctureAt_10 : decode cX9_tinctureAt 10 = .ok (.iload_n 3, 1) := by decide +kernel
theorem dX9_tinctureAt_11 : decode cX9_tinctureAt 11 = .ok (.bipush 15, 2) := by decide +kernel
theorem dX9_tinctureAt_13 : decode cX9_tinctureAt 13 = .ok (.iand, 1) := by decide +kernel
theorem dX9_tinctureAt_14 : decode cX9_tinctureAt 14 = .ok (.laload, 1) := by decide +kernel
theorem dX9_tinctureAt_15 : decode cX9_tinctureAt 15 = .ok (.iload_n 2, 1) := by decide +kernel
theorem dX9_tinctureAt_16 : decode cX9_tinctureAt 16 = .ok (.invokestatic 112, 3) := by decide +kernel
theorem dX9_tinctureAt_19 : decode cX9_tinctureAt 19 = .ok (.ireturn, 1) := by decide +kernel
set_option maxRecDepth 20000 in
theorem ggX9_landOf_X9_has : GoodIn wsX9_landOf wsX9_has := goodIn_r _ [6, 7, 8, 9, 10, 11, 12, 13, 14, 15, 16, 17, 18, 19] (by decide +kernel) (by decide +kernel)
set_option maxRecDepth 20000 in
theorem gX9_landOf_X9_has : GoodIn wsX9_landOf (wsV RX9 77 RX9 yX9_has wsX9_has) := goodIn_app (goodIn_of _ (by decide +kernel)) ggX9_landOf_X9_has
theorem dX9_landOf_0 : decode cX9_landOf 0 = .ok (.aload_n 0, 1) := by decide +kernel
theorem dX9_landOf_1 : decode cX9_landOf 1 = .ok (.iload_n 1, 1) := by decide +kernel
theorem dX9_landOf_2 : decode cX9_landOf 2 = .ok (.invokevirtual 77, 3) := by decide +kernel
theorem dX9_landOf_5 : decode cX9_landOf 5 = .ok (.ifCond .eq 12, 3) := by decide +kernel
theorem dX9_landOf_8 : decode cX9_landOf 8 = .ok (.aload_n 0, 1) := by decide +kernel
theorem dX9_landOf_9 : decode cX9_landOf 9 = .ok (.getfield 22, 3) := by decide +kernel
theorem dX9_landOf_12 : decode cX9_landOf 12 = .ok (.iload_n 1, 1) := by decide +kernel
theorem dX9_landOf_13 : decode cX9_landOf 13 = .ok (.iaload, 1) := by decide +kernel
theorem dX9_landOf_14 : decode cX9_landOf 14 = .ok (.goto 4, 3) := by decide +kernel
theorem dX9_landOf_17 : decode cX9_landOf 17 = .ok (.iconst (-1), 1) := by decide +kernel
theorem dX9_landOf_18 : decode cX9_landOf 18 = .ok (.ireturn, 1) := by decide +kernel
set_option maxRecDepth 20000 in
theorem ggX9_firstBearer_X9_has : GoodIn wsX9_firstBearer wsX9_has := goodIn_r _ [6, 7, 8, 9, 10, 11, 12, 13, 14, 15, 16, 17, 18, 19] (by decide +kernel) (by decide +kernel)
set_option maxRecDepth 20000 in
theorem gX9_firstBearer_X9_has : GoodIn wsX9_firstBearer (wsV RX9 77 RX9 yX9_has wsX9_has) := goodIn_app (goodIn_of _ (by decide +kernel)) ggX9_firstBearer_X9_has
theorem dX9_firstBearer_0 : decode cX9_firstBearer 0 = .ok (.aload_n 0, 1) := by decide +kernel
theorem dX9_firstBearer_1 : decode cX9_firstBearer 1 = .ok (.iload_n 1, 1) := by decide +kernel
theorem dX9_firstBearer_2 : decode cX9_firstBearer 2 = .ok (.invokevirtual 77, 3) := by decide +kernel
theorem dX9_firstBearer_5 : decode cX9_firstBearer 5 = .ok (.ifCond .eq 12, 3) := by decide +kernel
theorem dX9_firstBearer_8 : decode cX9_firstBearer 8 = .ok (.aload_n 0, 1) := by decide +kernel
theorem dX9_firstBearer_9 : decode cX9_firstBearer 9 = .ok (.getfield 26, 3) := by decide +kernel
theorem dX9_firstBearer_12 : decode cX9_firstBearer 12 = .ok (.iload_n 1, 1) := by decide +kernel
theorem dX9_firstBearer_13 : decode cX9_firstBearer 13 = .ok (.iaload, 1) := by decide +kernel
theorem dX9_firstBearer_14 : decode cX9_firstBearer 14 = .ok (.goto 4, 3) := by decide +kernel
theorem dX9_firstBearer_17 : decode cX9_firstBearer 17 = .ok (.iconst (-1), 1) := by decide +kernel
theorem dX9_firstBearer_18 : decode cX9_firstBearer 18 = .ok (.ireturn, 1) := by decide +kernel
set_option maxRecDepth 20000 in
theorem ggX9_yearWhen_X9_has : GoodIn wsX9_yearWhen wsX9_has := goodIn_r _ [6, 7, 8, 9, 10, 11, 12, 13, 14, 15, 16, 17, 18, 19] (by decide +kernel) (by decide +kernel)
set_option maxRecDepth 20000 in
theorem gX9_yearWhen_X9_has : GoodIn wsX9_yearWhen (wsV RX9 77 RX9 yX9_has wsX9_has) := goodIn_app (goodIn_of _ (by decide +kernel)) ggX9_yearWhen_X9_has
theorem dX9_yearWhen_0 : decode cX9_yearWhen 0 = .ok (.aload_n 0, 1) := by decide +kernel
theorem dX9_yearWhen_1 : decode cX9_yearWhen 1 = .ok (.iload_n 1, 1) := by decide +kernel
theorem dX9_yearWhen_2 : decode cX9_yearWhen 2 = .ok (.invokevirtual 77, 3) := by decide +kernel
theorem dX9_yearWhen_5 : decode cX9_yearWhen 5 = .ok (.ifCond .eq 12, 3) := by decide +kernel
theorem dX9_yearWhen_8 : decode cX9_yearWhen 8 = .ok (.aload_n 0, 1) := by decide +kernel
theorem dX9_yearWhen_9 : decode cX9_yearWhen 9 = .ok (.getfield 29, 3) := by decide +kernel
theorem dX9_yearWhen_12 : decode cX9_yearWhen 12 = .ok (.iload_n 1, 1) := by decide +kernel
theorem dX9_yearWhen_13 : decode cX9_yearWhen 13 = .ok (.iaload, 1) := by decide +kernel
theorem dX9_yearWhen_14 : decode cX9_yearWhen 14 = .ok (.goto 4, 3) := by decide +kernel
theorem dX9_yearWhen_17 : decode cX9_yearWhen 17 = .ok (.iconst 0, 1) := by decide +kernel
theorem dX9_yearWhen_18 : decode cX9_yearWhen 18 = .ok (.ireturn, 1) := by decide +kernel
set_option maxRecDepth 20000 in
theorem ggX9_honourOf_X9_has : GoodIn wsX9_honourOf wsX9_has := goodIn_r _ [6, 7, 8, 9, 10, 11, 12, 13, 14, 15, 16, 17, 18, 19] (by decide +kernel) (by decide +kernel)
set_option maxRecDepth 20000 in
theorem gX9_honourOf_X9_has : GoodIn wsX9_honourOf (wsV RX9 77 RX9 yX9_has wsX9_has) := goodIn_app (goodIn_of _ (by decide +kernel)) ggX9_honourOf_X9_has
theorem dX9_honourOf_0 : decode cX9_honourOf 0 = .ok (.aload_n 0, 1) := by decide +kernel
theorem dX9_honourOf_1 : decode cX9_honourOf 1 = .ok (.iload_n 1, 1) := by decide +kernel
theorem dX9_honourOf_2 : decode cX9_honourOf 2 = .ok (.invokevirtual 77, 3) := by decide +kernel
theorem dX9_honourOf_5 : decode cX9_honourOf 5 = .ok (.ifCond .eq 12, 3) := by decide +kernel
theorem dX9_honourOf_8 : decode cX9_honourOf 8 = .ok (.aload_n 0, 1) := by decide +kernel
theorem dX9_honourOf_9 : decode cX9_honourOf 9 = .ok (.getfield 35, 3) := by decide +kernel
theorem dX9_honourOf_12 : decode cX9_honourOf 12 = .ok (.iload_n 1, 1) := by decide +kernel
theorem dX9_honourOf_13 : decode cX9_honourOf 13 = .ok (.iaload, 1) := by decide +kernel
theorem dX9_honourOf_14 : decode cX9_honourOf 14 = .ok (.goto 4, 3) := by decide +kernel
theorem dX9_honourOf_17 : decode cX9_honourOf 17 = .ok (.iconst 0, 1) := by decide +kernel
theorem dX9_honourOf_18 : decode cX9_honourOf 18 = .ok (.ireturn, 1) := by decide +kernel
set_option maxRecDepth 20000 in
theorem ggX9_letterOf_X9_has : GoodIn wsX9_letterOf wsX9_has := goodIn_r _ [6, 7, 8, 9, 10, 11, 12, 13, 14, 15, 16, 17, 18, 19] (by decide +kernel) (by decide +kernel)
set_option maxRecDepth 20000 in
theorem gX9_letterOf_X9_has : GoodIn wsX9_letterOf (wsV RX9 77 RX9 yX9_has wsX9_has) := goodIn_app (goodIn_of _ (by decide +kernel)) ggX9_letterOf_X9_has
theorem dX9_letterOf_0 : decode cX9_letterOf 0 = .ok (.aload_n 0, 1) := by decide +kernel
theorem dX9_letterOf_1 : decode cX9_letterOf 1 = .ok (.iload_n 1, 1) := by decide +kernel
theorem dX9_letterOf_2 : decode cX9_letterOf 2 = .ok (.invokevirtual 77, 3) := by decide +kernel
theorem dX9_letterOf_5 : decode cX9_letterOf 5 = .ok (.ifCond .eq 12, 3) := by decide +kernel
theorem dX9_letterOf_8 : decode cX9_letterOf 8 = .ok (.aload_n 0, 1) := by decide +kernel
theorem dX9_letterOf_9 : decode cX9_letterOf 9 = .ok (.getfield 38, 3) := by decide +kernel
theorem dX9_letterOf_12 : decode cX9_letterOf 12 = .ok (.iload_n 1, 1) := by decide +kernel
theorem dX9_letterOf_13 : decode cX9_letterOf 13 = .ok (.caload, 1) := by decide +kernel
theorem dX9_letterOf_14 : decode cX9_letterOf 14 = .ok (.goto 5, 3) := by decide +kernel
theorem dX9_letterOf_17 : decode cX9_letterOf 17 = .ok (.bipush 118, 2) := by decide +kernel
theorem dX9_letterOf_19 : decode cX9_letterOf 19 = .ok (.ireturn, 1) := by decide +kernel
set_option maxRecDepth 20000 in
theorem ggX9_setLetter_X9_has : GoodIn wsX9_setLetter wsX9_has := goodIn_r _ [6, 7, 8, 9, 10, 11, 12, 13, 14, 15, 16, 17, 18, 19] (by decide +kernel) (by decide +kernel)
set_option maxRecDepth 20000 in
theorem gX9_setLetter_X9_has : GoodIn wsX9_setLetter (wsV RX9 77 RX9 yX9_has wsX9_has) := goodIn_app (goodIn_of _ (by decide +kernel)) ggX9_setLetter_X9_has
theorem dX9_setLetter_0 : decode cX9_setLetter 0 = .ok (.aload_n 0, 1) := by decide +kernel
theorem dX9_setLetter_1 : decode cX9_setLetter 1 = .ok (.iload_n 1, 1) := by decide +kernel
theorem dX9_setLetter_2 : decode cX9_setLetter 2 = .ok (.invokevirtual 77, 3) := by decide +kernel
theorem dX9_setLetter_5 : decode cX9_setLetter 5 = .ok (.ifCond .eq 10, 3) := by decide +kernel
theorem dX9_setLetter_8 : decode cX9_setLetter 8 = .ok (.aload_n 0, 1) := by decide +kernel
theorem dX9_setLetter_9 : decode cX9_setLetter 9 = .ok (.getfield 38, 3) := by decide +kernel
theorem dX9_setLetter_12 : decode cX9_setLetter 12 = .ok (.iload_n 1, 1) := by decide +kernel
theorem dX9_setLetter_13 : decode cX9_setLetter 13 = .ok (.iload_n 2, 1) := by decide +kernel
theorem dX9_setLetter_14 : decode cX9_setLetter 14 = .ok (.castore, 1) := by decide +kernel
theorem dX9_setLetter_15 : decode cX9_setLetter 15 = .ok (.return_, 1) := by decide +kernel
set_option maxRecDepth 20000 in
theorem ggX9_isVoid_X9_has : GoodIn wsX9_isVoid wsX9_has := goodIn_r _ [6, 7, 8, 9, 10, 11, 12, 13, 14, 15, 16, 17, 18, 19] (by decide +kernel) (by decide +kernel)
set_option maxRecDepth 20000 in
theorem gX9_isVoid_X9_has : GoodIn wsX9_isVoid (wsV RX9 77 RX9 yX9_has wsX9_has) := goodIn_app (goodIn_of _ (by decide +kernel)) ggX9_isVoid_X9_has
theorem dX9_isVoid_0 : decode cX9_isVoid 0 = .ok (.aload_n 0, 1) := by decide +kernel
theorem dX9_isVoid_1 : decode cX9_isVoid 1 = .ok (.iload_n 1, 1) := by decide +kernel
theorem dX9_isVoid_2 : decode cX9_isVoid 2 = .ok (.invokevirtual 77, 3) := by decide +kernel
theorem dX9_isVoid_5 : decode cX9_isVoid 5 = .ok (.ifCond .eq 14, 3) := by decide +kernel
theorem dX9_isVoid_8 : decode cX9_isVoid 8 = .ok (.aload_n 0, 1) := by decide +kernel
theorem dX9_isVoid_9 : decode cX9_isVoid 9 = .ok (.getfield 38, 3) := by decide +kernel
theorem dX9_isVoid_12 : decode cX9_isVoid 12 = .ok (.iload_n 1, 1) := by decide +kernel
theorem dX9_isVoid_13 : decode cX9_isVoid 13 = .ok (.caload, 1) := by decide +kernel
theorem dX9_isVoid_14 : decode cX9_isVoid 14 = .ok (.bipush 118, 2) := by decide +kernel
theorem dX9_isVoid_16 : decode cX9_isVoid 16 = .ok (.if_icmp .ne 7, 3) := by decide +kernel
theorem dX9_isVoid_19 : decode cX9_isVoid 19 = .ok (.iconst 1, 1) := by decide +kernel
theorem dX9_isVoid_20 : decode cX9_isVoid 20 = .ok (.goto 4, 3) := by decide +kernel
theorem dX9_isVoid_23 : decode cX9_isVoid 23 = .ok (.iconst 0, 1) := by decide +kernel
theorem dX9_isVoid_24 : decode cX9_isVoid 24 = .ok (.ireturn, 1) := by decide +kernel
set_option maxRecDepth 20000 in
theorem ggX9_calledTo_X9_has : GoodIn wsX9_calledTo wsX9_has := goodIn_r _ [6, 7, 8, 9, 10, 11, 12, 13, 14, 15, 16, 17, 18, 19] (by decide +kernel) (by decide +kernel)
set_option maxRecDepth 20000 in
theorem gX9_calledTo_X9_has : GoodIn wsX9_calledTo (wsV RX9 77 RX9 yX9_has wsX9_has) := goodIn_app (goodIn_of _ (by decide +kernel)) ggX9_calledTo_X9_has
theorem dX9_calledTo_0 : decode cX9_calledTo 0 = .ok (.aload_n 0, 1) := by decide +kernel
theorem dX9_calledTo_1 : decode cX9_calledTo 1 = .ok (.iload_n 1, 1) := by decide +kernel
theorem dX9_calledTo_2 : decode cX9_calledTo 2 = .ok (.invokevirtual 77, 3) := by decide +kernel
theorem dX9_calledTo_5 : decode cX9_calledTo 5 = .ok (.ifCond .eq 12, 3) := by decide +kernel
theorem dX9_calledTo_8 : decode cX9_calledTo 8 = .ok (.aload_n 0, 1) := by decide +kernel
theorem dX9_calledTo_9 : decode cX9_calledTo 9 = .ok (.getfield 32, 3) := by decide +kernel
theorem dX9_calledTo_12 : decode cX9_calledTo 12 = .ok (.iload_n 1, 1) := by decide +kernel
theorem dX9_calledTo_13 : decode cX9_calledTo 13 = .ok (.iaload, 1) := by decide +kernel
theorem dX9_calledTo_14 : decode cX9_calledTo 14 = .ok (.goto 4, 3) := by decide +kernel
theorem dX9_calledTo_17 : decode cX9_calledTo 17 = .ok (.iconst (-1), 1) := by decide +kernel
theorem dX9_calledTo_18 : decode cX9_calledTo 18 = .ok (.ireturn, 1) := by decide +kernel
set_option maxRecDepth 20000 in
theorem ggX9_setCalled_X9_has : GoodIn wsX9_setCalled wsX9_has := goodIn_r _ [6, 7, 8, 9, 10, 11, 12, 13, 14, 15, 16, 17, 18, 19] (by decide +kernel) (by decide +kernel)
set_option maxRecDepth 20000 in
theorem gX9_setCalled_X9_has : GoodIn wsX9_setCalled (wsV RX9 77 RX9 yX9_has wsX9_has) := goodIn_app (goodIn_of _ (by decide +kernel)) ggX9_setCalled_X9_has
theorem dX9_setCalled_0 : decode cX9_setCalled 0 = .ok (.aload_n 0, 1) := by decide +kernel
theorem dX9_setCalled_1 : decode cX9_setCalled 1 = .ok (.iload_n 1, 1) := by decide +kernel
theorem dX9_setCalled_2 : decode cX9_setCalled 2 = .ok (.invokevirtual 77, 3) := by decide +kernel
theorem dX9_setCalled_5 : decode cX9_setCalled 5 = .ok (.ifCond .eq 10, 3) := by decide +kernel
theorem dX9_setCalled_8 : decode cX9_setCalled 8 = .ok (.aload_n 0, 1) := by decide +kernel
theorem dX9_setCalled_9 : decode cX9_setCalled 9 = .ok (.getfield 32, 3) := by decide +kernel
theorem dX9_setCalled_12 : decode cX9_setCalled 12 = .ok (.iload_n 1, 1) := by decide +kernel
theorem dX9_setCalled_13 : decode cX9_setCalled 13 = .ok (.iload_n 2, 1) := by decide +kernel
theorem dX9_setCalled_14 : decode cX9_setCalled 14 = .ok (.iastore, 1) := by decide +kernel
theorem dX9_setCalled_15 : decode cX9_setCalled 15 = .ok (.return_, 1) := by decide +kernel
set_option maxRecDepth 20000 in
theorem ggX9_isKnownTold_X9_has : GoodIn wsX9_isKnownTold wsX9_has := goodIn_r _ [6, 7, 8, 9, 10, 11, 12, 13, 14, 15, 16, 17, 18, 19] (by decide +kernel) (by decide +kernel)
set_option maxRecDepth 20000 in
theorem gX9_isKnownTold_X9_has : GoodIn wsX9_isKnownTold (wsV RX9 77 RX9 yX9_has wsX9_has) := goodIn_app (goodIn_of _ (by decide +kernel)) ggX9_isKnownTold_X9_has
theorem dX9_isKnownTold_0 : decode cX9_isKnownTold 0 = .ok (.aload_n 0, 1) := by decide +kernel
theorem dX9_isKnownTold_1 : decode cX9_isKnownTold 1 = .ok (.iload_n 1, 1) := by decide +kernel
theorem dX9_isKnownTold_2 : decode cX9_isKnownTold 2 = .ok (.invokevirtual 77, 3) := by decide +kernel
theorem dX9_isKnownTold_5 : decode cX9_isKnownTold 5 = .ok (.ifCond .eq 16, 3) := by decide +kernel
theorem dX9_isKnownTold_8 : decode cX9_isKnownTold 8 = .ok (.aload_n 0, 1) := by decide +kernel
theorem dX9_isKnownTold_9 : decode cX9_isKnownTold 9 = .ok (.getfield 42, 3) := by decide +kernel
theorem dX9_isKnownTold_12 : decode cX9_isKnownTold 12 = .ok (.iload_n 1, 1) := by decide +kernel
theorem dX9_isKnownTold_13 : decode cX9_isKnownTold 13 = .ok (.baload, 1) := by decide +kernel
theorem dX9_isKnownTold_14 : decode cX9_isKnownTold 14 = .ok (.ifCond .eq 7, 3) := by decide +kernel
theorem dX9_isKnownTold_17 : decode cX9_isKnownTold 17 = .ok (.iconst 1, 1) := by decide +kernel
theorem dX9_isKnownTold_18 : decode cX9_isKnownTold 18 = .ok (.goto 4, 3) := by decide +kernel
theorem dX9_isKnownTold_21 : decode cX9_isKnownTold 21 = .ok (.iconst 0, 1) := by decide +kernel
theorem dX9_isKnownTold_22 : decode cX9_isKnownTold 22 = .ok (.ireturn, 1) := by decide +kernel
set_option maxRecDepth 20000 in
theorem ggX9_setKnownTold_X9_has : GoodIn wsX9_setKnownTold wsX9_has := goodIn_r _ [6, 7, 8, 9, 10, 11, 12, 13, 14, 15, 16, 17, 18, 19] (by decide +kernel) (by decide +kernel)
set_option maxRecDepth 20000 in
theorem gX9_setKnownTold_X9_has : GoodIn wsX9_setKnownTold (wsV RX9 77 RX9 yX9_has wsX9_has) := goodIn_app (goodIn_of _ (by decide +kernel)) ggX9_setKnownTold_X9_has
theorem dX9_setKnownTold_0 : decode cX9_setKnownTold 0 = .ok (.aload_n 0, 1) := by decide +kernel
theorem dX9_setKnownTold_1 : decode cX9_setKnownTold 1 = .ok (.iload_n 1, 1) := by decide +kernel
theorem dX9_setKnownTold_2 : decode cX9_setKnownTold 2 = .ok (.invokevirtual 77, 3) := by decide +kernel
theorem dX9_setKnownTold_5 : decode cX9_setKnownTold 5 = .ok (.ifCond .eq 10, 3) := by decide +kernel
theorem dX9_setKnownTold_8 : decode cX9_setKnownTold 8 = .ok (.aload_n 0, 1) := by decide +kernel
theorem dX9_setKnownTold_9 : decode cX9_setKnownTold 9 = .ok (.getfield 42, 3) := by decide +kernel
theorem dX9_setKnownTold_12 : decode cX9_setKnownTold 12 = .ok (.iload_n 1, 1) := by decide +kernel
theorem dX9_setKnownTold_13 : decode cX9_setKnownTold 13 = .ok (.iconst 1, 1) := by decide +kernel
theorem dX9_setKnownTold_14 : decode cX9_setKnownTold 14 = .ok (.bastore, 1) := by decide +kernel
theorem dX9_setKnownTold_15 : decode cX9_setKnownTold 15 = .ok (.return_, 1) := by decide +kernel
set_option maxRecDepth 20000 in
theorem ggX9_latestOf_X9_firstBearer : GoodIn wsX9_latestOf wsX9_firstBearer := goodIn_ca (goodIn_r _ [7, 8, 9, 10, 11, 6, 12, 1, 13, 14, 15, 16, 17, 18, 19, 20, 21, 22, 23, 24] (by decide +kernel) (by decide +kernel)) (goodIn_sub (fun _ h => List.mem_cons_of_mem _ (List.mem_append_right _ h)) (by decide +kernel))
set_option maxRecDepth 20000 in
theorem gX9_latestOf_X9_firstBearer : GoodIn wsX9_latestOf (wsV RX9 116 RX9 yX9_firstBearer wsX9_firstBearer) := goodIn_app (goodIn_of _ (by decide +kernel)) ggX9_latestOf_X9_firstBearer
theorem dX9_latestOf_0 : decode cX9_latestOf 0 = .ok (.aload_n 0, 1) := by decide +kernel
theorem dX9_latestOf_1 : decode cX9_latestOf 1 = .ok (.getfield 58, 3) := by decide +kernel
theorem dX9_latestOf_4 : decode cX9_latestOf 4 = .ok (.iconst 1, 1) := by decide +kernel
theorem dX9_latestOf_5 : decode cX9_latestOf 5 = .ok (.isub, 1) := by decide +kernel
theorem dX9_latestOf_6 : decode cX9_latestOf 6 = .ok (.istore_n 2, 1) := by decide +kernel
theorem dX9_latestOf_7 : decode cX9_latestOf 7 = .ok (.iload_n 2, 1) := by decide +kernel
theorem dX9_latestOf_8 : decode cX9_latestOf 8 = .ok (.ifCond .lt 31, 3) := by decide +kernel
theorem dX9_latestOf_11 : decode cX9_latestOf 11 = .ok (.aload_n 0, 1) := by decide +kernel
theorem dX9_latestOf_12 : decode cX9_latestOf 12 = .ok (.iload_n 2, 1) := by decide +kernel
theorem dX9_latestOf_13 : decode cX9_latestOf 13 = .ok (.invokevirtual 116, 3) := by decide +kernel
theorem dX9_latestOf_16 : decode cX9_latestOf 16 = .ok (.iload_n 1, 1) := by decide +kernel
theorem dX9_latestOf_17 : decode cX9_latestOf 17 = .ok (.if_icmp .ne 16, 3) := by decide +kernel
theorem dX9_latestOf_20 : decode cX9_latestOf 20 = .ok (.aload_n 0, 1) := by decide +kernel
theorem dX9_latestOf_21 : decode cX9_latestOf 21 = .ok (.getfield 38, 3) := by decide +kernel
theorem dX9_latestOf_24 : decode cX9_latestOf 24 = .ok (.iload_n 2, 1) := by decide +kernel
theorem dX9_latestOf_25 : decode cX9_latestOf 25 = .ok (.caload, 1) := by decide +kernel
theorem dX9_latestOf_26 : decode cX9_latestOf 26 = .ok (.bipush 118, 2) := by decide +kernel
theorem dX9_latestOf_28 : decode cX9_latestOf 28 = .ok (.if_icmp .eq 5, 3) := by decide +kernel
theorem dX9_latestOf_31 : decode cX9_latestOf 31 = .ok (.iload_n 2, 1) := by decide +kernel
theorem dX9_latestOf_32 : decode cX9_latestOf 32 = .ok (.ireturn, 1) := by decide +kernel
theorem dX9_latestOf_33 : decode cX9_latestOf 33 = .ok (.iinc 2 (-1), 3) := by decide +kernel
theorem dX9_latestOf_36 : decode cX9_latestOf 36 = .ok (.goto (-29), 3) := by decide +kernel
theorem dX9_latestOf_39 : decode cX9_latestOf 39 = .ok (.iconst (-1), 1) := by decide +kernel
theorem dX9_latestOf_40 : decode cX9_latestOf 40 = .ok (.ireturn, 1) := by decide +kernel
set_option maxRecDepth 20000 in
theorem ggX9_unlikePoints_X9_safe : GoodIn wsX9_unlikePoints wsX9_safe := goodIn_r _ [6, 7, 8, 9, 5, 10, 11, 27, 28, 29, 30, 31, 32, 33, 34, 35, 36, 37, 38] (by decide +kernel) (by decide +kernel)
set_option maxRecDepth 20000 in
theorem gX9_unlikePoints_X9_safe : GoodIn wsX9_unlikePoints (wsV RX9 108 RX9 yX9_safe wsX9_safe) := goodIn_app (goodIn_of _ (by decide +kernel)) ggX9_unlikePoints_X9_safe
set_option maxRecDepth 20000 in
theorem ggX9_unlikePoints_X8_countUnlike : GoodIn wsX9_unlikePoints wsX8_countUnlike := goodIn_ca (goodIn_r _ [15, 16, 17, 14, 18, 19, 20, 21, 22, 23, 24, 25, 26] (by decide +kernel) (by decide +kernel)) (goodIn_sub (fun _ h => List.mem_cons_of_mem _ (List.mem_append_right _ h)) (by decide +kernel))
set_option maxRecDepth 20000 in
theorem gX9_unlikePoints_X8_countUnlike : GoodIn wsX9_unlikePoints (va_wsS RX9 119 yX8_countUnlike wsX8_countUnlike) := goodIn_app (goodIn_of _ (by decide +kernel)) ggX9_unlikePoints_X8_countUnlike
theorem dX9_unlikePoints_0 : decode cX9_unlikePoints 0 = .ok (.aload_n 0, 1) := by decide +kernel
theorem dX9_unlikePoints_1 : decode cX9_unlikePoints 1 = .ok (.getfield 19, 3) := by decide +kernel
theorem dX9_unlikePoints_4 : decode cX9_unlikePoints 4 = .ok (.aload_n 0, 1) := by decide +kernel
theorem dX9_unlikePoints_5 : decode cX9_unlikePoints 5 = .ok (.iload_n 1, 1) := by decide +kernel
theorem dX9_unlikePoints_6 : decode cX9_unlikePoints 6 = .ok (.invokevirtual 108, 3) := by decide +kernel
theorem dX9_unlikePoints_9 : decode cX9_unlikePoints 9 = .ok (.aaload, 1) := by decide +kernel
theorem dX9_unlikePoints_10 : decode cX9_unlikePoints 10 = .ok (.aload_n 0, 1) := by decide +kernel
theorem dX9_unlikePoints_11 : decode cX9_unlikePoints 11 = .ok (.getfield 19, 3) := by decide +kernel
theorem dX9_unlikePoints_14 : decode cX9_unlikePoints 14 = .ok (.aload_n 0, 1) := by decide +kernel
theorem dX9_unlikePoints_15 : decode cX9_unlikePoints 15 = .ok (.iload_n 2, 1) := by decide +kernel
theorem dX9_unlikePoints_16 : decode cX9_unlikePoints 16 = .ok (.invokevirtual 108, 3) := by decide +kernel
theorem dX9_unlikePoints_19 : decode cX9_unlikePoints 19 = .ok (.aaload, 1) := by decide +kernel
theorem dX9_unlikePoints_20 : decode cX9_unlikePoints 20 = .ok (.invokestatic 119, 3) := by decide +kernel
theorem dX9_unlikePoints_23 : decode cX9_unlikePoints 23 = .ok (.ireturn, 1) := by decide +kernel
set_option maxRecDepth 20000 in
theorem ggX9_isNear_X9_safe : GoodIn wsX9_isNear wsX9_safe := goodIn_r _ [7, 8, 9, 10, 6, 11, 12, 28, 29, 30, 31, 32, 33, 34, 35, 36, 37, 38, 39] (by decide +kernel) (by decide +kernel)
set_option maxRecDepth 20000 in
theorem gX9_isNear_X9_safe : GoodIn wsX9_isNear (wsV RX9 108 RX9 yX9_safe wsX9_safe) := goodIn_app (goodIn_of _ (by decide +kernel)) ggX9_isNear_X9_safe
set_option maxRecDepth 20000 in
theorem ggX9_isNear_X8_countUnlike : GoodIn wsX9_isNear wsX8_countUnlike := goodIn_ca (goodIn_r _ [16, 17, 18, 15, 19, 20, 21, 22, 23, 24, 25, 26, 27] (by decide +kernel) (by decide +kernel)) (goodIn_sub (fun _ h => List.mem_cons_of_mem _ (List.mem_append_right _ h)) (by decide +kernel))
set_option maxRecDepth 20000 in
theorem gX9_isNear_X8_countUnlike : GoodIn wsX9_isNear (va_wsS RX9 119 yX8_countUnlike wsX8_countUnlike) := goodIn_app (goodIn_of _ (by decide +kernel)) ggX9_isNear_X8_countUnlike
theorem dX9_isNear_0 : decode cX9_isNear 0 = .ok (.aload_n 0, 1) := by decide +kernel
theorem dX9_isNear_1 : decode cX9_isNear 1 = .ok (.getfield 19, 3) := by decide +kernel
theorem dX9_isNear_4 : decode cX9_isNear 4 = .ok (.aload_n 0, 1) := by decide +kernel
theorem dX9_isNear_5 : decode cX9_isNear 5 = .ok (.iload_n 1, 1) := by decide +kernel
theorem dX9_isNear_6 : decode cX9_isNear 6 = .ok (.invokevirtual 108, 3) := by decide +kernel
theorem dX9_isNear_9 : decode cX9_isNear 9 = .ok (.aaload, 1) := by decide +kernel
theorem dX9_isNear_10 : decode cX9_isNear 10 = .ok (.aload_n 2, 1) := by decide +kernel
theorem dX9_isNear_11 : decode cX9_isNear 11 = .ok (.getfield 98, 3) := by decide +kernel
theorem dX9_isNear_14 : decode cX9_isNear 14 = .ok (.invokestatic 119, 3) := by decide +kernel
theorem dX9_isNear_17 : decode cX9_isNear 17 = .ok (.bipush 24, 2) := by decide +kernel
theorem dX9_isNear_19 : decode cX9_isNear 19 = .ok (.if_icmp .ge 7, 3) := by decide +kernel
theorem dX9_isNear_22 : decode cX9_isNear 22 = .ok (.iconst 1, 1) := by decide +kernel
theorem dX9_isNear_23 : decode cX9_isNear 23 = .ok (.goto 4, 3) := by decide +kernel
theorem dX9_isNear_26 : decode cX9_isNear 26 = .ok (.iconst 0, 1) := by decide +kernel
theorem dX9_isNear_27 : decode cX9_isNear 27 = .ok (.ireturn, 1) := by decide +kernel
set_option maxRecDepth 20000 in
theorem ggX9_nearestTo_X8_countUnlike : GoodIn wsX9_nearestTo wsX8_countUnlike := goodIn_ca (goodIn_r _ [8, 9, 10, 7, 11, 12, 13, 14, 15, 16, 17, 18, 19] (by decide +kernel) (by decide +kernel)) (goodIn_sub (fun _ h => List.mem_cons_of_mem _ (List.mem_append_right _ h)) (by decide +kernel))
set_option maxRecDepth 20000 in
theorem gX9_nearestTo_X8_countUnlike : GoodIn wsX9_nearestTo (va_wsS RX9 119 yX8_countUnlike wsX8_countUnlike) := goodIn_app (goodIn_of _ (by decide +kernel)) ggX9_nearestTo_X8_countUnlike
theorem dX9_nearestTo_0 : decode cX9_nearestTo 0 = .ok (.iconst (-1), 1) := by decide +kernel
theorem dX9_nearestTo_1 : decode cX9_nearestTo 1 = .ok (.istore_n 2, 1) := by decide +kernel
theorem dX9_nearestTo_2 : decode cX9_nearestTo 2 = .ok (.sipush 257, 3) := by decide +kernel
theorem dX9_nearestTo_5 : decode cX9_nearestTo 5 = .ok (.istore_n 3, 1) := by decide +kernel
theorem dX9_nearestTo_6 : decode cX9_nearestTo 6 = .ok (.iconst 0, 1) := by decide +kernel
theorem dX9_nearestTo_7 : decode cX9_nearestTo 7 = .ok (.istore 4, 2) := by decide +kernel
theorem dX9_nearestTo_9 : decode cX9_nearestTo 9 = .ok (.iload 4, 2) := by decide +kernel
theorem dX9_nearestTo_11 : decode cX9_nearestTo 11 = .ok (.aload_n 0, 1) := by decide +kernel
theorem dX9_nearestTo_12 : decode cX9_nearestTo 12 = .ok (.getfield 58, 3) := by decide +kernel
theorem dX9_nearestTo_15 : decode cX9_nearestTo 15 = .ok (.if_icmp .ge 56, 3) := by decide +kernel
theorem dX9_nearestTo_18 : decode cX9_nearestTo 18 = .ok (.iload 4, 2) := by decide +kernel
theorem dX9_nearestTo_20 : decode cX9_nearestTo 20 = .ok (.bipush 24, 2) := by decide +kernel
theorem dX9_nearestTo_22 : decode cX9_nearestTo 22 = .ok (.if_icmp .ge 49, 3) := by decide +kernel
theorem dX9_nearestTo_25 : decode cX9_nearestTo 25 = .ok (.aload_n 0, 1) := by decide +kernel
theorem dX9_nearestTo_26 : decode cX9_nearestTo 26 = .ok (.getfield 19, 3) := by decide +kernel
theorem dX9_nearestTo_29 : decode cX9_nearestTo 29 = .ok (.iload 4, 2) := by decide +kernel
theorem dX9_nearestTo_31 : decode cX9_nearestTo 31 = .ok (.aaload, 1) := by decide +kernel
theorem dX9_nearestTo_32 : decode cX9_nearestTo 32 = .ok (.aload_n 1, 1) := by decide +kernel
theorem dX9_nearestTo_33 : decode cX9_nearestTo 33 = .ok (.getfield 98, 3) := by decide +kernel
theorem dX9_nearestTo_36 : decode cX9_nearestTo 36 = .ok (.invokestatic 119, 3) := by decide +kernel
theorem dX9_nearestTo_39 : decode cX9_nearestTo 39 = .ok (.istore 5, 2) := by decide +kernel
theorem dX9_nearestTo_41 : decode cX9_nearestTo 41 = .ok (.aload_n 0, 1) := by decide +kernel
theorem dX9_nearestTo_42 : decode cX9_nearestTo 42 = .ok (.getfield 38, 3) := by decide +kernel
theorem dX9_nearestTo_45 : decode cX9_nearestTo 45 = .ok (.iload 4, 2) := by decide +kernel
theorem dX9_nearestTo_47 : decode cX9_nearestTo 47 = .ok (.caload, 1) := by decide +kernel
theorem dX9_nearestTo_48 : decode cX9_nearestTo 48 = .ok (.bipush 118, 2) := by decide +kernel
theorem dX9_nearestTo_50 : decode cX9_nearestTo 50 = .ok (.if_icmp .eq 15, 3) := by decide +kernel
theorem dX9_nearestTo_53 : decode cX9_nearestTo 53 = .ok (.iload 5, 2) := by decide +kernel
theorem dX9_nearestTo_55 : decode cX9_nearestTo 55 = .ok (.iload_n 3, 1) := by decide +kernel
theorem dX9_nearestTo_56 : decode cX9_nearestTo 56 = .ok (.if_icmp .ge 9, 3) := by decide +kernel
theorem dX9_nearestTo_59 : decode cX9_nearestTo 59 = .ok (.iload 4, 2) := by decide +kernel
theorem dX9_nearestTo_61 : decode cX9_nearestTo 61 = .ok (.istore_n 2, 1) := by decide +kernel
theorem dX9_nearestTo_62 : decode cX9_nearestTo 62 = .ok (.iload 5, 2) := by decide +kernel
theorem dX9_nearestTo_64 : decode cX9_nearestTo 64 = .ok (.istore_n 3, 1) := by decide +kernel
theorem dX9_nearestTo_65 : decode cX9_nearestTo 65 = .ok (.iinc 4 1, 3) := by decide +kernel
theorem dX9_nearestTo_68 : decode cX9_nearestTo 68 = .ok (.goto (-59), 3) := by decide +kernel
theorem dX9_nearestTo_71 : decode cX9_nearestTo 71 = .ok (.iload_n 2, 1) := by decide +kernel
theorem dX9_nearestTo_72 : decode cX9_nearestTo 72 = .ok (.ireturn, 1) := by decide +kernel
set_option maxRecDepth 20000 in
theorem ggX9_countWithWord_X1_holdsWord : GoodIn wsX9_countWithWord wsX1_holdsWord := goodIn_ca (goodIn_r _ [7, 8, 9, 22, 23, 24, 25, 26, 27, 28, 29, 30, 31, 32, 33] (by decide +kernel) (by decide +kernel)) (goodIn_sub (fun _ h => List.mem_cons_of_mem _ (List.mem_append_right _ h)) (by decide +kernel))
set_option maxRecDepth 20000 in
theorem gX9_countWithWord_X1_holdsWord : GoodIn wsX9_countWithWord (wsV RX9 123 RX1 yX1_holdsWord wsX1_holdsWord) := goodIn_app (goodIn_of _ (by decide +kernel)) ggX9_countWithWord_X1_holdsWord
theorem dX9_countWithWord_0 : decode cX9_countWithWord 0 = .ok (.iconst 0, 1) := by decide +kernel
theorem dX9_countWithWord_1 : decode cX9_countWithWord 1 = .ok (.istore_n 2, 1) := by decide +kernel
theorem dX9_countWithWord_2 : decode cX9_countWithWord 2 = .ok (.iconst 0, 1) := by decide +kernel
theorem dX9_countWithWord_3 : decode cX9_countWithWord 3 = .ok (.istore_n 3, 1) := by decide +kernel
theorem dX9_countWithWord_4 : decode cX9_countWithWord 4 = .ok (.iload_n 3, 1) := by decide +kernel
theorem dX9_countWithWord_5 : decode cX9_countWithWord 5 = .ok (.aload_n 0, 1) := by decide +kernel
theorem dX9_countWithWord_6 : decode cX9_countWithWord 6 = .ok (.getfield 58, 3) := by decide +kernel
theorem dX9_countWithWord_9 : decode cX9_countWithWord 9 = .ok (.if_icmp .ge 31, 3) := by decide +kernel
theorem dX9_countWithWord_12 : decode cX9_countWithWord 12 = .ok (.iload_n 3, 1) := by decide +kernel
theorem dX9_countWithWord_13 : decode cX9_countWithWord 13 = .ok (.bipush 24, 2) := by decide +kernel
theorem dX9_countWithWord_15 : decode cX9_countWithWord 15 = .ok (.if_icmp .ge 25, 3) := by decide +kernel
theorem dX9_countWithWord_18 : decode cX9_countWithWord 18 = .ok (.aload_n 0, 1) := by decide +kernel
theorem dX9_countWithWord_19 : decode cX9_countWithWord 19 = .ok (.getfield 11, 3) := by decide +kernel
theorem dX9_countWithWord_22 : decode cX9_countWithWord 22 = .ok (.iload_n 3, 1) := by decide +kernel
theorem dX9_countWithWord_23 : decode cX9_countWithWord 23 = .ok (.aaload, 1) := by decide +kernel
theorem dX9_countWithWord_24 : decode cX9_countWithWord 24 = .ok (.iload_n 1, 1) := by decide +kernel
theorem dX9_countWithWord_25 : decode cX9_countWithWord 25 = .ok (.invokevirtual 123, 3) := by decide +kernel
theorem dX9_countWithWord_28 : decode cX9_countWithWord 28 = .ok (.ifCond .eq 6, 3) := by decide +kernel
theorem dX9_countWithWord_31 : decode cX9_countWithWord 31 = .ok (.iinc 2 1, 3) := by decide +kernel
theorem dX9_countWithWord_34 : decode cX9_countWithWord 34 = .ok (.iinc 3 1, 3) := by decide +kernel
theorem dX9_countWithWord_37 : decode cX9_countWithWord 37 = .ok (.goto (-33), 3) := by decide +kernel
theorem dX9_countWithWord_40 : decode cX9_countWithWord 40 = .ok (.iload_n 2, 1) := by decide +kernel
theorem dX9_countWithWord_41 : decode cX9_countWithWord 41 = .ok (.ireturn, 1) := by decide +kernel
theorem dX9_countWords_0 : decode cX9_countWords 0 = .ok (.iconst 0, 1) := by decide +kernel
theorem dX9_countWords_1 : decode cX9_countWords 1 = .ok (.istore_n 1, 1) := by decide +kernel
theorem dX9_countWords_2 : decode cX9_countWords 2 = .ok (.iconst 0, 1) := by decide +kernel
theorem dX9_countWords_3 : decode cX9_countWords 3 = .ok (.istore_n 2, 1) := by decide +kernel
theorem dX9_countWords_4 : decode cX9_countWords 4 = .ok (.iload_n 2, 1) := by decide +kernel
theorem dX9_countWords_5 : decode cX9_countWords 5 = .ok (.aload_n 0, 1) := by decide +kernel
theorem dX9_countWords_6 : decode cX9_countWords 6 = .ok (.getfield 58, 3) := by decide +kernel
theorem dX9_countWords_9 : decode cX9_countWords 9 = .ok (.if_icmp .ge 27, 3) := by decide +kernel
theorem dX9_countWords_12 : decode cX9_countWords 12 = .ok (.iload_n 2, 1) := by decide +kernel
theorem dX9_countWords_13 : decode cX9_countWords 13 = .ok (.bipush 24, 2) := by decide +kernel
theorem dX9_countWords_15 : decode cX9_countWords 15 = .ok (.if_icmp .ge 21, 3) := by decide +kernel
theorem dX9_countWords_18 : decode cX9_countWords 18 = .ok (.iload_n 1, 1) := by decide +kernel
theorem dX9_countWords_19 : decode cX9_countWords 19 = .ok (.aload_n 0, 1) := by decide +kernel
theorem dX9_countWords_20 : decode cX9_countWords 20 = .ok (.getfield 11, 3) := by decide +kernel
theorem dX9_countWords_23 : decode cX9_countWords 23 = .ok (.iload_n 2, 1) := by decide +kernel
theorem dX9_countWords_24 : decode cX9_countWords 24 = .ok (.aaload, 1) := by decide +kernel
theorem dX9_countWords_25 : decode cX9_countWords 25 = .ok (.getfield 65, 3) := by decide +kernel
theorem dX9_countWords_28 : decode cX9_countWords 28 = .ok (.iadd, 1) := by decide +kernel
theorem dX9_countWords_29 : decode cX9_countWords 29 = .ok (.istore_n 1, 1) := by decide +kernel
theorem dX9_countWords_30 : decode cX9_countWords 30 = .ok (.iinc 2 1, 3) := by decide +kernel
theorem dX9_countWords_33 : decode cX9_countWords 33 = .ok (.goto (-29), 3) := by decide +kernel
theorem dX9_countWords_36 : decode cX9_countWords 36 = .ok (.iload_n 1, 1) := by decide +kernel
theorem dX9_countWords_37 : decode cX9_countWords 37 = .ok (.ireturn, 1) := by decide +kernel
set_option maxRecDepth 20000 in
theorem ggX9_weighAll_X8_inRow : GoodIn wsX9_weighAll wsX8_inRow := goodIn_r _ [6] (by decide +kernel) (by decide +kernel)
set_option maxRecDepth 20000 in
theorem gX9_weighAll_X8_inRow : GoodIn wsX9_weighAll (va_wsS RX9 112 yX8_inRow wsX8_inRow) := goodIn_app (goodIn_of _ (by decide +kernel)) ggX9_weighAll_X8_inRow
theorem dX9_weighAll_0 : decode cX9_weighAll 0 = .ok (.lconst 0, 1) := by decide +kernel
theorem dX9_weighAll_1 : decode cX9_weighAll 1 = .ok (.lstore_n 1, 1) := by decide +kernel
theorem dX9_weighAll_2 : decode cX9_weighAll 2 = .ok (.iconst 0, 1) := by decide +kernel
theorem dX9_weighAll_3 : decode cX9_weighAll 3 = .ok (.istore_n 3, 1) := by decide +kernel
theorem dX9_weighAll_4 : decode cX9_weighAll 4 = .ok (.iload_n 3, 1) := by decide +kernel
theorem dX9_weighAll_5 : decode cX9_weighAll 5 = .ok (.aload_n 0, 1) := by decide +kernel
theorem dX9_weighAll_6 : decode cX9_weighAll 6 = .ok (.getfield 58, 3) := by decide +kernel
theorem dX9_weighAll_9 : decode cX9_weighAll 9 = .ok (.if_icmp .ge 80, 3) := by decide +kernel
theorem dX9_weighAll_12 : decode cX9_weighAll 12 = .ok (.iload_n 3, 1) := by decide +kernel
theorem dX9_weighAll_13 : decode cX9_weighAll 13 = .ok (.bipush 24, 2) := by decide +kernel
theorem dX9_weighAll_15 : decode cX9_weighAll 15 = .ok (.if_icmp .ge 74, 3) := by decide +kernel
theorem dX9_weighAll_18 : decode cX9_weighAll 18 = .ok (.lconst 0, 1) := by decide +kernel
theorem dX9_weighAll_19 : decode cX9_weighAll 19 = .ok (.lstore 4, 2) := by decide +kernel
theorem dX9_weighAll_21 : decode cX9_weighAll 21 = .ok (.iconst 0, 1) := by decide +kernel
theorem dX9_weighAll_22 : decode cX9_weighAll 22 = .ok (.istore 6, 2) := by decide +kernel
theorem dX9_weighAll_24 : decode cX9_weighAll 24 = .ok (.iload 6, 2) := by decide +kernel
theorem dX9_weighAll_26 : decode cX9_weighAll 26 = .ok (.sipush 256, 3) := by decide +kernel
theorem dX9_weighAll_29 : decode cX9_weighAll 29 = .ok (.if_icmp .ge 44, 3) := by decide +kernel
theorem dX9_weighAll_32 : decode cX9_weighAll 32 = .ok (.lload 4, 2) := by decide +kernel
theorem dX9_weighAll_34 : decode cX9_weighAll 34 = .ok (.iload 6, 2) := by decide +kernel
theorem dX9_weighAll_36 : decode cX9_weighAll 36 = .ok (.iconst 1, 1) := by decide +kernel
theorem dX9_weighAll_37 : decode cX9_weighAll 37 = .ok (.iadd, 1) := by decide +kernel
theorem dX9_weighAll_38 : decode cX9_weighAll 38 = .ok (.i2l, 1) := by decide +kernel
theorem dX9_weighAll_39 : decode cX9_weighAll 39 = .ok (.aload_n 0, 1) := by decide +kernel
theorem dX9_weighAll_40 : decode cX9_weighAll 40 = .ok (.getfield 19, 3) := by decide +kernel
theorem dX9_weighAll_43 : decode cX9_weighAll 43 = .ok (.iload_n 3, 1) := by decide +kernel
theorem dX9_weighAll_44 : decode cX9_weighAll 44 = .ok (.aaload, 1) := by decide +kernel
theorem dX9_weighAll_45 : decode cX9_weighAll 45 = .ok (.iload 6, 2) := by decide +kernel
theorem dX9_weighAll_47 : decode cX9_weighAll 47 = .ok (.bipush 16, 2) := by decide +kernel
theorem dX9_weighAll_49 : decode cX9_weighAll 49 = .ok (.idiv, 1) := by decide +kernel
theorem dX9_weighAll_50 : decode cX9_weighAll 50 = .ok (.bipush 15, 2) := by decide +kernel
theorem dX9_weighAll_52 : decode cX9_weighAll 52 = .ok (.iand, 1) := by decide +kernel
theorem dX9_weighAll_53 : decode cX9_weighAll 53 = .ok (.laload, 1) := by decide +kernel
theorem dX9_weighAll_54 : decode cX9_weighAll 54 = .ok (.iload 6, 2) := by decide +kernel
theorem dX9_weighAll_56 : decode cX9_weighAll 56 = .ok (.bipush 16, 2) := by decide +kernel
theorem dX9_weighAll_58 : decode cX9_weighAll 58 = .ok (.irem, 1) := by decide +kernel
theorem dX9_weighAll_59 : decode cX9_weighAll 59 = .ok (.invokestatic 112, 3) := by decide +kernel
theorem dX9_weighAll_62 : decode cX9_weighAll 62 = .ok (.i2l, 1) := by decide +kernel
theorem dX9_weighAll_63 : decode cX9_weighAll 63 = .ok (.lmul, 1) := by decide +kernel
theorem dX9_weighAll_64 : decode cX9_weighAll 64 = .ok (.ladd, 1) := by decide +kernel
theorem dX9_weighAll_65 : decode cX9_weighAll 65 = .ok (.lstore 4, 2) := by decide +kernel
theorem dX9_weighAll_67 : decode cX9_weighAll 67 = .ok (.iinc 6 1, 3) := by decide +kernel
theorem dX9_weighAll_70 : decode cX9_weighAll 70 = .ok (.goto (-46), 3) := by decide +kernel
theorem dX9_weighAll_73 : decode cX9_weighAll 73 = .ok (.lload_n 1, 1) := by decide +kernel
theorem dX9_weighAll_74 : decode cX9_weighAll 74 = .ok (.iload_n 3, 1) := by decide +kernel
theorem dX9_weighAll_75 : decode cX9_weighAll 75 = .ok (.iconst 1, 1) := by decide +kernel
theorem dX9_weighAll_76 : decode cX9_weighAll 76 = .ok (.iadd, 1) := by decide +kernel
theorem dX9_weighAll_77 : decode cX9_weighAll 77 = .ok (.i2l, 1) := by decide +kernel
theorem dX9_weighAll_78 : decode cX9_weighAll 78 = .ok (.lload 4, 2) := by decide +kernel
theorem dX9_weighAll_80 : decode cX9_weighAll 80 = .ok (.lmul, 1) := by decide +kernel
theorem dX9_weighAll_81 : decode cX9_weighAll 81 = .ok (.ladd, 1) := by decide +kernel
theorem dX9_weighAll_82 : decode cX9_weighAll 82 = .ok (.lstore_n 1, 1) := by decide +kernel
theorem dX9_weighAll_83 : decode cX9_weighAll 83 = .ok (.iinc 3 1, 3) := by decide +kernel
theorem dX9_weighAll_86 : decode cX9_weighAll 86 = .ok (.goto (-82), 3) := by decide +kernel
theorem dX9_weighAll_89 : decode cX9_weighAll 89 = .ok (.lload_n 1, 1) := by decide +kernel
theorem dX9_weighAll_90 : decode cX9_weighAll 90 = .ok (.lreturn, 1) := by decide +kernel
set_option maxRecDepth 20000 in
theorem ggX10_init_X3_init : GoodIn wsX10_init wsX3_init := goodIn_r _ [24, 25, 2, 3] (by decide +kernel) (by decide +kernel)
set_option maxRecDepth 20000 in
theorem gX10_init_X3_init_n32 : GoodIn wsX10_init (wsX3_init) := ggX10_init_X3_init
set_option maxRecDepth 20000 in
theorem ggX10_init_X8_init : GoodIn wsX10_init wsX8_init := goodIn_r _ [27, 28, 2, 3, 29, 30, 6, 31, 32, 65, 66, 67, 68, 69] (by decide +kernel) (by decide +kernel)
set_option maxRecDepth 20000 in
theorem gX10_init_X8_init_n37 : GoodIn wsX10_init (wsX8_init) := ggX10_init_X8_init
set_option maxRecDepth 20000 in
theorem ggX10_init_X1_init : GoodIn wsX10_init wsX1_init := goodIn_r _ [35, 36, 2, 3, 6, 37, 38, 39, 40, 12, 13, 23, 24, 25, 70, 71, 72, 73, 74, 75, 76, 77, 78, 79, 80, 81, 52, 53, 54, 55, 56, 57, 58, 59, 60, 61, 62, 63, 64] (by decide +kernel) (by decide +kernel)
set_option maxRecDepth 20000 in
theorem gX10_init_X1_init : GoodIn wsX10_init (wsX1_init) := ggX10_init_X1_init
theorem dX10_init_0 : decode cX10_init 0 = .ok (.aload_n 0, 1) := by decide +kernel
theorem dX10_init_1 : decode cX10_init 1 = .ok (.invokespecial 3, 3) := by decide +kernel
theorem dX10_init_4 : decode cX10_init 4 = .ok (.aload_n 0, 1) := by decide +kernel
theorem dX10_init_5 : decode cX10_init 5 = .ok (.iconst 5, 1) := by decide +kernel
theorem dX10_init_6 : decode cX10_init 6 = .ok (.anewarray 9, 3) := by decide +kernel
theorem dX10_init_9 : decode cX10_init 9 = .ok (.putfield 11, 3) := by decide +kernel
theorem dX10_init_12 : decode cX10_init 12 = .ok (.aload_n 0, 1) := by decide +kernel
theorem dX10_init_13 : decode cX10_init 13 = .ok (.iconst 5, 1) := by decide +kernel
theorem dX10_init_14 : decode cX10_init 14 = .ok (.newarray .int, 2) := by decide +kernel
theorem dX10_init_16 : decode cX10_init 16 = .ok (.putfield 17, 3) := by decide +kernel
theorem dX10_init_19 : decode cX10_init 19 = .ok (.aload_n 0, 1) := by decide +kernel
theorem dX10_init_20 : decode cX10_init 20 = .ok (.iconst 5, 1) := by decide +kernel
theorem dX10_init_21 : decode cX10_init 21 = .ok (.newarray .int, 2) := by decide +kernel
theorem dX10_init_23 : decode cX10_init 23 = .ok (.putfield 21, 3) := by decide +kernel
theorem dX10_init_26 : decode cX10_init 26 = .ok (.aload_n 0, 1) := by decide +kernel
theorem dX10_init_27 : decode cX10_init 27 = .ok (.bipush 24, 2) := by decide +kernel
theorem dX10_init_29 : decode cX10_init 29 = .ok (.newarray .int, 2) := by decide +kernel
theorem dX10_init_31 : decode cX10_init 31 = .ok (.putfield 24, 3) := by decide +kernel
theorem dX10_init_34 : decode cX10_init 34 = .ok (.aload_n 0, 1) := by decide +kernel
theorem dX10_init_35 : decode cX10_init 35 = .ok (.bipush 24, 2) := by decide +kernel
theorem dX10_init_37 : decode cX10_init 37 = .ok (.newarray .int, 2) := by decide +kernel
theorem dX10_init_39 : decode cX10_init 39 = .ok (.putfield 27, 3) := by decide +kernel
theorem dX10_init_42 : decode cX10_init 42 = .ok (.aload_n 0, 1) := by decide +kernel
theorem dX10_init_43 : decode cX10_init 43 = .ok (.new 30, 3) := by decide +kernel
theorem dX10_init_46 : decode cX10_init 46 = .ok (.dup, 1) := by decide +kernel
theorem dX10_init_47 : decode cX10_init 47 = .ok (.invokespecial 32, 3) := by decide +kernel
theorem dX10_init_50 : decode cX10_init 50 = .ok (.putfield 33, 3) := by decide +kernel
theorem dX10_init_53 : decode cX10_init 53 = .ok (.aload_n 0, 1) := by decide +kernel
theorem dX10_init_54 : decode cX10_init 54 = .ok (.new 9, 3) := by decide +kernel
theorem dX10_init_57 : decode cX10_init 57 = .ok (.dup, 1) := by decide +kernel
theorem dX10_init_58 : decode cX10_init 58 = .ok (.invokespecial 37, 3) := by decide +kernel
theorem dX10_init_61 : decode cX10_init 61 = .ok (.putfield 38, 3) := by decide +kernel
theorem dX10_init_64 : decode cX10_init 64 = .ok (.aload_n 0, 1) := by decide +kernel
theorem dX10_init_65 : decode cX10_init 65 = .ok (.new 42, 3) := by decide +kernel
theorem dX10_init_68 : decode cX10_init 68 = .ok (.dup, 1) := by decide +kernel
theorem dX10_init_69 : decode cX10_init 69 = .ok (.invokespecial 44, 3) := by decide +kernel
theorem dX10_init_72 : decode cX10_init 72 = .ok (.putfield 45, 3) := by decide +kernel
theorem dX10_init_75 : decode cX10_init 75 = .ok (.aload_n 0, 1) := by decide +kernel
theorem dX10_init_76 : decode cX10_init 76 = .ok (.aload_n 1, 1) := by decide +kernel
theorem dX10_init_77 : decode cX10_init 77 = .ok (.putfield 49, 3) := by decide +kernel
theorem dX10_init_80 : decode cX10_init 80 = .ok (.iconst 0, 1) := by decide +kernel
theorem dX10_init_81 : decode cX10_init 81 = .ok (.istore_n 2, 1) := by decide +kernel
theorem dX10_init_82 : decode cX10_init 82 = .ok (.iload_n 2, 1) := by decide +kernel
theorem dX10_init_83 : decode cX10_init 83 = .ok (.iconst 4, 1) := by decide +kernel
theorem dX10_init_84 : decode cX10_init 84 = .ok (.if_icmp .gt 22, 3) := by decide +kernel
theorem dX10_init_87 : decode cX10_init 87 = .ok (.aload_n 0, 1) := by decide +kernel
theorem dX10_init_88 : decode cX10_init 88 = .ok (.getfield 11, 3) := by decide +kernel
theorem dX10_init_91 : decode cX10_init 91 = .ok (.iload_n 2, 1) := by decide +kernel
theorem dX10_init_92 : decode cX10_init 92 = .ok (.new 9, 3) := by decide +kernel
theorem dX10_init_95 : decode cX10_init 95 = .ok (.dup, 1) := by decide +kernel
theorem dX10_init_96 : decode cX10_init 96 = .ok (.invokespecial 37, 3) := by decide +kernel
theorem dX10_init_99 : decode cX10_init 99 = .ok (.aastore, 1) := by decide +kernel
theorem dX10_init_100 : decode cX10_init 100 = .ok (.iinc 2 1, 3) := by decide +kernel
theorem dX10_init_103 : decode cX10_init 103 = .ok (.goto (-21), 3) := by decide +kernel
theorem dX10_init_106 : decode cX10_init 106 = .ok (.return_, 1) := by decide +kernel
theorem dX10_bestAt_0 : decode cX10_bestAt 0 = .ok (.iload_n 1, 1) := by decide +kernel
theorem dX10_bestAt_1 : decode cX10_bestAt 1 = .ok (.ifCond .lt 26, 3) := by decide +kernel
theorem dX10_bestAt_4 : decode cX10_bestAt 4 = .ok (.iload_n 1, 1) := by decide +kernel
theorem dX10_bestAt_5 : decode cX10_bestAt 5 = .ok (.aload_n 0, 1) := by decide +kernel
theorem dX10_bestAt_6 : decode cX10_bestAt 6 = .ok (.getfield 53, 3) := by decide +kernel
theorem dX10_bestAt_9 : decode cX10_bestAt 9 = .ok (.if_icmp .ge 18, 3) := by decide +kernel
theorem dX10_bestAt_12 : decode cX10_bestAt 12 = .ok (.iload_n 1, 1) := by decide +kernel
theorem dX10_bestAt_13 : decode cX10_bestAt 13 = .ok (.bipush 24, 2) := by decide +kernel
theorem dX10_bestAt_15 : decode cX10_bestAt 15 = .ok (.if_icmp .ge 12, 3) := by decide +kernel
theorem dX10_bestAt_18 : decode cX10_bestAt 18 = .ok (.aload_n 0, 1) := by decide +kernel
theorem dX10_bestAt_19 : decode cX10_bestAt 19 = .ok (.getfield 27, 3) := by decide +kernel
theorem dX10_bestAt_22 : decode cX10_bestAt 22 = .ok (.iload_n 1, 1) := by decide +kernel
theorem dX10_bestAt_23 : decode cX10_bestAt 23 = .ok (.iaload, 1) := by decide +kernel
theorem dX10_bestAt_24 : decode cX10_bestAt 24 = .ok (.goto 4, 3) := by decide +kernel
theorem dX10_bestAt_27 : decode cX10_bestAt 27 = .ok (.iconst 0, 1) := by decide +kernel
theorem dX10_bestAt_28 : decode cX10_bestAt 28 = .ok (.ireturn, 1) := by decide +kernel
set_option maxRecDepth 20000 in
theorem ggX10_tell_X10_tryField : GoodIn wsX10_tell wsX10_tryField := goodIn_ca (goodIn_r _ [9, 10, 11, 12, 13, 14, 15, 16, 17, 18, 19, 20, 21, 22, 23, 24, 25, 26, 27, 28, 29, 30, 31, 32, 33, 34, 35, 36, 37, 38, 39, 40, 41, 42, 43, 44, 45, 46, 47, 48, 49, 50, 51, 52, 53, 54, 55, 56, 57, 58, 208, 209, 210, 211, 212, 213, 214, 215, 216, 217, 218, 219, 197, 198, 199, 200, 201, 202, 203, 204, 205, 206, 207, 220, 221, 222, 223, 224, 225, 226, 227, 228, 229, 230, 231, 232, 233, 234, 235, 236, 237] (by decide +kernel) (by decide +kernel)) (goodIn_sub (fun _ h => List.mem_cons_of_mem _ (List.mem_append_right _ h)) (by decide +kernel))
set_option maxRecDepth 20000 in
theorem gX10_tell_X10_tryField : GoodIn wsX10_tell (wsV RX10 58 RX10 yX10_tryField wsX10_tryField) := goodIn_app (goodIn_of _ (by decide +kernel)) ggX10_tell_X10_tryField
set_option maxRecDepth 20000 in
theorem ggX10_tell_X1_group : GoodIn wsX10_tell wsX1_group := goodIn_r _ [63, 64, 208, 209, 210, 211, 212, 213, 214, 215, 216, 217, 218, 219] (by decide +kernel) (by decide +kernel)
set_option maxRecDepth 20000 in
theorem gX10_tell_X1_group : GoodIn wsX10_tell (wsV RX10 62 RX1 yX1_group wsX1_group) := goodIn_app (goodIn_of _ (by decide +kernel)) ggX10_tell_X1_group
set_option maxRecDepth 20000 in
theorem ggX10_tell_X10_tryGroup : GoodIn wsX10_tell wsX10_tryGroup := goodIn_ca (goodIn_r _ [68, 69, 70, 16, 71, 12, 72, 13, 1, 18, 17, 73, 74, 75, 20, 76, 77, 78, 79, 80, 81, 82, 83, 84, 85, 86, 87, 88, 89, 90, 91, 92, 93, 94, 95, 96, 97, 98, 19, 21, 99, 100, 101, 39, 102, 41, 42, 45, 103, 104, 105, 106, 43, 44, 107, 108, 109, 25, 110, 111, 112, 113, 114, 115, 116, 117, 118, 119, 120, 121, 122, 123, 124, 49, 50, 51, 125, 126, 127, 128, 129, 130, 131, 132, 133, 134, 135, 136, 137, 138, 32, 139, 140, 141, 142, 143, 144, 145, 146, 147, 148, 149, 33, 34, 35, 150, 151, 152, 153, 47, 154, 52, 53, 54, 55, 56, 57, 58, 46, 155, 156, 157, 158, 159, 160, 161, 162, 163, 164, 165, 166, 167, 168, 169, 170, 171, 172, 238, 239, 240, 241, 242, 243, 244, 245, 246, 247, 248, 249, 250, 197, 198, 199, 200, 201, 202, 203, 204, 205, 206, 207, 233, 234, 235, 236, 237, 220, 221, 222, 223, 224, 225, 226, 227, 228, 229, 230, 231, 232] (by decide +kernel) (by decide +kernel)) (goodIn_sub (fun _ h => List.mem_cons_of_mem _ (List.mem_append_right _ h)) (by decide +kernel))
set_option maxRecDepth 20000 in
theorem gX10_tell_X10_tryGroup : GoodIn wsX10_tell (wsV RX10 66 RX10 yX10_tryGroup wsX10_tryGroup) := goodIn_app (goodIn_of _ (by decide +kernel)) ggX10_tell_X10_tryGroup
set_option maxRecDepth 20000 in
theorem ggX10_tell_X10_judge : GoodIn wsX10_tell wsX10_judge := goodIn_ca (goodIn_r _ [176, 18, 177, 16, 1, 13, 178, 179, 104, 105, 106, 180, 181, 39, 182, 183, 184, 185, 46, 186, 187, 188, 189, 190, 191, 192, 193, 194, 195, 8, 196, 197, 198, 199, 200, 201, 202, 203, 204, 205, 206, 207, 233, 234, 235, 236, 237] (by decide +kernel) (by decide +kernel)) (goodIn_sub (fun _ h => List.mem_cons_of_mem _ (List.mem_append_right _ h)) (by decide +kernel))
set_option maxRecDepth 20000 in
theorem gX10_tell_X10_judge : GoodIn wsX10_tell (wsV RX10 73 RX10 yX10_judge wsX10_judge) := goodIn_app (goodIn_of _ (by decide +kernel)) ggX10_tell_X10_judge
theorem dX10_tell_0 : decode cX10_tell 0 = .ok (.aload_n 0, 1) := by decide +kernel
theorem dX10_tell_1 : decode cX10_tell 1 = .ok (.bipush 25, 2) := by decide +kernel
theorem dX10_tell_3 : decode cX10_tell 3 = .ok (.putfield 53, 3) := by decide +kernel
theorem dX10_tell_6 : decode cX10_tell 6 = .ok (.iconst 0, 1) := by decide +kernel
theorem dX10_tell_7 : decode cX10_tell 7 = .ok (.istore_n 3, 1) := by decide +kernel
theorem dX10_tell_8 : decode cX10_tell 8 = .ok (.aload_n 0, 1) := by decide +kernel
theorem dX10_tell_9 : decode cX10_tell 9 = .ok (.getfield 21, 3) := by decide +kernel
theorem dX10_tell_12 : decode cX10_tell 12 = .ok (.iconst 0, 1) := by decide +kernel
theorem dX10_tell_13 : decode cX10_tell 13 = .ok (.iconst (-1), 1) := by decide +kernel
theorem dX10_tell_14 : decode cX10_tell 14 = .ok (.iastore, 1) := by decide +kernel
theorem dX10_tell_15 : decode cX10_tell 15 = .ok (.iconst 0, 1) := by decide +kernel
theorem dX10_tell_16 : decode cX10_tell 16 = .ok (.istore 4, 2) := by decide +kernel
theorem dX10_tell_18 : decode cX10_tell 18 = .ok (.iload 4, 2) := by decide +kernel
theorem dX10_tell_20 : decode cX10_tell 20 = .ok (.ldc 57, 2) := by decide +kernel
theorem dX10_tell_22 : decode cX10_tell 22 = .ok (.if_icmp .ge 126, 3) := by decide +kernel
theorem dX10_tell_25 : decode cX10_tell 25 = .ok (.iload_n 3, 1) := by decide +kernel
theorem dX10_tell_26 : decode cX10_tell 26 = .ok (.ifCond .lt 122, 3) := by decide +kernel
theorem dX10_tell_29 : decode cX10_tell 29 = .ok (.iload_n 3, 1) := by decide +kernel
theorem dX10_tell_30 : decode cX10_tell 30 = .ok (.iconst 4, 1) := by decide +kernel
theorem dX10_tell_31 : decode cX10_tell 31 = .ok (.if_icmp .gt 117, 3) := by decide +kernel
theorem dX10_tell_34 : decode cX10_tell 34 = .ok (.aload_n 0, 1) := by decide +kernel
theorem dX10_tell_35 : decode cX10_tell 35 = .ok (.getfield 21, 3) := by decide +kernel
theorem dX10_tell_38 : decode cX10_tell 38 = .ok (.iload_n 3, 1) := by decide +kernel
theorem dX10_tell_39 : decode cX10_tell 39 = .ok (.dup2, 1) := by decide +kernel
theorem dX10_tell_40 : decode cX10_tell 40 = .ok (.iaload, 1) := by decide +kernel
theorem dX10_tell_41 : decode cX10_tell 41 = .ok (.iconst 1, 1) := by decide +kernel
theorem dX10_tell_42 : decode cX10_tell 42 = .ok (.iadd, 1) := by decide +kernel
theorem dX10_tell_43 : decode cX10_tell 43 = .ok (.iastore, 1) := by decide +kernel
theorem dX10_tell_44 : decode cX10_tell 44 = .ok (.aload_n 0, 1) := by decide +kernel
theorem dX10_tell_45 : decode cX10_tell 45 = .ok (.getfield 21, 3) := by decide +kernel
theorem dX10_tell_48 : decode cX10_tell 48 = .ok (.iload_n 3, 1) := by decide +kernel
theorem dX10_tell_49 : decode cX10_tell 49 = .ok (.iaload, 1) := by decide +kernel
theorem dX10_tell_50 : decode cX10_tell 50 = .ok (.iload_n 3, 1) := by decide +kernel
theorem dX10_tell_51 : decode cX10_tell 51 = .ok (.ifCond .ne 7, 3) := by decide +kernel
theorem dX10_tell_54 : decode cX10_tell 54 = .ok (.iconst 4, 1) := by decide +kernel
theorem dX10_tell_55 : decode cX10_tell 55 = .ok (.goto 4, 3) := by decide +kernel
theorem dX10_tell_58 : decode cX10_tell 58 = .ok (.iconst 5, 1) := by decide +kernel
theorem dX10_tell_59 : decode cX10_tell 59 = .ok (.if_icmp .lt 9, 3) := by decide +kernel
theorem dX10_tell_62 : decode cX10_tell 62 = .ok (.iinc 3 (-1), 3) := by decide +kernel
theorem dX10_tell_65 : decode cX10_tell 65 = .ok (.goto 77, 3) := by decide +kernel
theorem dX10_tell_68 : decode cX10_tell 68 = .ok (.iload_n 3, 1) := by decide +kernel
theorem dX10_tell_69 : decode cX10_tell 69 = .ok (.ifCond .ne 20, 3) := by decide +kernel
theorem dX10_tell_72 : decode cX10_tell 72 = .ok (.aload_n 0, 1) := by decide +kernel
theorem dX10_tell_73 : decode cX10_tell 73 = .ok (.aload_n 1, 1) := by decide +kernel
theorem dX10_tell_74 : decode cX10_tell 74 = .ok (.aload_n 0, 1) := by decide +kernel
theorem dX10_tell_75 : decode cX10_tell 75 = .ok (.getfield 21, 3) := by decide +kernel
theorem dX10_tell_78 : decode cX10_tell 78 = .ok (.iconst 0, 1) := by decide +kernel
theorem dX10_tell_79 : decode cX10_tell 79 = .ok (.iaload, 1) := by decide +kernel
theorem dX10_tell_80 : decode cX10_tell 80 = .ok (.invokevirtual 58, 3) := by decide +kernel
theorem dX10_tell_83 : decode cX10_tell 83 = .ok (.ifCond .eq 59, 3) := by decide +kernel
theorem dX10_tell_86 : decode cX10_tell 86 = .ok (.goto 24, 3) := by decide +kernel
theorem dX10_tell_89 : decode cX10_tell 89 = .ok (.aload_n 0, 1) := by decide +kernel
theorem dX10_tell_90 : decode cX10_tell 90 = .ok (.aload_n 1, 1) := by decide +kernel
theorem dX10_tell_91 : decode cX10_tell 91 = .ok (.iload_n 3, 1) := by decide +kernel
theorem dX10_tell_92 : decode cX10_tell 92 = .ok (.iconst 1, 1) := by decide +kernel
theorem dX10_tell_93 : decode cX10_tell 93 = .ok (.isub, 1) := by decide +kernel
theorem dX10_tell_94 : decode cX10_tell 94 = .ok (.invokevirtual 62, 3) := by decide +kernel
theorem dX10_tell_97 : decode cX10_tell 97 = .ok (.iload_n 3, 1) := by decide +kernel
theorem dX10_tell_98 : decode cX10_tell 98 = .ok (.aload_n 0, 1) := by decide +kernel
theorem dX10_tell_99 : decode cX10_tell 99 = .ok (.getfield 21, 3) := by decide +kernel
theorem dX10_tell_102 : decode cX10_tell 102 = .ok (.iload_n 3, 1) := by decide +kernel
theorem dX10_tell_103 : decode cX10_tell 103 = .ok (.iaload, 1) := by decide +kernel
theorem dX10_tell_104 : decode cX10_tell 104 = .ok (.invokevirtual 66, 3) := by decide +kernel
theorem dX10_tell_107 : decode cX10_tell 107 = .ok (.ifCond .eq 35, 3) := by decide +kernel
theorem dX10_tell_110 : decode cX10_tell 110 = .ok (.iload_n 3, 1) := by decide +kernel
theorem dX10_tell_111 : decode cX10_tell 111 = .ok (.aload_n 1, 1) := by decide +kernel
theorem dX10_tell_112 : decode cX10_tell 112 = .ok (.getfield 70, 3) := by decide +kernel
theorem dX10_tell_115 : decode cX10_tell 115 = .ok (.if_icmp .ne 12, 3) := by decide +kernel
theorem dX10_tell_118 : decode cX10_tell 118 = .ok (.aload_n 0, 1) := by decide +kernel
theorem dX10_tell_119 : decode cX10_tell 119 = .ok (.aload_n 2, 1) := by decide +kernel
theorem dX10_tell_120 : decode cX10_tell 120 = .ok (.iload_n 3, 1) := by decide +kernel
theorem dX10_tell_121 : decode cX10_tell 121 = .ok (.invokevirtual 73, 3) := by decide +kernel
theorem dX10_tell_124 : decode cX10_tell 124 = .ok (.goto 18, 3) := by decide +kernel
theorem dX10_tell_127 : decode cX10_tell 127 = .ok (.iload_n 3, 1) := by decide +kernel
theorem dX10_tell_128 : decode cX10_tell 128 = .ok (.iconst 4, 1) := by decide +kernel
theorem dX10_tell_129 : decode cX10_tell 129 = .ok (.if_icmp .ge 13, 3) := by decide +kernel
theorem dX10_tell_132 : decode cX10_tell 132 = .ok (.iinc 3 1, 3) := by decide +kernel
theorem dX10_tell_135 : decode cX10_tell 135 = .ok (.aload_n 0, 1) := by decide +kernel
theorem dX10_tell_136 : decode cX10_tell 136 = .ok (.getfield 21, 3) := by decide +kernel
theorem dX10_tell_139 : decode cX10_tell 139 = .ok (.iload_n 3, 1) := by decide +kernel
theorem dX10_tell_140 : decode cX10_tell 140 = .ok (.iconst (-1), 1) := by decide +kernel
theorem dX10_tell_141 : decode cX10_tell 141 = .ok (.iastore, 1) := by decide +kernel
theorem dX10_tell_142 : decode cX10_tell 142 = .ok (.iinc 4 1, 3) := by decide +kernel
theorem dX10_tell_145 : decode cX10_tell 145 = .ok (.goto (-127), 3) := by decide +kernel
theorem dX10_tell_148 : decode cX10_tell 148 = .ok (.return_, 1) := by decide +kernel
set_option maxRecDepth 20000 in
theorem ggX10_tryField_X3_put : GoodIn wsX10_tryField wsX3_put := goodIn_ca (goodIn_r _ [12] (by decide +kernel) (by decide +kernel)) (goodIn_sub (fun _ h => List.mem_cons_of_mem _ (List.mem_append_right _ h)) (by decide +kernel))
set_option maxRecDepth 20000 in
theorem gX10_tryField_X3_put_n87 : GoodIn wsX10_tryField (wsX3_put) := ggX10_tryField_X3_put
set_option maxRecDepth 20000 in
theorem ggX10_tryField_X7_paintField : GoodIn wsX10_tryField wsX7_paintField := goodIn_ca (goodIn_r _ [17, 18, 19, 20, 16, 21, 22, 23, 24, 25, 26, 27, 28, 29, 30, 31, 32, 33, 34, 35, 36, 37, 38, 39, 40, 41, 42, 43, 44, 45, 46, 47, 48, 49, 73, 74, 75, 76, 77, 78, 79, 80, 81, 82, 83, 84, 85, 86, 87, 88, 89, 90] (by decide +kernel) (by decide +kernel)) (goodIn_sub (fun _ h => List.mem_cons_of_mem _ (List.mem_append_right _ h)) (by decide +kernel))
set_option maxRecDepth 20000 in
theorem gX10_tryField_X7_paintField : GoodIn wsX10_tryField (wsV RX10 97 RX7 yX7_paintField wsX7_paintField) := goodIn_app (goodIn_of _ (by decide +kernel)) ggX10_tryField_X7_paintField
theorem dX10_tryField_0 : decode cX10_tryField 0 = .ok (.aload_n 1, 1) := by decide +kernel
theorem dX10_tryField_1 : decode cX10_tryField 1 = .ok (.getfield 77, 3) := by decide +kernel
theorem dX10_tryField_4 : decode cX10_tryField 4 = .ok (.ifCond .eq 7, 3) := by decide +kernel
theorem dX10_tryField_7 : decode cX10_tryField 7 = .ok (.iconst 1, 1) := by decide +kernel
theorem dX10_tryField_8 : decode cX10_tryField 8 = .ok (.goto 4, 3) := by decide +kernel
theorem dX10_tryField_11 : decode cX10_tryField 11 = .ok (.iconst 0, 1) := by decide +kernel
theorem dX10_tryField_12 : decode cX10_tryField 12 = .ok (.istore_n 3, 1) := by decide +kernel
theorem dX10_tryField_13 : decode cX10_tryField 13 = .ok (.iload_n 2, 1) := by decide +kernel
theorem dX10_tryField_14 : decode cX10_tryField 14 = .ok (.ifCond .le 7, 3) := by decide +kernel
theorem dX10_tryField_17 : decode cX10_tryField 17 = .ok (.iload_n 3, 1) := by decide +kernel
theorem dX10_tryField_18 : decode cX10_tryField 18 = .ok (.ifCond .eq 15, 3) := by decide +kernel
theorem dX10_tryField_21 : decode cX10_tryField 21 = .ok (.iload_n 2, 1) := by decide +kernel
theorem dX10_tryField_22 : decode cX10_tryField 22 = .ok (.iconst 1, 1) := by decide +kernel
theorem dX10_tryField_23 : decode cX10_tryField 23 = .ok (.if_icmp .ne 12, 3) := by decide +kernel
theorem dX10_tryField_26 : decode cX10_tryField 26 = .ok (.aload_n 1, 1) := by decide +kernel
theorem dX10_tryField_27 : decode cX10_tryField 27 = .ok (.getfield 80, 3) := by decide +kernel
theorem dX10_tryField_30 : decode cX10_tryField 30 = .ok (.ifCond .ne 5, 3) := by decide +kernel
theorem dX10_tryField_33 : decode cX10_tryField 33 = .ok (.iconst 0, 1) := by decide +kernel
theorem dX10_tryField_34 : decode cX10_tryField 34 = .ok (.ireturn, 1) := by decide +kernel
theorem dX10_tryField_35 : decode cX10_tryField 35 = .ok (.aload_n 0, 1) := by decide +kernel
theorem dX10_tryField_36 : decode cX10_tryField 36 = .ok (.iload_n 3, 1) := by decide +kernel
theorem dX10_tryField_37 : decode cX10_tryField 37 = .ok (.ifCond .eq 12, 3) := by decide +kernel
theorem dX10_tryField_40 : decode cX10_tryField 40 = .ok (.iload_n 2, 1) := by decide +kernel
theorem dX10_tryField_41 : decode cX10_tryField 41 = .ok (.iconst 2, 1) := by decide +kernel
theorem dX10_tryField_42 : decode cX10_tryField 42 = .ok (.if_icmp .ge 7, 3) := by decide +kernel
theorem dX10_tryField_45 : decode cX10_tryField 45 = .ok (.iconst 1, 1) := by decide +kernel
theorem dX10_tryField_46 : decode cX10_tryField 46 = .ok (.goto 4, 3) := by decide +kernel
theorem dX10_tryField_49 : decode cX10_tryField 49 = .ok (.iconst 0, 1) := by decide +kernel
theorem dX10_tryField_50 : decode cX10_tryField 50 = .ok (.putfield 83, 3) := by decide +kernel
theorem dX10_tryField_53 : decode cX10_tryField 53 = .ok (.iconst 0, 1) := by decide +kernel
theorem dX10_tryField_54 : decode cX10_tryField 54 = .ok (.istore 4, 2) := by decide +kernel
theorem dX10_tryField_56 : decode cX10_tryField 56 = .ok (.iload_n 2, 1) := by decide +kernel
theorem dX10_tryField_57 : decode cX10_tryField 57 = .ok (.ifCond .ne 10, 3) := by decide +kernel
theorem dX10_tryField_60 : decode cX10_tryField 60 = .ok (.aload_n 1, 1) := by decide +kernel
theorem dX10_tryField_61 : decode cX10_tryField 61 = .ok (.getfield 80, 3) := by decide +kernel
theorem dX10_tryField_64 : decode cX10_tryField 64 = .ok (.goto 4, 3) := by decide +kernel
theorem dX10_tryField_67 : decode cX10_tryField 67 = .ok (.iconst 0, 1) := by decide +kernel
theorem dX10_tryField_68 : decode cX10_tryField 68 = .ok (.istore 5, 2) := by decide +kernel
theorem dX10_tryField_70 : decode cX10_tryField 70 = .ok (.aload_n 0, 1) := by decide +kernel
theorem dX10_tryField_71 : decode cX10_tryField 71 = .ok (.getfield 83, 3) := by decide +kernel
theorem dX10_tryField_74 : decode cX10_tryField 74 = .ok (.ifCond .eq 31, 3) := by decide +kernel
theorem dX10_tryField_77 : decode cX10_tryField 77 = .ok (.aload_n 0, 1) := by decide +kernel
theorem dX10_tryField_78 : decode cX10_tryField 78 = .ok (.getfield 24, 3) := by decide +kernel
theorem dX10_tryField_81 : decode cX10_tryField 81 = .ok (.iload 4, 2) := by decide +kernel
theorem dX10_tryField_83 : decode cX10_tryField 83 = .ok (.aload_n 1, 1) := by decide +kernel
theorem dX10_tryField_84 : decode cX10_tryField 84 = .ok (.getfield 77, 3) := by decide +kernel
theorem dX10_tryField_87 : decode cX10_tryField 87 = .ok (.invokestatic 87, 3) := by decide +kernel
theorem dX10_tryField_90 : decode cX10_tryField 90 = .ok (.istore 4, 2) := by decide +kernel
theorem dX10_tryField_92 : decode cX10_tryField 92 = .ok (.aload_n 0, 1) := by decide +kernel
theorem dX10_tryField_93 : decode cX10_tryField 93 = .ok (.getfield 24, 3) := by decide +kernel
theorem dX10_tryField_96 : decode cX10_tryField 96 = .ok (.iload 4, 2) := by decide +kernel
theorem dX10_tryField_98 : decode cX10_tryField 98 = .ok (.iload 5, 2) := by decide +kernel
theorem dX10_tryField_100 : decode cX10_tryField 100 = .ok (.invokestatic 87, 3) := by decide +kernel
theorem dX10_tryField_103 : decode cX10_tryField 103 = .ok (.istore 4, 2) := by decide +kernel
theorem dX10_tryField_105 : decode cX10_tryField 105 = .ok (.iload_n 2, 1) := by decide +kernel
theorem dX10_tryField_106 : decode cX10_tryField 106 = .ok (.iconst 3, 1) := by decide +kernel
theorem dX10_tryField_107 : decode cX10_tryField 107 = .ok (.if_icmp .ne 10, 3) := by decide +kernel
theorem dX10_tryField_110 : decode cX10_tryField 110 = .ok (.aload_n 1, 1) := by decide +kernel
theorem dX10_tryField_111 : decode cX10_tryField 111 = .ok (.getfield 91, 3) := by decide +kernel
theorem dX10_tryField_114 : decode cX10_tryField 114 = .ok (.goto 7, 3) := by decide +kernel
theorem dX10_tryField_117 : decode cX10_tryField 117 = .ok (.aload_n 1, 1) := by decide +kernel
theorem dX10_tryField_118 : decode cX10_tryField 118 = .ok (.getfield 94, 3) := by decide +kernel
theorem dX10_tryField_121 : decode cX10_tryField 121 = .ok (.istore 6, 2) := by decide +kernel
theorem dX10_tryField_123 : decode cX10_tryField 123 = .ok (.aload_n 0, 1) := by decide +kernel
theorem dX10_tryField_124 : decode cX10_tryField 124 = .ok (.getfield 24, 3) := by decide +kernel
theorem dX10_tryField_127 : decode cX10_tryField 127 = .ok (.iload 4, 2) := by decide +kernel
theorem dX10_tryField_129 : decode cX10_tryField 129 = .ok (.iload 6, 2) := by decide +kernel
theorem dX10_tryField_131 : decode cX10_tryField 131 = .ok (.invokestatic 87, 3) := by decide +kernel
theorem dX10_tryField_134 : decode cX10_tryField 134 = .ok (.istore 4, 2) := by decide +kernel
theorem dX10_tryField_136 : decode cX10_tryField 136 = .ok (.aload_n 0, 1) := by decide +kernel
theorem dX10_tryField_137 : decode cX10_tryField 137 = .ok (.getfield 83, 3) := by decide +kernel
theorem dX10_tryField_140 : decode cX10_tryField 140 = .ok (.ifCond .eq 31, 3) := by decide +kernel
theorem dX10_tryField_143 : decode cX10_tryField 143 = .ok (.aload_n 0, 1) := by decide +kernel
theorem dX10_tryField_144 : decode cX10_tryField 144 = .ok (.getfield 24, 3) := by decide +kernel
theorem dX10_tryField_147 : decode cX10_tryField 147 = .ok (.iload 4, 2) := by decide +kernel
theorem dX10_tryField_149 : decode cX10_tryField 149 = .ok (.bipush 16, 2) := by decide +kernel
theorem dX10_tryField_151 : decode cX10_tryField 151 = .ok (.invokestatic 87, 3) := by decide +kernel
theorem dX10_tryField_154 : decode cX10_tryField 154 = .ok (.istore 4, 2) := by decide +kernel
theorem dX10_tryField_156 : decode cX10_tryField 156 = .ok (.aload_n 0, 1) := by decide +kernel
theorem dX10_tryField_157 : decode cX10_tryField 157 = .ok (.getfield 24, 3) := by decide +kernel
theorem dX10_tryField_160 : decode cX10_tryField 160 = .ok (.iload 4, 2) := by decide +kernel
theorem dX10_tryField_162 : decode cX10_tryField 162 = .ok (.aload_n 1, 1) := by decide +kernel
theorem dX10_tryField_163 : decode cX10_tryField 163 = .ok (.getfield 91, 3) := by decide +kernel
theorem dX10_tryField_166 : decode cX10_tryField 166 = .ok (.invokestatic 87, 3) := by decide +kernel
theorem dX10_tryField_169 : decode cX10_tryField 169 = .ok (.istore 4, 2) := by decide +kernel
theorem dX10_tryField_171 : decode cX10_tryField 171 = .ok (.aload_n 0, 1) := by decide +kernel
theorem dX10_tryField_172 : decode cX10_tryField 172 = .ok (.getfield 17, 3) := by decide +kernel
theorem dX10_tryField_175 : decode cX10_tryField 175 = .ok (.iconst 0, 1) := by decide +kernel
theorem dX10_tryField_176 : decode cX10_tryField 176 = .ok (.iload 4, 2) := by decide +kernel
theorem dX10_tryField_178 : decode cX10_tryField 178 = .ok (.iastore, 1) := by decide +kernel
theorem dX10_tryField_179 : decode cX10_tryField 179 = .ok (.aload_n 0, 1) := by decide +kernel
theorem dX10_tryField_180 : decode cX10_tryField 180 = .ok (.getfield 83, 3) := by decide +kernel
theorem dX10_tryField_183 : decode cX10_tryField 183 = .ok (.ifCond .eq 10, 3) := by decide +kernel
theorem dX10_tryField_186 : decode cX10_tryField 186 = .ok (.aload_n 1, 1) := by decide +kernel
theorem dX10_tryField_187 : decode cX10_tryField 187 = .ok (.getfield 77, 3) := by decide +kernel
theorem dX10_tryField_190 : decode cX10_tryField 190 = .ok (.goto 4, 3) := by decide +kernel
theorem dX10_tryField_193 : decode cX10_tryField 193 = .ok (.iconst 0, 1) := by decide +kernel
theorem dX10_tryField_194 : decode cX10_tryField 194 = .ok (.istore 7, 2) := by decide +kernel
theorem dX10_tryField_196 : decode cX10_tryField 196 = .ok (.aload_n 0, 1) := by decide +kernel
theorem dX10_tryField_197 : decode cX10_tryField 197 = .ok (.getfield 49, 3) := by decide +kernel
theorem dX10_tryField_200 : decode cX10_tryField 200 = .ok (.aload_n 0, 1) := by decide +kernel
theorem dX10_tryField_201 : decode cX10_tryField 201 = .ok (.getfield 11, 3) := by decide +kernel
theorem dX10_tryField_204 : decode cX10_tryField 204 = .ok (.iconst 0, 1) := by decide +kernel
theorem dX10_tryField_205 : decode cX10_tryField 205 = .ok (.aaload, 1) := by decide +kernel
theorem dX10_tryField_206 : decode cX10_tryField 206 = .ok (.iload 7, 2) := by decide +kernel
theorem dX10_tryField_208 : decode cX10_tryField 208 = .ok (.iload 5, 2) := by decide +kernel
theorem dX10_tryField_210 : decode cX10_tryField 210 = .ok (.iload 6, 2) := by decide +kernel
theorem dX10_tryField_212 : decode cX10_tryField 212 = .ok (.aload_n 0, 1) := by decide +kernel
theorem dX10_tryField_213 : decode cX10_tryField 213 = .ok (.getfield 83, 3) := by decide +kernel
theorem dX10_tryField_216 : decode cX10_tryField 216 = .ok (.ifCond .eq 10, 3) := by decide +kernel
theorem dX10_tryField_219 : decode cX10_tryField 219 = .ok (.aload_n 1, 1) := by decide +kernel
theorem dX10_tryField_220 : decode cX10_tryField 220 = .ok (.getfield 91, 3) := by decide +kernel
theorem dX10_tryField_223 : decode cX10_tryField 223 = .ok (.goto 4, 3) := by decide +kernel
theorem dX10_tryField_226 : decode cX10_tryField 226 = .ok (.iconst 0, 1) := by decide +kernel
theorem dX10_tryField_227 : decode cX10_tryField 227 = .ok (.invokevirtual 97, 3) := by decide +kernel
theorem dX10_tryField_230 : decode cX10_tryField 230 = .ok (.iconst 1, 1) := by decide +kernel
theorem dX10_tryField_231 : decode cX10_tryField 231 = .ok (.ireturn, 1) := by decide +kernel
set_option maxRecDepth 20000 in
theorem ggX10_tryGroup_X3_takeAsDrawn : GoodIn wsX10_tryGroup wsX3_takeAsDrawn := goodIn_r _ [15, 16, 17, 18, 19, 20, 21, 22, 23, 24, 25, 26, 27, 28, 137, 138, 139, 140, 141, 142, 143, 144, 145, 146, 147, 148, 149] (by decide +kernel) (by decide +kernel)
set_option maxRecDepth 20000 in
theorem gX10_tryGroup_X3_takeAsDrawn : GoodIn wsX10_tryGroup (wsV RX10 110 RX3 yX3_takeAsDrawn wsX3_takeAsDrawn) := goodIn_app (goodIn_of _ (by decide +kernel)) ggX10_tryGroup_X3_takeAsDrawn
set_option maxRecDepth 20000 in
theorem ggX10_tryGroup_X3_clearOn : GoodIn wsX10_tryGroup wsX3_clearOn := goodIn_r _ [32, 25, 26, 27, 28, 24, 137, 138, 139, 140, 141, 142, 143, 144, 145, 146, 147, 148, 149] (by decide +kernel) (by decide +kernel)
set_option maxRecDepth 20000 in
theorem gX10_tryGroup_X3_clearOn : GoodIn wsX10_tryGroup (wsV RX10 114 RX3 yX3_clearOn wsX3_clearOn) := goodIn_app (goodIn_of _ (by decide +kernel)) ggX10_tryGroup_X3_clearOn
set_option maxRecDepth 20000 in
theorem ggX10_tryGroup_X3_tellTo : GoodIn wsX10_tryGroup wsX3_tellTo := goodIn_ca (goodIn_r _ [36, 16, 17, 18, 25, 26, 27, 28, 19, 21, 22, 23, 37, 38, 14, 39, 137, 138, 139, 140, 141, 142, 143, 144, 145, 146, 147, 148, 149] (by decide +kernel) (by decide +kernel)) (goodIn_sub (fun _ h => List.mem_cons_of_mem _ (List.mem_append_right _ h)) (by decide +kernel))
set_option maxRecDepth 20000 in
theorem gX10_tryGroup_X3_tellTo : GoodIn wsX10_tryGroup (wsV RX10 117 RX3 yX3_tellTo wsX3_tellTo) := goodIn_app (goodIn_of _ (by decide +kernel)) ggX10_tryGroup_X3_tellTo
set_option maxRecDepth 20000 in
theorem ggX10_tryGroup_X8_copyFrom : GoodIn wsX10_tryGroup wsX8_copyFrom := goodIn_r _ [44, 45, 46, 47, 48, 49, 50, 51, 52, 53, 161, 162, 163, 164, 165] (by decide +kernel) (by decide +kernel)
set_option maxRecDepth 20000 in
theorem gX10_tryGroup_X8_copyFrom : GoodIn wsX10_tryGroup (wsV RX10 121 RX8 yX8_copyFrom wsX8_copyFrom) := goodIn_app (goodIn_of _ (by decide +kernel)) ggX10_tryGroup_X8_copyFrom
set_option maxRecDepth 20000 in
theorem ggX10_tryGroup_X7_paintGroup : GoodIn wsX10_tryGroup wsX7_paintGroup := goodIn_ca (goodIn_r _ [58, 59, 60, 61, 62, 63, 64, 65, 66, 67, 68, 49, 50, 51, 69, 70, 71, 72, 73, 74, 75, 76, 77, 78, 57, 79, 80, 81, 82, 83, 84, 85, 86, 87, 88, 89, 90, 91, 92, 93, 94, 95, 96, 97, 98, 99, 100, 101, 102, 103, 104, 105, 106, 107, 43, 108, 53, 45, 109, 46, 47, 110, 111, 112, 113, 114, 115, 116, 117, 118, 119, 120, 121, 122, 52, 123, 124, 125, 126, 127, 128, 129, 130, 131, 132, 133, 134, 135, 136, 166, 167, 168, 169, 170, 171, 172, 173, 174, 175, 176, 177, 178, 137, 138, 139, 140, 141, 142, 143, 144, 145, 146, 147, 148, 149, 161, 162, 163, 164, 165] (by decide +kernel) (by decide +kernel)) (goodIn_sub (fun _ h => List.mem_cons_of_mem _ (List.mem_append_right _ h)) (by decide +kernel))
set_option maxRecDepth 20000 in
theorem gX10_tryGroup_X7_paintGroup : GoodIn wsX10_tryGroup (wsV RX10 125 RX7 yX7_paintGroup wsX7_paintGroup) := goodIn_app (goodIn_of _ (by decide +kernel)) ggX10_tryGroup_X7_paintGroup
theorem dX10_tryGroup_0 : decode cX10_tryGroup 0 = .ok (.iload_n 2, 1) := by decide +kernel
theorem dX10_tryGroup_1 : decode cX10_tryGroup 1 = .ok (.iconst 1, 1) := by decide +kernel
theorem dX10_tryGroup_2 : decode cX10_tryGroup 2 = .ok (.if_icmp .lt 8, 3) := by decide +kernel
theorem dX10_tryGroup_5 : decode cX10_tryGroup 5 = .ok (.iload_n 2, 1) := by decide +kernel
theorem dX10_tryGroup_6 : decode cX10_tryGroup 6 = .ok (.iconst 4, 1) := by decide +kernel
theorem dX10_tryGroup_7 : decode cX10_tryGroup 7 = .ok (.if_icmp .le 5, 3) := by decide +kernel
theorem dX10_tryGroup_10 : decode cX10_tryGroup 10 = .ok (.iconst 0, 1) := by decide +kernel
theorem dX10_tryGroup_11 : decode cX10_tryGroup 11 = .ok (.ireturn, 1) := by decide +kernel
theorem dX10_tryGroup_12 : decode cX10_tryGroup 12 = .ok (.iload_n 3, 1) := by decide +kernel
theorem dX10_tryGroup_13 : decode cX10_tryGroup 13 = .ok (.iconst 2, 1) := by decide +kernel
theorem dX10_tryGroup_14 : decode cX10_tryGroup 14 = .ok (.if_icmp .eq 8, 3) := by decide +kernel
theorem dX10_tryGroup_17 : decode cX10_tryGroup 17 = .ok (.iload_n 3, 1) := by decide +kernel
theorem dX10_tryGroup_18 : decode cX10_tryGroup 18 = .ok (.iconst 4, 1) := by decide +kernel
theorem dX10_tryGroup_19 : decode cX10_tryGroup 19 = .ok (.if_icmp .ne 7, 3) := by decide +kernel
theorem dX10_tryGroup_22 : decode cX10_tryGroup 22 = .ok (.iconst 1, 1) := by decide +kernel
theorem dX10_tryGroup_23 : decode cX10_tryGroup 23 = .ok (.goto 4, 3) := by decide +kernel
theorem dX10_tryGroup_26 : decode cX10_tryGroup 26 = .ok (.iconst 0, 1) := by decide +kernel
theorem dX10_tryGroup_27 : decode cX10_tryGroup 27 = .ok (.istore 4, 2) := by decide +kernel
theorem dX10_tryGroup_29 : decode cX10_tryGroup 29 = .ok (.iload_n 3, 1) := by decide +kernel
theorem dX10_tryGroup_30 : decode cX10_tryGroup 30 = .ok (.iconst 3, 1) := by decide +kernel
theorem dX10_tryGroup_31 : decode cX10_tryGroup 31 = .ok (.if_icmp .lt 7, 3) := by decide +kernel
theorem dX10_tryGroup_34 : decode cX10_tryGroup 34 = .ok (.iconst 1, 1) := by decide +kernel
theorem dX10_tryGroup_35 : decode cX10_tryGroup 35 = .ok (.goto 4, 3) := by decide +kernel
theorem dX10_tryGroup_38 : decode cX10_tryGroup 38 = .ok (.iconst 0, 1) := by decide +kernel
theorem dX10_tryGroup_39 : decode cX10_tryGroup 39 = .ok (.istore 5, 2) := by decide +kernel
theorem dX10_tryGroup_41 : decode cX10_tryGroup 41 = .ok (.iload 4, 2) := by decide +kernel
theorem dX10_tryGroup_43 : decode cX10_tryGroup 43 = .ok (.ifCond .eq 10, 3) := by decide +kernel
theorem dX10_tryGroup_46 : decode cX10_tryGroup 46 = .ok (.aload_n 1, 1) := by decide +kernel
theorem dX10_tryGroup_47 : decode cX10_tryGroup 47 = .ok (.getfield 103, 3) := by decide +kernel
theorem dX10_tryGroup_50 : decode cX10_tryGroup 50 = .ok (.ifCond .eq 15, 3) := by decide +kernel
theorem dX10_tryGroup_53 : decode cX10_tryGroup 53 = .ok (.iload 5, 2) := by decide +kernel
theorem dX10_tryGroup_55 : decode cX10_tryGroup 55 = .ok (.ifCond .eq 12, 3) := by decide +kernel
theorem dX10_tryGroup_58 : decode cX10_tryGroup 58 = .ok (.aload_n 1, 1) := by decide +kernel
theorem dX10_tryGroup_59 : decode cX10_tryGroup 59 = .ok (.getfield 104, 3) := by decide +kernel
theorem dX10_tryGroup_62 : decode cX10_tryGroup 62 = .ok (.ifCond .ne 5, 3) := by decide +kernel
theorem dX10_tryGroup_65 : decode cX10_tryGroup 65 = .ok (.iconst 0, 1) := by decide +kernel
theorem dX10_tryGroup_66 : decode cX10_tryGroup 66 = .ok (.ireturn, 1) := by decide +kernel
theorem dX10_tryGroup_67 : decode cX10_tryGroup 67 = .ok (.aload_n 0, 1) := by decide +kernel
theorem dX10_tryGroup_68 : decode cX10_tryGroup 68 = .ok (.getfield 17, 3) := by decide +kernel
theorem dX10_tryGroup_71 : decode cX10_tryGroup 71 = .ok (.iload_n 2, 1) := by decide +kernel
theorem dX10_tryGroup_72 : decode cX10_tryGroup 72 = .ok (.aload_n 0, 1) := by decide +kernel
theorem dX10_tryGroup_73 : decode cX10_tryGroup 73 = .ok (.getfield 17, 3) := by decide +kernel
theorem dX10_tryGroup_76 : decode cX10_tryGroup 76 = .ok (.iload_n 2, 1) := by decide +kernel
theorem dX10_tryGroup_77 : decode cX10_tryGroup 77 = .ok (.iconst 1, 1) := by decide +kernel
theorem dX10_tryGroup_78 : decode cX10_tryGroup 78 = .ok (.isub, 1) := by decide +kernel
theorem dX10_tryGroup_79 : decode cX10_tryGroup 79 = .ok (.iaload, 1) := by decide +kernel
theorem dX10_tryGroup_80 : decode cX10_tryGroup 80 = .ok (.iastore, 1) := by decide +kernel
theorem dX10_tryGroup_81 : decode cX10_tryGroup 81 = .ok (.iload_n 3, 1) := by decide +kernel
theorem dX10_tryGroup_82 : decode cX10_tryGroup 82 = .ok (.ifCond .le 87, 3) := by decide +kernel
theorem dX10_tryGroup_85 : decode cX10_tryGroup 85 = .ok (.aload_n 1, 1) := by decide +kernel
theorem dX10_tryGroup_86 : decode cX10_tryGroup 86 = .ok (.getfield 107, 3) := by decide +kernel
theorem dX10_tryGroup_89 : decode cX10_tryGroup 89 = .ok (.bipush 35, 2) := by decide +kernel
theorem dX10_tryGroup_91 : decode cX10_tryGroup 91 = .ok (.if_icmp .ne 12, 3) := by decide +kernel
theorem dX10_tryGroup_94 : decode cX10_tryGroup 94 = .ok (.aload_n 0, 1) := by decide +kernel
theorem dX10_tryGroup_95 : decode cX10_tryGroup 95 = .ok (.getfield 83, 3) := by decide +kernel
theorem dX10_tryGroup_98 : decode cX10_tryGroup 98 = .ok (.ifCond .ne 5, 3) := by decide +kernel
theorem dX10_tryGroup_101 : decode cX10_tryGroup 101 = .ok (.iconst 0, 1) := by decide +kernel
theorem dX10_tryGroup_102 : decode cX10_tryGroup 102 = .ok (.ireturn, 1) := by decide +kernel
theorem dX10_tryGroup_103 : decode cX10_tryGroup 103 = .ok (.aload_n 0, 1) := by decide +kernel
theorem dX10_tryGroup_104 : decode cX10_tryGroup 104 = .ok (.getfield 33, 3) := by decide +kernel
theorem dX10_tryGroup_107 : decode cX10_tryGroup 107 = .ok (.aload_n 1, 1) := by decide +kernel
theorem dX10_tryGroup_108 : decode cX10_tryGroup 108 = .ok (.invokevirtual 110, 3) := by decide +kernel
theorem dX10_tryGroup_111 : decode cX10_tryGroup 111 = .ok (.aload_n 0, 1) := by decide +kernel
theorem dX10_tryGroup_112 : decode cX10_tryGroup 112 = .ok (.getfield 33, 3) := by decide +kernel
theorem dX10_tryGroup_115 : decode cX10_tryGroup 115 = .ok (.iload 4, 2) := by decide +kernel
theorem dX10_tryGroup_117 : decode cX10_tryGroup 117 = .ok (.ifCond .eq 13, 3) := by decide +kernel
theorem dX10_tryGroup_120 : decode cX10_tryGroup 120 = .ok (.aload_n 0, 1) := by decide +kernel
theorem dX10_tryGroup_121 : decode cX10_tryGroup 121 = .ok (.getfield 33, 3) := by decide +kernel
theorem dX10_tryGroup_124 : decode cX10_tryGroup 124 = .ok (.getfield 103, 3) := by decide +kernel
theorem dX10_tryGroup_127 : decode cX10_tryGroup 127 = .ok (.goto 4, 3) := by decide +kernel
theorem dX10_tryGroup_130 : decode cX10_tryGroup 130 = .ok (.iconst 0, 1) := by decide +kernel
theorem dX10_tryGroup_131 : decode cX10_tryGroup 131 = .ok (.putfield 103, 3) := by decide +kernel
theorem dX10_tryGroup_134 : decode cX10_tryGroup 134 = .ok (.iload 5, 2) := by decide +kernel
theorem dX10_tryGroup_136 : decode cX10_tryGroup 136 = .ok (.ifCond .ne 10, 3) := by decide +kernel
theorem dX10_tryGroup_139 : decode cX10_tryGroup 139 = .ok (.aload_n 0, 1) := by decide +kernel
theorem dX10_tryGroup_140 : decode cX10_tryGroup 140 = .ok (.getfield 33, 3) := by decide +kernel
theorem dX10_tryGroup_143 : decode cX10_tryGroup 143 = .ok (.invokevirtual 114, 3) := by decide +kernel
theorem dX10_tryGroup_146 : decode cX10_tryGroup 146 = .ok (.aload_n 0, 1) := by decide +kernel
theorem dX10_tryGroup_147 : decode cX10_tryGroup 147 = .ok (.getfield 17, 3) := by decide +kernel
theorem dX10_tryGroup_150 : decode cX10_tryGroup 150 = .ok (.iload_n 2, 1) := by decide +kernel
theorem dX10_tryGroup_151 : decode cX10_tryGroup 151 = .ok (.aload_n 0, 1) := by decide +kernel
theorem dX10_tryGroup_152 : decode cX10_tryGroup 152 = .ok (.getfield 33, 3) := by decide +kernel
theorem dX10_tryGroup_155 : decode cX10_tryGroup 155 = .ok (.aload_n 0, 1) := by decide +kernel
theorem dX10_tryGroup_156 : decode cX10_tryGroup 156 = .ok (.getfield 24, 3) := by decide +kernel
theorem dX10_tryGroup_159 : decode cX10_tryGroup 159 = .ok (.aload_n 0, 1) := by decide +kernel
theorem dX10_tryGroup_160 : decode cX10_tryGroup 160 = .ok (.getfield 17, 3) := by decide +kernel
theorem dX10_tryGroup_163 : decode cX10_tryGroup 163 = .ok (.iload_n 2, 1) := by decide +kernel
theorem dX10_tryGroup_164 : decode cX10_tryGroup 164 = .ok (.iaload, 1) := by decide +kernel
theorem dX10_tryGroup_165 : decode cX10_tryGroup 165 = .ok (.invokevirtual 117, 3) := by decide +kernel
theorem dX10_tryGroup_168 : decode cX10_tryGroup 168 = .ok (.iastore, 1) := by decide +kernel
theorem dX10_tryGroup_169 : decode cX10_tryGroup 169 = .ok (.aload_n 0, 1) := by decide +kernel
theorem dX10_tryGroup_170 : decode cX10_tryGroup 170 = .ok (.getfield 17, 3) := by decide +kernel
theorem dX10_tryGroup_173 : decode cX10_tryGroup 173 = .ok (.iload_n 2, 1) := by decide +kernel
theorem dX10_tryGroup_174 : decode cX10_tryGroup 174 = .ok (.iaload, 1) := by decide +kernel
theorem dX10_tryGroup_175 : decode cX10_tryGroup 175 = .ok (.aload_n 0, 1) := by decide +kernel
theorem dX10_tryGroup_176 : decode cX10_tryGroup 176 = .ok (.getfield 53, 3) := by decide +kernel
theorem dX10_tryGroup_179 : decode cX10_tryGroup 179 = .ok (.if_icmp .le 5, 3) := by decide +kernel
theorem dX10_tryGroup_182 : decode cX10_tryGroup 182 = .ok (.iconst 0, 1) := by decide +kernel
theorem dX10_tryGroup_183 : decode cX10_tryGroup 183 = .ok (.ireturn, 1) := by decide +kernel
theorem dX10_tryGroup_184 : decode cX10_tryGroup 184 = .ok (.aload_n 0, 1) := by decide +kernel
theorem dX10_tryGroup_185 : decode cX10_tryGroup 185 = .ok (.getfield 11, 3) := by decide +kernel
theorem dX10_tryGroup_188 : decode cX10_tryGroup 188 = .ok (.iload_n 2, 1) := by decide +kernel
theorem dX10_tryGroup_189 : decode cX10_tryGroup 189 = .ok (.aaload, 1) := by decide +kernel
theorem dX10_tryGroup_190 : decode cX10_tryGroup 190 = .ok (.aload_n 0, 1) := by decide +kernel
theorem dX10_tryGroup_191 : decode cX10_tryGroup 191 = .ok (.getfield 11, 3) := by decide +kernel
theorem dX10_tryGroup_194 : decode cX10_tryGroup 194 = .ok (.iload_n 2, 1) := by decide +kernel
theorem dX10_tryGroup_195 : decode cX10_tryGroup 195 = .ok (.iconst 1, 1) := by decide +kernel
theorem dX10_tryGroup_196 : decode cX10_tryGroup 196 = .ok (.isub, 1) := by decide +kernel
theorem dX10_tryGroup_197 : decode cX10_tryGroup 197 = .ok (.aaload, 1) := by decide +kernel
theorem dX10_tryGroup_198 : decode cX10_tryGroup 198 = .ok (.invokevirtual 121, 3) := by decide +kernel
theorem dX10_tryGroup_201 : decode cX10_tryGroup 201 = .ok (.iload_n 3, 1) := by decide +kernel
theorem dX10_tryGroup_202 : decode cX10_tryGroup 202 = .ok (.ifCond .le 20, 3) := by decide +kernel
theorem dX10_tryGroup_205 : decode cX10_tryGroup 205 = .ok (.aload_n 0, 1) := by decide +kernel
theorem dX10_tryGroup_206 : decode cX10_tryGroup 206 = .ok (.getfield 49, 3) := by decide +kernel
theorem dX10_tryGroup_209 : decode cX10_tryGroup 209 = .ok (.aload_n 0, 1) := by decide +kernel
theorem dX10_tryGroup_210 : decode cX10_tryGroup 210 = .ok (.getfield 11, 3) := by decide +kernel
theorem dX10_tryGroup_213 : decode cX10_tryGroup 213 = .ok (.iload_n 2, 1) := by decide +kernel
theorem dX10_tryGroup_214 : decode cX10_tryGroup 214 = .ok (.aaload, 1) := by decide +kernel
theorem dX10_tryGroup_215 : decode cX10_tryGroup 215 = .ok (.aload_n 0, 1) := by decide +kernel
theorem dX10_tryGroup_216 : decode cX10_tryGroup 216 = .ok (.getfield 33, 3) := by decide +kernel
theorem dX10_tryGroup_219 : decode cX10_tryGroup 219 = .ok (.invokevirtual 125, 3) := by decide +kernel
theorem dX10_tryGroup_222 : decode cX10_tryGroup 222 = .ok (.iconst 1, 1) := by decide +kernel
theorem dX10_tryGroup_223 : decode cX10_tryGroup 223 = .ok (.ireturn, 1) := by decide +kernel
set_option maxRecDepth 20000 in
theorem ggX10_judge_X8_countUnlike : GoodIn wsX10_judge wsX8_countUnlike := goodIn_ca (goodIn_r _ [14, 15, 16, 13, 17, 18, 19, 20, 21, 22, 23, 24, 25] (by decide +kernel) (by decide +kernel)) (goodIn_sub (fun _ h => List.mem_cons_of_mem _ (List.mem_append_right _ h)) (by decide +kernel))
set_option maxRecDepth 20000 in
theorem gX10_judge_X8_countUnlike : GoodIn wsX10_judge (va_wsS RX10 133 yX8_countUnlike wsX8_countUnlike) := goodIn_app (goodIn_of _ (by decide +kernel)) ggX10_judge_X8_countUnlike
set_option maxRecDepth 20000 in
theorem ggX10_judge_X10_isLess : GoodIn wsX10_judge wsX10_isLess := goodIn_ca (goodIn_r _ [30, 4, 5, 6, 31, 32, 33, 34, 35, 36, 37, 38, 39, 40, 41] (by decide +kernel) (by decide +kernel)) (goodIn_sub (fun _ h => List.mem_cons_of_mem _ (List.mem_append_right _ h)) (by decide +kernel))
set_option maxRecDepth 20000 in
theorem gX10_judge_X10_isLess : GoodIn wsX10_judge (wsV RX10 137 RX10 yX10_isLess wsX10_isLess) := goodIn_app (goodIn_of _ (by decide +kernel)) ggX10_judge_X10_isLess
theorem dX10_judge_0 : decode cX10_judge 0 = .ok (.iload_n 2, 1) := by decide +kernel
theorem dX10_judge_1 : decode cX10_judge 1 = .ok (.ifCond .lt 27, 3) := by decide +kernel
theorem dX10_judge_4 : decode cX10_judge 4 = .ok (.iload_n 2, 1) := by decide +kernel
theorem dX10_judge_5 : decode cX10_judge 5 = .ok (.iconst 4, 1) := by decide +kernel
theorem dX10_judge_6 : decode cX10_judge 6 = .ok (.if_icmp .gt 22, 3) := by decide +kernel
theorem dX10_judge_9 : decode cX10_judge 9 = .ok (.aload_n 0, 1) := by decide +kernel
theorem dX10_judge_10 : decode cX10_judge 10 = .ok (.getfield 11, 3) := by decide +kernel
theorem dX10_judge_13 : decode cX10_judge 13 = .ok (.iload_n 2, 1) := by decide +kernel
theorem dX10_judge_14 : decode cX10_judge 14 = .ok (.aaload, 1) := by decide +kernel
theorem dX10_judge_15 : decode cX10_judge 15 = .ok (.getfield 129, 3) := by decide +kernel
theorem dX10_judge_18 : decode cX10_judge 18 = .ok (.aload_n 1, 1) := by decide +kernel
theorem dX10_judge_19 : decode cX10_judge 19 = .ok (.getfield 129, 3) := by decide +kernel
theorem dX10_judge_22 : decode cX10_judge 22 = .ok (.invokestatic 133, 3) := by decide +kernel
theorem dX10_judge_25 : decode cX10_judge 25 = .ok (.ifCond .le 4, 3) := by decide +kernel
theorem dX10_judge_28 : decode cX10_judge 28 = .ok (.return_, 1) := by decide +kernel
theorem dX10_judge_29 : decode cX10_judge 29 = .ok (.aload_n 0, 1) := by decide +kernel
theorem dX10_judge_30 : decode cX10_judge 30 = .ok (.getfield 17, 3) := by decide +kernel
theorem dX10_judge_33 : decode cX10_judge 33 = .ok (.iload_n 2, 1) := by decide +kernel
theorem dX10_judge_34 : decode cX10_judge 34 = .ok (.iaload, 1) := by decide +kernel
theorem dX10_judge_35 : decode cX10_judge 35 = .ok (.istore_n 3, 1) := by decide +kernel
theorem dX10_judge_36 : decode cX10_judge 36 = .ok (.iload_n 3, 1) := by decide +kernel
theorem dX10_judge_37 : decode cX10_judge 37 = .ok (.aload_n 0, 1) := by decide +kernel
theorem dX10_judge_38 : decode cX10_judge 38 = .ok (.getfield 53, 3) := by decide +kernel
theorem dX10_judge_41 : decode cX10_judge 41 = .ok (.if_icmp .lt 18, 3) := by decide +kernel
theorem dX10_judge_44 : decode cX10_judge 44 = .ok (.iload_n 3, 1) := by decide +kernel
theorem dX10_judge_45 : decode cX10_judge 45 = .ok (.aload_n 0, 1) := by decide +kernel
theorem dX10_judge_46 : decode cX10_judge 46 = .ok (.getfield 53, 3) := by decide +kernel
theorem dX10_judge_49 : decode cX10_judge 49 = .ok (.if_icmp .ne 30, 3) := by decide +kernel
theorem dX10_judge_52 : decode cX10_judge 52 = .ok (.aload_n 0, 1) := by decide +kernel
theorem dX10_judge_53 : decode cX10_judge 53 = .ok (.invokevirtual 137, 3) := by decide +kernel
theorem dX10_judge_56 : decode cX10_judge 56 = .ok (.ifCond .eq 23, 3) := by decide +kernel
theorem dX10_judge_59 : decode cX10_judge 59 = .ok (.aload_n 0, 1) := by decide +kernel
theorem dX10_judge_60 : decode cX10_judge 60 = .ok (.iload_n 3, 1) := by decide +kernel
theorem dX10_judge_61 : decode cX10_judge 61 = .ok (.putfield 53, 3) := by decide +kernel
theorem dX10_judge_64 : decode cX10_judge 64 = .ok (.aload_n 0, 1) := by decide +kernel
theorem dX10_judge_65 : decode cX10_judge 65 = .ok (.getfield 24, 3) := by decide +kernel
theorem dX10_judge_68 : decode cX10_judge 68 = .ok (.iconst 0, 1) := by decide +kernel
theorem dX10_judge_69 : decode cX10_judge 69 = .ok (.aload_n 0, 1) := by decide +kernel
theorem dX10_judge_70 : decode cX10_judge 70 = .ok (.getfield 27, 3) := by decide +kernel
theorem dX10_judge_73 : decode cX10_judge 73 = .ok (.iconst 0, 1) := by decide +kernel
theorem dX10_judge_74 : decode cX10_judge 74 = .ok (.bipush 24, 2) := by decide +kernel
theorem dX10_judge_76 : decode cX10_judge 76 = .ok (.invokestatic 141, 3) := by decide +kernel
theorem dX10_judge_79 : decode cX10_judge 79 = .ok (.return_, 1) := by decide +kernel
theorem dX10_isLess_0 : decode cX10_isLess 0 = .ok (.iconst 0, 1) := by decide +kernel
theorem dX10_isLess_1 : decode cX10_isLess 1 = .ok (.istore_n 1, 1) := by decide +kernel
theorem dX10_isLess_2 : decode cX10_isLess 2 = .ok (.iload_n 1, 1) := by decide +kernel
theorem dX10_isLess_3 : decode cX10_isLess 3 = .ok (.aload_n 0, 1) := by decide +kernel
theorem dX10_isLess_4 : decode cX10_isLess 4 = .ok (.getfield 53, 3) := by decide +kernel
theorem dX10_isLess_7 : decode cX10_isLess 7 = .ok (.if_icmp .ge 51, 3) := by decide +kernel
theorem dX10_isLess_10 : decode cX10_isLess 10 = .ok (.iload_n 1, 1) := by decide +kernel
theorem dX10_isLess_11 : decode cX10_isLess 11 = .ok (.bipush 24, 2) := by decide +kernel
theorem dX10_isLess_13 : decode cX10_isLess 13 = .ok (.if_icmp .ge 45, 3) := by decide +kernel
theorem dX10_isLess_16 : decode cX10_isLess 16 = .ok (.aload_n 0, 1) := by decide +kernel
theorem dX10_isLess_17 : decode cX10_isLess 17 = .ok (.getfield 24, 3) := by decide +kernel
theorem dX10_isLess_20 : decode cX10_isLess 20 = .ok (.iload_n 1, 1) := by decide +kernel
theorem dX10_isLess_21 : decode cX10_isLess 21 = .ok (.iaload, 1) := by decide +kernel
theorem dX10_isLess_22 : decode cX10_isLess 22 = .ok (.aload_n 0, 1) := by decide +kernel
theorem dX10_isLess_23 : decode cX10_isLess 23 = .ok (.getfield 27, 3) := by decide +kernel
theorem dX10_isLess_26 : decode cX10_isLess 26 = .ok (.iload_n 1, 1) := by decide +kernel
theorem dX10_isLess_27 : decode cX10_isLess 27 = .ok (.iaload, 1) := by decide +kernel
theorem dX10_isLess_28 : decode cX10_isLess 28 = .ok (.if_icmp .eq 24, 3) := by decide +kernel
theorem dX10_isLess_31 : decode cX10_isLess 31 = .ok (.aload_n 0, 1) := by decide +kernel
theorem dX10_isLess_32 : decode cX10_isLess 32 = .ok (.getfield 24, 3) := by decide +kernel
theorem dX10_isLess_35 : decode cX10_isLess 35 = .ok (.iload_n 1, 1) := by decide +kernel
theorem dX10_isLess_36 : decode cX10_isLess 36 = .ok (.iaload, 1) := by decide +kernel
theorem dX10_isLess_37 : decode cX10_isLess 37 = .ok (.aload_n 0, 1) := by decide +kernel
theorem dX10_isLess_38 : decode cX10_isLess 38 = .ok (.getfield 27, 3) := by decide +kernel
theorem dX10_isLess_41 : decode cX10_isLess 41 = .ok (.iload_n 1, 1) := by decide +kernel
theorem dX10_isLess_42 : decode cX10_isLess 42 = .ok (.iaload, 1) := by decide +kernel
theorem dX10_isLess_43 : decode cX10_isLess 43 = .ok (.if_icmp .ge 7, 3) := by decide +kernel
theorem dX10_isLess_46 : decode cX10_isLess 46 = .ok (.iconst 1, 1) := by decide +kernel
theorem dX10_isLess_47 : decode cX10_isLess 47 = .ok (.goto 4, 3) := by decide +kernel
theorem dX10_isLess_50 : decode cX10_isLess 50 = .ok (.iconst 0, 1) := by decide +kernel
theorem dX10_isLess_51 : decode cX10_isLess 51 = .ok (.ireturn, 1) := by decide +kernel
theorem dX10_isLess_52 : decode cX10_isLess 52 = .ok (.iinc 1 1, 3) := by decide +kernel
theorem dX10_isLess_55 : decode cX10_isLess 55 = .ok (.goto (-53), 3) := by decide +kernel
theorem dX10_isLess_58 : decode cX10_isLess 58 = .ok (.iconst 0, 1) := by decide +kernel
theorem dX10_isLess_59 : decode cX10_isLess 59 = .ok (.ireturn, 1) := by decide +kernel
set_option maxRecDepth 20000 in
theorem ggX10_tellsWell_X7_paintBlazon : GoodIn wsX10_tellsWell wsX7_paintBlazon := goodIn_ca (goodIn_r _ [14, 15, 16, 17, 18, 19, 20, 21, 13, 22, 23, 24, 25, 26, 27, 28, 29, 30, 31, 32, 33, 34, 35, 36, 37, 38, 39, 40, 41, 42, 43, 44, 45, 46, 47, 48, 49, 50, 51, 52, 53, 54, 55, 56, 57, 58, 59, 60, 61, 62, 63, 64, 65, 66, 67, 68, 69, 70, 71, 72, 73, 74, 75, 76, 77, 78, 79, 80, 81, 82, 83, 84, 85, 86, 87, 88, 89, 90, 91, 92, 93, 94, 95, 96, 97, 98, 99, 100, 101, 102, 103, 104, 105, 106, 107, 108, 109, 110, 111, 112, 113, 114, 115, 116, 117, 118, 119, 120, 121, 122, 123, 124, 125, 126, 127, 128, 129, 297, 298, 299, 300, 301, 302, 303, 304, 305, 306, 307, 308, 314, 315, 316, 317, 318, 319, 320, 321, 322, 323, 324, 325, 326, 309, 310, 311, 312, 313, 327, 328, 329, 330, 331, 332, 333, 334, 335, 336, 337, 338, 339] (by decide +kernel) (by decide +kernel)) (goodIn_sub (fun _ h => List.mem_cons_of_mem _ (List.mem_append_right _ h)) (by decide +kernel))
set_option maxRecDepth 20000 in
theorem gX10_tellsWell_X7_paintBlazon : GoodIn wsX10_tellsWell (wsV RX10 147 RX7 yX7_paintBlazon wsX7_paintBlazon) := goodIn_app (goodIn_of _ (by decide +kernel)) ggX10_tellsWell_X7_paintBlazon
set_option maxRecDepth 20000 in
theorem ggX10_tellsWell_X10_tell : GoodIn wsX10_tellsWell wsX10_tell := goodIn_ca (goodIn_r _ [134, 6, 135, 136, 137, 138, 139, 140, 133, 141, 142, 143, 144, 145, 146, 3, 147, 1, 8, 148, 149, 150, 151, 20, 21, 13, 22, 23, 24, 25, 26, 27, 28, 29, 30, 31, 32, 33, 34, 35, 36, 37, 38, 39, 40, 41, 42, 43, 44, 45, 46, 47, 48, 49, 50, 51, 52, 53, 54, 152, 56, 57, 58, 59, 60, 153, 154, 155, 156, 157, 158, 159, 160, 161, 162, 163, 164, 165, 166, 167, 168, 169, 170, 171, 172, 173, 174, 175, 176, 177, 178, 179, 180, 181, 182, 183, 184, 185, 186, 187, 188, 189, 190, 191, 75, 76, 77, 192, 62, 63, 64, 65, 66, 67, 68, 69, 70, 71, 72, 73, 74, 78, 79, 80, 81, 82, 83, 84, 85, 86, 87, 88, 89, 90, 91, 92, 93, 94, 95, 96, 97, 98, 99, 100, 101, 102, 103, 104, 105, 106, 107, 108, 109, 110, 111, 112, 113, 114, 115, 116, 117, 118, 119, 120, 121, 122, 123, 124, 125, 126, 127, 128, 129, 193, 194, 195, 196, 9, 5, 197, 198, 199, 200, 201, 202, 203, 204, 205, 206, 207, 208, 209, 210, 211, 212, 213, 214, 286, 287, 288, 289, 290, 291, 292, 293, 294, 295, 296, 297, 298, 299, 300, 301, 302, 303, 304, 305, 306, 307, 308, 314, 315, 316, 317, 318, 319, 320, 321, 322, 323, 324, 325, 326, 309, 310, 311, 312, 313, 327, 328, 329, 330, 331, 332, 333, 334, 335, 336, 337, 338, 339] (by decide +kernel) (by decide +kernel)) (goodIn_sub (fun _ h => List.mem_cons_of_mem _ (List.mem_append_right _ h)) (by decide +kernel))
set_option maxRecDepth 20000 in
theorem gX10_tellsWell_X10_tell : GoodIn wsX10_tellsWell (wsV RX10 151 RX10 yX10_tell wsX10_tell) := goodIn_app (goodIn_of _ (by decide +kernel)) ggX10_tellsWell_X10_tell
set_option maxRecDepth 20000 in
theorem ggX10_tellsWell_X1_takeWords : GoodIn wsX10_tellsWell wsX1_takeWords := goodIn_ca (goodIn_r _ [218, 219, 220, 221, 222, 58, 223, 224, 297, 298, 299, 300, 301, 302, 303, 304, 305, 306, 307, 308] (by decide +kernel) (by decide +kernel)) (goodIn_sub (fun _ h => List.mem_cons_of_mem _ (List.mem_append_right _ h)) (by decide +kernel))
set_option maxRecDepth 20000 in
theorem gX10_tellsWell_X1_takeWords : GoodIn wsX10_tellsWell (wsV RX10 155 RX1 yX1_takeWords wsX1_takeWords) := goodIn_app (goodIn_of _ (by decide +kernel)) ggX10_tellsWell_X1_takeWords
set_option maxRecDepth 20000 in
theorem ggX10_tellsWell_X1_read : GoodIn wsX10_tellsWell wsX1_read := goodIn_ca (goodIn_r _ [228, 229, 230, 231, 232, 233, 234, 235, 236, 237, 219, 60, 238, 45, 46, 47, 239, 240, 241, 58, 242, 243, 244, 245, 246, 224, 247, 248, 249, 250, 251, 252, 253, 254, 255, 256, 257, 258, 259, 260, 261, 149, 262, 165, 166, 167, 168, 170, 171, 172, 169, 263, 179, 180, 181, 174, 175, 176, 177, 173, 264, 265, 266, 267, 268, 269, 270, 72, 271, 272, 273, 274, 275, 276, 277, 278, 279, 280, 281, 282, 283, 284, 285, 297, 298, 299, 300, 301, 302, 303, 304, 305, 306, 307, 308, 327, 328, 329, 330, 331, 332, 333, 334, 335, 336, 337, 338, 339] (by decide +kernel) (by decide +kernel)) (goodIn_sub (fun _ h => List.mem_cons_of_mem _ (List.mem_append_right _ h)) (by decide +kernel))
set_option maxRecDepth 20000 in
theorem gX10_tellsWell_X1_read : GoodIn wsX10_tellsWell (wsV RX10 159 RX1 yX1_read wsX1_read) := goodIn_app (goodIn_of _ (by decide +kernel)) ggX10_tellsWell_X1_read
set_option maxRecDepth 20000 in
theorem ggX10_tellsWell_X8_countUnlike : GoodIn wsX10_tellsWell wsX8_countUnlike := goodIn_ca (goodIn_r _ [200, 201, 202, 35, 203, 42, 204, 205, 206, 207, 208, 209, 210] (by decide +kernel) (by decide +kernel)) (goodIn_sub (fun _ h => List.mem_cons_of_mem _ (List.mem_append_right _ h)) (by decide +kernel))
set_option maxRecDepth 20000 in
theorem gX10_tellsWell_X8_countUnlike : GoodIn wsX10_tellsWell (va_wsS RX10 133 yX8_countUnlike wsX8_countUnlike) := goodIn_app (goodIn_of _ (by decide +kernel)) ggX10_tellsWell_X8_countUnlike
theorem dX10_tellsWell_0 : decode cX10_tellsWell 0 = .ok (.aload_n 0, 1) := by decide +kernel
theorem dX10_tellsWell_1 : decode cX10_tellsWell 1 = .ok (.getfield 49, 3) := by decide +kernel
theorem dX10_tellsWell_4 : decode cX10_tellsWell 4 = .ok (.aload_n 0, 1) := by decide +kernel
theorem dX10_tellsWell_5 : decode cX10_tellsWell 5 = .ok (.getfield 38, 3) := by decide +kernel
theorem dX10_tellsWell_8 : decode cX10_tellsWell 8 = .ok (.aload_n 1, 1) := by decide +kernel
theorem dX10_tellsWell_9 : decode cX10_tellsWell 9 = .ok (.aload_n 1, 1) := by decide +kernel
theorem dX10_tellsWell_10 : decode cX10_tellsWell 10 = .ok (.getfield 94, 3) := by decide +kernel
theorem dX10_tellsWell_13 : decode cX10_tellsWell 13 = .ok (.invokevirtual 147, 3) := by decide +kernel
theorem dX10_tellsWell_16 : decode cX10_tellsWell 16 = .ok (.aload_n 0, 1) := by decide +kernel
theorem dX10_tellsWell_17 : decode cX10_tellsWell 17 = .ok (.aload_n 1, 1) := by decide +kernel
theorem dX10_tellsWell_18 : decode cX10_tellsWell 18 = .ok (.aload_n 0, 1) := by decide +kernel
theorem dX10_tellsWell_19 : decode cX10_tellsWell 19 = .ok (.getfield 38, 3) := by decide +kernel
theorem dX10_tellsWell_22 : decode cX10_tellsWell 22 = .ok (.invokevirtual 151, 3) := by decide +kernel
theorem dX10_tellsWell_25 : decode cX10_tellsWell 25 = .ok (.aload_n 0, 1) := by decide +kernel
theorem dX10_tellsWell_26 : decode cX10_tellsWell 26 = .ok (.getfield 45, 3) := by decide +kernel
theorem dX10_tellsWell_29 : decode cX10_tellsWell 29 = .ok (.aload_n 0, 1) := by decide +kernel
theorem dX10_tellsWell_30 : decode cX10_tellsWell 30 = .ok (.getfield 27, 3) := by decide +kernel
theorem dX10_tellsWell_33 : decode cX10_tellsWell 33 = .ok (.aload_n 0, 1) := by decide +kernel
theorem dX10_tellsWell_34 : decode cX10_tellsWell 34 = .ok (.getfield 53, 3) := by decide +kernel
theorem dX10_tellsWell_37 : decode cX10_tellsWell 37 = .ok (.invokevirtual 155, 3) := by decide +kernel
theorem dX10_tellsWell_40 : decode cX10_tellsWell 40 = .ok (.aload_n 0, 1) := by decide +kernel
theorem dX10_tellsWell_41 : decode cX10_tellsWell 41 = .ok (.getfield 45, 3) := by decide +kernel
theorem dX10_tellsWell_44 : decode cX10_tellsWell 44 = .ok (.invokevirtual 159, 3) := by decide +kernel
theorem dX10_tellsWell_47 : decode cX10_tellsWell 47 = .ok (.aload_n 0, 1) := by decide +kernel
theorem dX10_tellsWell_48 : decode cX10_tellsWell 48 = .ok (.getfield 45, 3) := by decide +kernel
theorem dX10_tellsWell_51 : decode cX10_tellsWell 51 = .ok (.getfield 162, 3) := by decide +kernel
theorem dX10_tellsWell_54 : decode cX10_tellsWell 54 = .ok (.ifCond .lt 5, 3) := by decide +kernel
theorem dX10_tellsWell_57 : decode cX10_tellsWell 57 = .ok (.iconst 0, 1) := by decide +kernel
theorem dX10_tellsWell_58 : decode cX10_tellsWell 58 = .ok (.ireturn, 1) := by decide +kernel
theorem dX10_tellsWell_59 : decode cX10_tellsWell 59 = .ok (.aload_n 0, 1) := by decide +kernel
theorem dX10_tellsWell_60 : decode cX10_tellsWell 60 = .ok (.getfield 49, 3) := by decide +kernel
theorem dX10_tellsWell_63 : decode cX10_tellsWell 63 = .ok (.aload_n 0, 1) := by decide +kernel
theorem dX10_tellsWell_64 : decode cX10_tellsWell 64 = .ok (.getfield 11, 3) := by decide +kernel
theorem dX10_tellsWell_67 : decode cX10_tellsWell 67 = .ok (.iconst 0, 1) := by decide +kernel
theorem dX10_tellsWell_68 : decode cX10_tellsWell 68 = .ok (.aaload, 1) := by decide +kernel
theorem dX10_tellsWell_69 : decode cX10_tellsWell 69 = .ok (.aload_n 0, 1) := by decide +kernel
theorem dX10_tellsWell_70 : decode cX10_tellsWell 70 = .ok (.getfield 45, 3) := by decide +kernel
theorem dX10_tellsWell_73 : decode cX10_tellsWell 73 = .ok (.aload_n 0, 1) := by decide +kernel
theorem dX10_tellsWell_74 : decode cX10_tellsWell 74 = .ok (.getfield 45, 3) := by decide +kernel
theorem dX10_tellsWell_77 : decode cX10_tellsWell 77 = .ok (.getfield 94, 3) := by decide +kernel
theorem dX10_tellsWell_80 : decode cX10_tellsWell 80 = .ok (.invokevirtual 147, 3) := by decide +kernel
theorem dX10_tellsWell_83 : decode cX10_tellsWell 83 = .ok (.aload_n 0, 1) := by decide +kernel
theorem dX10_tellsWell_84 : decode cX10_tellsWell 84 = .ok (.getfield 11, 3) := by decide +kernel
theorem dX10_tellsWell_87 : decode cX10_tellsWell 87 = .ok (.iconst 0, 1) := by decide +kernel
theorem dX10_tellsWell_88 : decode cX10_tellsWell 88 = .ok (.aaload, 1) := by decide +kernel
theorem dX10_tellsWell_89 : decode cX10_tellsWell 89 = .ok (.getfield 129, 3) := by decide +kernel
theorem dX10_tellsWell_92 : decode cX10_tellsWell 92 = .ok (.aload_n 0, 1) := by decide +kernel
theorem dX10_tellsWell_93 : decode cX10_tellsWell 93 = .ok (.getfield 38, 3) := by decide +kernel
theorem dX10_tellsWell_96 : decode cX10_tellsWell 96 = .ok (.getfield 129, 3) := by decide +kernel
theorem dX10_tellsWell_99 : decode cX10_tellsWell 99 = .ok (.invokestatic 133, 3) := by decide +kernel
theorem dX10_tellsWell_102 : decode cX10_tellsWell 102 = .ok (.ifCond .ne 7, 3) := by decide +kernel
theorem dX10_tellsWell_105 : decode cX10_tellsWell 105 = .ok (.iconst 1, 1) := by decide +kernel
theorem dX10_tellsWell_106 : decode cX10_tellsWell 106 = .ok (.goto 4, 3) := by decide +kernel
theorem dX10_tellsWell_109 : decode cX10_tellsWell 109 = .ok (.iconst 0, 1) := by decide +kernel
theorem dX10_tellsWell_110 : decode cX10_tellsWell 110 = .ok (.ireturn, 1) := by decide +kernel
set_option maxRecDepth 20000 in
theorem ggX11_init_X7_init : GoodIn wsX11_init wsX7_init := goodIn_ca (goodIn_r _ [47, 48, 2, 3, 49, 50, 51, 52, 53, 54, 55, 56, 57, 58, 59, 60, 61, 62, 63, 64, 65, 13, 14, 66, 67, 68, 69, 70, 71, 72, 73, 74, 75, 76, 77, 78, 79, 6, 80, 81, 82, 83, 84, 85, 86, 87, 88, 89, 90, 91, 92, 93, 94, 95, 96, 97, 98, 99, 294, 295, 296, 297, 298, 299, 300, 301, 302, 303, 304, 305, 306, 411, 412, 413, 414, 415, 416, 417, 418, 419, 420, 421, 422, 423, 333, 334, 335, 336, 337] (by decide +kernel) (by decide +kernel)) (goodIn_sub (fun _ h => List.mem_cons_of_mem _ (List.mem_append_right _ h)) (by decide +kernel))
set_option maxRecDepth 20000 in
theorem gX11_init_X7_init : GoodIn wsX11_init (wsX7_init) := ggX11_init_X7_init
set_option maxRecDepth 20000 in
theorem ggX11_init_X1_init : GoodIn wsX11_init wsX1_init := goodIn_r _ [102, 103, 2, 3, 50, 104, 105, 106, 107, 62, 63, 67, 68, 69, 321, 322, 323, 324, 325, 326, 327, 328, 329, 330, 331, 332, 411, 412, 413, 414, 415, 416, 417, 418, 419, 420, 421, 422, 423] (by decide +kernel) (by decide +kernel)
set_option maxRecDepth 20000 in
theorem gX11_init_X1_init : GoodIn wsX11_init (wsX1_init) := ggX11_init_X1_init
set_option maxRecDepth 20000 in
theorem ggX11_init_X8_init : GoodIn wsX11_init wsX8_init := goodIn_r _ [71, 72, 2, 3, 73, 74, 50, 75, 76, 333, 334, 335, 336, 337] (by decide +kernel) (by decide +kernel)
set_option maxRecDepth 20000 in
theorem gX11_init_X8_init_n25 : GoodIn wsX11_init (wsX8_init) := ggX11_init_X8_init
set_option maxRecDepth 20000 in
theorem ggX11_init_X10_init : GoodIn wsX11_init wsX10_init := goodIn_r _ [110, 111, 2, 3, 112, 113, 50, 114, 115, 116, 117, 118, 62, 63, 119, 13, 14, 120, 121, 9, 10, 122, 123, 67, 68, 69, 70, 71, 72, 73, 74, 75, 76, 124, 101, 102, 103, 104, 105, 106, 107, 338, 339, 340, 341, 342, 343, 344, 345, 346, 347, 348, 411, 412, 413, 414, 415, 416, 417, 418, 419, 420, 421, 422, 423, 333, 334, 335, 336, 337, 321, 322, 323, 324, 325, 326, 327, 328, 329, 330, 331, 332] (by decide +kernel) (by decide +kernel)
set_option maxRecDepth 20000 in
theorem gX11_init_X10_init : GoodIn wsX11_init (wsX10_init) := ggX11_init_X10_init
set_option maxRecDepth 20000 in
theorem ggX11_init_X5_init : GoodIn wsX11_init wsX5_init := goodIn_r _ [126, 127, 2, 3, 50, 128, 129, 130, 131, 132, 133, 134, 135, 349, 350, 351, 352, 353, 354, 355, 356, 357] (by decide +kernel) (by decide +kernel)
set_option maxRecDepth 20000 in
theorem gX11_init_X5_init_n44 : GoodIn wsX11_init (wsX5_init) := ggX11_init_X5_init
set_option maxRecDepth 20000 in
theorem ggX11_init_X9_init : GoodIn wsX11_init wsX9_init := goodIn_r _ [138, 139, 2, 3, 140, 141, 142, 73, 143, 50, 144, 145, 146, 147, 148, 149, 150, 133, 151, 152, 13, 14, 153, 154, 9, 10, 70, 71, 72, 74, 75, 76, 155, 101, 102, 103, 104, 105, 106, 107, 62, 63, 67, 68, 69, 358, 359, 360, 361, 362, 363, 364, 365, 366, 367, 368, 369, 333, 334, 335, 336, 337, 321, 322, 323, 324, 325, 326, 327, 328, 329, 330, 331, 332, 411, 412, 413, 414, 415, 416, 417, 418, 419, 420, 421, 422, 423] (by decide +kernel) (by decide +kernel)
set_option maxRecDepth 20000 in
theorem gX11_init_X9_init : GoodIn wsX11_init (wsX9_init) := ggX11_init_X9_init
set_option maxRecDepth 20000 in
theorem ggX11_init_X0_init : GoodIn wsX11_init wsX0_init := goodIn_r _ [158, 159, 2, 3, 50, 160, 161, 162, 163, 164, 133, 165, 166, 167, 168, 169, 170, 171, 370, 371, 372, 373, 374, 375, 376, 377, 378, 379, 380] (by decide +kernel) (by decide +kernel)
set_option maxRecDepth 20000 in
theorem gX11_init_X0_init : GoodIn wsX11_init (wsX0_init) := ggX11_init_X0_init
set_option maxRecDepth 20000 in
theorem ggX11_init_X4_init : GoodIn wsX11_init wsX4_init := goodIn_r _ [174, 175, 2, 3, 50, 176, 177, 178, 179, 133, 180, 181, 182, 381, 382, 383, 384, 385, 386, 387] (by decide +kernel) (by decide +kernel)
set_option maxRecDepth 20000 in
theorem gX11_init_X4_init : GoodIn wsX11_init (wsX4_init) := ggX11_init_X4_init
set_option maxRecDepth 20000 in
theorem ggX11_init_X6_init : GoodIn wsX11_init wsX6_init := goodIn_r _ [185, 186, 2, 3, 187, 50, 188, 189, 190, 191, 13, 14, 192, 193, 194, 195, 196, 197, 198, 70, 71, 72, 73, 74, 75, 76, 388, 389, 390, 391, 392, 393, 394, 395, 396, 397, 333, 334, 335, 336, 337] (by decide +kernel) (by decide +kernel)
set_option maxRecDepth 20000 in
theorem gX11_init_X6_init : GoodIn wsX11_init (wsX6_init) := ggX11_init_X6_init
set_option maxRecDepth 20000 in
theorem ggX11_init_X2_init : GoodIn wsX11_init wsX2_init := goodIn_r _ [201, 202, 2, 3, 50, 203, 204, 205, 206, 207, 149, 208, 209, 133, 210, 211, 212, 213, 398, 399, 400, 401, 402, 403, 404, 405, 406, 407, 408, 409, 410] (by decide +kernel) (by decide +kernel)
set_option maxRecDepth 20000 in
theorem gX11_init_X2_init : GoodIn wsX11_init (wsX2_init) := ggX11_init_X2_init
set_option maxRecDepth 20000 in
theorem ggX11_init_X1_read : GoodIn wsX11_init wsX1_read := goodIn_ca (goodIn_r _ [217, 218, 219, 220, 221, 222, 223, 224, 225, 105, 226, 107, 227, 228, 229, 230, 231, 232, 233, 10, 234, 235, 236, 237, 238, 104, 239, 240, 241, 242, 243, 244, 245, 246, 247, 248, 249, 250, 251, 252, 253, 63, 254, 255, 256, 257, 258, 259, 260, 261, 262, 263, 264, 265, 266, 267, 268, 269, 270, 271, 272, 273, 274, 275, 276, 277, 278, 86, 279, 280, 281, 282, 283, 284, 285, 286, 287, 288, 289, 290, 291, 292, 293, 321, 322, 323, 324, 325, 326, 327, 328, 329, 330, 331, 332, 411, 412, 413, 414, 415, 416, 417, 418, 419, 420, 421, 422, 423] (by decide +kernel) (by decide +kernel)) (goodIn_sub (fun _ h => List.mem_cons_of_mem _ (List.mem_append_right _ h)) (by decide +kernel))
set_option maxRecDepth 20000 in
theorem gX11_init_X1_read : GoodIn wsX11_init (wsV RX11 92 RX1 yX1_read wsX1_read) := goodIn_app (goodIn_of _ (by decide +kernel)) ggX11_init_X1_read
theorem dX11_init_0 : decode cX11_init 0 = .ok (.aload_n 0, 1) := by decide +kernel
theorem dX11_init_1 : decode cX11_init 1 = .ok (.invokespecial 1, 3) := by decide +kernel
theorem dX11_init_4 : decode cX11_init 4 = .ok (.aload_n 0, 1) := by decide +kernel
theorem dX11_init_5 : decode cX11_init 5 = .ok (.new 7, 3) := by decide +kernel
theorem dX11_init_8 : decode cX11_init 8 = .ok (.dup, 1) := by decide +kernel
theorem dX11_init_9 : decode cX11_init 9 = .ok (.invokespecial 9, 3) := by decide +kernel
theorem dX11_init_12 : decode cX11_init 12 = .ok (.putfield 10, 3) := by decide +kernel
theorem dX11_init_15 : decode cX11_init 15 = .ok (.aload_n 0, 1) := by decide +kernel
theorem dX11_init_16 : decode cX11_init 16 = .ok (.new 16, 3) := by decide +kernel
theorem dX11_init_19 : decode cX11_init 19 = .ok (.dup, 1) := by decide +kernel
theorem dX11_init_20 : decode cX11_init 20 = .ok (.invokespecial 18, 3) := by decide +kernel
theorem dX11_init_23 : decode cX11_init 23 = .ok (.putfield 19, 3) := by decide +kernel
theorem dX11_init_26 : decode cX11_init 26 = .ok (.aload_n 0, 1) := by decide +kernel
theorem dX11_init_27 : decode cX11_init 27 = .ok (.new 23, 3) := by decide +kernel
theorem dX11_init_30 : decode cX11_init 30 = .ok (.dup, 1) := by decide +kernel
theorem dX11_init_31 : decode cX11_init 31 = .ok (.invokespecial 25, 3) := by decide +kernel
theorem dX11_init_34 : decode cX11_init 34 = .ok (.putfield 26, 3) := by decide +kernel
theorem dX11_init_37 : decode cX11_init 37 = .ok (.aload_n 0, 1) := by decide +kernel
theorem dX11_init_38 : decode cX11_init 38 = .ok (.new 23, 3) := by decide +kernel
theorem dX11_init_41 : decode cX11_init 41 = .ok (.dup, 1) := by decide +kernel
theorem dX11_init_42 : decode cX11_init 42 = .ok (.invokespecial 25, 3) := by decide +kernel
theorem dX11_init_45 : decode cX11_init 45 = .ok (.putfield 30, 3) := by decide +kernel
theorem dX11_init_48 : decode cX11_init 48 = .ok (.aload_n 0, 1) := by decide +kernel
theorem dX11_init_49 : decode cX11_init 49 = .ok (.new 33, 3) := by decide +kernel
theorem dX11_init_52 : decode cX11_init 52 = .ok (.dup, 1) := by decide +kernel
theorem dX11_init_53 : decode cX11_init 53 = .ok (.aload_n 0, 1) := by decide +kernel
theorem dX11_init_54 : decode cX11_init 54 = .ok (.getfield 10, 3) := by decide +kernel
theorem dX11_init_57 : decode cX11_init 57 = .ok (.invokespecial 35, 3) := by decide +kernel
theorem dX11_init_60 : decode cX11_init 60 = .ok (.putfield 38, 3) := by decide +kernel
theorem dX11_init_63 : decode cX11_init 63 = .ok (.aload_n 0, 1) := by decide +kernel
theorem dX11_init_64 : decode cX11_init 64 = .ok (.new 42, 3) := by decide +kernel
theorem dX11_init_67 : decode cX11_init 67 = .ok (.dup, 1) := by decide +kernel
theorem dX11_init_68 : decode cX11_init 68 = .ok (.invokespecial 44, 3) := by decide +kernel
theorem dX11_init_71 : decode cX11_init 71 = .ok (.putfield 45, 3) := by decide +kernel
theorem dX11_init_74 : decode cX11_init 74 = .ok (.aload_n 0, 1) := by decide +kernel
theorem dX11_init_75 : decode cX11_init 75 = .ok (.new 49, 3) := by decide +kernel
theorem dX11_init_78 : decode cX11_init 78 = .ok (.dup, 1) := by decide +kernel
theorem dX11_init_79 : decode cX11_init 79 = .ok (.aload_n 0, 1) := by decide +kernel
theorem dX11_init_80 : decode cX11_init 80 = .ok (.getfield 10, 3) := by decide +kernel
theorem dX11_init_83 : decode cX11_init 83 = .ok (.invokespecial 51, 3) := by decide +kernel
theorem dX11_init_86 : decode cX11_init 86 = .ok (.putfield 52, 3) := by decide +kernel
theorem dX11_init_89 : decode cX11_init 89 = .ok (.aload_n 0, 1) := by decide +kernel
theorem dX11_init_90 : decode cX11_init 90 = .ok (.new 56, 3) := by decide +kernel
theorem dX11_init_93 : decode cX11_init 93 = .ok (.dup, 1) := by decide +kernel
theorem dX11_init_94 : decode cX11_init 94 = .ok (.aload_n 0, 1) := by decide +kernel
theorem dX11_init_95 : decode cX11_init 95 = .ok (.getfield 45, 3) := by decide +kernel
theorem dX11_init_98 : decode cX11_init 98 = .ok (.aload_n 0, 1) := by decide +kernel
theorem dX11_init_99 : decode cX11_init 99 = .ok (.getfield 52, 3) := by decide +kernel
theorem dX11_init_102 : decode cX11_init 102 = .ok (.invokespecial 58, 3) := by decide +kernel
theorem dX11_init_105 : decode cX11_init 105 = .ok (.putfield 61, 3) := by decide +kernel
theorem dX11_init_108 : decode cX11_init 108 = .ok (.aload_n 0, 1) := by decide +kernel
theorem dX11_init_109 : decode cX11_init 109 = .ok (.new 65, 3) := by decide +kernel
theorem dX11_init_112 : decode cX11_init 112 = .ok (.dup, 1) := by decide +kernel
theorem dX11_init_113 : decode cX11_init 113 = .ok (.aload_n 0, 1) := by decide +kernel
theorem dX11_init_114 : decode cX11_init 114 = .ok (.getfield 45, 3) := by decide +kernel
theorem dX11_init_117 : decode cX11_init 117 = .ok (.aload_n 0, 1) := by decide +kernel
theorem dX11_init_118 : decode cX11_init 118 = .ok (.getfield 61, 3) := by decide +kernel
theorem dX11_init_121 : decode cX11_init 121 = .ok (.invokespecial 67, 3) := by decide +kernel
theorem dX11_init_124 : decode cX11_init 124 = .ok (.putfield 70, 3) := by decide +kernel
theorem dX11_init_127 : decode cX11_init 127 = .ok (.aload_n 0, 1) := by decide +kernel
theorem dX11_init_128 : decode cX11_init 128 = .ok (.new 74, 3) := by decide +kernel
theorem dX11_init_131 : decode cX11_init 131 = .ok (.dup, 1) := by decide +kernel
theorem dX11_init_132 : decode cX11_init 132 = .ok (.aload_n 0, 1) := by decide +kernel
theorem dX11_init_133 : decode cX11_init 133 = .ok (.getfield 45, 3) := by decide +kernel
theorem dX11_init_136 : decode cX11_init 136 = .ok (.aload_n 0, 1) := by decide +kernel
theorem dX11_init_137 : decode cX11_init 137 = .ok (.getfield 52, 3) := by decide +kernel
theorem dX11_init_140 : decode cX11_init 140 = .ok (.aload_n 0, 1) := by decide +kernel
theorem dX11_init_141 : decode cX11_init 141 = .ok (.getfield 61, 3) := by decide +kernel
theorem dX11_init_144 : decode cX11_init 144 = .ok (.aload_n 0, 1) := by decide +kernel
theorem dX11_init_145 : decode cX11_init 145 = .ok (.getfield 70, 3) := by decide +kernel
theorem dX11_init_148 : decode cX11_init 148 = .ok (.aload_n 0, 1) := by decide +kernel
theorem dX11_init_149 : decode cX11_init 149 = .ok (.getfield 10, 3) := by decide +kernel
theorem dX11_init_152 : decode cX11_init 152 = .ok (.invokespecial 76, 3) := by decide +kernel
theorem dX11_init_155 : decode cX11_init 155 = .ok (.putfield 79, 3) := by decide +kernel
theorem dX11_init_158 : decode cX11_init 158 = .ok (.aload_n 0, 1) := by decide +kernel
theorem dX11_init_159 : decode cX11_init 159 = .ok (.new 83, 3) := by decide +kernel
theorem dX11_init_162 : decode cX11_init 162 = .ok (.dup, 1) := by decide +kernel
theorem dX11_init_163 : decode cX11_init 163 = .ok (.aload_n 0, 1) := by decide +kernel
theorem dX11_init_164 : decode cX11_init 164 = .ok (.getfield 52, 3) := by decide +kernel
theorem dX11_init_167 : decode cX11_init 167 = .ok (.aload_n 0, 1) := by decide +kernel
theorem dX11_init_168 : decode cX11_init 168 = .ok (.getfield 61, 3) := by decide +kernel
theorem dX11_init_171 : decode cX11_init 171 = .ok (.invokespecial 85, 3) := by decide +kernel
theorem dX11_init_174 : decode cX11_init 174 = .ok (.putfield 88, 3) := by decide +kernel
theorem dX11_init_177 : decode cX11_init 177 = .ok (.aload_n 0, 1) := by decide +kernel
theorem dX11_init_178 : decode cX11_init 178 = .ok (.getfield 19, 3) := by decide +kernel
theorem dX11_init_181 : decode cX11_init 181 = .ok (.invokevirtual 92, 3) := by decide +kernel
theorem dX11_init_184 : decode cX11_init 184 = .ok (.return_, 1) := by decide +kernel
set_option maxRecDepth 20000 in
theorem ggX11_type_X1_add : GoodIn wsX11_type wsX1_add := goodIn_ca (goodIn_r _ [11, 12, 13, 118, 119, 120, 121, 122, 123, 124, 125, 126, 127, 128, 129] (by decide +kernel) (by decide +kernel)) (goodIn_sub (fun _ h => List.mem_cons_of_mem _ (List.mem_append_right _ h)) (by decide +kernel))
set_option maxRecDepth 20000 in
theorem gX11_type_X1_add : GoodIn wsX11_type (wsV RX11 111 RX1 yX1_add wsX1_add) := goodIn_app (goodIn_of _ (by decide +kernel)) ggX11_type_X1_add
set_option maxRecDepth 20000 in
theorem ggX11_type_X1_read : GoodIn wsX11_type wsX1_read := goodIn_ca (goodIn_r _ [17, 18, 19, 20, 21, 22, 23, 24, 25, 26, 12, 27, 28, 29, 30, 31, 32, 33, 34, 10, 35, 36, 37, 38, 39, 13, 40, 41, 42, 43, 44, 45, 46, 47, 48, 49, 50, 51, 52, 53, 54, 55, 56, 57, 58, 59, 60, 61, 62, 63, 64, 65, 66, 67, 68, 69, 70, 71, 72, 73, 74, 75, 76, 77, 78, 79, 80, 81, 82, 83, 84, 85, 86, 87, 88, 89, 90, 91, 92, 93, 94, 95, 96, 118, 119, 120, 121, 122, 123, 124, 125, 126, 127, 128, 129, 130, 131, 132, 133, 134, 135, 136, 137, 138, 139, 140, 141, 142] (by decide +kernel) (by decide +kernel)) (goodIn_sub (fun _ h => List.mem_cons_of_mem _ (List.mem_append_right _ h)) (by decide +kernel))
set_option maxRecDepth 20000 in
theorem gX11_type_X1_read : GoodIn wsX11_type (wsV RX11 92 RX1 yX1_read wsX1_read) := goodIn_app (goodIn_of _ (by decide +kernel)) ggX11_type_X1_read
set_option maxRecDepth 20000 in
theorem ggX11_type_X11_forgetRow : GoodIn wsX11_type wsX11_forgetRow := goodIn_r _ [101, 102, 103, 104, 105, 106, 107, 108, 109, 110, 111, 112, 113, 114, 115, 116, 117] (by decide +kernel) (by decide +kernel)
set_option maxRecDepth 20000 in
theorem gX11_type_X11_forgetRow : GoodIn wsX11_type (wsV RX11 115 RX11 yX11_forgetRow wsX11_forgetRow) := goodIn_app (goodIn_of _ (by decide +kernel)) ggX11_type_X11_forgetRow
theorem dX11_type_0 : decode cX11_type 0 = .ok (.iload_n 1, 1) := by decide +kernel
theorem dX11_type_1 : decode cX11_type 1 = .ok (.ifCond .lt 9, 3) := by decide +kernel
theorem dX11_type_4 : decode cX11_type 4 = .ok (.iload_n 1, 1) := by decide +kernel
theorem dX11_type_5 : decode cX11_type 5 = .ok (.bipush 99, 2) := by decide +kernel
theorem dX11_type_7 : decode cX11_type 7 = .ok (.if_icmp .le 13, 3) := by decide +kernel
theorem dX11_type_10 : decode cX11_type 10 = .ok (.new 95, 3) := by decide +kernel
theorem dX11_type_13 : decode cX11_type 13 = .ok (.dup, 1) := by decide +kernel
theorem dX11_type_14 : decode cX11_type 14 = .ok (.ldc 97, 2) := by decide +kernel
theorem dX11_type_16 : decode cX11_type 16 = .ok (.invokespecial 99, 3) := by decide +kernel
theorem dX11_type_19 : decode cX11_type 19 = .ok (.athrow, 1) := by decide +kernel
theorem dX11_type_20 : decode cX11_type 20 = .ok (.aload_n 0, 1) := by decide +kernel
theorem dX11_type_21 : decode cX11_type 21 = .ok (.getfield 19, 3) := by decide +kernel
theorem dX11_type_24 : decode cX11_type 24 = .ok (.getfield 102, 3) := by decide +kernel
theorem dX11_type_27 : decode cX11_type 27 = .ok (.bipush 24, 2) := by decide +kernel
theorem dX11_type_29 : decode cX11_type 29 = .ok (.if_icmp .lt 13, 3) := by decide +kernel
theorem dX11_type_32 : decode cX11_type 32 = .ok (.new 106, 3) := by decide +kernel
theorem dX11_type_35 : decode cX11_type 35 = .ok (.dup, 1) := by decide +kernel
theorem dX11_type_36 : decode cX11_type 36 = .ok (.ldc 108, 2) := by decide +kernel
theorem dX11_type_38 : decode cX11_type 38 = .ok (.invokespecial 110, 3) := by decide +kernel
theorem dX11_type_41 : decode cX11_type 41 = .ok (.athrow, 1) := by decide +kernel
theorem dX11_type_42 : decode cX11_type 42 = .ok (.aload_n 0, 1) := by decide +kernel
theorem dX11_type_43 : decode cX11_type 43 = .ok (.getfield 19, 3) := by decide +kernel
theorem dX11_type_46 : decode cX11_type 46 = .ok (.iload_n 1, 1) := by decide +kernel
theorem dX11_type_47 : decode cX11_type 47 = .ok (.invokevirtual 111, 3) := by decide +kernel
theorem dX11_type_50 : decode cX11_type 50 = .ok (.aload_n 0, 1) := by decide +kernel
theorem dX11_type_51 : decode cX11_type 51 = .ok (.getfield 19, 3) := by decide +kernel
theorem dX11_type_54 : decode cX11_type 54 = .ok (.invokevirtual 92, 3) := by decide +kernel
theorem dX11_type_57 : decode cX11_type 57 = .ok (.aload_n 0, 1) := by decide +kernel
theorem dX11_type_58 : decode cX11_type 58 = .ok (.invokevirtual 115, 3) := by decide +kernel
theorem dX11_type_61 : decode cX11_type 61 = .ok (.aload_n 0, 1) := by decide +kernel
theorem dX11_type_62 : decode cX11_type 62 = .ok (.getfield 19, 3) := by decide +kernel
theorem dX11_type_65 : decode cX11_type 65 = .ok (.getfield 102, 3) := by decide +kernel
theorem dX11_type_68 : decode cX11_type 68 = .ok (.ireturn, 1) := by decide +kernel
set_option maxRecDepth 20000 in
theorem ggX11_erase_X11_emptyRow : GoodIn wsX11_erase wsX11_emptyRow := goodIn_ca (goodIn_r _ [7, 1, 8, 9, 10, 11, 12, 13, 14, 15, 16, 17, 18, 19, 20, 21, 22, 23, 24, 25, 26, 27, 28, 29, 30, 31, 32, 33, 34, 35, 36, 37, 38, 39, 40, 41, 42, 43, 44, 45, 46, 47, 48, 49, 50, 51, 52, 53, 54, 55, 56, 57, 58, 59, 60, 61, 62, 63, 64, 65, 66, 67, 68, 69, 70, 71, 72, 73, 74, 75, 76, 77, 78, 79, 80, 81, 82, 83, 84, 85, 86, 87, 88, 89, 90, 91, 92, 93, 94, 95, 96, 97, 98, 99, 100, 6, 101, 102, 103, 104, 105, 106, 107, 108, 109, 110, 111, 112, 113, 114, 115, 116, 117, 118, 119, 120, 121, 122, 123, 124, 125, 126, 127, 128, 129, 130, 131, 132, 133, 134, 135, 136, 137, 138, 139, 140, 141, 142] (by decide +kernel) (by decide +kernel)) (goodIn_sub (fun _ h => List.mem_cons_of_mem _ (List.mem_append_right _ h)) (by decide +kernel))
set_option maxRecDepth 20000 in
theorem gX11_erase_X11_emptyRow : GoodIn wsX11_erase (wsV RX11 118 RX11 yX11_emptyRow wsX11_emptyRow) := goodIn_app (goodIn_of _ (by decide +kernel)) ggX11_erase_X11_emptyRow
theorem dX11_erase_0 : decode cX11_erase 0 = .ok (.aload_n 0, 1) := by decide +kernel
theorem dX11_erase_1 : decode cX11_erase 1 = .ok (.getfield 19, 3) := by decide +kernel
theorem dX11_erase_4 : decode cX11_erase 4 = .ok (.getfield 102, 3) := by decide +kernel
theorem dX11_erase_7 : decode cX11_erase 7 = .ok (.istore_n 1, 1) := by decide +kernel
theorem dX11_erase_8 : decode cX11_erase 8 = .ok (.aload_n 0, 1) := by decide +kernel
theorem dX11_erase_9 : decode cX11_erase 9 = .ok (.invokevirtual 118, 3) := by decide +kernel
theorem dX11_erase_12 : decode cX11_erase 12 = .ok (.iload_n 1, 1) := by decide +kernel
theorem dX11_erase_13 : decode cX11_erase 13 = .ok (.ireturn, 1) := by decide +kernel
theorem dX11_wrongAt_0 : decode cX11_wrongAt 0 = .ok (.aload_n 0, 1) := by decide +kernel
theorem dX11_wrongAt_1 : decode cX11_wrongAt 1 = .ok (.getfield 19, 3) := by decide +kernel
theorem dX11_wrongAt_4 : decode cX11_wrongAt 4 = .ok (.getfield 121, 3) := by decide +kernel
theorem dX11_wrongAt_7 : decode cX11_wrongAt 7 = .ok (.ireturn, 1) := by decide +kernel
set_option maxRecDepth 20000 in
theorem ggX11_point_X11_needPoint : GoodIn wsX11_point wsX11_needPoint := goodIn_ca (goodIn_r _ [6, 7, 8] (by decide +kernel) (by decide +kernel)) (goodIn_sub (fun _ h => List.mem_cons_of_mem _ (List.mem_append_left _ (List.mem_append_left _ (List.mem_append_right _ h)))) (by decide +kernel))
set_option maxRecDepth 20000 in
theorem gX11_point_X11_needPoint : GoodIn wsX11_point (wsV RX11 124 RX11 yX11_needPoint wsX11_needPoint) := goodIn_app (goodIn_of _ (by decide +kernel)) ggX11_point_X11_needPoint
set_option maxRecDepth 20000 in
theorem ggX11_point_X11_needBlazon : GoodIn wsX11_point wsX11_needBlazon := goodIn_ca (goodIn_r _ [12, 13, 14, 15, 16, 151, 152, 153, 154, 155, 156, 157, 158, 159, 160, 161, 162, 163, 164, 165, 166, 167, 168, 169, 170, 171, 172, 173, 174, 175, 176] (by decide +kernel) (by decide +kernel)) (goodIn_sub (fun _ h => List.mem_cons_of_mem _ (List.mem_append_left _ (List.mem_append_right _ h))) (by decide +kernel))
set_option maxRecDepth 20000 in
theorem gX11_point_X11_needBlazon : GoodIn wsX11_point (wsV RX11 128 RX11 yX11_needBlazon wsX11_needBlazon) := goodIn_app (goodIn_of _ (by decide +kernel)) ggX11_point_X11_needBlazon
set_option maxRecDepth 20000 in
theorem ggX11_point_X11_drawRow : GoodIn wsX11_point wsX11_drawRow := goodIn_ca (goodIn_r _ [20, 21, 22, 1, 15, 23, 24, 25, 26, 27, 28, 29, 30, 31, 32, 33, 34, 35, 36, 37, 38, 39, 40, 41, 42, 43, 44, 45, 46, 47, 48, 49, 50, 51, 52, 53, 54, 55, 56, 57, 58, 59, 60, 61, 62, 63, 64, 65, 66, 67, 68, 69, 70, 71, 72, 73, 74, 75, 76, 77, 78, 79, 80, 81, 82, 83, 84, 85, 86, 87, 88, 89, 90, 91, 92, 93, 94, 95, 96, 97, 98, 99, 100, 101, 102, 103, 104, 105, 106, 107, 108, 109, 110, 111, 112, 113, 114, 115, 116, 117, 118, 119, 120, 121, 122, 123, 124, 125, 126, 127, 128, 129, 130, 131, 132, 133, 134, 135, 136, 137, 138, 139, 140, 141, 142, 143, 151, 152, 153, 154, 155, 156, 157, 158, 159, 160, 161, 162, 163, 164, 165, 166, 167, 168, 169, 170, 171, 172, 173, 174, 175, 176, 177, 178, 179, 180, 181, 182, 183, 184, 185, 186, 187, 188, 189, 190, 191, 192, 193, 194, 195, 196, 197, 198, 199, 200, 201, 202, 203, 204, 205, 206, 207] (by decide +kernel) (by decide +kernel)) (goodIn_sub (fun _ h => List.mem_cons_of_mem _ (List.mem_append_right _ h)) (by decide +kernel))
set_option maxRecDepth 20000 in
theorem gX11_point_X11_drawRow : GoodIn wsX11_point (wsV RX11 131 RX11 yX11_drawRow wsX11_drawRow) := goodIn_app (goodIn_of _ (by decide +kernel)) ggX11_point_X11_drawRow
set_option maxRecDepth 20000 in
theorem ggX11_point_X8_tinctureAt : GoodIn wsX11_point wsX8_tinctureAt := goodIn_ca (goodIn_r _ [147, 55, 148, 149, 49, 150, 190, 191, 192, 193, 194] (by decide +kernel) (by decide +kernel)) (goodIn_sub (fun _ h => List.mem_cons_of_mem _ (List.mem_append_right _ h)) (by decide +kernel))
set_option maxRecDepth 20000 in
theorem gX11_point_X8_tinctureAt : GoodIn wsX11_point (wsV RX11 134 RX8 yX8_tinctureAt wsX8_tinctureAt) := goodIn_app (goodIn_of _ (by decide +kernel)) ggX11_point_X8_tinctureAt
theorem dX11_point_0 : decode cX11_point 0 = .ok (.aload_n 0, 1) := by decide +kernel
theorem dX11_point_1 : decode cX11_point 1 = .ok (.iload_n 1, 1) := by decide +kernel
theorem dX11_point_2 : decode cX11_point 2 = .ok (.iload_n 2, 1) := by decide +kernel
theorem dX11_point_3 : decode cX11_point 3 = .ok (.invokevirtual 124, 3) := by decide +kernel
theorem dX11_point_6 : decode cX11_point 6 = .ok (.aload_n 0, 1) := by decide +kernel
theorem dX11_point_7 : decode cX11_point 7 = .ok (.invokevirtual 128, 3) := by decide +kernel
theorem dX11_point_10 : decode cX11_point 10 = .ok (.aload_n 0, 1) := by decide +kernel
theorem dX11_point_11 : decode cX11_point 11 = .ok (.invokevirtual 131, 3) := by decide +kernel
theorem dX11_point_14 : decode cX11_point 14 = .ok (.aload_n 0, 1) := by decide +kernel
theorem dX11_point_15 : decode cX11_point 15 = .ok (.getfield 26, 3) := by decide +kernel
theorem dX11_point_18 : decode cX11_point 18 = .ok (.iload_n 1, 1) := by decide +kernel
theorem dX11_point_19 : decode cX11_point 19 = .ok (.iload_n 2, 1) := by decide +kernel
theorem dX11_point_20 : decode cX11_point 20 = .ok (.invokevirtual 134, 3) := by decide +kernel
theorem dX11_point_23 : decode cX11_point 23 = .ok (.ireturn, 1) := by decide +kernel
set_option maxRecDepth 20000 in
theorem ggX11_points_X11_needShape : GoodIn wsX11_points wsX11_needShape := goodIn_ca (goodIn_r _ [7, 8, 9, 10, 11, 12, 6, 13] (by decide +kernel) (by decide +kernel)) (goodIn_sub (fun _ h => List.mem_cons_of_mem _ (List.mem_append_left _ (List.mem_append_left _ (List.mem_append_right _ h)))) (by decide +kernel))
set_option maxRecDepth 20000 in
theorem gX11_points_X11_needShape : GoodIn wsX11_points (wsV RX11 138 RX11 yX11_needShape wsX11_needShape) := goodIn_app (goodIn_of _ (by decide +kernel)) ggX11_points_X11_needShape
set_option maxRecDepth 20000 in
theorem ggX11_points_X11_needBlazon : GoodIn wsX11_points wsX11_needBlazon := goodIn_ca (goodIn_r _ [17, 18, 19, 20, 21, 167, 168, 169, 170, 171, 172, 173, 174, 175, 176, 177, 178, 179, 180, 181, 182, 183, 184, 185, 186, 187, 188, 189, 190, 191, 192] (by decide +kernel) (by decide +kernel)) (goodIn_sub (fun _ h => List.mem_cons_of_mem _ (List.mem_append_left _ (List.mem_append_right _ h))) (by decide +kernel))
set_option maxRecDepth 20000 in
theorem gX11_points_X11_needBlazon : GoodIn wsX11_points (wsV RX11 128 RX11 yX11_needBlazon wsX11_needBlazon) := goodIn_app (goodIn_of _ (by decide +kernel)) ggX11_points_X11_needBlazon
set_option maxRecDepth 20000 in
theorem ggX11_points_X11_drawRow : GoodIn wsX11_points wsX11_drawRow := goodIn_ca (goodIn_r _ [25, 26, 2, 1, 20, 27, 28, 29, 30, 31, 32, 33, 34, 35, 36, 37, 38, 39, 40, 41, 42, 43, 44, 45, 46, 47, 48, 49, 50, 51, 52, 53, 54, 55, 56, 57, 58, 59, 60, 61, 62, 63, 64, 65, 66, 67, 68, 69, 70, 71, 72, 73, 74, 75, 76, 77, 78, 79, 80, 81, 82, 83, 84, 85, 86, 87, 88, 89, 90, 91, 92, 93, 94, 95, 96, 97, 98, 99, 100, 101, 102, 103, 104, 105, 106, 107, 108, 109, 110, 111, 112, 113, 114, 115, 116, 117, 118, 119, 120, 121, 122, 123, 124, 125, 126, 127, 128, 129, 130, 131, 132, 133, 134, 135, 136, 137, 138, 139, 140, 141, 142, 143, 144, 145, 146, 147, 167, 168, 169, 170, 171, 172, 173, 174, 175, 176, 177, 178, 179, 180, 181, 182, 183, 184, 185, 186, 187, 188, 189, 190, 191, 192, 193, 194, 195, 196, 197, 198, 199, 200, 201, 202, 203, 204, 205, 206, 207, 208, 209, 210, 211, 212, 213, 214, 215, 216, 217, 218, 219, 220, 221, 222, 223] (by decide +kernel) (by decide +kernel)) (goodIn_sub (fun _ h => List.mem_cons_of_mem _ (List.mem_append_right _ h)) (by decide +kernel))
set_option maxRecDepth 20000 in
theorem gX11_points_X11_drawRow : GoodIn wsX11_points (wsV RX11 131 RX11 yX11_drawRow wsX11_drawRow) := goodIn_app (goodIn_of _ (by decide +kernel)) ggX11_points_X11_drawRow
set_option maxRecDepth 20000 in
theorem ggX11_points_X7_shapeRows : GoodIn wsX11_points wsX7_shapeRows := goodIn_r _ [151, 152, 46, 193, 194, 195, 196, 197, 198, 199, 200, 201, 202, 203, 204, 205] (by decide +kernel) (by decide +kernel)
set_option maxRecDepth 20000 in
theorem gX11_points_X7_shapeRows : GoodIn wsX11_points (wsV RX11 141 RX7 yX7_shapeRows wsX7_shapeRows) := goodIn_app (goodIn_of _ (by decide +kernel)) ggX11_points_X7_shapeRows
set_option maxRecDepth 20000 in
theorem ggX11_points_X8_countOf : GoodIn wsX11_points wsX8_countOf := goodIn_ca (goodIn_r _ [156, 59, 60, 61, 157, 158, 53, 159, 66, 67, 68, 69, 70, 71, 72, 160, 161, 162, 163, 164, 165, 166, 206, 207, 208, 209, 210] (by decide +kernel) (by decide +kernel)) (goodIn_sub (fun _ h => List.mem_cons_of_mem _ (List.mem_append_right _ h)) (by decide +kernel))
set_option maxRecDepth 20000 in
theorem gX11_points_X8_countOf : GoodIn wsX11_points (wsV RX11 145 RX8 yX8_countOf wsX8_countOf) := goodIn_app (goodIn_of _ (by decide +kernel)) ggX11_points_X8_countOf
theorem dX11_points_0 : decode cX11_points 0 = .ok (.aload_n 0, 1) := by decide +kernel
theorem dX11_points_1 : decode cX11_points 1 = .ok (.iload_n 1, 1) := by decide +kernel
theorem dX11_points_2 : decode cX11_points 2 = .ok (.iload_n 2, 1) := by decide +kernel
theorem dX11_points_3 : decode cX11_points 3 = .ok (.invokevirtual 138, 3) := by decide +kernel
theorem dX11_points_6 : decode cX11_points 6 = .ok (.aload_n 0, 1) := by decide +kernel
theorem dX11_points_7 : decode cX11_points 7 = .ok (.invokevirtual 128, 3) := by decide +kernel
theorem dX11_points_10 : decode cX11_points 10 = .ok (.aload_n 0, 1) := by decide +kernel
theorem dX11_points_11 : decode cX11_points 11 = .ok (.invokevirtual 131, 3) := by decide +kernel
theorem dX11_points_14 : decode cX11_points 14 = .ok (.aload_n 0, 1) := by decide +kernel
theorem dX11_points_15 : decode cX11_points 15 = .ok (.getfield 26, 3) := by decide +kernel
theorem dX11_points_18 : decode cX11_points 18 = .ok (.aload_n 0, 1) := by decide +kernel
theorem dX11_points_19 : decode cX11_points 19 = .ok (.getfield 10, 3) := by decide +kernel
theorem dX11_points_22 : decode cX11_points 22 = .ok (.iload_n 1, 1) := by decide +kernel
theorem dX11_points_23 : decode cX11_points 23 = .ok (.invokevirtual 141, 3) := by decide +kernel
theorem dX11_points_26 : decode cX11_points 26 = .ok (.iload_n 2, 1) := by decide +kernel
theorem dX11_points_27 : decode cX11_points 27 = .ok (.invokevirtual 145, 3) := by decide +kernel
theorem dX11_points_30 : decode cX11_points 30 = .ok (.ireturn, 1) := by decide +kernel
set_option maxRecDepth 20000 in
theorem ggX11_breaks_X11_needBlazon : GoodIn wsX11_breaks wsX11_needBlazon := goodIn_ca (goodIn_r _ [6, 7, 8, 1, 9, 26, 27, 28, 29, 30, 31, 32, 33, 34, 35, 36, 37, 38, 39, 40, 41, 42, 43, 44, 45, 46, 47, 48, 49, 50, 51] (by decide +kernel) (by decide +kernel)) (goodIn_sub (fun _ h => List.mem_cons_of_mem _ (List.mem_append_right _ h)) (by decide +kernel))
set_option maxRecDepth 20000 in
theorem gX11_breaks_X11_needBlazon : GoodIn wsX11_breaks (wsV RX11 128 RX11 yX11_needBlazon wsX11_needBlazon) := goodIn_app (goodIn_of _ (by decide +kernel)) ggX11_breaks_X11_needBlazon
set_option maxRecDepth 20000 in
theorem ggX11_breaks_X1_countBreaks : GoodIn wsX11_breaks wsX1_countBreaks := goodIn_r _ [14, 15, 16, 17, 18, 19, 20, 21, 22, 23, 24, 13, 25, 40, 41, 42, 43, 44, 45, 46, 47, 48, 49, 50, 51, 52, 53, 54, 55, 56, 57, 58, 59, 60, 61, 62, 63, 64] (by decide +kernel) (by decide +kernel)
set_option maxRecDepth 20000 in
theorem gX11_breaks_X1_countBreaks : GoodIn wsX11_breaks (wsV RX11 149 RX1 yX1_countBreaks wsX1_countBreaks) := goodIn_app (goodIn_of _ (by decide +kernel)) ggX11_breaks_X1_countBreaks
theorem dX11_breaks_0 : decode cX11_breaks 0 = .ok (.aload_n 0, 1) := by decide +kernel
theorem dX11_breaks_1 : decode cX11_breaks 1 = .ok (.invokevirtual 128, 3) := by decide +kernel
theorem dX11_breaks_4 : decode cX11_breaks 4 = .ok (.aload_n 0, 1) := by decide +kernel
theorem dX11_breaks_5 : decode cX11_breaks 5 = .ok (.getfield 19, 3) := by decide +kernel
theorem dX11_breaks_8 : decode cX11_breaks 8 = .ok (.invokevirtual 149, 3) := by decide +kernel
theorem dX11_breaks_11 : decode cX11_breaks 11 = .ok (.ireturn, 1) := by decide +kernel
set_option maxRecDepth 20000 in
theorem ggX11_drawn_X11_needBlazon : GoodIn wsX11_drawn wsX11_needBlazon := goodIn_ca (goodIn_r _ [13, 14, 15, 3, 16, 146, 147, 148, 149, 150, 151, 152, 153, 154, 155, 156, 157, 158, 159, 160, 161, 162, 163, 164, 165, 166, 167, 168, 169, 170, 171] (by decide +kernel) (by decide +kernel)) (goodIn_sub (fun _ h => List.mem_cons_of_mem _ (List.mem_append_left _ (List.mem_append_right _ h))) (by decide +kernel))
set_option maxRecDepth 20000 in
theorem gX11_drawn_X11_needBlazon : GoodIn wsX11_drawn (wsV RX11 128 RX11 yX11_needBlazon wsX11_needBlazon) := goodIn_app (goodIn_of _ (by decide +kernel)) ggX11_drawn_X11_needBlazon
set_option maxRecDepth 20000 in
theorem ggX11_drawn_X1_group : GoodIn wsX11_drawn wsX1_group := goodIn_r _ [21, 22, 160, 161, 162, 163, 164, 165, 166, 167, 168, 169, 170, 171] (by decide +kernel) (by decide +kernel)
set_option maxRecDepth 20000 in
theorem gX11_drawn_X1_group : GoodIn wsX11_drawn (wsV RX11 161 RX1 yX1_group wsX1_group) := goodIn_app (goodIn_of _ (by decide +kernel)) ggX11_drawn_X1_group
set_option maxRecDepth 20000 in
theorem ggX11_drawn_X11_drawRow : GoodIn wsX11_drawn wsX11_drawRow := goodIn_ca (goodIn_r _ [26, 27, 28, 29, 3, 30, 31, 32, 33, 34, 35, 36, 37, 38, 39, 40, 41, 42, 43, 44, 45, 46, 47, 48, 49, 50, 51, 52, 53, 54, 55, 56, 57, 58, 59, 60, 61, 62, 63, 64, 65, 66, 67, 68, 69, 70, 71, 72, 73, 74, 75, 76, 18, 19, 20, 21, 22, 77, 78, 79, 80, 81, 82, 83, 84, 85, 86, 87, 88, 89, 90, 91, 92, 93, 94, 95, 96, 97, 98, 99, 100, 101, 102, 103, 104, 105, 106, 107, 108, 109, 110, 111, 112, 113, 114, 115, 116, 117, 118, 119, 120, 121, 122, 123, 124, 125, 126, 127, 128, 129, 130, 131, 132, 133, 134, 135, 136, 137, 138, 139, 140, 141, 142, 143, 144, 145, 146, 147, 148, 149, 150, 151, 152, 153, 154, 155, 156, 157, 158, 159, 160, 161, 162, 163, 164, 165, 166, 167, 168, 169, 170, 171, 185, 186, 187, 188, 189, 190, 191, 192, 193, 194, 195, 196, 197, 198, 199, 200, 201, 202, 172, 173, 174, 175, 176, 177, 178, 179, 180, 181, 182, 183, 184] (by decide +kernel) (by decide +kernel)) (goodIn_sub (fun _ h => List.mem_cons_of_mem _ (List.mem_append_right _ h)) (by decide +kernel))
set_option maxRecDepth 20000 in
theorem gX11_drawn_X11_drawRow : GoodIn wsX11_drawn (wsV RX11 131 RX11 yX11_drawRow wsX11_drawRow) := goodIn_app (goodIn_of _ (by decide +kernel)) ggX11_drawn_X11_drawRow
theorem dX11_drawn_0 : decode cX11_drawn 0 = .ok (.aload_n 0, 1) := by decide +kernel
theorem dX11_drawn_1 : decode cX11_drawn 1 = .ok (.invokevirtual 128, 3) := by decide +kernel
theorem dX11_drawn_4 : decode cX11_drawn 4 = .ok (.iload_n 1, 1) := by decide +kernel
theorem dX11_drawn_5 : decode cX11_drawn 5 = .ok (.ifCond .lt 14, 3) := by decide +kernel
theorem dX11_drawn_8 : decode cX11_drawn 8 = .ok (.iload_n 1, 1) := by decide +kernel
theorem dX11_drawn_9 : decode cX11_drawn 9 = .ok (.aload_n 0, 1) := by decide +kernel
theorem dX11_drawn_10 : decode cX11_drawn 10 = .ok (.getfield 19, 3) := by decide +kernel
theorem dX11_drawn_13 : decode cX11_drawn 13 = .ok (.getfield 153, 3) := by decide +kernel
theorem dX11_drawn_16 : decode cX11_drawn 16 = .ok (.if_icmp .lt 13, 3) := by decide +kernel
theorem dX11_drawn_19 : decode cX11_drawn 19 = .ok (.new 156, 3) := by decide +kernel
theorem dX11_drawn_22 : decode cX11_drawn 22 = .ok (.dup, 1) := by decide +kernel
theorem dX11_drawn_23 : decode cX11_drawn 23 = .ok (.ldc 158, 2) := by decide +kernel
theorem dX11_drawn_25 : decode cX11_drawn 25 = .ok (.invokespecial 160, 3) := by decide +kernel
theorem dX11_drawn_28 : decode cX11_drawn 28 = .ok (.athrow, 1) := by decide +kernel
theorem dX11_drawn_29 : decode cX11_drawn 29 = .ok (.aload_n 0, 1) := by decide +kernel
theorem dX11_drawn_30 : decode cX11_drawn 30 = .ok (.getfield 19, 3) := by decide +kernel
theorem dX11_drawn_33 : decode cX11_drawn 33 = .ok (.iload_n 1, 1) := by decide +kernel
theorem dX11_drawn_34 : decode cX11_drawn 34 = .ok (.invokevirtual 161, 3) := by decide +kernel
theorem dX11_drawn_37 : decode cX11_drawn 37 = .ok (.astore_n 3, 1) := by decide +kernel
theorem dX11_drawn_38 : decode cX11_drawn 38 = .ok (.iload_n 2, 1) := by decide +kernel
theorem dX11_drawn_39 : decode cX11_drawn 39 = .ok (.ifCond .eq 10, 3) := by decide +kernel
theorem dX11_drawn_42 : decode cX11_drawn 42 = .ok (.aload_n 3, 1) := by decide +kernel
theorem dX11_drawn_43 : decode cX11_drawn 43 = .ok (.getfield 165, 3) := by decide +kernel
theorem dX11_drawn_46 : decode cX11_drawn 46 = .ok (.goto 7, 3) := by decide +kernel
theorem dX11_drawn_49 : decode cX11_drawn 49 = .ok (.aload_n 3, 1) := by decide +kernel
theorem dX11_drawn_50 : decode cX11_drawn 50 = .ok (.getfield 170, 3) := by decide +kernel
theorem dX11_drawn_53 : decode cX11_drawn 53 = .ok (.ifCond .ne 13, 3) := by decide +kernel
theorem dX11_drawn_56 : decode cX11_drawn 56 = .ok (.new 156, 3) := by decide +kernel
theorem dX11_drawn_59 : decode cX11_drawn 59 = .ok (.dup, 1) := by decide +kernel
theorem dX11_drawn_60 : decode cX11_drawn 60 = .ok (.ldc 173, 2) := by decide +kernel
theorem dX11_drawn_62 : decode cX11_drawn 62 = .ok (.invokespecial 160, 3) := by decide +kernel
theorem dX11_drawn_65 : decode cX11_drawn 65 = .ok (.athrow, 1) := by decide +kernel
theorem dX11_drawn_66 : decode cX11_drawn 66 = .ok (.aload_n 0, 1) := by decide +kernel
theorem dX11_drawn_67 : decode cX11_drawn 67 = .ok (.invokevirtual 131, 3) := by decide +kernel
theorem dX11_drawn_70 : decode cX11_drawn 70 = .ok (.iload_n 2, 1) := by decide +kernel
theorem dX11_drawn_71 : decode cX11_drawn 71 = .ok (.ifCond .eq 10, 3) := by decide +kernel
theorem dX11_drawn_74 : decode cX11_drawn 74 = .ok (.aload_n 3, 1) := by decide +kernel
theorem dX11_drawn_75 : decode cX11_drawn 75 = .ok (.getfield 175, 3) := by decide +kernel
theorem dX11_drawn_78 : decode cX11_drawn 78 = .ok (.goto 7, 3) := by decide +kernel
theorem dX11_drawn_81 : decode cX11_drawn 81 = .ok (.aload_n 3, 1) := by decide +kernel
theorem dX11_drawn_82 : decode cX11_drawn 82 = .ok (.getfield 178, 3) := by decide +kernel
theorem dX11_drawn_85 : decode cX11_drawn 85 = .ok (.ireturn, 1) := by decide +kernel
set_option maxRecDepth 20000 in
theorem ggX11_meant_X11_needBlazon : GoodIn wsX11_meant wsX11_needBlazon := goodIn_ca (goodIn_r _ [8, 9, 10, 3, 11, 19, 20, 21, 22, 23, 24, 25, 26, 27, 28, 29, 30, 31, 32, 33, 34, 35, 36, 37, 38, 39, 40, 41, 42, 43, 44] (by decide +kernel) (by decide +kernel)) (goodIn_sub (fun _ h => List.mem_cons_of_mem _ (List.mem_append_left _ (List.mem_append_right _ h))) (by decide +kernel))
set_option maxRecDepth 20000 in
theorem gX11_meant_X11_needBlazon : GoodIn wsX11_meant (wsV RX11 128 RX11 yX11_needBlazon wsX11_needBlazon) := goodIn_app (goodIn_of _ (by decide +kernel)) ggX11_meant_X11_needBlazon
set_option maxRecDepth 20000 in
theorem ggX11_meant_X1_meaningAt : GoodIn wsX11_meant wsX1_meaningAt := goodIn_ca (goodIn_r _ [16, 17, 18, 33, 34, 35, 36, 37, 38, 39, 40, 41, 42, 43, 44] (by decide +kernel) (by decide +kernel)) (goodIn_sub (fun _ h => List.mem_cons_of_mem _ (List.mem_append_right _ h)) (by decide +kernel))
set_option maxRecDepth 20000 in
theorem gX11_meant_X1_meaningAt : GoodIn wsX11_meant (wsV RX11 181 RX1 yX1_meaningAt wsX1_meaningAt) := goodIn_app (goodIn_of _ (by decide +kernel)) ggX11_meant_X1_meaningAt
theorem dX11_meant_0 : decode cX11_meant 0 = .ok (.aload_n 0, 1) := by decide +kernel
theorem dX11_meant_1 : decode cX11_meant 1 = .ok (.invokevirtual 128, 3) := by decide +kernel
theorem dX11_meant_4 : decode cX11_meant 4 = .ok (.aload_n 0, 1) := by decide +kernel
theorem dX11_meant_5 : decode cX11_meant 5 = .ok (.getfield 19, 3) := by decide +kernel
theorem dX11_meant_8 : decode cX11_meant 8 = .ok (.iload_n 1, 1) := by decide +kernel
theorem dX11_meant_9 : decode cX11_meant 9 = .ok (.invokevirtual 181, 3) := by decide +kernel
theorem dX11_meant_12 : decode cX11_meant 12 = .ok (.ifCond .ne 13, 3) := by decide +kernel
theorem dX11_meant_15 : decode cX11_meant 15 = .ok (.new 156, 3) := by decide +kernel
theorem dX11_meant_18 : decode cX11_meant 18 = .ok (.dup, 1) := by decide +kernel
theorem dX11_meant_19 : decode cX11_meant 19 = .ok (.ldc 185, 2) := by decide +kernel
theorem dX11_meant_21 : decode cX11_meant 21 = .ok (.invokespecial 160, 3) := by decide +kernel
theorem dX11_meant_24 : decode cX11_meant 24 = .ok (.athrow, 1) := by decide +kernel
theorem dX11_meant_25 : decode cX11_meant 25 = .ok (.aload_n 0, 1) := by decide +kernel
theorem dX11_meant_26 : decode cX11_meant 26 = .ok (.getfield 19, 3) := by decide +kernel
theorem dX11_meant_29 : decode cX11_meant 29 = .ok (.iload_n 1, 1) := by decide +kernel
theorem dX11_meant_30 : decode cX11_meant 30 = .ok (.invokevirtual 181, 3) := by decide +kernel
theorem dX11_meant_33 : decode cX11_meant 33 = .ok (.ireturn, 1) := by decide +kernel
set_option maxRecDepth 20000 in
theorem ggX11_fewest_X11_needBlazon : GoodIn wsX11_fewest wsX11_needBlazon := goodIn_ca (goodIn_r _ [7, 8, 9, 10, 11, 236, 237, 238, 239, 240, 241, 242, 243, 244, 245, 246, 247, 248, 249, 261, 262, 263, 264, 265, 266, 267, 268, 269, 270, 271, 272] (by decide +kernel) (by decide +kernel)) (goodIn_sub (fun _ h => List.mem_cons_of_mem _ (List.mem_append_left _ (List.mem_append_right _ h))) (by decide +kernel))
set_option maxRecDepth 20000 in
theorem gX11_fewest_X11_needBlazon : GoodIn wsX11_fewest (wsV RX11 128 RX11 yX11_needBlazon wsX11_needBlazon) := goodIn_app (goodIn_of _ (by decide +kernel)) ggX11_fewest_X11_needBlazon
set_option maxRecDepth 20000 in
theorem ggX11_fewest_X11_tellRow : GoodIn wsX11_fewest wsX11_tellRow := goodIn_ca (goodIn_r _ [15, 16, 1, 10, 17, 18, 19, 20, 6, 21, 22, 23, 24, 25, 26, 27, 28, 29, 30, 31, 32, 33, 34, 35, 36, 37, 38, 39, 40, 41, 42, 43, 44, 45, 46, 47, 48, 49, 50, 51, 52, 53, 54, 55, 56, 57, 58, 59, 60, 61, 62, 63, 64, 65, 66, 67, 68, 69, 70, 71, 72, 73, 74, 75, 76, 77, 78, 79, 80, 81, 82, 83, 84, 85, 86, 87, 88, 89, 90, 91, 92, 93, 94, 95, 96, 97, 98, 99, 100, 101, 102, 103, 104, 105, 106, 107, 108, 109, 110, 111, 112, 113, 114, 115, 116, 117, 118, 119, 120, 121, 122, 123, 124, 125, 126, 127, 128, 129, 130, 131, 132, 133, 134, 135, 136, 137, 138, 139, 140, 141, 142, 143, 144, 145, 146, 147, 148, 149, 150, 151, 152, 153, 154, 155, 156, 157, 158, 159, 160, 161, 162, 163, 164, 165, 166, 167, 168, 169, 170, 171, 172, 173, 174, 175, 176, 177, 178, 179, 180, 181, 182, 183, 184, 185, 186, 187, 188, 189, 190, 191, 192, 193, 194, 195, 196, 197, 198, 199, 200, 201, 202, 203, 204, 205, 206, 207, 208, 209, 210, 211, 212, 213, 214, 215, 216, 217, 218, 219, 220, 221, 222, 223, 224, 225, 226, 227, 228, 229, 230, 231, 232, 233, 234, 235, 236, 237, 238, 239, 240, 241, 242, 243, 244, 245, 246, 247, 248, 249, 261, 262, 263, 264, 265, 266, 267, 268, 269, 270, 271, 272, 273, 274, 275, 276, 277, 278, 279, 280, 281, 282, 283, 284, 285, 286, 287, 288, 289, 290, 291, 292, 293, 294, 295, 296, 297, 298, 299, 300, 301, 302, 303, 250, 251, 252, 253, 254, 255, 256, 257, 258, 259, 260] (by decide +kernel) (by decide +kernel)) (goodIn_sub (fun _ h => List.mem_cons_of_mem _ (List.mem_append_right _ h)) (by decide +kernel))
set_option maxRecDepth 20000 in
theorem gX11_fewest_X11_tellRow : GoodIn wsX11_fewest (wsV RX11 187 RX11 yX11_tellRow wsX11_tellRow) := goodIn_app (goodIn_of _ (by decide +kernel)) ggX11_fewest_X11_tellRow
theorem dX11_fewest_0 : decode cX11_fewest 0 = .ok (.aload_n 0, 1) := by decide +kernel
theorem dX11_fewest_1 : decode cX11_fewest 1 = .ok (.invokevirtual 128, 3) := by decide +kernel
theorem dX11_fewest_4 : decode cX11_fewest 4 = .ok (.aload_n 0, 1) := by decide +kernel
theorem dX11_fewest_5 : decode cX11_fewest 5 = .ok (.invokevirtual 187, 3) := by decide +kernel
theorem dX11_fewest_8 : decode cX11_fewest 8 = .ok (.aload_n 0, 1) := by decide +kernel
theorem dX11_fewest_9 : decode cX11_fewest 9 = .ok (.getfield 38, 3) := by decide +kernel
theorem dX11_fewest_12 : decode cX11_fewest 12 = .ok (.getfield 190, 3) := by decide +kernel
theorem dX11_fewest_15 : decode cX11_fewest 15 = .ok (.ireturn, 1) := by decide +kernel
set_option maxRecDepth 20000 in
theorem ggX11_fewestAt_X11_needBlazon : GoodIn wsX11_fewestAt wsX11_needBlazon := goodIn_ca (goodIn_r _ [9, 10, 11, 12, 13, 242, 243, 244, 245, 246, 247, 248, 249, 250, 251, 252, 253, 254, 255, 267, 268, 269, 270, 271, 272, 273, 274, 275, 276, 277, 278] (by decide +kernel) (by decide +kernel)) (goodIn_sub (fun _ h => List.mem_cons_of_mem _ (List.mem_append_left _ (List.mem_append_right _ h))) (by decide +kernel))
set_option maxRecDepth 20000 in
theorem gX11_fewestAt_X11_needBlazon : GoodIn wsX11_fewestAt (wsV RX11 128 RX11 yX11_needBlazon wsX11_needBlazon) := goodIn_app (goodIn_of _ (by decide +kernel)) ggX11_fewestAt_X11_needBlazon
set_option maxRecDepth 20000 in
theorem ggX11_fewestAt_X11_tellRow : GoodIn wsX11_fewestAt wsX11_tellRow := goodIn_ca (goodIn_r _ [17, 18, 3, 12, 19, 20, 21, 22, 8, 23, 24, 25, 26, 27, 28, 29, 30, 31, 32, 33, 34, 35, 36, 37, 38, 39, 40, 41, 42, 43, 44, 45, 46, 47, 48, 49, 50, 51, 52, 53, 54, 55, 56, 57, 58, 59, 60, 61, 62, 63, 64, 65, 66, 67, 68, 69, 70, 71, 72, 73, 74, 75, 76, 77, 78, 79, 80, 81, 82, 83, 84, 85, 86, 87, 88, 89, 90, 91, 92, 93, 94, 95, 96, 97, 98, 99, 100, 101, 102, 103, 104, 105, 106, 107, 108, 109, 110, 111, 112, 113, 114, 115, 116, 117, 118, 119, 120, 121, 122, 123, 124, 125, 126, 127, 128, 129, 130, 131, 132, 133, 134, 135, 136, 137, 138, 139, 140, 141, 142, 143, 144, 145, 146, 147, 148, 149, 150, 151, 152, 153, 154, 155, 156, 157, 158, 159, 160, 161, 162, 163, 164, 165, 166, 167, 168, 169, 170, 171, 172, 173, 174, 175, 176, 177, 178, 179, 180, 181, 182, 183, 184, 185, 186, 187, 188, 189, 190, 191, 192, 193, 194, 195, 196, 197, 198, 199, 200, 201, 202, 203, 204, 205, 206, 207, 208, 209, 210, 211, 212, 213, 214, 215, 216, 217, 218, 219, 220, 221, 222, 223, 224, 225, 226, 227, 228, 229, 230, 231, 232, 233, 234, 235, 236, 237, 242, 243, 244, 245, 246, 247, 248, 249, 250, 251, 252, 253, 254, 255, 267, 268, 269, 270, 271, 272, 273, 274, 275, 276, 277, 278, 279, 280, 281, 282, 283, 284, 285, 286, 287, 288, 289, 290, 291, 292, 293, 294, 295, 296, 297, 298, 299, 300, 301, 302, 303, 304, 305, 306, 307, 308, 309, 256, 257, 258, 259, 260, 261, 262, 263, 264, 265, 266] (by decide +kernel) (by decide +kernel)) (goodIn_sub (fun _ h => List.mem_cons_of_mem _ (List.mem_append_right _ h)) (by decide +kernel))
set_option maxRecDepth 20000 in
theorem gX11_fewestAt_X11_tellRow : GoodIn wsX11_fewestAt (wsV RX11 187 RX11 yX11_tellRow wsX11_tellRow) := goodIn_app (goodIn_of _ (by decide +kernel)) ggX11_fewestAt_X11_tellRow
set_option maxRecDepth 20000 in
theorem ggX11_fewestAt_X10_bestAt : GoodIn wsX11_fewestAt wsX10_bestAt := goodIn_ca (goodIn_r _ [241, 152, 219, 256, 257, 258, 259, 260, 261, 262, 263, 264, 265, 266] (by decide +kernel) (by decide +kernel)) (goodIn_sub (fun _ h => List.mem_cons_of_mem _ (List.mem_append_right _ h)) (by decide +kernel))
set_option maxRecDepth 20000 in
theorem gX11_fewestAt_X10_bestAt : GoodIn wsX11_fewestAt (wsV RX11 193 RX10 yX10_bestAt wsX10_bestAt) := goodIn_app (goodIn_of _ (by decide +kernel)) ggX11_fewestAt_X10_bestAt
theorem dX11_fewestAt_0 : decode cX11_fewestAt 0 = .ok (.aload_n 0, 1) := by decide +kernel
theorem dX11_fewestAt_1 : decode cX11_fewestAt 1 = .ok (.invokevirtual 128, 3) := by decide +kernel
theorem dX11_fewestAt_4 : decode cX11_fewestAt 4 = .ok (.aload_n 0, 1) := by decide +kernel
theorem dX11_fewestAt_5 : decode cX11_fewestAt 5 = .ok (.invokevirtual 187, 3) := by decide +kernel
theorem dX11_fewestAt_8 : decode cX11_fewestAt 8 = .ok (.iload_n 1, 1) := by decide +kernel
theorem dX11_fewestAt_9 : decode cX11_fewestAt 9 = .ok (.ifCond .lt 14, 3) := by decide +kernel
theorem dX11_fewestAt_12 : decode cX11_fewestAt 12 = .ok (.iload_n 1, 1) := by decide +kernel
theorem dX11_fewestAt_13 : decode cX11_fewestAt 13 = .ok (.aload_n 0, 1) := by decide +kernel
theorem dX11_fewestAt_14 : decode cX11_fewestAt 14 = .ok (.getfield 38, 3) := by decide +kernel
theorem dX11_fewestAt_17 : decode cX11_fewestAt 17 = .ok (.getfield 190, 3) := by decide +kernel
theorem dX11_fewestAt_20 : decode cX11_fewestAt 20 = .ok (.if_icmp .lt 13, 3) := by decide +kernel
theorem dX11_fewestAt_23 : decode cX11_fewestAt 23 = .ok (.new 156, 3) := by decide +kernel
theorem dX11_fewestAt_26 : decode cX11_fewestAt 26 = .ok (.dup, 1) := by decide +kernel
theorem dX11_fewestAt_27 : decode cX11_fewestAt 27 = .ok (.ldc 97, 2) := by decide +kernel
theorem dX11_fewestAt_29 : decode cX11_fewestAt 29 = .ok (.invokespecial 160, 3) := by decide +kernel
theorem dX11_fewestAt_32 : decode cX11_fewestAt 32 = .ok (.athrow, 1) := by decide +kernel
theorem dX11_fewestAt_33 : decode cX11_fewestAt 33 = .ok (.aload_n 0, 1) := by decide +kernel
theorem dX11_fewestAt_34 : decode cX11_fewestAt 34 = .ok (.getfield 38, 3) := by decide +kernel
theorem dX11_fewestAt_37 : decode cX11_fewestAt 37 = .ok (.iload_n 1, 1) := by decide +kernel
theorem dX11_fewestAt_38 : decode cX11_fewestAt 38 = .ok (.invokevirtual 193, 3) := by decide +kernel
theorem dX11_fewestAt_41 : decode cX11_fewestAt 41 = .ok (.ireturn, 1) := by decide +kernel
set_option maxRecDepth 20000 in
theorem ggX11_losses_X11_needTradition : GoodIn wsX11_losses wsX11_needTradition := goodIn_ca (goodIn_r _ [6, 7, 8] (by decide +kernel) (by decide +kernel)) (goodIn_sub (fun _ h => List.mem_cons_of_mem _ (List.mem_append_left _ (List.mem_append_left _ (List.mem_append_right _ h)))) (by decide +kernel))
set_option maxRecDepth 20000 in
theorem gX11_losses_X11_needTradition : GoodIn wsX11_losses (wsV RX11 196 RX11 yX11_needTradition wsX11_needTradition) := goodIn_app (goodIn_of _ (by decide +kernel)) ggX11_losses_X11_needTradition
set_option maxRecDepth 20000 in
theorem ggX11_losses_X11_needBlazon : GoodIn wsX11_losses wsX11_needBlazon := goodIn_ca (goodIn_r _ [12, 13, 14, 1, 15, 30, 31, 32, 33, 34, 35, 36, 37, 38, 39, 40, 41, 42, 43, 44, 45, 46, 47, 48, 49, 50, 51, 52, 53, 54, 55] (by decide +kernel) (by decide +kernel)) (goodIn_sub (fun _ h => List.mem_cons_of_mem _ (List.mem_append_left _ (List.mem_append_right _ h))) (by decide +kernel))
set_option maxRecDepth 20000 in
theorem gX11_losses_X11_needBlazon : GoodIn wsX11_losses (wsV RX11 128 RX11 yX11_needBlazon wsX11_needBlazon) := goodIn_app (goodIn_of _ (by decide +kernel)) ggX11_losses_X11_needBlazon
set_option maxRecDepth 20000 in
theorem ggX11_losses_X1_lossesIn : GoodIn wsX11_losses wsX1_lossesIn := goodIn_ca (goodIn_r _ [20, 21, 22, 23, 24, 19, 25, 26, 27, 28, 29, 44, 45, 46, 47, 48, 49, 50, 51, 52, 53, 54, 55] (by decide +kernel) (by decide +kernel)) (goodIn_sub (fun _ h => List.mem_cons_of_mem _ (List.mem_append_right _ h)) (by decide +kernel))
set_option maxRecDepth 20000 in
theorem gX11_losses_X1_lossesIn : GoodIn wsX11_losses (wsV RX11 199 RX1 yX1_lossesIn wsX1_lossesIn) := goodIn_app (goodIn_of _ (by decide +kernel)) ggX11_losses_X1_lossesIn
theorem dX11_losses_0 : decode cX11_losses 0 = .ok (.aload_n 0, 1) := by decide +kernel
theorem dX11_losses_1 : decode cX11_losses 1 = .ok (.iload_n 1, 1) := by decide +kernel
theorem dX11_losses_2 : decode cX11_losses 2 = .ok (.invokevirtual 196, 3) := by decide +kernel
theorem dX11_losses_5 : decode cX11_losses 5 = .ok (.aload_n 0, 1) := by decide +kernel
theorem dX11_losses_6 : decode cX11_losses 6 = .ok (.invokevirtual 128, 3) := by decide +kernel
theorem dX11_losses_9 : decode cX11_losses 9 = .ok (.aload_n 0, 1) := by decide +kernel
theorem dX11_losses_10 : decode cX11_losses 10 = .ok (.getfield 19, 3) := by decide +kernel
theorem dX11_losses_13 : decode cX11_losses 13 = .ok (.iload_n 1, 1) := by decide +kernel
theorem dX11_losses_14 : decode cX11_losses 14 = .ok (.invokevirtual 199, 3) := by decide +kernel
theorem dX11_losses_17 : decode cX11_losses 17 = .ok (.ireturn, 1) := by decide +kernel
set_option maxRecDepth 20000 in
theorem ggX11_translated_X11_needTradition : GoodIn wsX11_translated wsX11_needTradition := goodIn_ca (goodIn_r _ [8, 9, 10] (by decide +kernel) (by decide +kernel)) (goodIn_sub (fun _ h => List.mem_cons_of_mem _ (List.mem_append_left _ (List.mem_append_left _ (List.mem_append_right _ h)))) (by decide +kernel))
set_option maxRecDepth 20000 in
theorem gX11_translated_X11_needTradition : GoodIn wsX11_translated (wsV RX11 196 RX11 yX11_needTradition wsX11_needTradition) := goodIn_app (goodIn_of _ (by decide +kernel)) ggX11_translated_X11_needTradition
set_option maxRecDepth 20000 in
theorem ggX11_translated_X11_needBlazon : GoodIn wsX11_translated wsX11_needBlazon := goodIn_ca (goodIn_r _ [14, 15, 16, 3, 17, 32, 33, 34, 35, 36, 37, 38, 39, 40, 41, 42, 43, 44, 45, 46, 47, 48, 49, 50, 51, 52, 53, 54, 55, 56, 57] (by decide +kernel) (by decide +kernel)) (goodIn_sub (fun _ h => List.mem_cons_of_mem _ (List.mem_append_left _ (List.mem_append_right _ h))) (by decide +kernel))
set_option maxRecDepth 20000 in
theorem gX11_translated_X11_needBlazon : GoodIn wsX11_translated (wsV RX11 128 RX11 yX11_needBlazon wsX11_needBlazon) := goodIn_app (goodIn_of _ (by decide +kernel)) ggX11_translated_X11_needBlazon
set_option maxRecDepth 20000 in
theorem ggX11_translated_X1_wordIn : GoodIn wsX11_translated wsX1_wordIn := goodIn_ca (goodIn_r _ [22, 23, 24, 25, 26, 21, 27, 28, 29, 30, 31, 46, 47, 48, 49, 50, 51, 52, 53, 54, 55, 56, 57] (by decide +kernel) (by decide +kernel)) (goodIn_sub (fun _ h => List.mem_cons_of_mem _ (List.mem_append_right _ h)) (by decide +kernel))
set_option maxRecDepth 20000 in
theorem gX11_translated_X1_wordIn : GoodIn wsX11_translated (wsV RX11 202 RX1 yX1_wordIn wsX1_wordIn) := goodIn_app (goodIn_of _ (by decide +kernel)) ggX11_translated_X1_wordIn
theorem dX11_translated_0 : decode cX11_translated 0 = .ok (.aload_n 0, 1) := by decide +kernel
theorem dX11_translated_1 : decode cX11_translated 1 = .ok (.iload_n 1, 1) := by decide +kernel
theorem dX11_translated_2 : decode cX11_translated 2 = .ok (.invokevirtual 196, 3) := by decide +kernel
theorem dX11_translated_5 : decode cX11_translated 5 = .ok (.aload_n 0, 1) := by decide +kernel
theorem dX11_translated_6 : decode cX11_translated 6 = .ok (.invokevirtual 128, 3) := by decide +kernel
theorem dX11_translated_9 : decode cX11_translated 9 = .ok (.aload_n 0, 1) := by decide +kernel
theorem dX11_translated_10 : decode cX11_translated 10 = .ok (.getfield 19, 3) := by decide +kernel
theorem dX11_translated_13 : decode cX11_translated 13 = .ok (.iload_n 1, 1) := by decide +kernel
theorem dX11_translated_14 : decode cX11_translated 14 = .ok (.iload_n 2, 1) := by decide +kernel
theorem dX11_translated_15 : decode cX11_translated 15 = .ok (.invokevirtual 202, 3) := by decide +kernel
theorem dX11_translated_18 : decode cX11_translated 18 = .ok (.istore_n 3, 1) := by decide +kernel
theorem dX11_translated_19 : decode cX11_translated 19 = .ok (.iload_n 3, 1) := by decide +kernel
theorem dX11_translated_20 : decode cX11_translated 20 = .ok (.ifCond .ne 13, 3) := by decide +kernel
theorem dX11_translated_23 : decode cX11_translated 23 = .ok (.new 156, 3) := by decide +kernel
theorem dX11_translated_26 : decode cX11_translated 26 = .ok (.dup, 1) := by decide +kernel
theorem dX11_translated_27 : decode cX11_translated 27 = .ok (.ldc 97, 2) := by decide +kernel
theorem dX11_translated_29 : decode cX11_translated 29 = .ok (.invokespecial 160, 3) := by decide +kernel
theorem dX11_translated_32 : decode cX11_translated 32 = .ok (.athrow, 1) := by decide +kernel
theorem dX11_translated_33 : decode cX11_translated 33 = .ok (.iload_n 3, 1) := by decide +kernel
theorem dX11_translated_34 : decode cX11_translated 34 = .ok (.ireturn, 1) := by decide +kernel
theorem dX11_pass_0 : decode cX11_pass 0 = .ok (.iload_n 1, 1) := by decide +kernel
theorem dX11_pass_1 : decode cX11_pass 1 = .ok (.iconst 1, 1) := by decide +kernel
theorem dX11_pass_2 : decode cX11_pass 2 = .ok (.if_icmp .lt 9, 3) := by decide +kernel
theorem dX11_pass_5 : decode cX11_pass 5 = .ok (.iload_n 1, 1) := by decide +kernel
theorem dX11_pass_6 : decode cX11_pass 6 = .ok (.bipush 100, 2) := by decide +kernel
theorem dX11_pass_8 : decode cX11_pass 8 = .ok (.if_icmp .le 13, 3) := by decide +kernel
theorem dX11_pass_11 : decode cX11_pass 11 = .ok (.new 95, 3) := by decide +kernel
theorem dX11_pass_14 : decode cX11_pass 14 = .ok (.dup, 1) := by decide +kernel
theorem dX11_pass_15 : decode cX11_pass 15 = .ok (.ldc 205, 2) := by decide +kernel
theorem dX11_pass_17 : decode cX11_pass 17 = .ok (.invokespecial 99, 3) := by decide +kernel
theorem dX11_pass_20 : decode cX11_pass 20 = .ok (.athrow, 1) := by decide +kernel
theorem dX11_pass_21 : decode cX11_pass 21 = .ok (.aload_n 0, 1) := by decide +kernel
theorem dX11_pass_22 : decode cX11_pass 22 = .ok (.getfield 207, 3) := by decide +kernel
theorem dX11_pass_25 : decode cX11_pass 25 = .ok (.iload_n 1, 1) := by decide +kernel
theorem dX11_pass_26 : decode cX11_pass 26 = .ok (.iadd, 1) := by decide +kernel
theorem dX11_pass_27 : decode cX11_pass 27 = .ok (.sipush 5000, 3) := by decide +kernel
theorem dX11_pass_30 : decode cX11_pass 30 = .ok (.if_icmp .le 13, 3) := by decide +kernel
theorem dX11_pass_33 : decode cX11_pass 33 = .ok (.new 106, 3) := by decide +kernel
theorem dX11_pass_36 : decode cX11_pass 36 = .ok (.dup, 1) := by decide +kernel
theorem dX11_pass_37 : decode cX11_pass 37 = .ok (.ldc 210, 2) := by decide +kernel
theorem dX11_pass_39 : decode cX11_pass 39 = .ok (.invokespecial 110, 3) := by decide +kernel
theorem dX11_pass_42 : decode cX11_pass 42 = .ok (.athrow, 1) := by decide +kernel
theorem dX11_pass_43 : decode cX11_pass 43 = .ok (.aload_n 0, 1) := by decide +kernel
theorem dX11_pass_44 : decode cX11_pass 44 = .ok (.dup, 1) := by decide +kernel
theorem dX11_pass_45 : decode cX11_pass 45 = .ok (.getfield 207, 3) := by decide +kernel
theorem dX11_pass_48 : decode cX11_pass 48 = .ok (.iload_n 1, 1) := by decide +kernel
theorem dX11_pass_49 : decode cX11_pass 49 = .ok (.iadd, 1) := by decide +kernel
theorem dX11_pass_50 : decode cX11_pass 50 = .ok (.putfield 207, 3) := by decide +kernel
theorem dX11_pass_53 : decode cX11_pass 53 = .ok (.aload_n 0, 1) := by decide +kernel
theorem dX11_pass_54 : decode cX11_pass 54 = .ok (.getfield 207, 3) := by decide +kernel
theorem dX11_pass_57 : decode cX11_pass 57 = .ok (.ireturn, 1) := by decide +kernel
set_option maxRecDepth 20000 in
theorem ggX11_birth_X11_needPerson : GoodIn wsX11_birth wsX11_needPerson := goodIn_ca (goodIn_r _ [11, 12, 13, 5, 6, 192, 193, 194, 195, 196, 197, 198, 199, 200, 201, 202, 203, 204, 205, 206, 207, 208, 209, 210, 211, 212, 213, 214] (by decide +kernel) (by decide +kernel)) (goodIn_sub (fun _ h => List.mem_cons_of_mem _ (List.mem_append_left _ (List.mem_append_right _ h))) (by decide +kernel))
set_option maxRecDepth 20000 in
theorem gX11_birth_X11_needPerson : GoodIn wsX11_birth (wsV RX11 212 RX11 yX11_needPerson wsX11_needPerson) := goodIn_app (goodIn_of _ (by decide +kernel)) ggX11_birth_X11_needPerson
set_option maxRecDepth 20000 in
theorem ggX11_birth_X5_isMan : GoodIn wsX11_birth wsX5_isMan := goodIn_ca (goodIn_r _ [18, 19, 20, 21, 22, 17, 23, 24, 206, 207, 208, 209, 210, 211, 212, 213, 214] (by decide +kernel) (by decide +kernel)) (goodIn_sub (fun _ h => List.mem_cons_of_mem _ (List.mem_append_right _ h)) (by decide +kernel))
set_option maxRecDepth 20000 in
theorem gX11_birth_X5_isMan : GoodIn wsX11_birth (wsV RX11 215 RX5 yX5_isMan wsX5_isMan) := goodIn_app (goodIn_of _ (by decide +kernel)) ggX11_birth_X5_isMan
set_option maxRecDepth 20000 in
theorem ggX11_birth_X5_add : GoodIn wsX11_birth wsX5_add := goodIn_ca (goodIn_r _ [28, 24, 29, 30, 31, 32, 19, 33, 34, 35, 17, 36, 37, 38, 15, 16, 18, 20, 21, 22, 23, 39, 40, 41, 42, 206, 207, 208, 209, 210, 211, 212, 213, 214] (by decide +kernel) (by decide +kernel)) (goodIn_sub (fun _ h => List.mem_cons_of_mem _ (List.mem_append_right _ h)) (by decide +kernel))
set_option maxRecDepth 20000 in
theorem gX11_birth_X5_add : GoodIn wsX11_birth (wsV RX11 227 RX5 yX5_add wsX5_add) := goodIn_app (goodIn_of _ (by decide +kernel)) ggX11_birth_X5_add
set_option maxRecDepth 20000 in
theorem ggX11_birth_X11_settle : GoodIn wsX11_birth wsX11_settle := goodIn_ca (goodIn_r _ [46, 47, 48, 49, 50, 51, 52, 53, 54, 55, 56, 57, 58, 59, 60, 61, 62, 63, 64, 65, 66, 67, 68, 69, 70, 71, 72, 73, 74, 75, 76, 77, 78, 79, 80, 81, 82, 83, 84, 85, 86, 87, 15, 16, 17, 18, 19, 20, 21, 22, 23, 24, 88, 89, 90, 91, 32, 92, 93, 94, 95, 37, 96, 97, 98, 99, 29, 100, 101, 102, 103, 104, 105, 106, 107, 108, 109, 110, 111, 112, 113, 114, 115, 116, 117, 118, 119, 120, 121, 122, 123, 124, 125, 126, 127, 128, 129, 130, 131, 132, 133, 134, 135, 136, 137, 138, 139, 140, 141, 142, 143, 144, 145, 40, 41, 42, 146, 147, 148, 149, 150, 151, 152, 153, 154, 155, 156, 157, 39, 158, 159, 160, 161, 162, 163, 164, 165, 166, 167, 168, 169, 170, 171, 172, 173, 174, 175, 176, 177, 178, 179, 180, 181, 182, 183, 184, 185, 186, 30, 187, 188, 189, 190, 191, 192, 193, 194, 195, 196, 197, 198, 199, 200, 201, 202, 203, 204, 205, 215, 216, 217, 218, 219, 220, 221, 222, 223, 224, 225, 226, 227, 228, 229, 230, 231, 232, 233, 234, 235, 236, 237, 206, 207, 208, 209, 210, 211, 212, 213, 214, 238, 239, 240, 241, 242, 243, 244, 245, 246, 247] (by decide +kernel) (by decide +kernel)) (goodIn_sub (fun _ h => List.mem_cons_of_mem _ (List.mem_append_right _ h)) (by decide +kernel))
set_option maxRecDepth 20000 in
theorem gX11_birth_X11_settle : GoodIn wsX11_birth (wsV RX11 230 RX11 yX11_settle wsX11_settle) := goodIn_app (goodIn_of _ (by decide +kernel)) ggX11_birth_X11_settle
theorem dX11_birth_0 : decode cX11_birth 0 = .ok (.iload_n 1, 1) := by decide +kernel
theorem dX11_birth_1 : decode cX11_birth 1 = .ok (.iconst (-1), 1) := by decide +kernel
theorem dX11_birth_2 : decode cX11_birth 2 = .ok (.if_icmp .eq 8, 3) := by decide +kernel
theorem dX11_birth_5 : decode cX11_birth 5 = .ok (.aload_n 0, 1) := by decide +kernel
theorem dX11_birth_6 : decode cX11_birth 6 = .ok (.iload_n 1, 1) := by decide +kernel
theorem dX11_birth_7 : decode cX11_birth 7 = .ok (.invokevirtual 212, 3) := by decide +kernel
theorem dX11_birth_10 : decode cX11_birth 10 = .ok (.iload_n 2, 1) := by decide +kernel
theorem dX11_birth_11 : decode cX11_birth 11 = .ok (.iconst (-1), 1) := by decide +kernel
theorem dX11_birth_12 : decode cX11_birth 12 = .ok (.if_icmp .eq 8, 3) := by decide +kernel
theorem dX11_birth_15 : decode cX11_birth 15 = .ok (.aload_n 0, 1) := by decide +kernel
theorem dX11_birth_16 : decode cX11_birth 16 = .ok (.iload_n 2, 1) := by decide +kernel
theorem dX11_birth_17 : decode cX11_birth 17 = .ok (.invokevirtual 212, 3) := by decide +kernel
theorem dX11_birth_20 : decode cX11_birth 20 = .ok (.iload_n 1, 1) := by decide +kernel
theorem dX11_birth_21 : decode cX11_birth 21 = .ok (.iconst (-1), 1) := by decide +kernel
theorem dX11_birth_22 : decode cX11_birth 22 = .ok (.if_icmp .eq 14, 3) := by decide +kernel
theorem dX11_birth_25 : decode cX11_birth 25 = .ok (.aload_n 0, 1) := by decide +kernel
theorem dX11_birth_26 : decode cX11_birth 26 = .ok (.getfield 45, 3) := by decide +kernel
theorem dX11_birth_29 : decode cX11_birth 29 = .ok (.iload_n 1, 1) := by decide +kernel
theorem dX11_birth_30 : decode cX11_birth 30 = .ok (.invokevirtual 215, 3) := by decide +kernel
theorem dX11_birth_33 : decode cX11_birth 33 = .ok (.ifCond .eq 19, 3) := by decide +kernel
theorem dX11_birth_36 : decode cX11_birth 36 = .ok (.iload_n 2, 1) := by decide +kernel
theorem dX11_birth_37 : decode cX11_birth 37 = .ok (.iconst (-1), 1) := by decide +kernel
theorem dX11_birth_38 : decode cX11_birth 38 = .ok (.if_icmp .eq 24, 3) := by decide +kernel
theorem dX11_birth_41 : decode cX11_birth 41 = .ok (.aload_n 0, 1) := by decide +kernel
theorem dX11_birth_42 : decode cX11_birth 42 = .ok (.getfield 45, 3) := by decide +kernel
theorem dX11_birth_45 : decode cX11_birth 45 = .ok (.iload_n 2, 1) := by decide +kernel
theorem dX11_birth_46 : decode cX11_birth 46 = .ok (.invokevirtual 215, 3) := by decide +kernel
theorem dX11_birth_49 : decode cX11_birth 49 = .ok (.ifCond .eq 13, 3) := by decide +kernel
theorem dX11_birth_52 : decode cX11_birth 52 = .ok (.new 219, 3) := by decide +kernel
theorem dX11_birth_55 : decode cX11_birth 55 = .ok (.dup, 1) := by decide +kernel
theorem dX11_birth_56 : decode cX11_birth 56 = .ok (.ldc 221, 2) := by decide +kernel
theorem dX11_birth_58 : decode cX11_birth 58 = .ok (.invokespecial 223, 3) := by decide +kernel
theorem dX11_birth_61 : decode cX11_birth 61 = .ok (.athrow, 1) := by decide +kernel
theorem dX11_birth_62 : decode cX11_birth 62 = .ok (.aload_n 0, 1) := by decide +kernel
theorem dX11_birth_63 : decode cX11_birth 63 = .ok (.getfield 45, 3) := by decide +kernel
theorem dX11_birth_66 : decode cX11_birth 66 = .ok (.getfield 224, 3) := by decide +kernel
theorem dX11_birth_69 : decode cX11_birth 69 = .ok (.bipush 40, 2) := by decide +kernel
theorem dX11_birth_71 : decode cX11_birth 71 = .ok (.if_icmp .lt 13, 3) := by decide +kernel
theorem dX11_birth_74 : decode cX11_birth 74 = .ok (.new 106, 3) := by decide +kernel
theorem dX11_birth_77 : decode cX11_birth 77 = .ok (.dup, 1) := by decide +kernel
theorem dX11_birth_78 : decode cX11_birth 78 = .ok (.ldc 225, 2) := by decide +kernel
theorem dX11_birth_80 : decode cX11_birth 80 = .ok (.invokespecial 110, 3) := by decide +kernel
theorem dX11_birth_83 : decode cX11_birth 83 = .ok (.athrow, 1) := by decide +kernel
theorem dX11_birth_84 : decode cX11_birth 84 = .ok (.aload_n 0, 1) := by decide +kernel
theorem dX11_birth_85 : decode cX11_birth 85 = .ok (.getfield 45, 3) := by decide +kernel
theorem dX11_birth_88 : decode cX11_birth 88 = .ok (.iload_n 1, 1) := by decide +kernel
theorem dX11_birth_89 : decode cX11_birth 89 = .ok (.iload_n 2, 1) := by decide +kernel
theorem dX11_birth_90 : decode cX11_birth 90 = .ok (.iload_n 3, 1) := by decide +kernel
theorem dX11_birth_91 : decode cX11_birth 91 = .ok (.invokevirtual 227, 3) := by decide +kernel
theorem dX11_birth_94 : decode cX11_birth 94 = .ok (.istore 4, 2) := by decide +kernel
theorem dX11_birth_96 : decode cX11_birth 96 = .ok (.aload_n 0, 1) := by decide +kernel
theorem dX11_birth_97 : decode cX11_birth 97 = .ok (.invokevirtual 230, 3) := by decide +kernel
theorem dX11_birth_100 : decode cX11_birth 100 = .ok (.iload 4, 2) := by decide +kernel
theorem dX11_birth_102 : decode cX11_birth 102 = .ok (.ireturn, 1) := by decide +kernel
set_option maxRecDepth 20000 in
theorem ggX11_death_X11_needPerson : GoodIn wsX11_death wsX11_needPerson := goodIn_ca (goodIn_r _ [7, 8, 9, 2, 10, 209, 210, 211, 212, 213, 214, 215, 216, 217, 218, 219, 220, 221, 222, 223, 224, 225, 226, 227, 228, 229, 230, 231] (by decide +kernel) (by decide +kernel)) (goodIn_sub (fun _ h => List.mem_cons_of_mem _ (List.mem_append_left _ (List.mem_append_left _ (List.mem_append_right _ h)))) (by decide +kernel))
set_option maxRecDepth 20000 in
theorem gX11_death_X11_needPerson : GoodIn wsX11_death (wsV RX11 212 RX11 yX11_needPerson wsX11_needPerson) := goodIn_app (goodIn_of _ (by decide +kernel)) ggX11_death_X11_needPerson
set_option maxRecDepth 20000 in
theorem ggX11_death_X11_needAlive : GoodIn wsX11_death wsX11_needAlive := goodIn_ca (goodIn_ca (goodIn_r _ [14, 15, 16, 2, 17, 18, 19, 20, 21, 22, 23, 24, 25, 26, 27, 209, 210, 211, 212, 213, 214, 215, 216, 217, 218, 219, 220, 221, 222, 223, 224, 225, 226, 227, 228, 229, 230, 231] (by decide +kernel) (by decide +kernel)) (goodIn_sub (fun _ h => List.mem_cons_of_mem _ (List.mem_append_left _ (List.mem_append_right _ h))) (by decide +kernel))) (goodIn_sub (fun _ h => List.mem_cons_of_mem _ (List.mem_append_right _ h)) (by decide +kernel))
set_option maxRecDepth 20000 in
theorem gX11_death_X11_needAlive : GoodIn wsX11_death (wsV RX11 233 RX11 yX11_needAlive wsX11_needAlive) := goodIn_app (goodIn_of _ (by decide +kernel)) ggX11_death_X11_needAlive
set_option maxRecDepth 20000 in
theorem ggX11_death_X0_keep : GoodIn wsX11_death wsX0_keep := goodIn_ca (goodIn_r _ [32, 33, 34, 35, 36, 37, 38, 24, 25, 20, 26, 27, 39, 40, 41, 42, 43, 44, 22, 45, 23, 46, 47, 48, 49, 50, 51, 52, 53, 232, 233, 234, 235, 236, 237, 238, 239, 240, 241, 242, 223, 224, 225, 226, 227, 228, 229, 230, 231] (by decide +kernel) (by decide +kernel)) (goodIn_sub (fun _ h => List.mem_cons_of_mem _ (List.mem_append_right _ h)) (by decide +kernel))
set_option maxRecDepth 20000 in
theorem gX11_death_X0_keep : GoodIn wsX11_death (wsV RX11 236 RX0 yX0_keep wsX0_keep) := goodIn_app (goodIn_of _ (by decide +kernel)) ggX11_death_X0_keep
set_option maxRecDepth 20000 in
theorem ggX11_death_X5_end : GoodIn wsX11_death wsX5_end := goodIn_ca (goodIn_r _ [57, 58, 22, 59, 60, 18, 19, 20, 21, 23, 24, 25, 26, 27, 61, 62, 63, 64, 45, 44, 65, 66, 67, 68, 43, 69, 70, 71, 72, 223, 224, 225, 226, 227, 228, 229, 230, 231] (by decide +kernel) (by decide +kernel)) (goodIn_sub (fun _ h => List.mem_cons_of_mem _ (List.mem_append_right _ h)) (by decide +kernel))
set_option maxRecDepth 20000 in
theorem gX11_death_X5_end : GoodIn wsX11_death (wsV RX11 239 RX5 yX5_end wsX5_end) := goodIn_app (goodIn_of _ (by decide +kernel)) ggX11_death_X5_end
set_option maxRecDepth 20000 in
theorem ggX11_death_X11_settle : GoodIn wsX11_death wsX11_settle := goodIn_ca (goodIn_r _ [76, 1, 77, 78, 79, 80, 31, 81, 82, 83, 33, 84, 35, 34, 85, 86, 87, 88, 89, 90, 91, 92, 93, 94, 95, 96, 97, 98, 99, 100, 101, 102, 103, 104, 105, 106, 107, 108, 109, 110, 111, 112, 66, 67, 20, 68, 43, 23, 24, 25, 26, 27, 113, 18, 19, 21, 22, 114, 115, 116, 117, 45, 118, 119, 120, 121, 44, 122, 123, 124, 125, 126, 38, 127, 128, 129, 130, 131, 132, 133, 134, 135, 136, 137, 138, 139, 140, 141, 142, 143, 144, 145, 146, 147, 148, 149, 150, 151, 152, 153, 154, 155, 156, 157, 158, 159, 160, 161, 39, 40, 41, 42, 162, 70, 71, 72, 46, 47, 48, 49, 50, 51, 52, 53, 163, 164, 165, 166, 69, 167, 168, 169, 170, 171, 172, 173, 174, 175, 176, 177, 178, 179, 180, 181, 182, 183, 184, 185, 186, 187, 188, 189, 190, 191, 192, 193, 194, 195, 196, 197, 198, 199, 200, 36, 209, 210, 211, 212, 213, 214, 215, 216, 217, 218, 219, 220, 221, 222, 232, 233, 234, 235, 236, 237, 238, 239, 240, 241, 242, 243, 244, 245, 246, 247, 248, 249, 250, 251, 252, 253, 254, 223, 224, 225, 226, 227, 228, 229, 230, 231, 255, 256, 257, 258, 259, 260, 261, 262, 263, 264] (by decide +kernel) (by decide +kernel)) (goodIn_sub (fun _ h => List.mem_cons_of_mem _ (List.mem_append_right _ h)) (by decide +kernel))
set_option maxRecDepth 20000 in
theorem gX11_death_X11_settle : GoodIn wsX11_death (wsV RX11 230 RX11 yX11_settle wsX11_settle) := goodIn_app (goodIn_of _ (by decide +kernel)) ggX11_death_X11_settle
set_option maxRecDepth 20000 in
theorem ggX11_death_X0_abeyances : GoodIn wsX11_death wsX0_abeyances := goodIn_ca (goodIn_r _ [204, 82, 83, 205, 206, 207, 31, 208, 90, 91, 232, 233, 234, 235, 236, 237, 238, 239, 240, 241, 242, 243, 244, 245, 246, 247, 248, 249, 250, 251, 252, 253, 254] (by decide +kernel) (by decide +kernel)) (goodIn_sub (fun _ h => List.mem_cons_of_mem _ (List.mem_append_right _ h)) (by decide +kernel))
set_option maxRecDepth 20000 in
theorem gX11_death_X0_abeyances : GoodIn wsX11_death (wsV RX11 242 RX0 yX0_abeyances wsX0_abeyances) := goodIn_app (goodIn_of _ (by decide +kernel)) ggX11_death_X0_abeyances
theorem dX11_death_0 : decode cX11_death 0 = .ok (.aload_n 0, 1) := by decide +kernel
theorem dX11_death_1 : decode cX11_death 1 = .ok (.iload_n 1, 1) := by decide +kernel
theorem dX11_death_2 : decode cX11_death 2 = .ok (.invokevirtual 212, 3) := by decide +kernel
theorem dX11_death_5 : decode cX11_death 5 = .ok (.aload_n 0, 1) := by decide +kernel
theorem dX11_death_6 : decode cX11_death 6 = .ok (.iload_n 1, 1) := by decide +kernel
theorem dX11_death_7 : decode cX11_death 7 = .ok (.invokevirtual 233, 3) := by decide +kernel
theorem dX11_death_10 : decode cX11_death 10 = .ok (.aload_n 0, 1) := by decide +kernel
theorem dX11_death_11 : decode cX11_death 11 = .ok (.getfield 61, 3) := by decide +kernel
theorem dX11_death_14 : decode cX11_death 14 = .ok (.iload_n 1, 1) := by decide +kernel
theorem dX11_death_15 : decode cX11_death 15 = .ok (.invokevirtual 236, 3) := by decide +kernel
theorem dX11_death_18 : decode cX11_death 18 = .ok (.aload_n 0, 1) := by decide +kernel
theorem dX11_death_19 : decode cX11_death 19 = .ok (.getfield 45, 3) := by decide +kernel
theorem dX11_death_22 : decode cX11_death 22 = .ok (.iload_n 1, 1) := by decide +kernel
theorem dX11_death_23 : decode cX11_death 23 = .ok (.invokevirtual 239, 3) := by decide +kernel
theorem dX11_death_26 : decode cX11_death 26 = .ok (.aload_n 0, 1) := by decide +kernel
theorem dX11_death_27 : decode cX11_death 27 = .ok (.invokevirtual 230, 3) := by decide +kernel
theorem dX11_death_30 : decode cX11_death 30 = .ok (.aload_n 0, 1) := by decide +kernel
theorem dX11_death_31 : decode cX11_death 31 = .ok (.getfield 61, 3) := by decide +kernel
theorem dX11_death_34 : decode cX11_death 34 = .ok (.invokevirtual 242, 3) := by decide +kernel
theorem dX11_death_37 : decode cX11_death 37 = .ok (.ireturn, 1) := by decide +kernel
set_option maxRecDepth 20000 in
theorem ggX11_marry_X11_needPerson : GoodIn wsX11_marry wsX11_needPerson := goodIn_ca (goodIn_r _ [8, 9, 10, 3, 11, 47, 48, 49, 50, 51, 52, 53, 54, 55, 56, 57, 58, 59, 60, 61, 62, 63, 64, 65, 66, 67, 68, 69] (by decide +kernel) (by decide +kernel)) (goodIn_sub (fun _ h => List.mem_cons_of_mem _ (List.mem_append_left _ (List.mem_append_right _ h))) (by decide +kernel))
set_option maxRecDepth 20000 in
theorem gX11_marry_X11_needPerson : GoodIn wsX11_marry (wsV RX11 212 RX11 yX11_needPerson wsX11_needPerson) := goodIn_app (goodIn_of _ (by decide +kernel)) ggX11_marry_X11_needPerson
set_option maxRecDepth 20000 in
theorem ggX11_marry_X5_isMan : GoodIn wsX11_marry wsX5_isMan := goodIn_ca (goodIn_r _ [16, 17, 18, 19, 20, 15, 21, 22, 61, 62, 63, 64, 65, 66, 67, 68, 69] (by decide +kernel) (by decide +kernel)) (goodIn_sub (fun _ h => List.mem_cons_of_mem _ (List.mem_append_right _ h)) (by decide +kernel))
set_option maxRecDepth 20000 in
theorem gX11_marry_X5_isMan : GoodIn wsX11_marry (wsV RX11 215 RX5 yX5_isMan wsX5_isMan) := goodIn_app (goodIn_of _ (by decide +kernel)) ggX11_marry_X5_isMan
set_option maxRecDepth 20000 in
theorem ggX11_marry_X11_needAlive : GoodIn wsX11_marry wsX11_needAlive := goodIn_ca (goodIn_ca (goodIn_r _ [26, 1, 2, 3, 27, 28, 29, 15, 30, 31, 18, 19, 20, 21, 22, 47, 48, 49, 50, 51, 52, 53, 54, 55, 56, 57, 58, 59, 60, 61, 62, 63, 64, 65, 66, 67, 68, 69] (by decide +kernel) (by decide +kernel)) (goodIn_sub (fun _ h => List.mem_cons_of_mem _ (List.mem_append_left _ (List.mem_append_left _ (List.mem_append_right _ h)))) (by decide +kernel))) (goodIn_sub (fun _ h => List.mem_cons_of_mem _ (List.mem_append_right _ h)) (by decide +kernel))
set_option maxRecDepth 20000 in
theorem gX11_marry_X11_needAlive : GoodIn wsX11_marry (wsV RX11 233 RX11 yX11_needAlive wsX11_needAlive) := goodIn_app (goodIn_of _ (by decide +kernel)) ggX11_marry_X11_needAlive
set_option maxRecDepth 20000 in
theorem ggX11_marry_X5_spouseOf : GoodIn wsX11_marry wsX5_spouseOf := goodIn_ca (goodIn_r _ [35, 36, 18, 19, 20, 15, 21, 22, 61, 62, 63, 64, 65, 66, 67, 68, 69] (by decide +kernel) (by decide +kernel)) (goodIn_sub (fun _ h => List.mem_cons_of_mem _ (List.mem_append_right _ h)) (by decide +kernel))
set_option maxRecDepth 20000 in
theorem gX11_marry_X5_spouseOf : GoodIn wsX11_marry (wsV RX11 247 RX5 yX5_spouseOf wsX5_spouseOf) := goodIn_app (goodIn_of _ (by decide +kernel)) ggX11_marry_X5_spouseOf
set_option maxRecDepth 20000 in
theorem ggX11_marry_X5_join : GoodIn wsX11_marry wsX5_join := goodIn_ca (goodIn_r _ [40, 36, 18, 19, 20, 15, 21, 22, 61, 62, 63, 64, 65, 66, 67, 68, 69] (by decide +kernel) (by decide +kernel)) (goodIn_sub (fun _ h => List.mem_cons_of_mem _ (List.mem_append_right _ h)) (by decide +kernel))
set_option maxRecDepth 20000 in
theorem gX11_marry_X5_join : GoodIn wsX11_marry (wsV RX11 252 RX5 yX5_join wsX5_join) := goodIn_app (goodIn_of _ (by decide +kernel)) ggX11_marry_X5_join
set_option maxRecDepth 20000 in
theorem ggX11_marry_X5_isLastOfLine : GoodIn wsX11_marry wsX5_isLastOfLine := goodIn_ca (goodIn_r _ [44, 17, 45, 31, 46, 18, 19, 20, 15, 21, 22, 61, 62, 63, 64, 65, 66, 67, 68, 69] (by decide +kernel) (by decide +kernel)) (goodIn_sub (fun _ h => List.mem_cons_of_mem _ (List.mem_append_right _ h)) (by decide +kernel))
set_option maxRecDepth 20000 in
theorem gX11_marry_X5_isLastOfLine : GoodIn wsX11_marry (wsV RX11 255 RX5 yX5_isLastOfLine wsX5_isLastOfLine) := goodIn_app (goodIn_of _ (by decide +kernel)) ggX11_marry_X5_isLastOfLine
theorem dX11_marry_0 : decode cX11_marry 0 = .ok (.aload_n 0, 1) := by decide +kernel
theorem dX11_marry_1 : decode cX11_marry 1 = .ok (.iload_n 1, 1) := by decide +kernel
theorem dX11_marry_2 : decode cX11_marry 2 = .ok (.invokevirtual 212, 3) := by decide +kernel
theorem dX11_marry_5 : decode cX11_marry 5 = .ok (.aload_n 0, 1) := by decide +kernel
theorem dX11_marry_6 : decode cX11_marry 6 = .ok (.iload_n 2, 1) := by decide +kernel
theorem dX11_marry_7 : decode cX11_marry 7 = .ok (.invokevirtual 212, 3) := by decide +kernel
theorem dX11_marry_10 : decode cX11_marry 10 = .ok (.aload_n 0, 1) := by decide +kernel
theorem dX11_marry_11 : decode cX11_marry 11 = .ok (.getfield 45, 3) := by decide +kernel
theorem dX11_marry_14 : decode cX11_marry 14 = .ok (.iload_n 1, 1) := by decide +kernel
theorem dX11_marry_15 : decode cX11_marry 15 = .ok (.invokevirtual 215, 3) := by decide +kernel
theorem dX11_marry_18 : decode cX11_marry 18 = .ok (.ifCond .eq 14, 3) := by decide +kernel
theorem dX11_marry_21 : decode cX11_marry 21 = .ok (.aload_n 0, 1) := by decide +kernel
theorem dX11_marry_22 : decode cX11_marry 22 = .ok (.getfield 45, 3) := by decide +kernel
theorem dX11_marry_25 : decode cX11_marry 25 = .ok (.iload_n 2, 1) := by decide +kernel
theorem dX11_marry_26 : decode cX11_marry 26 = .ok (.invokevirtual 215, 3) := by decide +kernel
theorem dX11_marry_29 : decode cX11_marry 29 = .ok (.ifCond .eq 13, 3) := by decide +kernel
theorem dX11_marry_32 : decode cX11_marry 32 = .ok (.new 219, 3) := by decide +kernel
theorem dX11_marry_35 : decode cX11_marry 35 = .ok (.dup, 1) := by decide +kernel
theorem dX11_marry_36 : decode cX11_marry 36 = .ok (.ldc 245, 2) := by decide +kernel
theorem dX11_marry_38 : decode cX11_marry 38 = .ok (.invokespecial 223, 3) := by decide +kernel
theorem dX11_marry_41 : decode cX11_marry 41 = .ok (.athrow, 1) := by decide +kernel
theorem dX11_marry_42 : decode cX11_marry 42 = .ok (.aload_n 0, 1) := by decide +kernel
theorem dX11_marry_43 : decode cX11_marry 43 = .ok (.iload_n 1, 1) := by decide +kernel
theorem dX11_marry_44 : decode cX11_marry 44 = .ok (.invokevirtual 233, 3) := by decide +kernel
theorem dX11_marry_47 : decode cX11_marry 47 = .ok (.aload_n 0, 1) := by decide +kernel
theorem dX11_marry_48 : decode cX11_marry 48 = .ok (.iload_n 2, 1) := by decide +kernel
theorem dX11_marry_49 : decode cX11_marry 49 = .ok (.invokevirtual 233, 3) := by decide +kernel
theorem dX11_marry_52 : decode cX11_marry 52 = .ok (.aload_n 0, 1) := by decide +kernel
theorem dX11_marry_53 : decode cX11_marry 53 = .ok (.getfield 45, 3) := by decide +kernel
theorem dX11_marry_56 : decode cX11_marry 56 = .ok (.iload_n 1, 1) := by decide +kernel
theorem dX11_marry_57 : decode cX11_marry 57 = .ok (.invokevirtual 247, 3) := by decide +kernel
theorem dX11_marry_60 : decode cX11_marry 60 = .ok (.ifCond .ge 14, 3) := by decide +kernel
theorem dX11_marry_63 : decode cX11_marry 63 = .ok (.aload_n 0, 1) := by decide +kernel
theorem dX11_marry_64 : decode cX11_marry 64 = .ok (.getfield 45, 3) := by decide +kernel
theorem dX11_marry_67 : decode cX11_marry 67 = .ok (.iload_n 2, 1) := by decide +kernel
theorem dX11_marry_68 : decode cX11_marry 68 = .ok (.invokevirtual 247, 3) := by decide +kernel
theorem dX11_marry_71 : decode cX11_marry 71 = .ok (.ifCond .lt 13, 3) := by decide +kernel
theorem dX11_marry_74 : decode cX11_marry 74 = .ok (.new 219, 3) := by decide +kernel
theorem dX11_marry_77 : decode cX11_marry 77 = .ok (.dup, 1) := by decide +kernel
theorem dX11_marry_78 : decode cX11_marry 78 = .ok (.ldc 250, 2) := by decide +kernel
theorem dX11_marry_80 : decode cX11_marry 80 = .ok (.invokespecial 223, 3) := by decide +kernel
theorem dX11_marry_83 : decode cX11_marry 83 = .ok (.athrow, 1) := by decide +kernel
theorem dX11_marry_84 : decode cX11_marry 84 = .ok (.aload_n 0, 1) := by decide +kernel
theorem dX11_marry_85 : decode cX11_marry 85 = .ok (.getfield 45, 3) := by decide +kernel
theorem dX11_marry_88 : decode cX11_marry 88 = .ok (.iload_n 1, 1) := by decide +kernel
theorem dX11_marry_89 : decode cX11_marry 89 = .ok (.iload_n 2, 1) := by decide +kernel
theorem dX11_marry_90 : decode cX11_marry 90 = .ok (.invokevirtual 252, 3) := by decide +kernel
theorem dX11_marry_93 : decode cX11_marry 93 = .ok (.aload_n 0, 1) := by decide +kernel
theorem dX11_marry_94 : decode cX11_marry 94 = .ok (.getfield 45, 3) := by decide +kernel
theorem dX11_marry_97 : decode cX11_marry 97 = .ok (.iload_n 2, 1) := by decide +kernel
theorem dX11_marry_98 : decode cX11_marry 98 = .ok (.invokevirtual 255, 3) := by decide +kernel
theorem dX11_marry_101 : decode cX11_marry 101 = .ok (.ireturn, 1) := by decide +kernel
set_option maxRecDepth 20000 in
theorem ggX11_lives_X11_needPerson : GoodIn wsX11_lives wsX11_needPerson := goodIn_ca (goodIn_r _ [6, 7, 8, 1, 9, 21, 22, 23, 24, 25, 26, 27, 28, 29, 30, 31, 32, 33, 34, 35, 36, 37, 38, 39, 40, 41, 42, 43] (by decide +kernel) (by decide +kernel)) (goodIn_sub (fun _ h => List.mem_cons_of_mem _ (List.mem_append_left _ (List.mem_append_right _ h))) (by decide +kernel))
set_option maxRecDepth 20000 in
theorem gX11_lives_X11_needPerson : GoodIn wsX11_lives (wsV RX11 212 RX11 yX11_needPerson wsX11_needPerson) := goodIn_app (goodIn_of _ (by decide +kernel)) ggX11_lives_X11_needPerson
set_option maxRecDepth 20000 in
theorem ggX11_lives_X5_isAlive : GoodIn wsX11_lives wsX5_isAlive := goodIn_ca (goodIn_r _ [14, 15, 16, 17, 18, 13, 19, 20, 35, 36, 37, 38, 39, 40, 41, 42, 43] (by decide +kernel) (by decide +kernel)) (goodIn_sub (fun _ h => List.mem_cons_of_mem _ (List.mem_append_right _ h)) (by decide +kernel))
set_option maxRecDepth 20000 in
theorem gX11_lives_X5_isAlive : GoodIn wsX11_lives (wsV RX11 258 RX5 yX5_isAlive wsX5_isAlive) := goodIn_app (goodIn_of _ (by decide +kernel)) ggX11_lives_X5_isAlive
theorem dX11_lives_0 : decode cX11_lives 0 = .ok (.aload_n 0, 1) := by decide +kernel
theorem dX11_lives_1 : decode cX11_lives 1 = .ok (.iload_n 1, 1) := by decide +kernel
theorem dX11_lives_2 : decode cX11_lives 2 = .ok (.invokevirtual 212, 3) := by decide +kernel
theorem dX11_lives_5 : decode cX11_lives 5 = .ok (.aload_n 0, 1) := by decide +kernel
theorem dX11_lives_6 : decode cX11_lives 6 = .ok (.getfield 45, 3) := by decide +kernel
theorem dX11_lives_9 : decode cX11_lives 9 = .ok (.iload_n 1, 1) := by decide +kernel
theorem dX11_lives_10 : decode cX11_lives 10 = .ok (.invokevirtual 258, 3) := by decide +kernel
theorem dX11_lives_13 : decode cX11_lives 13 = .ok (.ireturn, 1) := by decide +kernel
set_option maxRecDepth 20000 in
theorem ggX11_spouse_X11_needPerson : GoodIn wsX11_spouse wsX11_needPerson := goodIn_ca (goodIn_r _ [8, 9, 10, 3, 11, 23, 24, 25, 26, 27, 28, 29, 30, 31, 32, 33, 34, 35, 36, 37, 38, 39, 40, 41, 42, 43, 44, 45] (by decide +kernel) (by decide +kernel)) (goodIn_sub (fun _ h => List.mem_cons_of_mem _ (List.mem_append_left _ (List.mem_append_right _ h))) (by decide +kernel))
set_option maxRecDepth 20000 in
theorem gX11_spouse_X11_needPerson : GoodIn wsX11_spouse (wsV RX11 212 RX11 yX11_needPerson wsX11_needPerson) := goodIn_app (goodIn_of _ (by decide +kernel)) ggX11_spouse_X11_needPerson
set_option maxRecDepth 20000 in
theorem ggX11_spouse_X5_spouseOf : GoodIn wsX11_spouse wsX5_spouseOf := goodIn_ca (goodIn_r _ [16, 17, 18, 19, 20, 15, 21, 22, 37, 38, 39, 40, 41, 42, 43, 44, 45] (by decide +kernel) (by decide +kernel)) (goodIn_sub (fun _ h => List.mem_cons_of_mem _ (List.mem_append_right _ h)) (by decide +kernel))
set_option maxRecDepth 20000 in
theorem gX11_spouse_X5_spouseOf : GoodIn wsX11_spouse (wsV RX11 247 RX5 yX5_spouseOf wsX5_spouseOf) := goodIn_app (goodIn_of _ (by decide +kernel)) ggX11_spouse_X5_spouseOf
theorem dX11_spouse_0 : decode cX11_spouse 0 = .ok (.aload_n 0, 1) := by decide +kernel
theorem dX11_spouse_1 : decode cX11_spouse 1 = .ok (.iload_n 1, 1) := by decide +kernel
theorem dX11_spouse_2 : decode cX11_spouse 2 = .ok (.invokevirtual 212, 3) := by decide +kernel
theorem dX11_spouse_5 : decode cX11_spouse 5 = .ok (.aload_n 0, 1) := by decide +kernel
theorem dX11_spouse_6 : decode cX11_spouse 6 = .ok (.getfield 45, 3) := by decide +kernel
theorem dX11_spouse_9 : decode cX11_spouse 9 = .ok (.iload_n 1, 1) := by decide +kernel
theorem dX11_spouse_10 : decode cX11_spouse 10 = .ok (.invokevirtual 247, 3) := by decide +kernel
theorem dX11_spouse_13 : decode cX11_spouse 13 = .ok (.istore_n 2, 1) := by decide +kernel
theorem dX11_spouse_14 : decode cX11_spouse 14 = .ok (.iload_n 2, 1) := by decide +kernel
theorem dX11_spouse_15 : decode cX11_spouse 15 = .ok (.ifCond .ge 14, 3) := by decide +kernel
theorem dX11_spouse_18 : decode cX11_spouse 18 = .ok (.new 156, 3) := by decide +kernel
theorem dX11_spouse_21 : decode cX11_spouse 21 = .ok (.dup, 1) := by decide +kernel
theorem dX11_spouse_22 : decode cX11_spouse 22 = .ok (.ldc_w 261, 3) := by decide +kernel
theorem dX11_spouse_25 : decode cX11_spouse 25 = .ok (.invokespecial 160, 3) := by decide +kernel
theorem dX11_spouse_28 : decode cX11_spouse 28 = .ok (.athrow, 1) := by decide +kernel
theorem dX11_spouse_29 : decode cX11_spouse 29 = .ok (.iload_n 2, 1) := by decide +kernel
theorem dX11_spouse_30 : decode cX11_spouse 30 = .ok (.ireturn, 1) := by decide +kernel
set_option maxRecDepth 20000 in
theorem ggX11_isHeiress_X11_needPerson : GoodIn wsX11_isHeiress wsX11_needPerson := goodIn_ca (goodIn_r _ [6, 7, 8, 1, 9, 24, 25, 26, 27, 28, 29, 30, 31, 32, 33, 34, 35, 36, 37, 38, 39, 40, 41, 42, 43, 44, 45, 46] (by decide +kernel) (by decide +kernel)) (goodIn_sub (fun _ h => List.mem_cons_of_mem _ (List.mem_append_left _ (List.mem_append_right _ h))) (by decide +kernel))
set_option maxRecDepth 20000 in
theorem gX11_isHeiress_X11_needPerson : GoodIn wsX11_isHeiress (wsV RX11 212 RX11 yX11_needPerson wsX11_needPerson) := goodIn_app (goodIn_of _ (by decide +kernel)) ggX11_isHeiress_X11_needPerson
set_option maxRecDepth 20000 in
theorem ggX11_isHeiress_X5_isLastOfLine : GoodIn wsX11_isHeiress wsX5_isLastOfLine := goodIn_ca (goodIn_r _ [14, 15, 16, 17, 18, 19, 20, 21, 13, 22, 23, 38, 39, 40, 41, 42, 43, 44, 45, 46] (by decide +kernel) (by decide +kernel)) (goodIn_sub (fun _ h => List.mem_cons_of_mem _ (List.mem_append_right _ h)) (by decide +kernel))
set_option maxRecDepth 20000 in
theorem gX11_isHeiress_X5_isLastOfLine : GoodIn wsX11_isHeiress (wsV RX11 255 RX5 yX5_isLastOfLine wsX5_isLastOfLine) := goodIn_app (goodIn_of _ (by decide +kernel)) ggX11_isHeiress_X5_isLastOfLine
theorem dX11_isHeiress_0 : decode cX11_isHeiress 0 = .ok (.aload_n 0, 1) := by decide +kernel
theorem dX11_isHeiress_1 : decode cX11_isHeiress 1 = .ok (.iload_n 1, 1) := by decide +kernel
theorem dX11_isHeiress_2 : decode cX11_isHeiress 2 = .ok (.invokevirtual 212, 3) := by decide +kernel
theorem dX11_isHeiress_5 : decode cX11_isHeiress 5 = .ok (.aload_n 0, 1) := by decide +kernel
theorem dX11_isHeiress_6 : decode cX11_isHeiress 6 = .ok (.getfield 45, 3) := by decide +kernel
theorem dX11_isHeiress_9 : decode cX11_isHeiress 9 = .ok (.iload_n 1, 1) := by decide +kernel
theorem dX11_isHeiress_10 : decode cX11_isHeiress 10 = .ok (.invokevirtual 255, 3) := by decide +kernel
theorem dX11_isHeiress_13 : decode cX11_isHeiress 13 = .ok (.ireturn, 1) := by decide +kernel
set_option maxRecDepth 20000 in
theorem ggX11_lineOf_X11_needPerson : GoodIn wsX11_lineOf wsX11_needPerson := goodIn_ca (goodIn_r _ [6, 7, 8, 1, 9, 21, 22, 23, 24, 25, 26, 27, 28, 29, 30, 31, 32, 33, 34, 35, 36, 37, 38, 39, 40, 41, 42, 43] (by decide +kernel) (by decide +kernel)) (goodIn_sub (fun _ h => List.mem_cons_of_mem _ (List.mem_append_left _ (List.mem_append_right _ h))) (by decide +kernel))
set_option maxRecDepth 20000 in
theorem gX11_lineOf_X11_needPerson : GoodIn wsX11_lineOf (wsV RX11 212 RX11 yX11_needPerson wsX11_needPerson) := goodIn_app (goodIn_of _ (by decide +kernel)) ggX11_lineOf_X11_needPerson
set_option maxRecDepth 20000 in
theorem ggX11_lineOf_X5_livingLine : GoodIn wsX11_lineOf wsX5_livingLine := goodIn_ca (goodIn_r _ [14, 15, 16, 17, 18, 13, 19, 20, 35, 36, 37, 38, 39, 40, 41, 42, 43] (by decide +kernel) (by decide +kernel)) (goodIn_sub (fun _ h => List.mem_cons_of_mem _ (List.mem_append_right _ h)) (by decide +kernel))
set_option maxRecDepth 20000 in
theorem gX11_lineOf_X5_livingLine : GoodIn wsX11_lineOf (wsV RX11 263 RX5 yX5_livingLine wsX5_livingLine) := goodIn_app (goodIn_of _ (by decide +kernel)) ggX11_lineOf_X5_livingLine
theorem dX11_lineOf_0 : decode cX11_lineOf 0 = .ok (.aload_n 0, 1) := by decide +kernel
theorem dX11_lineOf_1 : decode cX11_lineOf 1 = .ok (.iload_n 1, 1) := by decide +kernel
theorem dX11_lineOf_2 : decode cX11_lineOf 2 = .ok (.invokevirtual 212, 3) := by decide +kernel
theorem dX11_lineOf_5 : decode cX11_lineOf 5 = .ok (.aload_n 0, 1) := by decide +kernel
theorem dX11_lineOf_6 : decode cX11_lineOf 6 = .ok (.getfield 45, 3) := by decide +kernel
theorem dX11_lineOf_9 : decode cX11_lineOf 9 = .ok (.iload_n 1, 1) := by decide +kernel
theorem dX11_lineOf_10 : decode cX11_lineOf 10 = .ok (.invokevirtual 263, 3) := by decide +kernel
theorem dX11_lineOf_13 : decode cX11_lineOf 13 = .ok (.ireturn, 1) := by decide +kernel
set_option maxRecDepth 20000 in
theorem ggX11_grant_X11_needPerson : GoodIn wsX11_grant wsX11_needPerson := goodIn_ca (goodIn_r _ [9, 10, 11, 12, 13, 499, 500, 501, 502, 503, 504, 505, 506, 507, 508, 509, 510, 511, 512, 513, 514, 515, 516, 517, 518, 519, 520, 521] (by decide +kernel) (by decide +kernel)) (goodIn_sub (fun _ h => List.mem_cons_of_mem _ (List.mem_append_left _ (List.mem_append_left _ (List.mem_append_left _ (List.mem_append_right _ h))))) (by decide +kernel))
set_option maxRecDepth 20000 in
theorem gX11_grant_X11_needPerson : GoodIn wsX11_grant (wsV RX11 212 RX11 yX11_needPerson wsX11_needPerson) := goodIn_app (goodIn_of _ (by decide +kernel)) ggX11_grant_X11_needPerson
set_option maxRecDepth 20000 in
theorem ggX11_grant_X11_needLand : GoodIn wsX11_grant wsX11_needLand := goodIn_ca (goodIn_r _ [17, 18, 19] (by decide +kernel) (by decide +kernel)) (goodIn_sub (fun _ h => List.mem_cons_of_mem _ (List.mem_append_left _ (List.mem_append_left _ (List.mem_append_right _ h)))) (by decide +kernel))
set_option maxRecDepth 20000 in
theorem gX11_grant_X11_needLand : GoodIn wsX11_grant (wsV RX11 266 RX11 yX11_needLand wsX11_needLand) := goodIn_app (goodIn_of _ (by decide +kernel)) ggX11_grant_X11_needLand
set_option maxRecDepth 20000 in
theorem ggX11_grant_X11_needBlazon : GoodIn wsX11_grant wsX11_needBlazon := goodIn_ca (goodIn_r _ [23, 1, 2, 24, 25, 499, 500, 501, 502, 503, 504, 505, 506, 507, 508, 509, 510, 511, 512, 522, 523, 524, 525, 526, 527, 528, 529, 530, 531, 532, 533] (by decide +kernel) (by decide +kernel)) (goodIn_sub (fun _ h => List.mem_cons_of_mem _ (List.mem_append_left _ (List.mem_append_left _ (List.mem_append_left _ (List.mem_append_left _ (List.mem_append_right _ h)))))) (by decide +kernel))
set_option maxRecDepth 20000 in
theorem gX11_grant_X11_needBlazon : GoodIn wsX11_grant (wsV RX11 128 RX11 yX11_needBlazon wsX11_needBlazon) := goodIn_app (goodIn_of _ (by decide +kernel)) ggX11_grant_X11_needBlazon
set_option maxRecDepth 20000 in
theorem ggX11_grant_X11_needAlive : GoodIn wsX11_grant wsX11_needAlive := goodIn_ca (goodIn_ca (goodIn_r _ [29, 1, 2, 12, 30, 31, 32, 33, 34, 35, 36, 37, 38, 39, 40, 499, 500, 501, 502, 503, 504, 505, 506, 507, 508, 509, 510, 511, 512, 513, 514, 515, 516, 517, 518, 519, 520, 521] (by decide +kernel) (by decide +kernel)) (goodIn_sub (fun _ h => List.mem_cons_of_mem _ (List.mem_append_left _ (List.mem_append_left _ (List.mem_append_left _ (List.mem_append_left _ (List.mem_append_right _ h)))))) (by decide +kernel))) (goodIn_sub (fun _ h => List.mem_cons_of_mem _ (List.mem_append_left _ (List.mem_append_right _ h))) (by decide +kernel))
set_option maxRecDepth 20000 in
theorem gX11_grant_X11_needAlive : GoodIn wsX11_grant (wsV RX11 233 RX11 yX11_needAlive wsX11_needAlive) := goodIn_app (goodIn_of _ (by decide +kernel)) ggX11_grant_X11_needAlive
set_option maxRecDepth 20000 in
theorem ggX11_grant_X11_drawRow : GoodIn wsX11_grant wsX11_drawRow := goodIn_ca (goodIn_r _ [44, 45, 46, 4, 24, 47, 48, 49, 50, 51, 52, 53, 54, 55, 56, 57, 58, 59, 60, 61, 62, 63, 64, 65, 66, 67, 68, 69, 70, 71, 72, 73, 74, 75, 76, 77, 78, 79, 80, 81, 82, 83, 84, 85, 86, 87, 88, 89, 90, 91, 92, 93, 94, 95, 96, 97, 98, 99, 100, 101, 102, 103, 104, 105, 106, 107, 108, 109, 110, 111, 112, 113, 114, 115, 116, 117, 118, 119, 120, 121, 122, 123, 124, 125, 126, 127, 128, 129, 130, 131, 132, 133, 134, 135, 136, 137, 138, 139, 140, 141, 142, 143, 144, 145, 146, 147, 148, 149, 150, 151, 152, 153, 154, 155, 156, 157, 158, 159, 160, 161, 162, 163, 164, 165, 166, 167, 499, 500, 501, 502, 503, 504, 505, 506, 507, 508, 509, 510, 511, 512, 522, 523, 524, 525, 526, 527, 528, 529, 530, 531, 532, 533, 534, 535, 536, 537, 538, 539, 540, 541, 542, 543, 544, 545, 546, 547, 548, 549, 550, 551, 552, 553, 554, 555, 556, 557, 558, 559, 560, 561, 562, 563, 564] (by decide +kernel) (by decide +kernel)) (goodIn_sub (fun _ h => List.mem_cons_of_mem _ (List.mem_append_left _ (List.mem_append_right _ h))) (by decide +kernel))
set_option maxRecDepth 20000 in
theorem gX11_grant_X11_drawRow : GoodIn wsX11_grant (wsV RX11 131 RX11 yX11_drawRow wsX11_drawRow) := goodIn_app (goodIn_of _ (by decide +kernel)) ggX11_grant_X11_drawRow
set_option maxRecDepth 20000 in
theorem ggX11_grant_X2_conflictsWith : GoodIn wsX11_grant wsX2_conflictsWith := goodIn_ca (goodIn_r _ [172, 173, 174, 175, 176, 177, 178, 179, 180, 181, 182, 183, 184, 185, 186, 187, 188, 189, 190, 191, 192, 193, 194, 195, 196, 197, 198, 73, 199, 200, 201, 202, 80, 203, 204, 205, 206, 207, 208, 209, 210, 211, 212, 213, 214, 215, 216, 217, 218, 31, 32, 33, 34, 35, 36, 37, 38, 39, 40, 565, 566, 567, 568, 569, 570, 571, 572, 573, 574, 575, 576, 577, 578, 579, 580, 581, 582, 583, 584, 585, 586, 587, 588, 589, 547, 548, 549, 550, 551, 590, 591, 592, 593, 594, 595, 596, 597, 598, 599, 600, 513, 514, 515, 516, 517, 518, 519, 520, 521] (by decide +kernel) (by decide +kernel)) (goodIn_sub (fun _ h => List.mem_cons_of_mem _ (List.mem_append_left _ (List.mem_append_right _ h))) (by decide +kernel))
set_option maxRecDepth 20000 in
theorem gX11_grant_X2_conflictsWith : GoodIn wsX11_grant (wsV RX11 269 RX2 yX2_conflictsWith wsX2_conflictsWith) := goodIn_app (goodIn_of _ (by decide +kernel)) ggX11_grant_X2_conflictsWith
set_option maxRecDepth 20000 in
theorem ggX11_grant_X11_needRoom : GoodIn wsX11_grant wsX11_needRoom := goodIn_ca (goodIn_r _ [222, 223, 224, 225, 226, 499, 500, 501, 502, 503, 504, 505, 506, 507, 508, 509, 510, 511, 512, 578, 579, 580, 581, 582, 583, 584, 585, 586, 587, 588, 589] (by decide +kernel) (by decide +kernel)) (goodIn_sub (fun _ h => List.mem_cons_of_mem _ (List.mem_append_right _ h)) (by decide +kernel))
set_option maxRecDepth 20000 in
theorem gX11_grant_X11_needRoom : GoodIn wsX11_grant (wsV RX11 275 RX11 yX11_needRoom wsX11_needRoom) := goodIn_app (goodIn_of _ (by decide +kernel)) ggX11_grant_X11_needRoom
set_option maxRecDepth 20000 in
theorem ggX11_grant_X11_enter : GoodIn wsX11_grant wsX11_enter := goodIn_ca (goodIn_r _ [230, 225, 24, 231, 232, 233, 234, 179, 235, 186, 236, 237, 181, 238, 239, 240, 241, 242, 243, 244, 245, 96, 246, 247, 248, 249, 250, 251, 252, 253, 254, 255, 256, 257, 258, 259, 260, 261, 262, 263, 264, 265, 98, 266, 83, 84, 85, 267, 268, 269, 270, 271, 272, 273, 274, 275, 276, 277, 278, 279, 280, 281, 282, 283, 284, 285, 286, 287, 288, 289, 290, 291, 292, 293, 294, 295, 296, 297, 298, 299, 300, 301, 302, 303, 304, 305, 306, 307, 308, 309, 310, 311, 312, 313, 314, 315, 110, 316, 317, 318, 319, 320, 321, 322, 323, 324, 325, 326, 327, 328, 329, 330, 331, 332, 333, 334, 335, 336, 337, 192, 191, 338, 113, 114, 115, 182, 183, 184, 185, 339, 49, 50, 51, 52, 53, 54, 55, 56, 57, 58, 59, 60, 61, 62, 63, 64, 65, 66, 67, 68, 69, 70, 71, 72, 73, 74, 75, 76, 77, 78, 79, 80, 81, 82, 86, 87, 88, 89, 90, 91, 92, 93, 94, 95, 97, 99, 100, 101, 102, 103, 104, 105, 106, 107, 108, 109, 111, 112, 116, 117, 118, 119, 120, 121, 122, 123, 124, 125, 126, 127, 128, 129, 130, 131, 132, 133, 134, 135, 136, 137, 138, 139, 140, 141, 142, 143, 144, 145, 146, 147, 148, 149, 150, 151, 152, 153, 154, 155, 156, 157, 158, 159, 160, 161, 162, 163, 164, 165, 166, 167, 340, 341, 342, 343, 344, 345, 346, 347, 348, 349, 350, 8, 351, 352, 353, 354, 355, 356, 357, 358, 359, 360, 45, 361, 499, 500, 501, 502, 503, 504, 505, 506, 507, 508, 509, 510, 511, 512, 578, 579, 580, 581, 582, 583, 584, 585, 586, 587, 588, 589, 522, 523, 524, 525, 526, 527, 528, 529, 530, 531, 532, 533, 552, 553, 554, 555, 556, 557, 558, 559, 560, 561, 562, 563, 564, 547, 548, 549, 550, 551, 534, 535, 536, 537, 538, 539, 540, 541, 542, 543, 544, 545, 546] (by decide +kernel) (by decide +kernel)) (goodIn_sub (fun _ h => List.mem_cons_of_mem _ (List.mem_append_left _ (List.mem_append_right _ h))) (by decide +kernel))
set_option maxRecDepth 20000 in
theorem gX11_grant_X11_enter : GoodIn wsX11_grant (wsV RX11 278 RX11 yX11_enter wsX11_enter) := goodIn_app (goodIn_of _ (by decide +kernel)) ggX11_grant_X11_enter
set_option maxRecDepth 20000 in
theorem ggX11_grant_X11_settle : GoodIn wsX11_grant wsX11_settle := goodIn_ca (goodIn_r _ [365, 366, 367, 368, 369, 370, 213, 371, 372, 373, 215, 216, 217, 374, 375, 376, 377, 378, 379, 380, 381, 382, 383, 384, 385, 386, 387, 388, 179, 389, 238, 182, 183, 184, 185, 186, 390, 391, 392, 393, 242, 394, 395, 396, 33, 397, 398, 36, 37, 38, 39, 40, 218, 31, 32, 34, 35, 399, 400, 401, 402, 403, 404, 405, 406, 407, 408, 409, 410, 411, 412, 413, 414, 415, 416, 417, 418, 419, 420, 421, 422, 423, 424, 425, 426, 240, 427, 428, 429, 430, 431, 109, 110, 111, 432, 433, 113, 114, 115, 434, 435, 436, 437, 438, 439, 440, 441, 442, 443, 444, 445, 446, 447, 448, 449, 450, 451, 452, 453, 454, 455, 456, 457, 458, 459, 460, 461, 462, 463, 464, 465, 466, 467, 468, 469, 470, 471, 472, 473, 474, 475, 476, 477, 478, 479, 480, 481, 482, 483, 484, 485, 486, 487, 488, 489, 490, 491, 492, 493, 494, 495, 496, 497, 498, 499, 500, 501, 502, 503, 504, 505, 506, 507, 508, 509, 510, 511, 512, 590, 591, 592, 593, 594, 595, 596, 597, 598, 599, 600, 578, 579, 580, 581, 582, 583, 584, 585, 586, 587, 588, 589, 513, 514, 515, 516, 517, 518, 519, 520, 521, 601, 602, 603, 604, 605, 606, 607, 608, 609, 610] (by decide +kernel) (by decide +kernel)) (goodIn_sub (fun _ h => List.mem_cons_of_mem _ (List.mem_append_left _ (List.mem_append_right _ h))) (by decide +kernel))
set_option maxRecDepth 20000 in
theorem gX11_grant_X11_settle : GoodIn wsX11_grant (wsV RX11 230 RX11 yX11_settle wsX11_settle) := goodIn_app (goodIn_of _ (by decide +kernel)) ggX11_grant_X11_settle
theorem dX11_grant_0 : decode cX11_grant 0 = .ok (.aload_n 0, 1) := by decide +kernel
theorem dX11_grant_1 : decode cX11_grant 1 = .ok (.iload_n 1, 1) := by decide +kernel
theorem dX11_grant_2 : decode cX11_grant 2 = .ok (.invokevirtual 212, 3) := by decide +kernel
theorem dX11_grant_5 : decode cX11_grant 5 = .ok (.aload_n 0, 1) := by decide +kernel
theorem dX11_grant_6 : decode cX11_grant 6 = .ok (.iload_n 2, 1) := by decide +kernel
theorem dX11_grant_7 : decode cX11_grant 7 = .ok (.invokevirtual 266, 3) := by decide +kernel
theorem dX11_grant_10 : decode cX11_grant 10 = .ok (.aload_n 0, 1) := by decide +kernel
theorem dX11_grant_11 : decode cX11_grant 11 = .ok (.invokevirtual 128, 3) := by decide +kernel
theorem dX11_grant_14 : decode cX11_grant 14 = .ok (.aload_n 0, 1) := by decide +kernel
theorem dX11_grant_15 : decode cX11_grant 15 = .ok (.iload_n 1, 1) := by decide +kernel
theorem dX11_grant_16 : decode cX11_grant 16 = .ok (.invokevirtual 233, 3) := by decide +kernel
theorem dX11_grant_19 : decode cX11_grant 19 = .ok (.aload_n 0, 1) := by decide +kernel
theorem dX11_grant_20 : decode cX11_grant 20 = .ok (.invokevirtual 131, 3) := by decide +kernel
theorem dX11_grant_23 : decode cX11_grant 23 = .ok (.aload_n 0, 1) := by decide +kernel
theorem dX11_grant_24 : decode cX11_grant 24 = .ok (.getfield 88, 3) := by decide +kernel
theorem dX11_grant_27 : decode cX11_grant 27 = .ok (.aload_n 0, 1) := by decide +kernel
theorem dX11_grant_28 : decode cX11_grant 28 = .ok (.getfield 26, 3) := by decide +kernel
theorem dX11_grant_31 : decode cX11_grant 31 = .ok (.iload_n 1, 1) := by decide +kernel
theorem dX11_grant_32 : decode cX11_grant 32 = .ok (.iload_n 2, 1) := by decide +kernel
theorem dX11_grant_33 : decode cX11_grant 33 = .ok (.invokevirtual 269, 3) := by decide +kernel
theorem dX11_grant_36 : decode cX11_grant 36 = .ok (.ifCond .le 14, 3) := by decide +kernel
theorem dX11_grant_39 : decode cX11_grant 39 = .ok (.new 219, 3) := by decide +kernel
theorem dX11_grant_42 : decode cX11_grant 42 = .ok (.dup, 1) := by decide +kernel
theorem dX11_grant_43 : decode cX11_grant 43 = .ok (.ldc_w 273, 3) := by decide +kernel
theorem dX11_grant_46 : decode cX11_grant 46 = .ok (.invokespecial 223, 3) := by decide +kernel
theorem dX11_grant_49 : decode cX11_grant 49 = .ok (.athrow, 1) := by decide +kernel
theorem dX11_grant_50 : decode cX11_grant 50 = .ok (.aload_n 0, 1) := by decide +kernel
theorem dX11_grant_51 : decode cX11_grant 51 = .ok (.invokevirtual 275, 3) := by decide +kernel
theorem dX11_grant_54 : decode cX11_grant 54 = .ok (.aload_n 0, 1) := by decide +kernel
theorem dX11_grant_55 : decode cX11_grant 55 = .ok (.iload_n 1, 1) := by decide +kernel
theorem dX11_grant_56 : decode cX11_grant 56 = .ok (.iload_n 2, 1) := by decide +kernel
theorem dX11_grant_57 : decode cX11_grant 57 = .ok (.bipush 103, 2) := by decide +kernel
theorem dX11_grant_59 : decode cX11_grant 59 = .ok (.invokevirtual 278, 3) := by decide +kernel
theorem dX11_grant_62 : decode cX11_grant 62 = .ok (.istore_n 3, 1) := by decide +kernel
theorem dX11_grant_63 : decode cX11_grant 63 = .ok (.aload_n 0, 1) := by decide +kernel
theorem dX11_grant_64 : decode cX11_grant 64 = .ok (.invokevirtual 230, 3) := by decide +kernel
theorem dX11_grant_67 : decode cX11_grant 67 = .ok (.iload_n 3, 1) := by decide +kernel
theorem dX11_grant_68 : decode cX11_grant 68 = .ok (.ireturn, 1) := by decide +kernel
set_option maxRecDepth 20000 in
theorem ggX11_assume_X11_needPerson : GoodIn wsX11_assume wsX11_needPerson := goodIn_ca (goodIn_r _ [9, 10, 11, 12, 13, 458, 459, 460, 461, 462, 463, 464, 465, 466, 467, 468, 469, 470, 471, 472, 473, 474, 475, 476, 477, 478, 479, 480] (by decide +kernel) (by decide +kernel)) (goodIn_sub (fun _ h => List.mem_cons_of_mem _ (List.mem_append_left _ (List.mem_append_left _ (List.mem_append_left _ (List.mem_append_right _ h))))) (by decide +kernel))
set_option maxRecDepth 20000 in
theorem gX11_assume_X11_needPerson : GoodIn wsX11_assume (wsV RX11 212 RX11 yX11_needPerson wsX11_needPerson) := goodIn_app (goodIn_of _ (by decide +kernel)) ggX11_assume_X11_needPerson
set_option maxRecDepth 20000 in
theorem ggX11_assume_X11_needLand : GoodIn wsX11_assume wsX11_needLand := goodIn_ca (goodIn_r _ [17, 18, 19] (by decide +kernel) (by decide +kernel)) (goodIn_sub (fun _ h => List.mem_cons_of_mem _ (List.mem_append_left _ (List.mem_append_left _ (List.mem_append_right _ h)))) (by decide +kernel))
set_option maxRecDepth 20000 in
theorem gX11_assume_X11_needLand : GoodIn wsX11_assume (wsV RX11 266 RX11 yX11_needLand wsX11_needLand) := goodIn_app (goodIn_of _ (by decide +kernel)) ggX11_assume_X11_needLand
set_option maxRecDepth 20000 in
theorem ggX11_assume_X11_needBlazon : GoodIn wsX11_assume wsX11_needBlazon := goodIn_ca (goodIn_r _ [23, 1, 2, 24, 25, 458, 459, 460, 461, 462, 463, 464, 465, 466, 467, 468, 469, 470, 471, 481, 482, 483, 484, 485, 486, 487, 488, 489, 490, 491, 492] (by decide +kernel) (by decide +kernel)) (goodIn_sub (fun _ h => List.mem_cons_of_mem _ (List.mem_append_left _ (List.mem_append_left _ (List.mem_append_left _ (List.mem_append_left _ (List.mem_append_right _ h)))))) (by decide +kernel))
set_option maxRecDepth 20000 in
theorem gX11_assume_X11_needBlazon : GoodIn wsX11_assume (wsV RX11 128 RX11 yX11_needBlazon wsX11_needBlazon) := goodIn_app (goodIn_of _ (by decide +kernel)) ggX11_assume_X11_needBlazon
set_option maxRecDepth 20000 in
theorem ggX11_assume_X11_needAlive : GoodIn wsX11_assume wsX11_needAlive := goodIn_ca (goodIn_ca (goodIn_r _ [29, 1, 2, 12, 30, 31, 32, 33, 34, 35, 36, 37, 38, 39, 40, 458, 459, 460, 461, 462, 463, 464, 465, 466, 467, 468, 469, 470, 471, 472, 473, 474, 475, 476, 477, 478, 479, 480] (by decide +kernel) (by decide +kernel)) (goodIn_sub (fun _ h => List.mem_cons_of_mem _ (List.mem_append_left _ (List.mem_append_left _ (List.mem_append_left _ (List.mem_append_left _ (List.mem_append_right _ h)))))) (by decide +kernel))) (goodIn_sub (fun _ h => List.mem_cons_of_mem _ (List.mem_append_left _ (List.mem_append_right _ h))) (by decide +kernel))
set_option maxRecDepth 20000 in
theorem gX11_assume_X11_needAlive : GoodIn wsX11_assume (wsV RX11 233 RX11 yX11_needAlive wsX11_needAlive) := goodIn_app (goodIn_of _ (by decide +kernel)) ggX11_assume_X11_needAlive
set_option maxRecDepth 20000 in
theorem ggX11_assume_X0_armsOf : GoodIn wsX11_assume wsX0_armsOf := goodIn_ca (goodIn_r _ [45, 46, 47, 48, 37, 38, 33, 39, 40, 493, 494, 495, 496, 497, 498, 499, 500, 501, 502, 503, 472, 473, 474, 475, 476, 477, 478, 479, 480] (by decide +kernel) (by decide +kernel)) (goodIn_sub (fun _ h => List.mem_cons_of_mem _ (List.mem_append_left _ (List.mem_append_right _ h))) (by decide +kernel))
set_option maxRecDepth 20000 in
theorem gX11_assume_X0_armsOf : GoodIn wsX11_assume (wsV RX11 282 RX0 yX0_armsOf wsX0_armsOf) := goodIn_app (goodIn_of _ (by decide +kernel)) ggX11_assume_X0_armsOf
set_option maxRecDepth 20000 in
theorem ggX11_assume_X9_landOf : GoodIn wsX11_assume wsX9_landOf := goodIn_ca (goodIn_r _ [53, 54, 55, 56, 57, 52, 58, 59, 504, 505, 506, 507, 508, 509, 510, 511, 512, 513, 514, 515] (by decide +kernel) (by decide +kernel)) (goodIn_sub (fun _ h => List.mem_cons_of_mem _ (List.mem_append_left _ (List.mem_append_right _ h))) (by decide +kernel))
set_option maxRecDepth 20000 in
theorem gX11_assume_X9_landOf : GoodIn wsX11_assume (wsV RX11 285 RX9 yX9_landOf wsX9_landOf) := goodIn_app (goodIn_of _ (by decide +kernel)) ggX11_assume_X9_landOf
set_option maxRecDepth 20000 in
theorem ggX11_assume_X11_needRoom : GoodIn wsX11_assume wsX11_needRoom := goodIn_ca (goodIn_r _ [63, 64, 65, 3, 66, 458, 459, 460, 461, 462, 463, 464, 465, 466, 467, 468, 469, 470, 471, 504, 505, 506, 507, 508, 509, 510, 511, 512, 513, 514, 515] (by decide +kernel) (by decide +kernel)) (goodIn_sub (fun _ h => List.mem_cons_of_mem _ (List.mem_append_right _ h)) (by decide +kernel))
set_option maxRecDepth 20000 in
theorem gX11_assume_X11_needRoom : GoodIn wsX11_assume (wsV RX11 275 RX11 yX11_needRoom wsX11_needRoom) := goodIn_app (goodIn_of _ (by decide +kernel)) ggX11_assume_X11_needRoom
set_option maxRecDepth 20000 in
theorem ggX11_assume_X11_enter : GoodIn wsX11_assume wsX11_enter := goodIn_ca (goodIn_r _ [70, 3, 24, 71, 72, 73, 74, 52, 75, 59, 76, 77, 54, 78, 79, 80, 81, 82, 83, 84, 85, 86, 87, 88, 89, 90, 91, 92, 93, 94, 95, 96, 97, 98, 99, 100, 101, 102, 103, 104, 105, 106, 107, 108, 109, 110, 111, 112, 113, 114, 115, 116, 117, 118, 119, 120, 121, 122, 123, 124, 125, 126, 127, 128, 129, 130, 131, 132, 133, 134, 135, 136, 137, 138, 139, 140, 141, 142, 143, 144, 145, 146, 147, 148, 149, 150, 151, 152, 153, 154, 155, 156, 157, 158, 159, 160, 161, 162, 163, 164, 165, 166, 167, 168, 169, 170, 171, 172, 173, 174, 175, 176, 177, 178, 179, 180, 181, 182, 183, 184, 185, 186, 187, 188, 189, 55, 56, 57, 58, 190, 191, 192, 193, 194, 195, 196, 197, 198, 199, 200, 201, 202, 203, 204, 205, 206, 207, 208, 209, 210, 211, 212, 213, 214, 215, 216, 217, 218, 219, 220, 221, 222, 223, 224, 225, 226, 227, 228, 229, 230, 231, 232, 233, 234, 235, 236, 237, 238, 239, 240, 241, 242, 243, 244, 245, 246, 247, 248, 249, 250, 251, 252, 253, 254, 255, 256, 257, 258, 259, 260, 261, 262, 263, 264, 265, 266, 267, 268, 269, 270, 271, 272, 273, 274, 275, 276, 277, 278, 279, 280, 281, 282, 283, 284, 285, 286, 287, 288, 289, 290, 291, 292, 293, 294, 295, 296, 297, 298, 299, 300, 301, 302, 303, 304, 305, 306, 307, 308, 309, 310, 311, 8, 312, 313, 314, 315, 316, 317, 318, 319, 320, 321, 322, 323, 458, 459, 460, 461, 462, 463, 464, 465, 466, 467, 468, 469, 470, 471, 504, 505, 506, 507, 508, 509, 510, 511, 512, 513, 514, 515, 481, 482, 483, 484, 485, 486, 487, 488, 489, 490, 491, 492, 516, 517, 518, 519, 520, 521, 522, 523, 524, 525, 526, 527, 528, 529, 530, 531, 532, 533, 534, 535, 536, 537, 538, 539, 540, 541, 542, 543, 544, 545, 546] (by decide +kernel) (by decide +kernel)) (goodIn_sub (fun _ h => List.mem_cons_of_mem _ (List.mem_append_left _ (List.mem_append_right _ h))) (by decide +kernel))
set_option maxRecDepth 20000 in
theorem gX11_assume_X11_enter : GoodIn wsX11_assume (wsV RX11 278 RX11 yX11_enter wsX11_enter) := goodIn_app (goodIn_of _ (by decide +kernel)) ggX11_assume_X11_enter
set_option maxRecDepth 20000 in
theorem ggX11_assume_X11_settle : GoodIn wsX11_assume wsX11_settle := goodIn_ca (goodIn_r _ [327, 4, 328, 329, 330, 331, 44, 332, 333, 334, 46, 335, 47, 336, 337, 338, 339, 340, 341, 342, 343, 344, 345, 346, 347, 348, 349, 350, 52, 351, 78, 55, 56, 57, 58, 59, 352, 353, 354, 355, 82, 356, 357, 358, 33, 359, 360, 36, 37, 38, 39, 40, 361, 31, 32, 34, 35, 362, 363, 364, 365, 366, 367, 368, 369, 370, 371, 372, 373, 374, 375, 376, 48, 377, 378, 379, 380, 381, 382, 383, 384, 385, 386, 387, 388, 80, 389, 390, 391, 392, 393, 246, 161, 247, 394, 395, 187, 188, 189, 396, 397, 398, 399, 400, 401, 402, 403, 404, 405, 406, 407, 408, 409, 410, 411, 412, 413, 414, 415, 416, 417, 418, 419, 420, 421, 422, 423, 424, 425, 426, 427, 428, 429, 430, 431, 432, 433, 434, 435, 42, 43, 45, 436, 437, 438, 439, 440, 441, 442, 443, 444, 445, 446, 447, 448, 449, 450, 451, 452, 453, 454, 455, 456, 457, 458, 459, 460, 461, 462, 463, 464, 465, 466, 467, 468, 469, 470, 471, 493, 494, 495, 496, 497, 498, 499, 500, 501, 502, 503, 504, 505, 506, 507, 508, 509, 510, 511, 512, 513, 514, 515, 472, 473, 474, 475, 476, 477, 478, 479, 480, 547, 548, 549, 550, 551, 552, 553, 554, 555, 556] (by decide +kernel) (by decide +kernel)) (goodIn_sub (fun _ h => List.mem_cons_of_mem _ (List.mem_append_left _ (List.mem_append_right _ h))) (by decide +kernel))
set_option maxRecDepth 20000 in
theorem gX11_assume_X11_settle : GoodIn wsX11_assume (wsV RX11 230 RX11 yX11_settle wsX11_settle) := goodIn_app (goodIn_of _ (by decide +kernel)) ggX11_assume_X11_settle
theorem dX11_assume_0 : decode cX11_assume 0 = .ok (.aload_n 0, 1) := by decide +kernel
theorem dX11_assume_1 : decode cX11_assume 1 = .ok (.iload_n 1, 1) := by decide +kernel
theorem dX11_assume_2 : decode cX11_assume 2 = .ok (.invokevirtual 212, 3) := by decide +kernel
theorem dX11_assume_5 : decode cX11_assume 5 = .ok (.aload_n 0, 1) := by decide +kernel
theorem dX11_assume_6 : decode cX11_assume 6 = .ok (.iload_n 2, 1) := by decide +kernel
theorem dX11_assume_7 : decode cX11_assume 7 = .ok (.invokevirtual 266, 3) := by decide +kernel
theorem dX11_assume_10 : decode cX11_assume 10 = .ok (.aload_n 0, 1) := by decide +kernel
theorem dX11_assume_11 : decode cX11_assume 11 = .ok (.invokevirtual 128, 3) := by decide +kernel
theorem dX11_assume_14 : decode cX11_assume 14 = .ok (.aload_n 0, 1) := by decide +kernel
theorem dX11_assume_15 : decode cX11_assume 15 = .ok (.iload_n 1, 1) := by decide +kernel
theorem dX11_assume_16 : decode cX11_assume 16 = .ok (.invokevirtual 233, 3) := by decide +kernel
theorem dX11_assume_19 : decode cX11_assume 19 = .ok (.aload_n 0, 1) := by decide +kernel
theorem dX11_assume_20 : decode cX11_assume 20 = .ok (.getfield 52, 3) := by decide +kernel
theorem dX11_assume_23 : decode cX11_assume 23 = .ok (.aload_n 0, 1) := by decide +kernel
theorem dX11_assume_24 : decode cX11_assume 24 = .ok (.getfield 61, 3) := by decide +kernel
theorem dX11_assume_27 : decode cX11_assume 27 = .ok (.iload_n 1, 1) := by decide +kernel
theorem dX11_assume_28 : decode cX11_assume 28 = .ok (.invokevirtual 282, 3) := by decide +kernel
theorem dX11_assume_31 : decode cX11_assume 31 = .ok (.invokevirtual 285, 3) := by decide +kernel
theorem dX11_assume_34 : decode cX11_assume 34 = .ok (.iload_n 2, 1) := by decide +kernel
theorem dX11_assume_35 : decode cX11_assume 35 = .ok (.if_icmp .ne 14, 3) := by decide +kernel
theorem dX11_assume_38 : decode cX11_assume 38 = .ok (.new 219, 3) := by decide +kernel
theorem dX11_assume_41 : decode cX11_assume 41 = .ok (.dup, 1) := by decide +kernel
theorem dX11_assume_42 : decode cX11_assume 42 = .ok (.ldc_w 288, 3) := by decide +kernel
theorem dX11_assume_45 : decode cX11_assume 45 = .ok (.invokespecial 223, 3) := by decide +kernel
theorem dX11_assume_48 : decode cX11_assume 48 = .ok (.athrow, 1) := by decide +kernel
theorem dX11_assume_49 : decode cX11_assume 49 = .ok (.aload_n 0, 1) := by decide +kernel
theorem dX11_assume_50 : decode cX11_assume 50 = .ok (.invokevirtual 275, 3) := by decide +kernel
theorem dX11_assume_53 : decode cX11_assume 53 = .ok (.aload_n 0, 1) := by decide +kernel
theorem dX11_assume_54 : decode cX11_assume 54 = .ok (.iload_n 1, 1) := by decide +kernel
theorem dX11_assume_55 : decode cX11_assume 55 = .ok (.iload_n 2, 1) := by decide +kernel
theorem dX11_assume_56 : decode cX11_assume 56 = .ok (.bipush 117, 2) := by decide +kernel
theorem dX11_assume_58 : decode cX11_assume 58 = .ok (.invokevirtual 278, 3) := by decide +kernel
theorem dX11_assume_61 : decode cX11_assume 61 = .ok (.istore_n 3, 1) := by decide +kernel
theorem dX11_assume_62 : decode cX11_assume 62 = .ok (.aload_n 0, 1) := by decide +kernel
theorem dX11_assume_63 : decode cX11_assume 63 = .ok (.invokevirtual 230, 3) := by decide +kernel
theorem dX11_assume_66 : decode cX11_assume 66 = .ok (.iload_n 3, 1) := by decide +kernel
theorem dX11_assume_67 : decode cX11_assume 67 = .ok (.ireturn, 1) := by decide +kernel
set_option maxRecDepth 20000 in
theorem ggX11_cameBy_X11_needArms : GoodIn wsX11_cameBy wsX11_needArms := goodIn_ca (goodIn_r _ [6, 7, 8, 1, 9, 21, 22, 23, 24, 25, 26, 27, 28, 29, 30, 31, 32, 33, 34, 35, 36, 37, 38, 39, 40, 41, 42, 43, 44, 45, 46] (by decide +kernel) (by decide +kernel)) (goodIn_sub (fun _ h => List.mem_cons_of_mem _ (List.mem_append_left _ (List.mem_append_right _ h))) (by decide +kernel))
set_option maxRecDepth 20000 in
theorem gX11_cameBy_X11_needArms : GoodIn wsX11_cameBy (wsV RX11 290 RX11 yX11_needArms wsX11_needArms) := goodIn_app (goodIn_of _ (by decide +kernel)) ggX11_cameBy_X11_needArms
set_option maxRecDepth 20000 in
theorem ggX11_cameBy_X9_letterOf : GoodIn wsX11_cameBy wsX9_letterOf := goodIn_ca (goodIn_r _ [14, 15, 16, 17, 18, 13, 19, 20, 35, 36, 37, 38, 39, 40, 41, 42, 43, 44, 45, 46] (by decide +kernel) (by decide +kernel)) (goodIn_sub (fun _ h => List.mem_cons_of_mem _ (List.mem_append_right _ h)) (by decide +kernel))
set_option maxRecDepth 20000 in
theorem gX11_cameBy_X9_letterOf : GoodIn wsX11_cameBy (wsV RX11 293 RX9 yX9_letterOf wsX9_letterOf) := goodIn_app (goodIn_of _ (by decide +kernel)) ggX11_cameBy_X9_letterOf
theorem dX11_cameBy_0 : decode cX11_cameBy 0 = .ok (.aload_n 0, 1) := by decide +kernel
theorem dX11_cameBy_1 : decode cX11_cameBy 1 = .ok (.iload_n 1, 1) := by decide +kernel
theorem dX11_cameBy_2 : decode cX11_cameBy 2 = .ok (.invokevirtual 290, 3) := by decide +kernel
theorem dX11_cameBy_5 : decode cX11_cameBy 5 = .ok (.aload_n 0, 1) := by decide +kernel
theorem dX11_cameBy_6 : decode cX11_cameBy 6 = .ok (.getfield 52, 3) := by decide +kernel
theorem dX11_cameBy_9 : decode cX11_cameBy 9 = .ok (.iload_n 1, 1) := by decide +kernel
theorem dX11_cameBy_10 : decode cX11_cameBy 10 = .ok (.invokevirtual 293, 3) := by decide +kernel
theorem dX11_cameBy_13 : decode cX11_cameBy 13 = .ok (.ireturn, 1) := by decide +kernel
set_option maxRecDepth 20000 in
theorem ggX11_yearOf_X11_needArms : GoodIn wsX11_yearOf wsX11_needArms := goodIn_ca (goodIn_r _ [6, 7, 8, 1, 9, 21, 22, 23, 24, 25, 26, 27, 28, 29, 30, 31, 32, 33, 34, 35, 36, 37, 38, 39, 40, 41, 42, 43, 44, 45, 46] (by decide +kernel) (by decide +kernel)) (goodIn_sub (fun _ h => List.mem_cons_of_mem _ (List.mem_append_left _ (List.mem_append_right _ h))) (by decide +kernel))
set_option maxRecDepth 20000 in
theorem gX11_yearOf_X11_needArms : GoodIn wsX11_yearOf (wsV RX11 290 RX11 yX11_needArms wsX11_needArms) := goodIn_app (goodIn_of _ (by decide +kernel)) ggX11_yearOf_X11_needArms
set_option maxRecDepth 20000 in
theorem ggX11_yearOf_X9_yearWhen : GoodIn wsX11_yearOf wsX9_yearWhen := goodIn_ca (goodIn_r _ [14, 15, 16, 17, 18, 13, 19, 20, 35, 36, 37, 38, 39, 40, 41, 42, 43, 44, 45, 46] (by decide +kernel) (by decide +kernel)) (goodIn_sub (fun _ h => List.mem_cons_of_mem _ (List.mem_append_right _ h)) (by decide +kernel))
set_option maxRecDepth 20000 in
theorem gX11_yearOf_X9_yearWhen : GoodIn wsX11_yearOf (wsV RX11 297 RX9 yX9_yearWhen wsX9_yearWhen) := goodIn_app (goodIn_of _ (by decide +kernel)) ggX11_yearOf_X9_yearWhen
theorem dX11_yearOf_0 : decode cX11_yearOf 0 = .ok (.aload_n 0, 1) := by decide +kernel
theorem dX11_yearOf_1 : decode cX11_yearOf 1 = .ok (.iload_n 1, 1) := by decide +kernel
theorem dX11_yearOf_2 : decode cX11_yearOf 2 = .ok (.invokevirtual 290, 3) := by decide +kernel
theorem dX11_yearOf_5 : decode cX11_yearOf 5 = .ok (.aload_n 0, 1) := by decide +kernel
theorem dX11_yearOf_6 : decode cX11_yearOf 6 = .ok (.getfield 52, 3) := by decide +kernel
theorem dX11_yearOf_9 : decode cX11_yearOf 9 = .ok (.iload_n 1, 1) := by decide +kernel
theorem dX11_yearOf_10 : decode cX11_yearOf 10 = .ok (.invokevirtual 297, 3) := by decide +kernel
theorem dX11_yearOf_13 : decode cX11_yearOf 13 = .ok (.ireturn, 1) := by decide +kernel
set_option maxRecDepth 20000 in
theorem ggX11_borne_X11_needPerson : GoodIn wsX11_borne wsX11_needPerson := goodIn_ca (goodIn_r _ [6, 7, 8, 9, 10, 30, 31, 32, 33, 34, 35, 36, 37, 38, 39, 40, 41, 42, 43, 44, 45, 46, 47, 48, 49, 50, 51, 52] (by decide +kernel) (by decide +kernel)) (goodIn_sub (fun _ h => List.mem_cons_of_mem _ (List.mem_append_left _ (List.mem_append_left _ (List.mem_append_right _ h)))) (by decide +kernel))
set_option maxRecDepth 20000 in
theorem gX11_borne_X11_needPerson : GoodIn wsX11_borne (wsV RX11 212 RX11 yX11_needPerson wsX11_needPerson) := goodIn_app (goodIn_of _ (by decide +kernel)) ggX11_borne_X11_needPerson
set_option maxRecDepth 20000 in
theorem ggX11_borne_X11_needBearer : GoodIn wsX11_borne wsX11_needBearer := goodIn_ca (goodIn_ca (goodIn_r _ [14, 15, 16, 1, 17, 18, 19, 20, 21, 22, 23, 24, 25, 26, 27, 28, 29, 30, 31, 32, 33, 34, 35, 36, 37, 38, 39, 40, 41, 42, 43, 53, 54, 55, 56, 57, 58, 59, 60, 61, 62, 63, 44, 45, 46, 47, 48, 49, 50, 51, 52] (by decide +kernel) (by decide +kernel)) (goodIn_sub (fun _ h => List.mem_cons_of_mem _ (List.mem_append_left _ (List.mem_append_right _ h))) (by decide +kernel))) (goodIn_sub (fun _ h => List.mem_cons_of_mem _ (List.mem_append_right _ h)) (by decide +kernel))
set_option maxRecDepth 20000 in
theorem gX11_borne_X11_needBearer : GoodIn wsX11_borne (wsV RX11 300 RX11 yX11_needBearer wsX11_needBearer) := goodIn_app (goodIn_of _ (by decide +kernel)) ggX11_borne_X11_needBearer
set_option maxRecDepth 20000 in
theorem ggX11_borne_X0_armsOf : GoodIn wsX11_borne wsX0_armsOf := goodIn_ca (goodIn_r _ [21, 22, 23, 24, 25, 26, 27, 28, 29, 53, 54, 55, 56, 57, 58, 59, 60, 61, 62, 63, 44, 45, 46, 47, 48, 49, 50, 51, 52] (by decide +kernel) (by decide +kernel)) (goodIn_sub (fun _ h => List.mem_cons_of_mem _ (List.mem_append_right _ h)) (by decide +kernel))
set_option maxRecDepth 20000 in
theorem gX11_borne_X0_armsOf : GoodIn wsX11_borne (wsV RX11 282 RX0 yX0_armsOf wsX0_armsOf) := goodIn_app (goodIn_of _ (by decide +kernel)) ggX11_borne_X0_armsOf
theorem dX11_borne_0 : decode cX11_borne 0 = .ok (.aload_n 0, 1) := by decide +kernel
theorem dX11_borne_1 : decode cX11_borne 1 = .ok (.iload_n 1, 1) := by decide +kernel
theorem dX11_borne_2 : decode cX11_borne 2 = .ok (.invokevirtual 212, 3) := by decide +kernel
theorem dX11_borne_5 : decode cX11_borne 5 = .ok (.aload_n 0, 1) := by decide +kernel
theorem dX11_borne_6 : decode cX11_borne 6 = .ok (.iload_n 1, 1) := by decide +kernel
theorem dX11_borne_7 : decode cX11_borne 7 = .ok (.invokevirtual 300, 3) := by decide +kernel
theorem dX11_borne_10 : decode cX11_borne 10 = .ok (.aload_n 0, 1) := by decide +kernel
theorem dX11_borne_11 : decode cX11_borne 11 = .ok (.getfield 61, 3) := by decide +kernel
theorem dX11_borne_14 : decode cX11_borne 14 = .ok (.iload_n 1, 1) := by decide +kernel
theorem dX11_borne_15 : decode cX11_borne 15 = .ok (.invokevirtual 282, 3) := by decide +kernel
theorem dX11_borne_18 : decode cX11_borne 18 = .ok (.ireturn, 1) := by decide +kernel
set_option maxRecDepth 20000 in
theorem ggX11_differences_X11_needPerson : GoodIn wsX11_differences wsX11_needPerson := goodIn_ca (goodIn_r _ [6, 7, 8, 9, 10, 35, 36, 37, 38, 39, 40, 41, 42, 43, 44, 45, 46, 47, 48, 49, 50, 51, 52, 53, 54, 55, 56, 57] (by decide +kernel) (by decide +kernel)) (goodIn_sub (fun _ h => List.mem_cons_of_mem _ (List.mem_append_left _ (List.mem_append_left _ (List.mem_append_right _ h)))) (by decide +kernel))
set_option maxRecDepth 20000 in
theorem gX11_differences_X11_needPerson : GoodIn wsX11_differences (wsV RX11 212 RX11 yX11_needPerson wsX11_needPerson) := goodIn_app (goodIn_of _ (by decide +kernel)) ggX11_differences_X11_needPerson
set_option maxRecDepth 20000 in
theorem ggX11_differences_X11_needBearer : GoodIn wsX11_differences wsX11_needBearer := goodIn_ca (goodIn_ca (goodIn_r _ [14, 15, 16, 1, 17, 18, 19, 20, 21, 22, 23, 24, 25, 26, 27, 28, 29, 35, 36, 37, 38, 39, 40, 41, 42, 43, 44, 45, 46, 47, 48, 58, 59, 60, 61, 62, 63, 64, 65, 66, 67, 68, 49, 50, 51, 52, 53, 54, 55, 56, 57] (by decide +kernel) (by decide +kernel)) (goodIn_sub (fun _ h => List.mem_cons_of_mem _ (List.mem_append_left _ (List.mem_append_right _ h))) (by decide +kernel))) (goodIn_sub (fun _ h => List.mem_cons_of_mem _ (List.mem_append_right _ h)) (by decide +kernel))
set_option maxRecDepth 20000 in
theorem gX11_differences_X11_needBearer : GoodIn wsX11_differences (wsV RX11 300 RX11 yX11_needBearer wsX11_needBearer) := goodIn_app (goodIn_of _ (by decide +kernel)) ggX11_differences_X11_needBearer
set_option maxRecDepth 20000 in
theorem ggX11_differences_X0_markCount : GoodIn wsX11_differences wsX0_markCount := goodIn_ca (goodIn_r _ [33, 22, 34, 24, 25, 26, 27, 28, 29, 58, 59, 60, 61, 62, 63, 64, 65, 66, 67, 68, 49, 50, 51, 52, 53, 54, 55, 56, 57] (by decide +kernel) (by decide +kernel)) (goodIn_sub (fun _ h => List.mem_cons_of_mem _ (List.mem_append_right _ h)) (by decide +kernel))
set_option maxRecDepth 20000 in
theorem gX11_differences_X0_markCount : GoodIn wsX11_differences (wsV RX11 303 RX0 yX0_markCount wsX0_markCount) := goodIn_app (goodIn_of _ (by decide +kernel)) ggX11_differences_X0_markCount
theorem dX11_differences_0 : decode cX11_differences 0 = .ok (.aload_n 0, 1) := by decide +kernel
theorem dX11_differences_1 : decode cX11_differences 1 = .ok (.iload_n 1, 1) := by decide +kernel
theorem dX11_differences_2 : decode cX11_differences 2 = .ok (.invokevirtual 212, 3) := by decide +kernel
theorem dX11_differences_5 : decode cX11_differences 5 = .ok (.aload_n 0, 1) := by decide +kernel
theorem dX11_differences_6 : decode cX11_differences 6 = .ok (.iload_n 1, 1) := by decide +kernel
theorem dX11_differences_7 : decode cX11_differences 7 = .ok (.invokevirtual 300, 3) := by decide +kernel
theorem dX11_differences_10 : decode cX11_differences 10 = .ok (.aload_n 0, 1) := by decide +kernel
theorem dX11_differences_11 : decode cX11_differences 11 = .ok (.getfield 61, 3) := by decide +kernel
theorem dX11_differences_14 : decode cX11_differences 14 = .ok (.iload_n 1, 1) := by decide +kernel
theorem dX11_differences_15 : decode cX11_differences 15 = .ok (.invokevirtual 303, 3) := by decide +kernel
theorem dX11_differences_18 : decode cX11_differences 18 = .ok (.ireturn, 1) := by decide +kernel
set_option maxRecDepth 20000 in
theorem ggX11_difference_X11_needPerson : GoodIn wsX11_difference wsX11_needPerson := goodIn_ca (goodIn_r _ [8, 9, 10, 11, 12, 40, 41, 42, 43, 44, 45, 46, 47, 48, 49, 50, 51, 52, 53, 54, 55, 56, 57, 58, 59, 60, 61, 62] (by decide +kernel) (by decide +kernel)) (goodIn_sub (fun _ h => List.mem_cons_of_mem _ (List.mem_append_left _ (List.mem_append_right _ h))) (by decide +kernel))
set_option maxRecDepth 20000 in
theorem gX11_difference_X11_needPerson : GoodIn wsX11_difference (wsV RX11 212 RX11 yX11_needPerson wsX11_needPerson) := goodIn_app (goodIn_of _ (by decide +kernel)) ggX11_difference_X11_needPerson
set_option maxRecDepth 20000 in
theorem ggX11_difference_X11_needBearer : GoodIn wsX11_difference wsX11_needBearer := goodIn_ca (goodIn_ca (goodIn_r _ [16, 1, 2, 3, 17, 18, 19, 20, 21, 22, 23, 24, 25, 26, 27, 28, 29, 40, 41, 42, 43, 44, 45, 46, 47, 48, 49, 50, 51, 52, 53, 63, 64, 65, 66, 67, 68, 69, 70, 71, 72, 73, 54, 55, 56, 57, 58, 59, 60, 61, 62] (by decide +kernel) (by decide +kernel)) (goodIn_sub (fun _ h => List.mem_cons_of_mem _ (List.mem_append_left _ (List.mem_append_left _ (List.mem_append_right _ h)))) (by decide +kernel))) (goodIn_sub (fun _ h => List.mem_cons_of_mem _ (List.mem_append_right _ h)) (by decide +kernel))
set_option maxRecDepth 20000 in
theorem gX11_difference_X11_needBearer : GoodIn wsX11_difference (wsV RX11 300 RX11 yX11_needBearer wsX11_needBearer) := goodIn_app (goodIn_of _ (by decide +kernel)) ggX11_difference_X11_needBearer
set_option maxRecDepth 20000 in
theorem ggX11_difference_X0_markCount : GoodIn wsX11_difference wsX0_markCount := goodIn_ca (goodIn_r _ [33, 22, 34, 24, 25, 26, 27, 28, 29, 63, 64, 65, 66, 67, 68, 69, 70, 71, 72, 73, 54, 55, 56, 57, 58, 59, 60, 61, 62] (by decide +kernel) (by decide +kernel)) (goodIn_sub (fun _ h => List.mem_cons_of_mem _ (List.mem_append_right _ h)) (by decide +kernel))
set_option maxRecDepth 20000 in
theorem gX11_difference_X0_markCount : GoodIn wsX11_difference (wsV RX11 303 RX0 yX0_markCount wsX0_markCount) := goodIn_app (goodIn_of _ (by decide +kernel)) ggX11_difference_X0_markCount
set_option maxRecDepth 20000 in
theorem ggX11_difference_X0_markAt : GoodIn wsX11_difference wsX0_markAt := goodIn_ca (goodIn_r _ [38, 22, 39, 24, 25, 26, 27, 28, 29, 63, 64, 65, 66, 67, 68, 69, 70, 71, 72, 73, 54, 55, 56, 57, 58, 59, 60, 61, 62] (by decide +kernel) (by decide +kernel)) (goodIn_sub (fun _ h => List.mem_cons_of_mem _ (List.mem_append_right _ h)) (by decide +kernel))
set_option maxRecDepth 20000 in
theorem gX11_difference_X0_markAt : GoodIn wsX11_difference (wsV RX11 308 RX0 yX0_markAt wsX0_markAt) := goodIn_app (goodIn_of _ (by decide +kernel)) ggX11_difference_X0_markAt
theorem dX11_difference_0 : decode cX11_difference 0 = .ok (.aload_n 0, 1) := by decide +kernel
theorem dX11_difference_1 : decode cX11_difference 1 = .ok (.iload_n 1, 1) := by decide +kernel
theorem dX11_difference_2 : decode cX11_difference 2 = .ok (.invokevirtual 212, 3) := by decide +kernel
theorem dX11_difference_5 : decode cX11_difference 5 = .ok (.aload_n 0, 1) := by decide +kernel
theorem dX11_difference_6 : decode cX11_difference 6 = .ok (.iload_n 1, 1) := by decide +kernel
theorem dX11_difference_7 : decode cX11_difference 7 = .ok (.invokevirtual 300, 3) := by decide +kernel
theorem dX11_difference_10 : decode cX11_difference 10 = .ok (.iload_n 2, 1) := by decide +kernel
theorem dX11_difference_11 : decode cX11_difference 11 = .ok (.ifCond .lt 15, 3) := by decide +kernel
theorem dX11_difference_14 : decode cX11_difference 14 = .ok (.iload_n 2, 1) := by decide +kernel
theorem dX11_difference_15 : decode cX11_difference 15 = .ok (.aload_n 0, 1) := by decide +kernel
theorem dX11_difference_16 : decode cX11_difference 16 = .ok (.getfield 61, 3) := by decide +kernel
theorem dX11_difference_19 : decode cX11_difference 19 = .ok (.iload_n 1, 1) := by decide +kernel
theorem dX11_difference_20 : decode cX11_difference 20 = .ok (.invokevirtual 303, 3) := by decide +kernel
theorem dX11_difference_23 : decode cX11_difference 23 = .ok (.if_icmp .lt 14, 3) := by decide +kernel
theorem dX11_difference_26 : decode cX11_difference 26 = .ok (.new 156, 3) := by decide +kernel
theorem dX11_difference_29 : decode cX11_difference 29 = .ok (.dup, 1) := by decide +kernel
theorem dX11_difference_30 : decode cX11_difference 30 = .ok (.ldc_w 306, 3) := by decide +kernel
theorem dX11_difference_33 : decode cX11_difference 33 = .ok (.invokespecial 160, 3) := by decide +kernel
theorem dX11_difference_36 : decode cX11_difference 36 = .ok (.athrow, 1) := by decide +kernel
theorem dX11_difference_37 : decode cX11_difference 37 = .ok (.aload_n 0, 1) := by decide +kernel
theorem dX11_difference_38 : decode cX11_difference 38 = .ok (.getfield 61, 3) := by decide +kernel
theorem dX11_difference_41 : decode cX11_difference 41 = .ok (.iload_n 1, 1) := by decide +kernel
theorem dX11_difference_42 : decode cX11_difference 42 = .ok (.iload_n 2, 1) := by decide +kernel
theorem dX11_difference_43 : decode cX11_difference 43 = .ok (.invokevirtual 308, 3) := by decide +kernel
theorem dX11_difference_46 : decode cX11_difference 46 = .ok (.ireturn, 1) := by decide +kernel
set_option maxRecDepth 20000 in
theorem ggX11_isInAbeyance_X11_needArms : GoodIn wsX11_isInAbeyance wsX11_needArms := goodIn_ca (goodIn_r _ [6, 7, 8, 9, 10, 18, 19, 20, 21, 22, 23, 24, 25, 26, 27, 28, 29, 30, 31, 32, 33, 34, 35, 36, 37, 38, 39, 40, 41, 42, 43] (by decide +kernel) (by decide +kernel)) (goodIn_sub (fun _ h => List.mem_cons_of_mem _ (List.mem_append_left _ (List.mem_append_right _ h))) (by decide +kernel))
set_option maxRecDepth 20000 in
theorem gX11_isInAbeyance_X11_needArms : GoodIn wsX11_isInAbeyance (wsV RX11 290 RX11 yX11_needArms wsX11_needArms) := goodIn_app (goodIn_of _ (by decide +kernel)) ggX11_isInAbeyance_X11_needArms
set_option maxRecDepth 20000 in
theorem ggX11_isInAbeyance_X0_liesBetween : GoodIn wsX11_isInAbeyance wsX0_liesBetween := goodIn_ca (goodIn_r _ [15, 16, 17, 44, 45, 46, 47, 48, 49, 50, 51, 52, 53, 54] (by decide +kernel) (by decide +kernel)) (goodIn_sub (fun _ h => List.mem_cons_of_mem _ (List.mem_append_right _ h)) (by decide +kernel))
set_option maxRecDepth 20000 in
theorem gX11_isInAbeyance_X0_liesBetween : GoodIn wsX11_isInAbeyance (wsV RX11 311 RX0 yX0_liesBetween wsX0_liesBetween) := goodIn_app (goodIn_of _ (by decide +kernel)) ggX11_isInAbeyance_X0_liesBetween
theorem dX11_isInAbeyance_0 : decode cX11_isInAbeyance 0 = .ok (.aload_n 0, 1) := by decide +kernel
theorem dX11_isInAbeyance_1 : decode cX11_isInAbeyance 1 = .ok (.iload_n 1, 1) := by decide +kernel
theorem dX11_isInAbeyance_2 : decode cX11_isInAbeyance 2 = .ok (.invokevirtual 290, 3) := by decide +kernel
theorem dX11_isInAbeyance_5 : decode cX11_isInAbeyance 5 = .ok (.aload_n 0, 1) := by decide +kernel
theorem dX11_isInAbeyance_6 : decode cX11_isInAbeyance 6 = .ok (.getfield 61, 3) := by decide +kernel
theorem dX11_isInAbeyance_9 : decode cX11_isInAbeyance 9 = .ok (.iload_n 1, 1) := by decide +kernel
theorem dX11_isInAbeyance_10 : decode cX11_isInAbeyance 10 = .ok (.invokevirtual 311, 3) := by decide +kernel
theorem dX11_isInAbeyance_13 : decode cX11_isInAbeyance 13 = .ok (.ireturn, 1) := by decide +kernel
set_option maxRecDepth 20000 in
theorem ggX11_call_X11_needArms : GoodIn wsX11_call wsX11_needArms := goodIn_ca (goodIn_r _ [9, 10, 11, 4, 12, 201, 202, 203, 204, 205, 206, 207, 208, 209, 210, 211, 212, 213, 214, 215, 216, 217, 218, 219, 220, 221, 222, 223, 224, 225, 226] (by decide +kernel) (by decide +kernel)) (goodIn_sub (fun _ h => List.mem_cons_of_mem _ (List.mem_append_left _ (List.mem_append_right _ h))) (by decide +kernel))
set_option maxRecDepth 20000 in
theorem gX11_call_X11_needArms : GoodIn wsX11_call (wsV RX11 290 RX11 yX11_needArms wsX11_needArms) := goodIn_app (goodIn_of _ (by decide +kernel)) ggX11_call_X11_needArms
set_option maxRecDepth 20000 in
theorem ggX11_call_X11_needPerson : GoodIn wsX11_call wsX11_needPerson := goodIn_ca (goodIn_r _ [16, 10, 11, 17, 18, 201, 202, 203, 204, 205, 206, 207, 208, 209, 210, 211, 212, 213, 214, 227, 228, 229, 230, 231, 232, 233, 234, 235] (by decide +kernel) (by decide +kernel)) (goodIn_sub (fun _ h => List.mem_cons_of_mem _ (List.mem_append_left _ (List.mem_append_right _ h))) (by decide +kernel))
set_option maxRecDepth 20000 in
theorem gX11_call_X11_needPerson : GoodIn wsX11_call (wsV RX11 212 RX11 yX11_needPerson wsX11_needPerson) := goodIn_app (goodIn_of _ (by decide +kernel)) ggX11_call_X11_needPerson
set_option maxRecDepth 20000 in
theorem ggX11_call_X0_liesBetween : GoodIn wsX11_call wsX0_liesBetween := goodIn_ca (goodIn_r _ [23, 24, 25, 236, 237, 238, 239, 240, 241, 242, 243, 244, 245, 246] (by decide +kernel) (by decide +kernel)) (goodIn_sub (fun _ h => List.mem_cons_of_mem _ (List.mem_append_right _ h)) (by decide +kernel))
set_option maxRecDepth 20000 in
theorem gX11_call_X0_liesBetween : GoodIn wsX11_call (wsV RX11 311 RX0 yX0_liesBetween wsX0_liesBetween) := goodIn_app (goodIn_of _ (by decide +kernel)) ggX11_call_X0_liesBetween
set_option maxRecDepth 20000 in
theorem ggX11_call_X0_isLastHeiress : GoodIn wsX11_call wsX0_isLastHeiress := goodIn_ca (goodIn_r _ [29, 30, 31, 32, 33, 34, 35, 36, 37, 38, 39, 40, 41, 42, 43, 44, 45, 46, 47, 48, 236, 237, 238, 239, 240, 241, 242, 243, 244, 245, 246, 227, 228, 229, 230, 231, 232, 233, 234, 235] (by decide +kernel) (by decide +kernel)) (goodIn_sub (fun _ h => List.mem_cons_of_mem _ (List.mem_append_right _ h)) (by decide +kernel))
set_option maxRecDepth 20000 in
theorem gX11_call_X0_isLastHeiress : GoodIn wsX11_call (wsV RX11 314 RX0 yX0_isLastHeiress wsX0_isLastHeiress) := goodIn_app (goodIn_of _ (by decide +kernel)) ggX11_call_X0_isLastHeiress
set_option maxRecDepth 20000 in
theorem ggX11_call_X9_setCalled : GoodIn wsX11_call wsX9_setCalled := goodIn_ca (goodIn_r _ [53, 54, 55, 56, 57, 52, 58, 59, 215, 216, 217, 218, 219, 220, 221, 222, 223, 224, 225, 226] (by decide +kernel) (by decide +kernel)) (goodIn_sub (fun _ h => List.mem_cons_of_mem _ (List.mem_append_right _ h)) (by decide +kernel))
set_option maxRecDepth 20000 in
theorem gX11_call_X9_setCalled : GoodIn wsX11_call (wsV RX11 320 RX9 yX9_setCalled wsX9_setCalled) := goodIn_app (goodIn_of _ (by decide +kernel)) ggX11_call_X9_setCalled
set_option maxRecDepth 20000 in
theorem ggX11_call_X11_settle : GoodIn wsX11_call wsX11_settle := goodIn_ca (goodIn_r _ [63, 3, 64, 65, 66, 67, 22, 68, 69, 70, 31, 71, 72, 73, 74, 75, 76, 77, 30, 24, 25, 78, 79, 80, 81, 82, 83, 84, 52, 85, 86, 55, 56, 57, 58, 59, 87, 88, 89, 90, 91, 92, 93, 94, 35, 95, 37, 39, 40, 41, 42, 43, 44, 45, 46, 47, 48, 96, 97, 98, 99, 100, 101, 102, 103, 104, 38, 105, 106, 107, 108, 109, 110, 111, 112, 113, 114, 32, 33, 34, 36, 115, 116, 117, 118, 54, 119, 120, 121, 122, 123, 124, 125, 126, 127, 128, 129, 130, 131, 132, 133, 134, 135, 136, 137, 138, 139, 140, 141, 142, 143, 144, 145, 146, 147, 148, 149, 150, 151, 152, 153, 154, 155, 156, 157, 158, 159, 160, 161, 162, 163, 164, 165, 166, 167, 168, 169, 170, 171, 172, 173, 174, 175, 176, 177, 178, 179, 180, 181, 182, 183, 184, 185, 186, 187, 188, 189, 190, 191, 192, 193, 194, 195, 196, 201, 202, 203, 204, 205, 206, 207, 208, 209, 210, 211, 212, 213, 214, 236, 237, 238, 239, 240, 241, 242, 243, 244, 245, 246, 215, 216, 217, 218, 219, 220, 221, 222, 223, 224, 225, 226, 227, 228, 229, 230, 231, 232, 233, 234, 235, 247, 248, 249, 250, 251, 252, 253, 254, 255, 256] (by decide +kernel) (by decide +kernel)) (goodIn_sub (fun _ h => List.mem_cons_of_mem _ (List.mem_append_right _ h)) (by decide +kernel))
set_option maxRecDepth 20000 in
theorem gX11_call_X11_settle : GoodIn wsX11_call (wsV RX11 230 RX11 yX11_settle wsX11_settle) := goodIn_app (goodIn_of _ (by decide +kernel)) ggX11_call_X11_settle
set_option maxRecDepth 20000 in
theorem ggX11_call_X0_heiressCount : GoodIn wsX11_call wsX0_heiressCount := goodIn_ca (goodIn_r _ [200, 24, 236, 237, 238, 239, 240, 241, 242, 243, 244, 245, 246] (by decide +kernel) (by decide +kernel)) (goodIn_sub (fun _ h => List.mem_cons_of_mem _ (List.mem_append_right _ h)) (by decide +kernel))
set_option maxRecDepth 20000 in
theorem gX11_call_X0_heiressCount : GoodIn wsX11_call (wsV RX11 323 RX0 yX0_heiressCount wsX0_heiressCount) := goodIn_app (goodIn_of _ (by decide +kernel)) ggX11_call_X0_heiressCount
theorem dX11_call_0 : decode cX11_call 0 = .ok (.aload_n 0, 1) := by decide +kernel
theorem dX11_call_1 : decode cX11_call 1 = .ok (.iload_n 1, 1) := by decide +kernel
theorem dX11_call_2 : decode cX11_call 2 = .ok (.invokevirtual 290, 3) := by decide +kernel
theorem dX11_call_5 : decode cX11_call 5 = .ok (.aload_n 0, 1) := by decide +kernel
theorem dX11_call_6 : decode cX11_call 6 = .ok (.iload_n 2, 1) := by decide +kernel
theorem dX11_call_7 : decode cX11_call 7 = .ok (.invokevirtual 212, 3) := by decide +kernel
theorem dX11_call_10 : decode cX11_call 10 = .ok (.aload_n 0, 1) := by decide +kernel
theorem dX11_call_11 : decode cX11_call 11 = .ok (.getfield 61, 3) := by decide +kernel
theorem dX11_call_14 : decode cX11_call 14 = .ok (.iload_n 1, 1) := by decide +kernel
theorem dX11_call_15 : decode cX11_call 15 = .ok (.invokevirtual 311, 3) := by decide +kernel
theorem dX11_call_18 : decode cX11_call 18 = .ok (.ifCond .eq 15, 3) := by decide +kernel
theorem dX11_call_21 : decode cX11_call 21 = .ok (.aload_n 0, 1) := by decide +kernel
theorem dX11_call_22 : decode cX11_call 22 = .ok (.getfield 61, 3) := by decide +kernel
theorem dX11_call_25 : decode cX11_call 25 = .ok (.iload_n 2, 1) := by decide +kernel
theorem dX11_call_26 : decode cX11_call 26 = .ok (.iload_n 1, 1) := by decide +kernel
theorem dX11_call_27 : decode cX11_call 27 = .ok (.invokevirtual 314, 3) := by decide +kernel
theorem dX11_call_30 : decode cX11_call 30 = .ok (.ifCond .ne 14, 3) := by decide +kernel
theorem dX11_call_33 : decode cX11_call 33 = .ok (.new 219, 3) := by decide +kernel
theorem dX11_call_36 : decode cX11_call 36 = .ok (.dup, 1) := by decide +kernel
theorem dX11_call_37 : decode cX11_call 37 = .ok (.ldc_w 318, 3) := by decide +kernel
theorem dX11_call_40 : decode cX11_call 40 = .ok (.invokespecial 223, 3) := by decide +kernel
theorem dX11_call_43 : decode cX11_call 43 = .ok (.athrow, 1) := by decide +kernel
theorem dX11_call_44 : decode cX11_call 44 = .ok (.aload_n 0, 1) := by decide +kernel
theorem dX11_call_45 : decode cX11_call 45 = .ok (.getfield 52, 3) := by decide +kernel
theorem dX11_call_48 : decode cX11_call 48 = .ok (.iload_n 1, 1) := by decide +kernel
theorem dX11_call_49 : decode cX11_call 49 = .ok (.iload_n 2, 1) := by decide +kernel
theorem dX11_call_50 : decode cX11_call 50 = .ok (.invokevirtual 320, 3) := by decide +kernel
theorem dX11_call_53 : decode cX11_call 53 = .ok (.aload_n 0, 1) := by decide +kernel
theorem dX11_call_54 : decode cX11_call 54 = .ok (.invokevirtual 230, 3) := by decide +kernel
theorem dX11_call_57 : decode cX11_call 57 = .ok (.aload_n 0, 1) := by decide +kernel
theorem dX11_call_58 : decode cX11_call 58 = .ok (.getfield 61, 3) := by decide +kernel
theorem dX11_call_61 : decode cX11_call 61 = .ok (.iload_n 1, 1) := by decide +kernel
theorem dX11_call_62 : decode cX11_call 62 = .ok (.invokevirtual 323, 3) := by decide +kernel
theorem dX11_call_65 : decode cX11_call 65 = .ok (.ireturn, 1) := by decide +kernel
set_option maxRecDepth 20000 in
theorem ggX11_isExtinct_X11_needArms : GoodIn wsX11_isExtinct wsX11_needArms := goodIn_ca (goodIn_r _ [6, 7, 8, 9, 10, 36, 37, 38, 39, 40, 41, 42, 43, 44, 45, 46, 47, 48, 49, 50, 51, 52, 53, 54, 55, 56, 57, 58, 59, 60, 61] (by decide +kernel) (by decide +kernel)) (goodIn_sub (fun _ h => List.mem_cons_of_mem _ (List.mem_append_left _ (List.mem_append_right _ h))) (by decide +kernel))
set_option maxRecDepth 20000 in
theorem gX11_isExtinct_X11_needArms : GoodIn wsX11_isExtinct (wsV RX11 290 RX11 yX11_needArms wsX11_needArms) := goodIn_app (goodIn_of _ (by decide +kernel)) ggX11_isExtinct_X11_needArms
set_option maxRecDepth 20000 in
theorem ggX11_isExtinct_X0_countBearers : GoodIn wsX11_isExtinct wsX0_countBearers := goodIn_ca (goodIn_r _ [15, 16, 17, 18, 19, 20, 21, 22, 23, 24, 25, 26, 27, 28, 29, 62, 63, 64, 65, 66, 67, 68, 69, 70, 71, 72, 73, 74, 75, 76, 77, 78, 79, 80, 81] (by decide +kernel) (by decide +kernel)) (goodIn_sub (fun _ h => List.mem_cons_of_mem _ (List.mem_append_right _ h)) (by decide +kernel))
set_option maxRecDepth 20000 in
theorem gX11_isExtinct_X0_countBearers : GoodIn wsX11_isExtinct (wsV RX11 326 RX0 yX0_countBearers wsX0_countBearers) := goodIn_app (goodIn_of _ (by decide +kernel)) ggX11_isExtinct_X0_countBearers
set_option maxRecDepth 20000 in
theorem ggX11_isExtinct_X0_liesBetween : GoodIn wsX11_isExtinct wsX0_liesBetween := goodIn_ca (goodIn_r _ [33, 34, 35, 62, 63, 64, 65, 66, 67, 68, 69, 70, 71, 72] (by decide +kernel) (by decide +kernel)) (goodIn_sub (fun _ h => List.mem_cons_of_mem _ (List.mem_append_right _ h)) (by decide +kernel))
set_option maxRecDepth 20000 in
theorem gX11_isExtinct_X0_liesBetween : GoodIn wsX11_isExtinct (wsV RX11 311 RX0 yX0_liesBetween wsX0_liesBetween) := goodIn_app (goodIn_of _ (by decide +kernel)) ggX11_isExtinct_X0_liesBetween
theorem dX11_isExtinct_0 : decode cX11_isExtinct 0 = .ok (.aload_n 0, 1) := by decide +kernel
theorem dX11_isExtinct_1 : decode cX11_isExtinct 1 = .ok (.iload_n 1, 1) := by decide +kernel
theorem dX11_isExtinct_2 : decode cX11_isExtinct 2 = .ok (.invokevirtual 290, 3) := by decide +kernel
theorem dX11_isExtinct_5 : decode cX11_isExtinct 5 = .ok (.aload_n 0, 1) := by decide +kernel
theorem dX11_isExtinct_6 : decode cX11_isExtinct 6 = .ok (.getfield 61, 3) := by decide +kernel
theorem dX11_isExtinct_9 : decode cX11_isExtinct 9 = .ok (.iload_n 1, 1) := by decide +kernel
theorem dX11_isExtinct_10 : decode cX11_isExtinct 10 = .ok (.invokevirtual 326, 3) := by decide +kernel
theorem dX11_isExtinct_13 : decode cX11_isExtinct 13 = .ok (.ifCond .ne 18, 3) := by decide +kernel
theorem dX11_isExtinct_16 : decode cX11_isExtinct 16 = .ok (.aload_n 0, 1) := by decide +kernel
theorem dX11_isExtinct_17 : decode cX11_isExtinct 17 = .ok (.getfield 61, 3) := by decide +kernel
theorem dX11_isExtinct_20 : decode cX11_isExtinct 20 = .ok (.iload_n 1, 1) := by decide +kernel
theorem dX11_isExtinct_21 : decode cX11_isExtinct 21 = .ok (.invokevirtual 311, 3) := by decide +kernel
theorem dX11_isExtinct_24 : decode cX11_isExtinct 24 = .ok (.ifCond .ne 7, 3) := by decide +kernel
theorem dX11_isExtinct_27 : decode cX11_isExtinct 27 = .ok (.iconst 1, 1) := by decide +kernel
theorem dX11_isExtinct_28 : decode cX11_isExtinct 28 = .ok (.goto 4, 3) := by decide +kernel
theorem dX11_isExtinct_31 : decode cX11_isExtinct 31 = .ok (.iconst 0, 1) := by decide +kernel
theorem dX11_isExtinct_32 : decode cX11_isExtinct 32 = .ok (.ireturn, 1) := by decide +kernel
set_option maxRecDepth 20000 in
theorem ggX11_bearers_X11_needArms : GoodIn wsX11_bearers wsX11_needArms := goodIn_ca (goodIn_r _ [6, 7, 8, 9, 10, 30, 31, 32, 33, 34, 35, 36, 37, 38, 39, 40, 41, 42, 43, 44, 45, 46, 47, 48, 49, 50, 51, 52, 53, 54, 55] (by decide +kernel) (by decide +kernel)) (goodIn_sub (fun _ h => List.mem_cons_of_mem _ (List.mem_append_left _ (List.mem_append_right _ h))) (by decide +kernel))
set_option maxRecDepth 20000 in
theorem gX11_bearers_X11_needArms : GoodIn wsX11_bearers (wsV RX11 290 RX11 yX11_needArms wsX11_needArms) := goodIn_app (goodIn_of _ (by decide +kernel)) ggX11_bearers_X11_needArms
set_option maxRecDepth 20000 in
theorem ggX11_bearers_X0_countBearers : GoodIn wsX11_bearers wsX0_countBearers := goodIn_ca (goodIn_r _ [15, 16, 17, 18, 19, 20, 21, 22, 23, 24, 25, 26, 27, 28, 29, 56, 57, 58, 59, 60, 61, 62, 63, 64, 65, 66, 67, 68, 69, 70, 71, 72, 73, 74, 75] (by decide +kernel) (by decide +kernel)) (goodIn_sub (fun _ h => List.mem_cons_of_mem _ (List.mem_append_right _ h)) (by decide +kernel))
set_option maxRecDepth 20000 in
theorem gX11_bearers_X0_countBearers : GoodIn wsX11_bearers (wsV RX11 326 RX0 yX0_countBearers wsX0_countBearers) := goodIn_app (goodIn_of _ (by decide +kernel)) ggX11_bearers_X0_countBearers
theorem dX11_bearers_0 : decode cX11_bearers 0 = .ok (.aload_n 0, 1) := by decide +kernel
theorem dX11_bearers_1 : decode cX11_bearers 1 = .ok (.iload_n 1, 1) := by decide +kernel
theorem dX11_bearers_2 : decode cX11_bearers 2 = .ok (.invokevirtual 290, 3) := by decide +kernel
theorem dX11_bearers_5 : decode cX11_bearers 5 = .ok (.aload_n 0, 1) := by decide +kernel
theorem dX11_bearers_6 : decode cX11_bearers 6 = .ok (.getfield 61, 3) := by decide +kernel
theorem dX11_bearers_9 : decode cX11_bearers 9 = .ok (.iload_n 1, 1) := by decide +kernel
theorem dX11_bearers_10 : decode cX11_bearers 10 = .ok (.invokevirtual 326, 3) := by decide +kernel
theorem dX11_bearers_13 : decode cX11_bearers 13 = .ok (.ireturn, 1) := by decide +kernel
set_option maxRecDepth 20000 in
theorem ggX11_ofArms_X11_needArms : GoodIn wsX11_ofArms wsX11_needArms := goodIn_ca (goodIn_r _ [6, 7, 8, 1, 9, 33, 34, 35, 36, 37, 38, 39, 40, 41, 42, 43, 44, 45, 46, 47, 48, 49, 50, 51, 52, 53, 54, 55, 56, 57, 58] (by decide +kernel) (by decide +kernel)) (goodIn_sub (fun _ h => List.mem_cons_of_mem _ (List.mem_append_left _ (List.mem_append_right _ h))) (by decide +kernel))
set_option maxRecDepth 20000 in
theorem gX11_ofArms_X11_needArms : GoodIn wsX11_ofArms (wsV RX11 290 RX11 yX11_needArms wsX11_needArms) := goodIn_app (goodIn_of _ (by decide +kernel)) ggX11_ofArms_X11_needArms
set_option maxRecDepth 20000 in
theorem ggX11_ofArms_X11_needPoint : GoodIn wsX11_ofArms wsX11_needPoint := goodIn_ca (goodIn_r _ [13, 7, 8] (by decide +kernel) (by decide +kernel)) (goodIn_sub (fun _ h => List.mem_cons_of_mem _ (List.mem_append_left _ (List.mem_append_right _ h))) (by decide +kernel))
set_option maxRecDepth 20000 in
theorem gX11_ofArms_X11_needPoint : GoodIn wsX11_ofArms (wsV RX11 124 RX11 yX11_needPoint wsX11_needPoint) := goodIn_app (goodIn_of _ (by decide +kernel)) ggX11_ofArms_X11_needPoint
set_option maxRecDepth 20000 in
theorem ggX11_ofArms_X9_tinctureAt : GoodIn wsX11_ofArms wsX9_tinctureAt := goodIn_ca (goodIn_r _ [18, 19, 20, 21, 22, 17, 23, 24, 25, 26, 27, 28, 29, 30, 31, 32, 47, 48, 49, 50, 51, 52, 53, 54, 55, 56, 57, 58] (by decide +kernel) (by decide +kernel)) (goodIn_sub (fun _ h => List.mem_cons_of_mem _ (List.mem_append_right _ h)) (by decide +kernel))
set_option maxRecDepth 20000 in
theorem gX11_ofArms_X9_tinctureAt : GoodIn wsX11_ofArms (wsV RX11 329 RX9 yX9_tinctureAt wsX9_tinctureAt) := goodIn_app (goodIn_of _ (by decide +kernel)) ggX11_ofArms_X9_tinctureAt
theorem dX11_ofArms_0 : decode cX11_ofArms 0 = .ok (.aload_n 0, 1) := by decide +kernel
theorem dX11_ofArms_1 : decode cX11_ofArms 1 = .ok (.iload_n 1, 1) := by decide +kernel
theorem dX11_ofArms_2 : decode cX11_ofArms 2 = .ok (.invokevirtual 290, 3) := by decide +kernel
theorem dX11_ofArms_5 : decode cX11_ofArms 5 = .ok (.aload_n 0, 1) := by decide +kernel
theorem dX11_ofArms_6 : decode cX11_ofArms 6 = .ok (.iload_n 2, 1) := by decide +kernel
theorem dX11_ofArms_7 : decode cX11_ofArms 7 = .ok (.iload_n 3, 1) := by decide +kernel
theorem dX11_ofArms_8 : decode cX11_ofArms 8 = .ok (.invokevirtual 124, 3) := by decide +kernel
theorem dX11_ofArms_11 : decode cX11_ofArms 11 = .ok (.aload_n 0, 1) := by decide +kernel
theorem dX11_ofArms_12 : decode cX11_ofArms 12 = .ok (.getfield 52, 3) := by decide +kernel
theorem dX11_ofArms_15 : decode cX11_ofArms 15 = .ok (.iload_n 1, 1) := by decide +kernel
theorem dX11_ofArms_16 : decode cX11_ofArms 16 = .ok (.iload_n 2, 1) := by decide +kernel
theorem dX11_ofArms_17 : decode cX11_ofArms 17 = .ok (.iload_n 3, 1) := by decide +kernel
theorem dX11_ofArms_18 : decode cX11_ofArms 18 = .ok (.invokevirtual 329, 3) := by decide +kernel
theorem dX11_ofArms_21 : decode cX11_ofArms 21 = .ok (.ireturn, 1) := by decide +kernel
set_option maxRecDepth 20000 in
theorem ggX11_ofShield_X11_needPerson : GoodIn wsX11_ofShield wsX11_needPerson := goodIn_ca (goodIn_r _ [7, 8, 9, 10, 11, 314, 315, 316, 317, 318, 319, 320, 321, 322, 323, 324, 325, 326, 327, 328, 329, 330, 331, 332, 333, 334, 335, 336] (by decide +kernel) (by decide +kernel)) (goodIn_sub (fun _ h => List.mem_cons_of_mem _ (List.mem_append_left _ (List.mem_append_left _ (List.mem_append_right _ h)))) (by decide +kernel))
set_option maxRecDepth 20000 in
theorem gX11_ofShield_X11_needPerson : GoodIn wsX11_ofShield (wsV RX11 212 RX11 yX11_needPerson wsX11_needPerson) := goodIn_app (goodIn_of _ (by decide +kernel)) ggX11_ofShield_X11_needPerson
set_option maxRecDepth 20000 in
theorem ggX11_ofShield_X11_needPoint : GoodIn wsX11_ofShield wsX11_needPoint := goodIn_ca (goodIn_r _ [15, 8, 9] (by decide +kernel) (by decide +kernel)) (goodIn_sub (fun _ h => List.mem_cons_of_mem _ (List.mem_append_left _ (List.mem_append_left _ (List.mem_append_right _ h)))) (by decide +kernel))
set_option maxRecDepth 20000 in
theorem gX11_ofShield_X11_needPoint : GoodIn wsX11_ofShield (wsV RX11 124 RX11 yX11_needPoint wsX11_needPoint) := goodIn_app (goodIn_of _ (by decide +kernel)) ggX11_ofShield_X11_needPoint
set_option maxRecDepth 20000 in
theorem ggX11_ofShield_X11_needBearer : GoodIn wsX11_ofShield wsX11_needBearer := goodIn_ca (goodIn_ca (goodIn_r _ [19, 20, 21, 22, 23, 24, 25, 26, 27, 28, 29, 30, 31, 32, 33, 34, 35, 314, 315, 316, 317, 318, 319, 320, 321, 322, 323, 324, 325, 326, 327, 337, 338, 339, 340, 341, 342, 343, 344, 345, 346, 347, 328, 329, 330, 331, 332, 333, 334, 335, 336] (by decide +kernel) (by decide +kernel)) (goodIn_sub (fun _ h => List.mem_cons_of_mem _ (List.mem_append_left _ (List.mem_append_right _ h))) (by decide +kernel))) (goodIn_sub (fun _ h => List.mem_cons_of_mem _ (List.mem_append_right _ h)) (by decide +kernel))
set_option maxRecDepth 20000 in
theorem gX11_ofShield_X11_needBearer : GoodIn wsX11_ofShield (wsV RX11 300 RX11 yX11_needBearer wsX11_needBearer) := goodIn_app (goodIn_of _ (by decide +kernel)) ggX11_ofShield_X11_needBearer
set_option maxRecDepth 20000 in
theorem ggX11_ofShield_X6_paintShield : GoodIn wsX11_ofShield wsX6_paintShield := goodIn_ca (goodIn_r _ [40, 41, 42, 43, 44, 45, 46, 47, 39, 48, 49, 50, 51, 52, 53, 54, 31, 32, 33, 34, 35, 55, 56, 57, 58, 59, 60, 61, 62, 24, 25, 26, 27, 28, 29, 30, 63, 64, 65, 66, 67, 68, 69, 70, 71, 72, 73, 74, 75, 76, 77, 78, 79, 80, 81, 82, 83, 84, 85, 86, 87, 88, 89, 90, 91, 92, 93, 94, 95, 96, 97, 98, 99, 100, 101, 102, 103, 104, 105, 106, 107, 108, 109, 110, 111, 112, 113, 114, 115, 116, 117, 118, 119, 120, 121, 122, 123, 124, 125, 126, 127, 128, 129, 130, 131, 132, 133, 134, 135, 136, 137, 138, 139, 140, 141, 142, 143, 144, 145, 146, 147, 148, 149, 150, 151, 152, 153, 154, 155, 156, 157, 158, 159, 160, 161, 162, 163, 164, 165, 166, 167, 168, 169, 170, 171, 172, 173, 174, 175, 176, 177, 178, 179, 180, 181, 182, 183, 184, 185, 186, 187, 188, 189, 190, 191, 192, 193, 194, 195, 196, 197, 198, 199, 200, 201, 202, 203, 204, 205, 206, 207, 208, 209, 210, 211, 212, 213, 214, 215, 216, 217, 218, 219, 220, 221, 222, 223, 224, 225, 226, 227, 228, 229, 230, 231, 232, 233, 234, 235, 236, 237, 238, 239, 240, 241, 242, 243, 244, 245, 246, 247, 248, 249, 250, 251, 252, 253, 254, 255, 256, 257, 258, 259, 260, 261, 262, 263, 264, 265, 266, 267, 268, 269, 270, 271, 272, 273, 274, 275, 276, 277, 278, 279, 280, 281, 282, 283, 284, 285, 286, 287, 288, 289, 290, 291, 292, 293, 294, 295, 296, 297, 298, 299, 300, 301, 302, 303, 304, 305, 306, 348, 349, 350, 351, 352, 353, 354, 355, 356, 357, 328, 329, 330, 331, 332, 333, 334, 335, 336, 358, 359, 360, 361, 362, 363, 364, 365, 366, 367, 368, 369, 337, 338, 339, 340, 341, 342, 343, 344, 345, 346, 347, 370, 371, 372, 373, 374, 375, 376, 377, 378, 379, 380, 381, 382, 383, 384, 385, 386, 387, 388, 389, 390, 391, 392, 393, 394, 395, 396, 397, 398, 399, 400, 401, 402, 403, 404, 405, 406, 407, 408, 409, 410, 411, 412, 413, 414, 415, 416, 417, 418, 419] (by decide +kernel) (by decide +kernel)) (goodIn_sub (fun _ h => List.mem_cons_of_mem _ (List.mem_append_right _ h)) (by decide +kernel))
set_option maxRecDepth 20000 in
theorem gX11_ofShield_X6_paintShield : GoodIn wsX11_ofShield (wsV RX11 332 RX6 yX6_paintShield wsX6_paintShield) := goodIn_app (goodIn_of _ (by decide +kernel)) ggX11_ofShield_X6_paintShield
set_option maxRecDepth 20000 in
theorem ggX11_ofShield_X8_tinctureAt : GoodIn wsX11_ofShield wsX8_tinctureAt := goodIn_ca (goodIn_r _ [310, 127, 311, 312, 121, 313, 395, 396, 397, 398, 399] (by decide +kernel) (by decide +kernel)) (goodIn_sub (fun _ h => List.mem_cons_of_mem _ (List.mem_append_right _ h)) (by decide +kernel))
set_option maxRecDepth 20000 in
theorem gX11_ofShield_X8_tinctureAt : GoodIn wsX11_ofShield (wsV RX11 134 RX8 yX8_tinctureAt wsX8_tinctureAt) := goodIn_app (goodIn_of _ (by decide +kernel)) ggX11_ofShield_X8_tinctureAt
theorem dX11_ofShield_0 : decode cX11_ofShield 0 = .ok (.aload_n 0, 1) := by decide +kernel
theorem dX11_ofShield_1 : decode cX11_ofShield 1 = .ok (.iload_n 1, 1) := by decide +kernel
theorem dX11_ofShield_2 : decode cX11_ofShield 2 = .ok (.invokevirtual 212, 3) := by decide +kernel
theorem dX11_ofShield_5 : decode cX11_ofShield 5 = .ok (.aload_n 0, 1) := by decide +kernel
theorem dX11_ofShield_6 : decode cX11_ofShield 6 = .ok (.iload_n 2, 1) := by decide +kernel
theorem dX11_ofShield_7 : decode cX11_ofShield 7 = .ok (.iload_n 3, 1) := by decide +kernel
theorem dX11_ofShield_8 : decode cX11_ofShield 8 = .ok (.invokevirtual 124, 3) := by decide +kernel
theorem dX11_ofShield_11 : decode cX11_ofShield 11 = .ok (.aload_n 0, 1) := by decide +kernel
theorem dX11_ofShield_12 : decode cX11_ofShield 12 = .ok (.iload_n 1, 1) := by decide +kernel
theorem dX11_ofShield_13 : decode cX11_ofShield 13 = .ok (.invokevirtual 300, 3) := by decide +kernel
theorem dX11_ofShield_16 : decode cX11_ofShield 16 = .ok (.aload_n 0, 1) := by decide +kernel
theorem dX11_ofShield_17 : decode cX11_ofShield 17 = .ok (.getfield 79, 3) := by decide +kernel
theorem dX11_ofShield_20 : decode cX11_ofShield 20 = .ok (.aload_n 0, 1) := by decide +kernel
theorem dX11_ofShield_21 : decode cX11_ofShield 21 = .ok (.getfield 30, 3) := by decide +kernel
theorem dX11_ofShield_24 : decode cX11_ofShield 24 = .ok (.iload_n 1, 1) := by decide +kernel
theorem dX11_ofShield_25 : decode cX11_ofShield 25 = .ok (.invokevirtual 332, 3) := by decide +kernel
theorem dX11_ofShield_28 : decode cX11_ofShield 28 = .ok (.aload_n 0, 1) := by decide +kernel
theorem dX11_ofShield_29 : decode cX11_ofShield 29 = .ok (.getfield 30, 3) := by decide +kernel
theorem dX11_ofShield_32 : decode cX11_ofShield 32 = .ok (.iload_n 2, 1) := by decide +kernel
theorem dX11_ofShield_33 : decode cX11_ofShield 33 = .ok (.iload_n 3, 1) := by decide +kernel
theorem dX11_ofShield_34 : decode cX11_ofShield 34 = .ok (.invokevirtual 134, 3) := by decide +kernel
theorem dX11_ofShield_37 : decode cX11_ofShield 37 = .ok (.ireturn, 1) := by decide +kernel
set_option maxRecDepth 20000 in
theorem ggX11_shield_X11_needPerson : GoodIn wsX11_shield wsX11_needPerson := goodIn_ca (goodIn_r _ [8, 9, 10, 11, 12, 333, 334, 335, 336, 337, 338, 339, 340, 341, 342, 343, 344, 345, 346, 347, 348, 349, 350, 351, 352, 353, 354, 355] (by decide +kernel) (by decide +kernel)) (goodIn_sub (fun _ h => List.mem_cons_of_mem _ (List.mem_append_left _ (List.mem_append_left _ (List.mem_append_left _ (List.mem_append_right _ h))))) (by decide +kernel))
set_option maxRecDepth 20000 in
theorem gX11_shield_X11_needPerson : GoodIn wsX11_shield (wsV RX11 212 RX11 yX11_needPerson wsX11_needPerson) := goodIn_app (goodIn_of _ (by decide +kernel)) ggX11_shield_X11_needPerson
set_option maxRecDepth 20000 in
theorem ggX11_shield_X11_needShape : GoodIn wsX11_shield wsX11_needShape := goodIn_ca (goodIn_r _ [16, 17, 18, 19, 20, 21, 7, 22] (by decide +kernel) (by decide +kernel)) (goodIn_sub (fun _ h => List.mem_cons_of_mem _ (List.mem_append_left _ (List.mem_append_left _ (List.mem_append_right _ h)))) (by decide +kernel))
set_option maxRecDepth 20000 in
theorem gX11_shield_X11_needShape : GoodIn wsX11_shield (wsV RX11 138 RX11 yX11_needShape wsX11_needShape) := goodIn_app (goodIn_of _ (by decide +kernel)) ggX11_shield_X11_needShape
set_option maxRecDepth 20000 in
theorem ggX11_shield_X11_needBearer : GoodIn wsX11_shield wsX11_needBearer := goodIn_ca (goodIn_ca (goodIn_r _ [26, 27, 28, 29, 30, 31, 32, 33, 34, 35, 36, 37, 38, 39, 40, 41, 42, 333, 334, 335, 336, 337, 338, 339, 340, 341, 342, 343, 344, 345, 346, 356, 357, 358, 359, 360, 361, 362, 363, 364, 365, 366, 347, 348, 349, 350, 351, 352, 353, 354, 355] (by decide +kernel) (by decide +kernel)) (goodIn_sub (fun _ h => List.mem_cons_of_mem _ (List.mem_append_left _ (List.mem_append_right _ h))) (by decide +kernel))) (goodIn_sub (fun _ h => List.mem_cons_of_mem _ (List.mem_append_right _ h)) (by decide +kernel))
set_option maxRecDepth 20000 in
theorem gX11_shield_X11_needBearer : GoodIn wsX11_shield (wsV RX11 300 RX11 yX11_needBearer wsX11_needBearer) := goodIn_app (goodIn_of _ (by decide +kernel)) ggX11_shield_X11_needBearer
set_option maxRecDepth 20000 in
theorem ggX11_shield_X6_paintShield : GoodIn wsX11_shield wsX6_paintShield := goodIn_ca (goodIn_r _ [47, 48, 49, 50, 51, 52, 53, 54, 46, 55, 56, 57, 58, 59, 60, 61, 38, 39, 40, 41, 42, 62, 63, 64, 65, 66, 67, 68, 69, 31, 32, 33, 34, 35, 36, 37, 70, 71, 72, 73, 74, 75, 76, 77, 78, 79, 80, 81, 82, 83, 84, 85, 86, 87, 88, 89, 90, 91, 92, 93, 94, 95, 96, 97, 98, 99, 100, 101, 102, 103, 104, 105, 106, 107, 108, 109, 110, 111, 112, 113, 114, 115, 116, 117, 118, 119, 120, 121, 122, 123, 124, 125, 126, 127, 128, 129, 130, 131, 132, 133, 134, 135, 136, 137, 138, 139, 140, 141, 142, 143, 144, 145, 146, 147, 148, 149, 150, 151, 152, 153, 154, 155, 156, 157, 158, 159, 160, 161, 162, 163, 164, 165, 166, 167, 168, 169, 170, 171, 172, 173, 174, 175, 176, 177, 178, 179, 180, 181, 182, 183, 184, 185, 186, 187, 188, 189, 190, 191, 192, 193, 194, 195, 196, 197, 198, 199, 200, 201, 202, 203, 204, 205, 206, 207, 208, 209, 210, 211, 212, 213, 214, 215, 216, 217, 218, 219, 220, 221, 222, 223, 224, 225, 226, 227, 228, 229, 230, 231, 232, 233, 234, 235, 236, 237, 238, 239, 240, 241, 242, 243, 244, 245, 246, 247, 248, 249, 250, 251, 252, 253, 254, 255, 256, 257, 258, 259, 260, 261, 262, 263, 264, 265, 266, 267, 268, 269, 270, 271, 272, 273, 274, 275, 276, 277, 278, 279, 280, 281, 282, 283, 284, 285, 286, 287, 288, 289, 290, 291, 292, 293, 294, 295, 296, 297, 298, 299, 300, 301, 302, 303, 304, 305, 306, 307, 308, 309, 310, 311, 312, 313, 367, 368, 369, 370, 371, 372, 373, 374, 375, 376, 347, 348, 349, 350, 351, 352, 353, 354, 355, 377, 378, 379, 380, 381, 382, 383, 384, 385, 386, 387, 388, 356, 357, 358, 359, 360, 361, 362, 363, 364, 365, 366, 389, 390, 391, 392, 393, 394, 395, 396, 397, 398, 399, 400, 401, 402, 403, 404, 405, 406, 407, 408, 409, 410, 411, 412, 413, 414, 415, 416, 417, 418, 419, 420, 421, 422, 423, 424, 425, 426, 427, 428, 429, 430, 431, 432, 433, 434, 435, 436, 437, 438] (by decide +kernel) (by decide +kernel)) (goodIn_sub (fun _ h => List.mem_cons_of_mem _ (List.mem_append_right _ h)) (by decide +kernel))
set_option maxRecDepth 20000 in
theorem gX11_shield_X6_paintShield : GoodIn wsX11_shield (wsV RX11 332 RX6 yX6_paintShield wsX6_paintShield) := goodIn_app (goodIn_of _ (by decide +kernel)) ggX11_shield_X6_paintShield
set_option maxRecDepth 20000 in
theorem ggX11_shield_X7_shapeRows : GoodIn wsX11_shield wsX7_shapeRows := goodIn_r _ [317, 318, 121, 401, 402, 403, 404, 405, 406, 407, 408, 409, 410, 411, 412, 413] (by decide +kernel) (by decide +kernel)
set_option maxRecDepth 20000 in
theorem gX11_shield_X7_shapeRows : GoodIn wsX11_shield (wsV RX11 141 RX7 yX7_shapeRows wsX7_shapeRows) := goodIn_app (goodIn_of _ (by decide +kernel)) ggX11_shield_X7_shapeRows
set_option maxRecDepth 20000 in
theorem ggX11_shield_X8_countOf : GoodIn wsX11_shield wsX8_countOf := goodIn_ca (goodIn_r _ [322, 134, 135, 136, 323, 324, 128, 325, 141, 142, 143, 144, 145, 146, 147, 326, 327, 328, 329, 330, 331, 332, 414, 415, 416, 417, 418] (by decide +kernel) (by decide +kernel)) (goodIn_sub (fun _ h => List.mem_cons_of_mem _ (List.mem_append_right _ h)) (by decide +kernel))
set_option maxRecDepth 20000 in
theorem gX11_shield_X8_countOf : GoodIn wsX11_shield (wsV RX11 145 RX8 yX8_countOf wsX8_countOf) := goodIn_app (goodIn_of _ (by decide +kernel)) ggX11_shield_X8_countOf
theorem dX11_shield_0 : decode cX11_shield 0 = .ok (.aload_n 0, 1) := by decide +kernel
theorem dX11_shield_1 : decode cX11_shield 1 = .ok (.iload_n 1, 1) := by decide +kernel
theorem dX11_shield_2 : decode cX11_shield 2 = .ok (.invokevirtual 212, 3) := by decide +kernel
theorem dX11_shield_5 : decode cX11_shield 5 = .ok (.aload_n 0, 1) := by decide +kernel
theorem dX11_shield_6 : decode cX11_shield 6 = .ok (.iload_n 2, 1) := by decide +kernel
theorem dX11_shield_7 : decode cX11_shield 7 = .ok (.iload_n 3, 1) := by decide +kernel
theorem dX11_shield_8 : decode cX11_shield 8 = .ok (.invokevirtual 138, 3) := by decide +kernel
theorem dX11_shield_11 : decode cX11_shield 11 = .ok (.aload_n 0, 1) := by decide +kernel
theorem dX11_shield_12 : decode cX11_shield 12 = .ok (.iload_n 1, 1) := by decide +kernel
theorem dX11_shield_13 : decode cX11_shield 13 = .ok (.invokevirtual 300, 3) := by decide +kernel
theorem dX11_shield_16 : decode cX11_shield 16 = .ok (.aload_n 0, 1) := by decide +kernel
theorem dX11_shield_17 : decode cX11_shield 17 = .ok (.getfield 79, 3) := by decide +kernel
theorem dX11_shield_20 : decode cX11_shield 20 = .ok (.aload_n 0, 1) := by decide +kernel
theorem dX11_shield_21 : decode cX11_shield 21 = .ok (.getfield 30, 3) := by decide +kernel
theorem dX11_shield_24 : decode cX11_shield 24 = .ok (.iload_n 1, 1) := by decide +kernel
theorem dX11_shield_25 : decode cX11_shield 25 = .ok (.invokevirtual 332, 3) := by decide +kernel
theorem dX11_shield_28 : decode cX11_shield 28 = .ok (.aload_n 0, 1) := by decide +kernel
theorem dX11_shield_29 : decode cX11_shield 29 = .ok (.getfield 30, 3) := by decide +kernel
theorem dX11_shield_32 : decode cX11_shield 32 = .ok (.aload_n 0, 1) := by decide +kernel
theorem dX11_shield_33 : decode cX11_shield 33 = .ok (.getfield 10, 3) := by decide +kernel
theorem dX11_shield_36 : decode cX11_shield 36 = .ok (.iload_n 2, 1) := by decide +kernel
theorem dX11_shield_37 : decode cX11_shield 37 = .ok (.invokevirtual 141, 3) := by decide +kernel
theorem dX11_shield_40 : decode cX11_shield 40 = .ok (.iload_n 3, 1) := by decide +kernel
theorem dX11_shield_41 : decode cX11_shield 41 = .ok (.invokevirtual 145, 3) := by decide +kernel
theorem dX11_shield_44 : decode cX11_shield 44 = .ok (.ireturn, 1) := by decide +kernel
set_option maxRecDepth 20000 in
theorem ggX11_quarters_X11_needPerson : GoodIn wsX11_quarters wsX11_needPerson := goodIn_ca (goodIn_r _ [6, 7, 8, 9, 10, 24, 25, 26, 27, 28, 29, 30, 31, 32, 33, 34, 35, 36, 37, 38, 39, 40, 41, 42, 43, 44, 45, 46] (by decide +kernel) (by decide +kernel)) (goodIn_sub (fun _ h => List.mem_cons_of_mem _ (List.mem_append_left _ (List.mem_append_right _ h))) (by decide +kernel))
set_option maxRecDepth 20000 in
theorem gX11_quarters_X11_needPerson : GoodIn wsX11_quarters (wsV RX11 212 RX11 yX11_needPerson wsX11_needPerson) := goodIn_app (goodIn_of _ (by decide +kernel)) ggX11_quarters_X11_needPerson
set_option maxRecDepth 20000 in
theorem ggX11_quarters_X6_quarterCount : GoodIn wsX11_quarters wsX6_quarterCount := goodIn_ca (goodIn_r _ [15, 16, 17, 18, 19, 20, 21, 22, 23, 47, 48, 49, 50, 51, 52, 53, 54, 55, 56, 38, 39, 40, 41, 42, 43, 44, 45, 46] (by decide +kernel) (by decide +kernel)) (goodIn_sub (fun _ h => List.mem_cons_of_mem _ (List.mem_append_right _ h)) (by decide +kernel))
set_option maxRecDepth 20000 in
theorem gX11_quarters_X6_quarterCount : GoodIn wsX11_quarters (wsV RX11 336 RX6 yX6_quarterCount wsX6_quarterCount) := goodIn_app (goodIn_of _ (by decide +kernel)) ggX11_quarters_X6_quarterCount
theorem dX11_quarters_0 : decode cX11_quarters 0 = .ok (.aload_n 0, 1) := by decide +kernel
theorem dX11_quarters_1 : decode cX11_quarters 1 = .ok (.iload_n 1, 1) := by decide +kernel
theorem dX11_quarters_2 : decode cX11_quarters 2 = .ok (.invokevirtual 212, 3) := by decide +kernel
theorem dX11_quarters_5 : decode cX11_quarters 5 = .ok (.aload_n 0, 1) := by decide +kernel
theorem dX11_quarters_6 : decode cX11_quarters 6 = .ok (.getfield 79, 3) := by decide +kernel
theorem dX11_quarters_9 : decode cX11_quarters 9 = .ok (.iload_n 1, 1) := by decide +kernel
theorem dX11_quarters_10 : decode cX11_quarters 10 = .ok (.invokevirtual 336, 3) := by decide +kernel
theorem dX11_quarters_13 : decode cX11_quarters 13 = .ok (.ireturn, 1) := by decide +kernel
set_option maxRecDepth 20000 in
theorem ggX11_quarter_X11_needPerson : GoodIn wsX11_quarter wsX11_needPerson := goodIn_ca (goodIn_r _ [6, 7, 8, 9, 10, 35, 36, 37, 38, 39, 40, 41, 42, 43, 44, 45, 46, 47, 48, 49, 50, 51, 52, 53, 54, 55, 56, 57] (by decide +kernel) (by decide +kernel)) (goodIn_sub (fun _ h => List.mem_cons_of_mem _ (List.mem_append_left _ (List.mem_append_left _ (List.mem_append_right _ h)))) (by decide +kernel))
