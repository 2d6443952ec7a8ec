set_option maxRecDepth 20000 in
theorem ggX5_init_X0_init : GoodIn wsX5_init wsX0_init := goodIn_r _ [26, 27, 2, 3] (by decide +kernel) (by decide +kernel)
set_option maxRecDepth 20000 in
theorem gX5_init_X0_init_n9 : GoodIn wsX5_init (wsX0_init) := ggX5_init_X0_init
set_option maxRecDepth 20000 in
theorem ggX5_init_X2_init : GoodIn wsX5_init wsX2_init := goodIn_r _ [30, 31, 2, 3, 32, 33, 34, 62, 63, 64, 65, 66, 67, 68, 69, 70, 71, 72, 73] (by decide +kernel) (by decide +kernel)
set_option maxRecDepth 20000 in
theorem gX5_init_X2_init : GoodIn wsX5_init (wsX2_init) := ggX5_init_X2_init
set_option maxRecDepth 20000 in
theorem ggX5_init_X3_init : GoodIn wsX5_init wsX3_init := goodIn_r _ [37, 38, 2, 3, 39, 40, 74, 75, 76, 77, 78, 79] (by decide +kernel) (by decide +kernel)
set_option maxRecDepth 20000 in
theorem gX5_init_X3_init : GoodIn wsX5_init (wsX3_init) := ggX5_init_X3_init
set_option maxRecDepth 20000 in
theorem ggX5_init_X4_init : GoodIn wsX5_init wsX4_init := goodIn_r _ [43, 44, 2, 3, 45, 80, 81, 82, 83] (by decide +kernel) (by decide +kernel)
set_option maxRecDepth 20000 in
theorem gX5_init_X4_init : GoodIn wsX5_init (wsX4_init) := ggX5_init_X4_init
set_option maxRecDepth 20000 in
theorem ggX5_init_X1_init : GoodIn wsX5_init wsX1_init := goodIn_r _ [48, 49, 2, 3, 50, 51, 84, 85, 86, 87, 88] (by decide +kernel) (by decide +kernel)
set_option maxRecDepth 20000 in
theorem gX5_init_X1_init : GoodIn wsX5_init (wsX1_init) := ggX5_init_X1_init
theorem dX5_init_0 : decode cX5_init 0 = .ok (.aload_n 0, 1) := by decide +kernel
theorem dX5_init_1 : decode cX5_init 1 = .ok (.invokespecial 1, 3) := by decide +kernel
theorem dX5_init_4 : decode cX5_init 4 = .ok (.aload_n 0, 1) := by decide +kernel
theorem dX5_init_5 : decode cX5_init 5 = .ok (.new 7, 3) := by decide +kernel
theorem dX5_init_8 : decode cX5_init 8 = .ok (.dup, 1) := by decide +kernel
theorem dX5_init_9 : decode cX5_init 9 = .ok (.invokespecial 9, 3) := by decide +kernel
theorem dX5_init_12 : decode cX5_init 12 = .ok (.putfield 10, 3) := by decide +kernel
theorem dX5_init_15 : decode cX5_init 15 = .ok (.aload_n 0, 1) := by decide +kernel
theorem dX5_init_16 : decode cX5_init 16 = .ok (.new 16, 3) := by decide +kernel
theorem dX5_init_19 : decode cX5_init 19 = .ok (.dup, 1) := by decide +kernel
theorem dX5_init_20 : decode cX5_init 20 = .ok (.aload_n 0, 1) := by decide +kernel
theorem dX5_init_21 : decode cX5_init 21 = .ok (.getfield 10, 3) := by decide +kernel
theorem dX5_init_24 : decode cX5_init 24 = .ok (.iconst 2, 1) := by decide +kernel
theorem dX5_init_25 : decode cX5_init 25 = .ok (.iconst 1, 1) := by decide +kernel
theorem dX5_init_26 : decode cX5_init 26 = .ok (.invokespecial 18, 3) := by decide +kernel
theorem dX5_init_29 : decode cX5_init 29 = .ok (.putfield 21, 3) := by decide +kernel
theorem dX5_init_32 : decode cX5_init 32 = .ok (.aload_n 0, 1) := by decide +kernel
theorem dX5_init_33 : decode cX5_init 33 = .ok (.new 16, 3) := by decide +kernel
theorem dX5_init_36 : decode cX5_init 36 = .ok (.dup, 1) := by decide +kernel
theorem dX5_init_37 : decode cX5_init 37 = .ok (.aload_n 0, 1) := by decide +kernel
theorem dX5_init_38 : decode cX5_init 38 = .ok (.getfield 10, 3) := by decide +kernel
theorem dX5_init_41 : decode cX5_init 41 = .ok (.bipush 16, 2) := by decide +kernel
theorem dX5_init_43 : decode cX5_init 43 = .ok (.bipush 8, 2) := by decide +kernel
theorem dX5_init_45 : decode cX5_init 45 = .ok (.invokespecial 18, 3) := by decide +kernel
theorem dX5_init_48 : decode cX5_init 48 = .ok (.putfield 25, 3) := by decide +kernel
theorem dX5_init_51 : decode cX5_init 51 = .ok (.aload_n 0, 1) := by decide +kernel
theorem dX5_init_52 : decode cX5_init 52 = .ok (.new 28, 3) := by decide +kernel
theorem dX5_init_55 : decode cX5_init 55 = .ok (.dup, 1) := by decide +kernel
theorem dX5_init_56 : decode cX5_init 56 = .ok (.aload_n 0, 1) := by decide +kernel
theorem dX5_init_57 : decode cX5_init 57 = .ok (.getfield 10, 3) := by decide +kernel
theorem dX5_init_60 : decode cX5_init 60 = .ok (.invokespecial 30, 3) := by decide +kernel
theorem dX5_init_63 : decode cX5_init 63 = .ok (.putfield 33, 3) := by decide +kernel
theorem dX5_init_66 : decode cX5_init 66 = .ok (.aload_n 0, 1) := by decide +kernel
theorem dX5_init_67 : decode cX5_init 67 = .ok (.new 37, 3) := by decide +kernel
theorem dX5_init_70 : decode cX5_init 70 = .ok (.dup, 1) := by decide +kernel
theorem dX5_init_71 : decode cX5_init 71 = .ok (.aload_n 0, 1) := by decide +kernel
theorem dX5_init_72 : decode cX5_init 72 = .ok (.getfield 10, 3) := by decide +kernel
theorem dX5_init_75 : decode cX5_init 75 = .ok (.invokespecial 39, 3) := by decide +kernel
theorem dX5_init_78 : decode cX5_init 78 = .ok (.putfield 40, 3) := by decide +kernel
theorem dX5_init_81 : decode cX5_init 81 = .ok (.aload_n 0, 1) := by decide +kernel
theorem dX5_init_82 : decode cX5_init 82 = .ok (.new 44, 3) := by decide +kernel
theorem dX5_init_85 : decode cX5_init 85 = .ok (.dup, 1) := by decide +kernel
theorem dX5_init_86 : decode cX5_init 86 = .ok (.aload_n 0, 1) := by decide +kernel
theorem dX5_init_87 : decode cX5_init 87 = .ok (.getfield 10, 3) := by decide +kernel
theorem dX5_init_90 : decode cX5_init 90 = .ok (.invokespecial 46, 3) := by decide +kernel
theorem dX5_init_93 : decode cX5_init 93 = .ok (.putfield 47, 3) := by decide +kernel
theorem dX5_init_96 : decode cX5_init 96 = .ok (.return_, 1) := by decide +kernel
set_option maxRecDepth 20000 in
theorem ggX5_write_X5_isByte : GoodIn wsX5_write wsX5_isByte := goodIn_r _ [13] (by decide +kernel) (by decide +kernel)
set_option maxRecDepth 20000 in
theorem gX5_write_X5_isByte : GoodIn wsX5_write (va_wsS RX5 51 yX5_isByte wsX5_isByte) := goodIn_app (goodIn_of _ (by decide +kernel)) ggX5_write_X5_isByte
set_option maxRecDepth 20000 in
theorem ggX5_write_X2_touch : GoodIn wsX5_write wsX2_touch := goodIn_r _ [18, 19, 20, 21, 22, 23, 24, 25, 26, 27, 28, 29, 30, 17, 31, 32, 92, 93, 94, 95, 96, 97, 98, 99, 100, 101, 102, 103, 113, 114] (by decide +kernel) (by decide +kernel)
set_option maxRecDepth 20000 in
theorem gX5_write_X2_touch : GoodIn wsX5_write (wsV RX5 66 RX2 yX2_touch wsX2_touch) := goodIn_app (goodIn_of _ (by decide +kernel)) ggX5_write_X2_touch
set_option maxRecDepth 20000 in
theorem ggX5_write_X2_giveTouch : GoodIn wsX5_write wsX2_giveTouch := goodIn_r _ [36, 37, 38, 28, 29, 30, 17, 31, 32, 92, 93, 94, 95, 96, 97, 98, 99, 100, 101, 102, 103] (by decide +kernel) (by decide +kernel)
set_option maxRecDepth 20000 in
theorem gX5_write_X2_giveTouch : GoodIn wsX5_write (wsV RX5 69 RX2 yX2_giveTouch wsX2_giveTouch) := goodIn_app (goodIn_of _ (by decide +kernel)) ggX5_write_X2_giveTouch
set_option maxRecDepth 20000 in
theorem ggX5_write_X3_latchLow : GoodIn wsX5_write wsX3_latchLow := goodIn_r _ [43, 44, 115, 116, 117, 118, 119, 120] (by decide +kernel) (by decide +kernel)
set_option maxRecDepth 20000 in
theorem gX5_write_X3_latchLow : GoodIn wsX5_write (wsV RX5 75 RX3 yX3_latchLow wsX3_latchLow) := goodIn_app (goodIn_of _ (by decide +kernel)) ggX5_write_X3_latchLow
set_option maxRecDepth 20000 in
theorem ggX5_write_X3_latchHigh : GoodIn wsX5_write wsX3_latchHigh := goodIn_r _ [48, 44, 49, 50, 23, 24, 25, 26, 27, 115, 116, 117, 118, 119, 120, 113, 114] (by decide +kernel) (by decide +kernel)
set_option maxRecDepth 20000 in
theorem gX5_write_X3_latchHigh : GoodIn wsX5_write (wsV RX5 79 RX3 yX3_latchHigh wsX3_latchHigh) := goodIn_app (goodIn_of _ (by decide +kernel)) ggX5_write_X3_latchHigh
set_option maxRecDepth 20000 in
theorem ggX5_write_X3_start : GoodIn wsX5_write wsX3_start := goodIn_r _ [54, 44, 55, 56, 57, 58, 115, 116, 117, 118, 119, 120] (by decide +kernel) (by decide +kernel)
set_option maxRecDepth 20000 in
theorem gX5_write_X3_start : GoodIn wsX5_write (wsV RX5 82 RX3 yX3_start wsX3_start) := goodIn_app (goodIn_of _ (by decide +kernel)) ggX5_write_X3_start
set_option maxRecDepth 20000 in
theorem ggX5_write_X4_start : GoodIn wsX5_write wsX4_start := goodIn_r _ [63, 64, 65, 66, 67, 68, 23, 24, 25, 26, 27, 104, 105, 106, 107, 113, 114] (by decide +kernel) (by decide +kernel)
set_option maxRecDepth 20000 in
theorem gX5_write_X4_start : GoodIn wsX5_write (wsV RX5 88 RX4 yX4_start wsX4_start) := goodIn_app (goodIn_of _ (by decide +kernel)) ggX5_write_X4_start
set_option maxRecDepth 20000 in
theorem ggX5_write_X1_begin : GoodIn wsX5_write wsX1_begin := goodIn_r _ [73, 74, 75, 76, 77, 23, 24, 25, 26, 27, 108, 109, 110, 111, 112, 113, 114] (by decide +kernel) (by decide +kernel)
set_option maxRecDepth 20000 in
theorem gX5_write_X1_begin : GoodIn wsX5_write (wsV RX5 93 RX1 yX1_begin wsX1_begin) := goodIn_app (goodIn_of _ (by decide +kernel)) ggX5_write_X1_begin
set_option maxRecDepth 20000 in
theorem ggX5_write_X0_lower : GoodIn wsX5_write wsX0_lower := goodIn_r _ [26, 27, 113, 114] (by decide +kernel) (by decide +kernel)
set_option maxRecDepth 20000 in
theorem gX5_write_X0_lower : GoodIn wsX5_write (wsV RX5 102 RX0 yX0_lower wsX0_lower) := goodIn_app (goodIn_of _ (by decide +kernel)) ggX5_write_X0_lower
set_option maxRecDepth 20000 in
theorem ggX5_write_X0_enable : GoodIn wsX5_write wsX0_enable := goodIn_r _ [82, 83, 113, 114] (by decide +kernel) (by decide +kernel)
set_option maxRecDepth 20000 in
theorem gX5_write_X0_enable : GoodIn wsX5_write (wsV RX5 105 RX0 yX0_enable wsX0_enable) := goodIn_app (goodIn_of _ (by decide +kernel)) ggX5_write_X0_enable
theorem dX5_write_0 : decode cX5_write 0 = .ok (.iload_n 2, 1) := by decide +kernel
theorem dX5_write_1 : decode cX5_write 1 = .ok (.invokestatic 51, 3) := by decide +kernel
theorem dX5_write_4 : decode cX5_write 4 = .ok (.ifCond .ne 13, 3) := by decide +kernel
theorem dX5_write_7 : decode cX5_write 7 = .ok (.new 55, 3) := by decide +kernel
theorem dX5_write_10 : decode cX5_write 10 = .ok (.dup, 1) := by decide +kernel
theorem dX5_write_11 : decode cX5_write 11 = .ok (.ldc 57, 2) := by decide +kernel
theorem dX5_write_13 : decode cX5_write 13 = .ok (.invokespecial 59, 3) := by decide +kernel
theorem dX5_write_16 : decode cX5_write 16 = .ok (.athrow, 1) := by decide +kernel
theorem dX5_write_17 : decode cX5_write 17 = .ok (.iload_n 1, 1) := by decide +kernel
theorem dX5_write_18 : decode cX5_write 18 = .ok (.tableswitch 306 0 15 #[78, 103, 128, 139, 150, 161, 179, 190, 201, 212, 223, 241, 249, 273, 284, 295], 78) := by decide +kernel
theorem dX5_write_96 : decode cX5_write 96 = .ok (.aload_n 0, 1) := by decide +kernel
theorem dX5_write_97 : decode cX5_write 97 = .ok (.getfield 25, 3) := by decide +kernel
theorem dX5_write_100 : decode cX5_write 100 = .ok (.iload_n 2, 1) := by decide +kernel
theorem dX5_write_101 : decode cX5_write 101 = .ok (.putfield 62, 3) := by decide +kernel
theorem dX5_write_104 : decode cX5_write 104 = .ok (.aload_n 0, 1) := by decide +kernel
theorem dX5_write_105 : decode cX5_write 105 = .ok (.getfield 25, 3) := by decide +kernel
theorem dX5_write_108 : decode cX5_write 108 = .ok (.invokevirtual 66, 3) := by decide +kernel
theorem dX5_write_111 : decode cX5_write 111 = .ok (.aload_n 0, 1) := by decide +kernel
theorem dX5_write_112 : decode cX5_write 112 = .ok (.getfield 25, 3) := by decide +kernel
theorem dX5_write_115 : decode cX5_write 115 = .ok (.invokevirtual 69, 3) := by decide +kernel
theorem dX5_write_118 : decode cX5_write 118 = .ok (.goto 216, 3) := by decide +kernel
theorem dX5_write_121 : decode cX5_write 121 = .ok (.aload_n 0, 1) := by decide +kernel
theorem dX5_write_122 : decode cX5_write 122 = .ok (.getfield 21, 3) := by decide +kernel
theorem dX5_write_125 : decode cX5_write 125 = .ok (.iload_n 2, 1) := by decide +kernel
theorem dX5_write_126 : decode cX5_write 126 = .ok (.putfield 62, 3) := by decide +kernel
theorem dX5_write_129 : decode cX5_write 129 = .ok (.aload_n 0, 1) := by decide +kernel
theorem dX5_write_130 : decode cX5_write 130 = .ok (.getfield 21, 3) := by decide +kernel
theorem dX5_write_133 : decode cX5_write 133 = .ok (.invokevirtual 66, 3) := by decide +kernel
theorem dX5_write_136 : decode cX5_write 136 = .ok (.aload_n 0, 1) := by decide +kernel
theorem dX5_write_137 : decode cX5_write 137 = .ok (.getfield 21, 3) := by decide +kernel
theorem dX5_write_140 : decode cX5_write 140 = .ok (.invokevirtual 69, 3) := by decide +kernel
theorem dX5_write_143 : decode cX5_write 143 = .ok (.goto 191, 3) := by decide +kernel
theorem dX5_write_146 : decode cX5_write 146 = .ok (.aload_n 0, 1) := by decide +kernel
theorem dX5_write_147 : decode cX5_write 147 = .ok (.getfield 25, 3) := by decide +kernel
theorem dX5_write_150 : decode cX5_write 150 = .ok (.iload_n 2, 1) := by decide +kernel
theorem dX5_write_151 : decode cX5_write 151 = .ok (.putfield 72, 3) := by decide +kernel
theorem dX5_write_154 : decode cX5_write 154 = .ok (.goto 180, 3) := by decide +kernel
theorem dX5_write_157 : decode cX5_write 157 = .ok (.aload_n 0, 1) := by decide +kernel
theorem dX5_write_158 : decode cX5_write 158 = .ok (.getfield 21, 3) := by decide +kernel
theorem dX5_write_161 : decode cX5_write 161 = .ok (.iload_n 2, 1) := by decide +kernel
theorem dX5_write_162 : decode cX5_write 162 = .ok (.putfield 72, 3) := by decide +kernel
theorem dX5_write_165 : decode cX5_write 165 = .ok (.goto 169, 3) := by decide +kernel
theorem dX5_write_168 : decode cX5_write 168 = .ok (.aload_n 0, 1) := by decide +kernel
theorem dX5_write_169 : decode cX5_write 169 = .ok (.getfield 33, 3) := by decide +kernel
theorem dX5_write_172 : decode cX5_write 172 = .ok (.iload_n 2, 1) := by decide +kernel
theorem dX5_write_173 : decode cX5_write 173 = .ok (.invokevirtual 75, 3) := by decide +kernel
theorem dX5_write_176 : decode cX5_write 176 = .ok (.goto 158, 3) := by decide +kernel
theorem dX5_write_179 : decode cX5_write 179 = .ok (.aload_n 0, 1) := by decide +kernel
theorem dX5_write_180 : decode cX5_write 180 = .ok (.getfield 33, 3) := by decide +kernel
theorem dX5_write_183 : decode cX5_write 183 = .ok (.iload_n 2, 1) := by decide +kernel
theorem dX5_write_184 : decode cX5_write 184 = .ok (.invokevirtual 79, 3) := by decide +kernel
theorem dX5_write_187 : decode cX5_write 187 = .ok (.aload_n 0, 1) := by decide +kernel
theorem dX5_write_188 : decode cX5_write 188 = .ok (.getfield 33, 3) := by decide +kernel
theorem dX5_write_191 : decode cX5_write 191 = .ok (.invokevirtual 82, 3) := by decide +kernel
theorem dX5_write_194 : decode cX5_write 194 = .ok (.goto 140, 3) := by decide +kernel
theorem dX5_write_197 : decode cX5_write 197 = .ok (.aload_n 0, 1) := by decide +kernel
theorem dX5_write_198 : decode cX5_write 198 = .ok (.getfield 33, 3) := by decide +kernel
theorem dX5_write_201 : decode cX5_write 201 = .ok (.iload_n 2, 1) := by decide +kernel
theorem dX5_write_202 : decode cX5_write 202 = .ok (.invokevirtual 75, 3) := by decide +kernel
theorem dX5_write_205 : decode cX5_write 205 = .ok (.goto 129, 3) := by decide +kernel
theorem dX5_write_208 : decode cX5_write 208 = .ok (.aload_n 0, 1) := by decide +kernel
theorem dX5_write_209 : decode cX5_write 209 = .ok (.getfield 33, 3) := by decide +kernel
theorem dX5_write_212 : decode cX5_write 212 = .ok (.iload_n 2, 1) := by decide +kernel
theorem dX5_write_213 : decode cX5_write 213 = .ok (.invokevirtual 79, 3) := by decide +kernel
theorem dX5_write_216 : decode cX5_write 216 = .ok (.goto 118, 3) := by decide +kernel
theorem dX5_write_219 : decode cX5_write 219 = .ok (.aload_n 0, 1) := by decide +kernel
theorem dX5_write_220 : decode cX5_write 220 = .ok (.getfield 40, 3) := by decide +kernel
theorem dX5_write_223 : decode cX5_write 223 = .ok (.iload_n 2, 1) := by decide +kernel
theorem dX5_write_224 : decode cX5_write 224 = .ok (.putfield 85, 3) := by decide +kernel
theorem dX5_write_227 : decode cX5_write 227 = .ok (.goto 107, 3) := by decide +kernel
theorem dX5_write_230 : decode cX5_write 230 = .ok (.aload_n 0, 1) := by decide +kernel
theorem dX5_write_231 : decode cX5_write 231 = .ok (.getfield 40, 3) := by decide +kernel
theorem dX5_write_234 : decode cX5_write 234 = .ok (.iload_n 2, 1) := by decide +kernel
theorem dX5_write_235 : decode cX5_write 235 = .ok (.invokevirtual 88, 3) := by decide +kernel
theorem dX5_write_238 : decode cX5_write 238 = .ok (.goto 96, 3) := by decide +kernel
theorem dX5_write_241 : decode cX5_write 241 = .ok (.aload_n 0, 1) := by decide +kernel
theorem dX5_write_242 : decode cX5_write 242 = .ok (.getfield 47, 3) := by decide +kernel
theorem dX5_write_245 : decode cX5_write 245 = .ok (.iload_n 2, 1) := by decide +kernel
theorem dX5_write_246 : decode cX5_write 246 = .ok (.putfield 90, 3) := by decide +kernel
theorem dX5_write_249 : decode cX5_write 249 = .ok (.aload_n 0, 1) := by decide +kernel
theorem dX5_write_250 : decode cX5_write 250 = .ok (.getfield 47, 3) := by decide +kernel
theorem dX5_write_253 : decode cX5_write 253 = .ok (.invokevirtual 93, 3) := by decide +kernel
theorem dX5_write_256 : decode cX5_write 256 = .ok (.goto 78, 3) := by decide +kernel
theorem dX5_write_259 : decode cX5_write 259 = .ok (.aload_n 0, 1) := by decide +kernel
theorem dX5_write_260 : decode cX5_write 260 = .ok (.iload_n 2, 1) := by decide +kernel
theorem dX5_write_261 : decode cX5_write 261 = .ok (.putfield 96, 3) := by decide +kernel
theorem dX5_write_264 : decode cX5_write 264 = .ok (.goto 70, 3) := by decide +kernel
theorem dX5_write_267 : decode cX5_write 267 = .ok (.aload_n 0, 1) := by decide +kernel
theorem dX5_write_268 : decode cX5_write 268 = .ok (.getfield 21, 3) := by decide +kernel
theorem dX5_write_271 : decode cX5_write 271 = .ok (.iload_n 2, 1) := by decide +kernel
theorem dX5_write_272 : decode cX5_write 272 = .ok (.bipush 15, 2) := by decide +kernel
theorem dX5_write_274 : decode cX5_write 274 = .ok (.iand, 1) := by decide +kernel
theorem dX5_write_275 : decode cX5_write 275 = .ok (.putfield 99, 3) := by decide +kernel
theorem dX5_write_278 : decode cX5_write 278 = .ok (.aload_n 0, 1) := by decide +kernel
theorem dX5_write_279 : decode cX5_write 279 = .ok (.getfield 25, 3) := by decide +kernel
theorem dX5_write_282 : decode cX5_write 282 = .ok (.iload_n 2, 1) := by decide +kernel
theorem dX5_write_283 : decode cX5_write 283 = .ok (.iconst 4, 1) := by decide +kernel
theorem dX5_write_284 : decode cX5_write 284 = .ok (.ishr, 1) := by decide +kernel
theorem dX5_write_285 : decode cX5_write 285 = .ok (.putfield 99, 3) := by decide +kernel
theorem dX5_write_288 : decode cX5_write 288 = .ok (.goto 46, 3) := by decide +kernel
theorem dX5_write_291 : decode cX5_write 291 = .ok (.aload_n 0, 1) := by decide +kernel
theorem dX5_write_292 : decode cX5_write 292 = .ok (.getfield 10, 3) := by decide +kernel
theorem dX5_write_295 : decode cX5_write 295 = .ok (.iload_n 2, 1) := by decide +kernel
theorem dX5_write_296 : decode cX5_write 296 = .ok (.invokevirtual 102, 3) := by decide +kernel
theorem dX5_write_299 : decode cX5_write 299 = .ok (.goto 35, 3) := by decide +kernel
theorem dX5_write_302 : decode cX5_write 302 = .ok (.aload_n 0, 1) := by decide +kernel
theorem dX5_write_303 : decode cX5_write 303 = .ok (.getfield 10, 3) := by decide +kernel
theorem dX5_write_306 : decode cX5_write 306 = .ok (.iload_n 2, 1) := by decide +kernel
theorem dX5_write_307 : decode cX5_write 307 = .ok (.invokevirtual 105, 3) := by decide +kernel
theorem dX5_write_310 : decode cX5_write 310 = .ok (.goto 24, 3) := by decide +kernel
theorem dX5_write_313 : decode cX5_write 313 = .ok (.aload_n 0, 1) := by decide +kernel
theorem dX5_write_314 : decode cX5_write 314 = .ok (.getfield 21, 3) := by decide +kernel
theorem dX5_write_317 : decode cX5_write 317 = .ok (.iload_n 2, 1) := by decide +kernel
theorem dX5_write_318 : decode cX5_write 318 = .ok (.putfield 62, 3) := by decide +kernel
theorem dX5_write_321 : decode cX5_write 321 = .ok (.goto 13, 3) := by decide +kernel
theorem dX5_write_324 : decode cX5_write 324 = .ok (.new 55, 3) := by decide +kernel
theorem dX5_write_327 : decode cX5_write 327 = .ok (.dup, 1) := by decide +kernel
theorem dX5_write_328 : decode cX5_write 328 = .ok (.ldc 108, 2) := by decide +kernel
theorem dX5_write_330 : decode cX5_write 330 = .ok (.invokespecial 59, 3) := by decide +kernel
theorem dX5_write_333 : decode cX5_write 333 = .ok (.athrow, 1) := by decide +kernel
theorem dX5_write_334 : decode cX5_write 334 = .ok (.return_, 1) := by decide +kernel
set_option maxRecDepth 20000 in
theorem ggX5_read_X5_readPortB : GoodIn wsX5_read wsX5_readPortB := goodIn_r _ [14, 3, 15, 16, 17, 13, 18, 9, 19, 20, 21, 22, 23, 24, 25, 26, 27, 28, 29, 30, 31, 32, 33, 34, 35, 36, 37, 38, 39, 6, 40, 41, 42, 43, 44, 45, 46, 47, 48, 49, 50, 51, 52, 53, 93, 94, 95, 96, 97, 98, 99, 100, 101, 102, 103, 104, 105, 106, 107, 108, 109, 110, 111, 112, 128, 129, 113, 114, 115, 116, 117, 118] (by decide +kernel) (by decide +kernel)
set_option maxRecDepth 20000 in
theorem gX5_read_X5_readPortB : GoodIn wsX5_read (wsV RX5 110 RX5 yX5_readPortB wsX5_readPortB) := goodIn_app (goodIn_of _ (by decide +kernel)) ggX5_read_X5_readPortB
set_option maxRecDepth 20000 in
theorem ggX5_read_X5_readPortA : GoodIn wsX5_read wsX5_readPortA := goodIn_r _ [57, 4, 58, 59, 60, 13, 61, 15, 16, 17, 18, 9, 19, 20, 21, 22, 23, 24, 25, 26, 27, 28, 29, 30, 31, 32, 33, 34, 35, 40, 41, 42, 43, 44, 45, 46, 47, 48, 49, 50, 51, 52, 53, 62, 63, 64, 65, 66, 67, 93, 94, 95, 96, 97, 98, 99, 100, 101, 102, 103, 104, 105, 106, 107, 108, 109, 110, 111, 112, 128, 129] (by decide +kernel) (by decide +kernel)
set_option maxRecDepth 20000 in
theorem gX5_read_X5_readPortA : GoodIn wsX5_read (wsV RX5 114 RX5 yX5_readPortA wsX5_readPortA) := goodIn_app (goodIn_of _ (by decide +kernel)) ggX5_read_X5_readPortA
set_option maxRecDepth 20000 in
theorem ggX5_read_X0_lower : GoodIn wsX5_read wsX0_lower := goodIn_r _ [48, 35, 128, 129] (by decide +kernel) (by decide +kernel)
set_option maxRecDepth 20000 in
theorem gX5_read_X0_lower : GoodIn wsX5_read (wsV RX5 102 RX0 yX0_lower wsX0_lower) := goodIn_app (goodIn_of _ (by decide +kernel)) ggX5_read_X0_lower
set_option maxRecDepth 20000 in
theorem ggX5_read_X5_lowByte : GoodIn wsX5_read wsX5_lowByte := goodIn_r _ [71] (by decide +kernel) (by decide +kernel)
set_option maxRecDepth 20000 in
theorem gX5_read_X5_lowByte : GoodIn wsX5_read (va_wsS RX5 120 yX5_lowByte wsX5_lowByte) := goodIn_app (goodIn_of _ (by decide +kernel)) ggX5_read_X5_lowByte
set_option maxRecDepth 20000 in
theorem ggX5_read_X5_highByte : GoodIn wsX5_read wsX5_highByte := goodIn_r _ [74] (by decide +kernel) (by decide +kernel)
set_option maxRecDepth 20000 in
theorem gX5_read_X5_highByte : GoodIn wsX5_read (va_wsS RX5 124 yX5_highByte wsX5_highByte) := goodIn_app (goodIn_of _ (by decide +kernel)) ggX5_read_X5_highByte
set_option maxRecDepth 20000 in
theorem ggX5_read_X1_begin : GoodIn wsX5_read wsX1_begin := goodIn_r _ [79, 80, 81, 82, 83, 46, 47, 33, 48, 35, 123, 124, 125, 126, 127, 128, 129] (by decide +kernel) (by decide +kernel)
set_option maxRecDepth 20000 in
theorem gX5_read_X1_begin : GoodIn wsX5_read (wsV RX5 93 RX1 yX1_begin wsX1_begin) := goodIn_app (goodIn_of _ (by decide +kernel)) ggX5_read_X1_begin
set_option maxRecDepth 20000 in
theorem ggX5_read_X0_withCall : GoodIn wsX5_read wsX0_withCall := goodIn_r _ [87, 35, 88, 89, 90, 33, 91, 92, 128, 129] (by decide +kernel) (by decide +kernel)
set_option maxRecDepth 20000 in
theorem gX5_read_X0_withCall : GoodIn wsX5_read (wsV RX5 129 RX0 yX0_withCall wsX0_withCall) := goodIn_app (goodIn_of _ (by decide +kernel)) ggX5_read_X0_withCall
set_option maxRecDepth 20000 in
theorem ggX5_read_X5_portA : GoodIn wsX5_read wsX5_portA := goodIn_r _ [61, 4, 15, 16, 17, 13, 18, 9, 19, 20, 21, 22, 23, 24, 25, 26, 27, 28, 29, 30, 31, 32, 33, 34, 35, 93, 94, 95, 96, 97, 98, 99, 100, 101, 102, 103, 104, 105, 106, 107, 108, 109, 110, 111, 112, 128, 129] (by decide +kernel) (by decide +kernel)
set_option maxRecDepth 20000 in
theorem gX5_read_X5_portA : GoodIn wsX5_read (wsV RX5 135 RX5 yX5_portA wsX5_portA) := goodIn_app (goodIn_of _ (by decide +kernel)) ggX5_read_X5_portA
theorem dX5_read_0 : decode cX5_read 0 = .ok (.iload_n 1, 1) := by decide +kernel
theorem dX5_read_1 : decode cX5_read 1 = .ok (.tableswitch 252 0 15 #[79, 84, 89, 97, 105, 125, 136, 147, 158, 178, 189, 204, 209, 227, 235, 247], 79) := by decide +kernel
theorem dX5_read_80 : decode cX5_read 80 = .ok (.aload_n 0, 1) := by decide +kernel
theorem dX5_read_81 : decode cX5_read 81 = .ok (.invokevirtual 110, 3) := by decide +kernel
theorem dX5_read_84 : decode cX5_read 84 = .ok (.ireturn, 1) := by decide +kernel
theorem dX5_read_85 : decode cX5_read 85 = .ok (.aload_n 0, 1) := by decide +kernel
theorem dX5_read_86 : decode cX5_read 86 = .ok (.invokevirtual 114, 3) := by decide +kernel
theorem dX5_read_89 : decode cX5_read 89 = .ok (.ireturn, 1) := by decide +kernel
theorem dX5_read_90 : decode cX5_read 90 = .ok (.aload_n 0, 1) := by decide +kernel
theorem dX5_read_91 : decode cX5_read 91 = .ok (.getfield 25, 3) := by decide +kernel
theorem dX5_read_94 : decode cX5_read 94 = .ok (.getfield 72, 3) := by decide +kernel
theorem dX5_read_97 : decode cX5_read 97 = .ok (.ireturn, 1) := by decide +kernel
theorem dX5_read_98 : decode cX5_read 98 = .ok (.aload_n 0, 1) := by decide +kernel
theorem dX5_read_99 : decode cX5_read 99 = .ok (.getfield 21, 3) := by decide +kernel
theorem dX5_read_102 : decode cX5_read 102 = .ok (.getfield 72, 3) := by decide +kernel
theorem dX5_read_105 : decode cX5_read 105 = .ok (.ireturn, 1) := by decide +kernel
theorem dX5_read_106 : decode cX5_read 106 = .ok (.aload_n 0, 1) := by decide +kernel
theorem dX5_read_107 : decode cX5_read 107 = .ok (.getfield 10, 3) := by decide +kernel
theorem dX5_read_110 : decode cX5_read 110 = .ok (.bipush 64, 2) := by decide +kernel
theorem dX5_read_112 : decode cX5_read 112 = .ok (.invokevirtual 102, 3) := by decide +kernel
theorem dX5_read_115 : decode cX5_read 115 = .ok (.aload_n 0, 1) := by decide +kernel
theorem dX5_read_116 : decode cX5_read 116 = .ok (.getfield 33, 3) := by decide +kernel
theorem dX5_read_119 : decode cX5_read 119 = .ok (.getfield 117, 3) := by decide +kernel
theorem dX5_read_122 : decode cX5_read 122 = .ok (.invokestatic 120, 3) := by decide +kernel
theorem dX5_read_125 : decode cX5_read 125 = .ok (.ireturn, 1) := by decide +kernel
theorem dX5_read_126 : decode cX5_read 126 = .ok (.aload_n 0, 1) := by decide +kernel
theorem dX5_read_127 : decode cX5_read 127 = .ok (.getfield 33, 3) := by decide +kernel
theorem dX5_read_130 : decode cX5_read 130 = .ok (.getfield 117, 3) := by decide +kernel
theorem dX5_read_133 : decode cX5_read 133 = .ok (.invokestatic 124, 3) := by decide +kernel
theorem dX5_read_136 : decode cX5_read 136 = .ok (.ireturn, 1) := by decide +kernel
theorem dX5_read_137 : decode cX5_read 137 = .ok (.aload_n 0, 1) := by decide +kernel
theorem dX5_read_138 : decode cX5_read 138 = .ok (.getfield 33, 3) := by decide +kernel
theorem dX5_read_141 : decode cX5_read 141 = .ok (.getfield 127, 3) := by decide +kernel
theorem dX5_read_144 : decode cX5_read 144 = .ok (.invokestatic 120, 3) := by decide +kernel
theorem dX5_read_147 : decode cX5_read 147 = .ok (.ireturn, 1) := by decide +kernel
theorem dX5_read_148 : decode cX5_read 148 = .ok (.aload_n 0, 1) := by decide +kernel
theorem dX5_read_149 : decode cX5_read 149 = .ok (.getfield 33, 3) := by decide +kernel
theorem dX5_read_152 : decode cX5_read 152 = .ok (.getfield 127, 3) := by decide +kernel
theorem dX5_read_155 : decode cX5_read 155 = .ok (.invokestatic 124, 3) := by decide +kernel
theorem dX5_read_158 : decode cX5_read 158 = .ok (.ireturn, 1) := by decide +kernel
theorem dX5_read_159 : decode cX5_read 159 = .ok (.aload_n 0, 1) := by decide +kernel
theorem dX5_read_160 : decode cX5_read 160 = .ok (.getfield 10, 3) := by decide +kernel
theorem dX5_read_163 : decode cX5_read 163 = .ok (.bipush 32, 2) := by decide +kernel
theorem dX5_read_165 : decode cX5_read 165 = .ok (.invokevirtual 102, 3) := by decide +kernel
theorem dX5_read_168 : decode cX5_read 168 = .ok (.aload_n 0, 1) := by decide +kernel
theorem dX5_read_169 : decode cX5_read 169 = .ok (.getfield 40, 3) := by decide +kernel
theorem dX5_read_172 : decode cX5_read 172 = .ok (.getfield 128, 3) := by decide +kernel
theorem dX5_read_175 : decode cX5_read 175 = .ok (.invokestatic 120, 3) := by decide +kernel
theorem dX5_read_178 : decode cX5_read 178 = .ok (.ireturn, 1) := by decide +kernel
theorem dX5_read_179 : decode cX5_read 179 = .ok (.aload_n 0, 1) := by decide +kernel
theorem dX5_read_180 : decode cX5_read 180 = .ok (.getfield 40, 3) := by decide +kernel
theorem dX5_read_183 : decode cX5_read 183 = .ok (.getfield 128, 3) := by decide +kernel
theorem dX5_read_186 : decode cX5_read 186 = .ok (.invokestatic 124, 3) := by decide +kernel
theorem dX5_read_189 : decode cX5_read 189 = .ok (.ireturn, 1) := by decide +kernel
theorem dX5_read_190 : decode cX5_read 190 = .ok (.aload_n 0, 1) := by decide +kernel
theorem dX5_read_191 : decode cX5_read 191 = .ok (.getfield 47, 3) := by decide +kernel
theorem dX5_read_194 : decode cX5_read 194 = .ok (.invokevirtual 93, 3) := by decide +kernel
theorem dX5_read_197 : decode cX5_read 197 = .ok (.aload_n 0, 1) := by decide +kernel
theorem dX5_read_198 : decode cX5_read 198 = .ok (.getfield 47, 3) := by decide +kernel
theorem dX5_read_201 : decode cX5_read 201 = .ok (.getfield 90, 3) := by decide +kernel
theorem dX5_read_204 : decode cX5_read 204 = .ok (.ireturn, 1) := by decide +kernel
theorem dX5_read_205 : decode cX5_read 205 = .ok (.aload_n 0, 1) := by decide +kernel
theorem dX5_read_206 : decode cX5_read 206 = .ok (.getfield 96, 3) := by decide +kernel
theorem dX5_read_209 : decode cX5_read 209 = .ok (.ireturn, 1) := by decide +kernel
theorem dX5_read_210 : decode cX5_read 210 = .ok (.aload_n 0, 1) := by decide +kernel
theorem dX5_read_211 : decode cX5_read 211 = .ok (.getfield 25, 3) := by decide +kernel
theorem dX5_read_214 : decode cX5_read 214 = .ok (.getfield 99, 3) := by decide +kernel
theorem dX5_read_217 : decode cX5_read 217 = .ok (.iconst 4, 1) := by decide +kernel
theorem dX5_read_218 : decode cX5_read 218 = .ok (.ishl, 1) := by decide +kernel
theorem dX5_read_219 : decode cX5_read 219 = .ok (.aload_n 0, 1) := by decide +kernel
theorem dX5_read_220 : decode cX5_read 220 = .ok (.getfield 21, 3) := by decide +kernel
theorem dX5_read_223 : decode cX5_read 223 = .ok (.getfield 99, 3) := by decide +kernel
theorem dX5_read_226 : decode cX5_read 226 = .ok (.ior, 1) := by decide +kernel
theorem dX5_read_227 : decode cX5_read 227 = .ok (.ireturn, 1) := by decide +kernel
theorem dX5_read_228 : decode cX5_read 228 = .ok (.aload_n 0, 1) := by decide +kernel
theorem dX5_read_229 : decode cX5_read 229 = .ok (.getfield 10, 3) := by decide +kernel
theorem dX5_read_232 : decode cX5_read 232 = .ok (.invokevirtual 129, 3) := by decide +kernel
theorem dX5_read_235 : decode cX5_read 235 = .ok (.ireturn, 1) := by decide +kernel
theorem dX5_read_236 : decode cX5_read 236 = .ok (.aload_n 0, 1) := by decide +kernel
theorem dX5_read_237 : decode cX5_read 237 = .ok (.getfield 10, 3) := by decide +kernel
theorem dX5_read_240 : decode cX5_read 240 = .ok (.getfield 132, 3) := by decide +kernel
theorem dX5_read_243 : decode cX5_read 243 = .ok (.sipush 128, 3) := by decide +kernel
theorem dX5_read_246 : decode cX5_read 246 = .ok (.ior, 1) := by decide +kernel
theorem dX5_read_247 : decode cX5_read 247 = .ok (.ireturn, 1) := by decide +kernel
theorem dX5_read_248 : decode cX5_read 248 = .ok (.aload_n 0, 1) := by decide +kernel
theorem dX5_read_249 : decode cX5_read 249 = .ok (.invokevirtual 135, 3) := by decide +kernel
theorem dX5_read_252 : decode cX5_read 252 = .ok (.ireturn, 1) := by decide +kernel
theorem dX5_read_253 : decode cX5_read 253 = .ok (.new 55, 3) := by decide +kernel
theorem dX5_read_256 : decode cX5_read 256 = .ok (.dup, 1) := by decide +kernel
theorem dX5_read_257 : decode cX5_read 257 = .ok (.ldc 108, 2) := by decide +kernel
theorem dX5_read_259 : decode cX5_read 259 = .ok (.invokespecial 59, 3) := by decide +kernel
theorem dX5_read_262 : decode cX5_read 262 = .ok (.athrow, 1) := by decide +kernel
set_option maxRecDepth 20000 in
theorem ggX5_pins_X5_isByte : GoodIn wsX5_pins wsX5_isByte := goodIn_r _ [9] (by decide +kernel) (by decide +kernel)
set_option maxRecDepth 20000 in
theorem gX5_pins_X5_isByte : GoodIn wsX5_pins (va_wsS RX5 51 yX5_isByte wsX5_isByte) := goodIn_app (goodIn_of _ (by decide +kernel)) ggX5_pins_X5_isByte
set_option maxRecDepth 20000 in
theorem ggX5_pins_X5_controlHas : GoodIn wsX5_pins wsX5_controlHas := goodIn_r _ [13, 14, 30, 31, 32, 33, 34, 35, 36, 37] (by decide +kernel) (by decide +kernel)
set_option maxRecDepth 20000 in
theorem gX5_pins_X5_controlHas : GoodIn wsX5_pins (wsV RX5 143 RX5 yX5_controlHas wsX5_controlHas) := goodIn_app (goodIn_of _ (by decide +kernel)) ggX5_pins_X5_controlHas
set_option maxRecDepth 20000 in
theorem ggX5_pins_X4_countDown : GoodIn wsX5_pins wsX4_countDown := goodIn_r _ [19, 20, 21, 22, 23, 24, 25, 26, 27, 28, 29, 50, 51, 52, 53, 54, 55] (by decide +kernel) (by decide +kernel)
set_option maxRecDepth 20000 in
theorem gX5_pins_X4_countDown : GoodIn wsX5_pins (wsV RX5 146 RX4 yX4_countDown wsX4_countDown) := goodIn_app (goodIn_of _ (by decide +kernel)) ggX5_pins_X4_countDown
theorem dX5_pins_0 : decode cX5_pins 0 = .ok (.iload_n 1, 1) := by decide +kernel
theorem dX5_pins_1 : decode cX5_pins 1 = .ok (.invokestatic 51, 3) := by decide +kernel
theorem dX5_pins_4 : decode cX5_pins 4 = .ok (.ifCond .eq 10, 3) := by decide +kernel
theorem dX5_pins_7 : decode cX5_pins 7 = .ok (.iload_n 2, 1) := by decide +kernel
theorem dX5_pins_8 : decode cX5_pins 8 = .ok (.invokestatic 51, 3) := by decide +kernel
theorem dX5_pins_11 : decode cX5_pins 11 = .ok (.ifCond .ne 13, 3) := by decide +kernel
theorem dX5_pins_14 : decode cX5_pins 14 = .ok (.new 55, 3) := by decide +kernel
theorem dX5_pins_17 : decode cX5_pins 17 = .ok (.dup, 1) := by decide +kernel
theorem dX5_pins_18 : decode cX5_pins 18 = .ok (.ldc 138, 2) := by decide +kernel
theorem dX5_pins_20 : decode cX5_pins 20 = .ok (.invokespecial 59, 3) := by decide +kernel
theorem dX5_pins_23 : decode cX5_pins 23 = .ok (.athrow, 1) := by decide +kernel
theorem dX5_pins_24 : decode cX5_pins 24 = .ok (.aload_n 0, 1) := by decide +kernel
theorem dX5_pins_25 : decode cX5_pins 25 = .ok (.getfield 25, 3) := by decide +kernel
theorem dX5_pins_28 : decode cX5_pins 28 = .ok (.getfield 140, 3) := by decide +kernel
theorem dX5_pins_31 : decode cX5_pins 31 = .ok (.iload_n 2, 1) := by decide +kernel
theorem dX5_pins_32 : decode cX5_pins 32 = .ok (.iconst (-1), 1) := by decide +kernel
theorem dX5_pins_33 : decode cX5_pins 33 = .ok (.ixor, 1) := by decide +kernel
theorem dX5_pins_34 : decode cX5_pins 34 = .ok (.iand, 1) := by decide +kernel
theorem dX5_pins_35 : decode cX5_pins 35 = .ok (.bipush 64, 2) := by decide +kernel
theorem dX5_pins_37 : decode cX5_pins 37 = .ok (.iand, 1) := by decide +kernel
theorem dX5_pins_38 : decode cX5_pins 38 = .ok (.ifCond .eq 7, 3) := by decide +kernel
theorem dX5_pins_41 : decode cX5_pins 41 = .ok (.iconst 1, 1) := by decide +kernel
theorem dX5_pins_42 : decode cX5_pins 42 = .ok (.goto 4, 3) := by decide +kernel
theorem dX5_pins_45 : decode cX5_pins 45 = .ok (.iconst 0, 1) := by decide +kernel
theorem dX5_pins_46 : decode cX5_pins 46 = .ok (.istore_n 3, 1) := by decide +kernel
theorem dX5_pins_47 : decode cX5_pins 47 = .ok (.aload_n 0, 1) := by decide +kernel
theorem dX5_pins_48 : decode cX5_pins 48 = .ok (.getfield 21, 3) := by decide +kernel
theorem dX5_pins_51 : decode cX5_pins 51 = .ok (.iload_n 1, 1) := by decide +kernel
theorem dX5_pins_52 : decode cX5_pins 52 = .ok (.putfield 140, 3) := by decide +kernel
theorem dX5_pins_55 : decode cX5_pins 55 = .ok (.aload_n 0, 1) := by decide +kernel
theorem dX5_pins_56 : decode cX5_pins 56 = .ok (.getfield 25, 3) := by decide +kernel
theorem dX5_pins_59 : decode cX5_pins 59 = .ok (.iload_n 2, 1) := by decide +kernel
theorem dX5_pins_60 : decode cX5_pins 60 = .ok (.putfield 140, 3) := by decide +kernel
theorem dX5_pins_63 : decode cX5_pins 63 = .ok (.iload_n 3, 1) := by decide +kernel
theorem dX5_pins_64 : decode cX5_pins 64 = .ok (.ifCond .eq 20, 3) := by decide +kernel
theorem dX5_pins_67 : decode cX5_pins 67 = .ok (.aload_n 0, 1) := by decide +kernel
theorem dX5_pins_68 : decode cX5_pins 68 = .ok (.bipush 32, 2) := by decide +kernel
theorem dX5_pins_70 : decode cX5_pins 70 = .ok (.invokevirtual 143, 3) := by decide +kernel
theorem dX5_pins_73 : decode cX5_pins 73 = .ok (.ifCond .eq 11, 3) := by decide +kernel
theorem dX5_pins_76 : decode cX5_pins 76 = .ok (.aload_n 0, 1) := by decide +kernel
theorem dX5_pins_77 : decode cX5_pins 77 = .ok (.getfield 40, 3) := by decide +kernel
theorem dX5_pins_80 : decode cX5_pins 80 = .ok (.iconst 1, 1) := by decide +kernel
theorem dX5_pins_81 : decode cX5_pins 81 = .ok (.invokevirtual 146, 3) := by decide +kernel
theorem dX5_pins_84 : decode cX5_pins 84 = .ok (.return_, 1) := by decide +kernel
set_option maxRecDepth 20000 in
theorem ggX5_line_X2_moveLine1 : GoodIn wsX5_line wsX2_moveLine1 := goodIn_r _ [9, 10, 11, 12, 13, 14, 15, 16, 17, 18, 19, 20, 21, 22, 41, 42, 43, 44, 45, 46, 47, 48, 49, 50, 51, 52, 53, 54] (by decide +kernel) (by decide +kernel)
set_option maxRecDepth 20000 in
theorem gX5_line_X2_moveLine1 : GoodIn wsX5_line (wsV RX5 149 RX2 yX2_moveLine1 wsX2_moveLine1) := goodIn_app (goodIn_of _ (by decide +kernel)) ggX5_line_X2_moveLine1
set_option maxRecDepth 20000 in
theorem ggX5_line_X2_moveLine2 : GoodIn wsX5_line wsX2_moveLine2 := goodIn_r _ [26, 27, 12, 28, 29, 30, 31, 8, 32, 10, 17, 18, 19, 20, 21, 22, 41, 42, 43, 44, 45, 46, 47, 48, 49, 50, 51, 52, 53, 54] (by decide +kernel) (by decide +kernel)
set_option maxRecDepth 20000 in
theorem gX5_line_X2_moveLine2 : GoodIn wsX5_line (wsV RX5 153 RX2 yX2_moveLine2 wsX2_moveLine2) := goodIn_app (goodIn_of _ (by decide +kernel)) ggX5_line_X2_moveLine2
theorem dX5_line_0 : decode cX5_line 0 = .ok (.iload_n 1, 1) := by decide +kernel
theorem dX5_line_1 : decode cX5_line 1 = .ok (.tableswitch 67 0 3 #[31, 40, 49, 58], 31) := by decide +kernel
theorem dX5_line_32 : decode cX5_line 32 = .ok (.aload_n 0, 1) := by decide +kernel
theorem dX5_line_33 : decode cX5_line 33 = .ok (.getfield 21, 3) := by decide +kernel
theorem dX5_line_36 : decode cX5_line 36 = .ok (.iload_n 2, 1) := by decide +kernel
theorem dX5_line_37 : decode cX5_line 37 = .ok (.invokevirtual 149, 3) := by decide +kernel
theorem dX5_line_40 : decode cX5_line 40 = .ok (.ireturn, 1) := by decide +kernel
theorem dX5_line_41 : decode cX5_line 41 = .ok (.aload_n 0, 1) := by decide +kernel
theorem dX5_line_42 : decode cX5_line 42 = .ok (.getfield 21, 3) := by decide +kernel
theorem dX5_line_45 : decode cX5_line 45 = .ok (.iload_n 2, 1) := by decide +kernel
theorem dX5_line_46 : decode cX5_line 46 = .ok (.invokevirtual 153, 3) := by decide +kernel
theorem dX5_line_49 : decode cX5_line 49 = .ok (.ireturn, 1) := by decide +kernel
theorem dX5_line_50 : decode cX5_line 50 = .ok (.aload_n 0, 1) := by decide +kernel
theorem dX5_line_51 : decode cX5_line 51 = .ok (.getfield 25, 3) := by decide +kernel
theorem dX5_line_54 : decode cX5_line 54 = .ok (.iload_n 2, 1) := by decide +kernel
theorem dX5_line_55 : decode cX5_line 55 = .ok (.invokevirtual 149, 3) := by decide +kernel
theorem dX5_line_58 : decode cX5_line 58 = .ok (.ireturn, 1) := by decide +kernel
theorem dX5_line_59 : decode cX5_line 59 = .ok (.aload_n 0, 1) := by decide +kernel
theorem dX5_line_60 : decode cX5_line 60 = .ok (.getfield 25, 3) := by decide +kernel
theorem dX5_line_63 : decode cX5_line 63 = .ok (.iload_n 2, 1) := by decide +kernel
theorem dX5_line_64 : decode cX5_line 64 = .ok (.invokevirtual 153, 3) := by decide +kernel
theorem dX5_line_67 : decode cX5_line 67 = .ok (.ireturn, 1) := by decide +kernel
theorem dX5_line_68 : decode cX5_line 68 = .ok (.new 55, 3) := by decide +kernel
theorem dX5_line_71 : decode cX5_line 71 = .ok (.dup, 1) := by decide +kernel
theorem dX5_line_72 : decode cX5_line 72 = .ok (.ldc 156, 2) := by decide +kernel
theorem dX5_line_74 : decode cX5_line 74 = .ok (.invokespecial 59, 3) := by decide +kernel
theorem dX5_line_77 : decode cX5_line 77 = .ok (.athrow, 1) := by decide +kernel
set_option maxRecDepth 20000 in
theorem ggX5_step_X5_goOn : GoodIn wsX5_step wsX5_goOn := goodIn_r _ [9, 10, 11, 12, 13, 14, 15, 16, 17, 18, 8, 19, 20, 21, 22, 23, 24, 25, 26, 27, 28, 29, 30, 31, 32, 33, 34, 35, 36, 37, 38, 39, 40, 41, 42, 43, 44, 45, 46, 47, 48, 49, 50, 51, 52, 53, 54, 55, 56, 57, 58, 59, 60, 61, 62, 63, 64, 65, 66, 67, 68, 69, 70, 71, 72, 73, 74, 75, 76, 77, 78, 79, 80, 81, 82, 83, 84, 85, 95, 96, 97, 98, 99, 100, 101, 102, 103, 104, 105, 106, 107, 108, 109, 110, 111, 112, 113, 114, 115, 116, 117, 118, 119, 120, 121, 122, 123, 124, 125, 126, 127, 128, 129, 130, 131] (by decide +kernel) (by decide +kernel)
set_option maxRecDepth 20000 in
theorem gX5_step_X5_goOn : GoodIn wsX5_step (wsV RX5 161 RX5 yX5_goOn wsX5_goOn) := goodIn_app (goodIn_of _ (by decide +kernel)) ggX5_step_X5_goOn
set_option maxRecDepth 20000 in
theorem ggX5_step_X0_withCall : GoodIn wsX5_step wsX0_withCall := goodIn_r _ [89, 45, 90, 91, 92, 43, 93, 94, 121, 122] (by decide +kernel) (by decide +kernel)
set_option maxRecDepth 20000 in
theorem gX5_step_X0_withCall : GoodIn wsX5_step (wsV RX5 129 RX0 yX0_withCall wsX0_withCall) := goodIn_app (goodIn_of _ (by decide +kernel)) ggX5_step_X0_withCall
theorem dX5_step_0 : decode cX5_step 0 = .ok (.iload_n 1, 1) := by decide +kernel
theorem dX5_step_1 : decode cX5_step 1 = .ok (.ifCond .lt 9, 3) := by decide +kernel
theorem dX5_step_4 : decode cX5_step 4 = .ok (.iload_n 1, 1) := by decide +kernel
theorem dX5_step_5 : decode cX5_step 5 = .ok (.ldc 158, 2) := by decide +kernel
theorem dX5_step_7 : decode cX5_step 7 = .ok (.if_icmp .le 13, 3) := by decide +kernel
theorem dX5_step_10 : decode cX5_step 10 = .ok (.new 55, 3) := by decide +kernel
theorem dX5_step_13 : decode cX5_step 13 = .ok (.dup, 1) := by decide +kernel
theorem dX5_step_14 : decode cX5_step 14 = .ok (.ldc 159, 2) := by decide +kernel
theorem dX5_step_16 : decode cX5_step 16 = .ok (.invokespecial 59, 3) := by decide +kernel
theorem dX5_step_19 : decode cX5_step 19 = .ok (.athrow, 1) := by decide +kernel
theorem dX5_step_20 : decode cX5_step 20 = .ok (.iload_n 1, 1) := by decide +kernel
theorem dX5_step_21 : decode cX5_step 21 = .ok (.ifCond .le 8, 3) := by decide +kernel
theorem dX5_step_24 : decode cX5_step 24 = .ok (.aload_n 0, 1) := by decide +kernel
theorem dX5_step_25 : decode cX5_step 25 = .ok (.iload_n 1, 1) := by decide +kernel
theorem dX5_step_26 : decode cX5_step 26 = .ok (.invokevirtual 161, 3) := by decide +kernel
theorem dX5_step_29 : decode cX5_step 29 = .ok (.aload_n 0, 1) := by decide +kernel
theorem dX5_step_30 : decode cX5_step 30 = .ok (.getfield 10, 3) := by decide +kernel
theorem dX5_step_33 : decode cX5_step 33 = .ok (.invokevirtual 129, 3) := by decide +kernel
theorem dX5_step_36 : decode cX5_step 36 = .ok (.ireturn, 1) := by decide +kernel
set_option maxRecDepth 20000 in
theorem ggX5_out_X5_withTimersBit : GoodIn wsX5_out wsX5_withTimersBit := goodIn_r _ [10, 11, 12, 13, 14, 9, 15, 16, 46, 47, 48, 49, 50, 51, 52, 53, 66, 67, 68, 69, 70, 71] (by decide +kernel) (by decide +kernel)
set_option maxRecDepth 20000 in
theorem gX5_out_X5_withTimersBit : GoodIn wsX5_out (wsV RX5 164 RX5 yX5_withTimersBit wsX5_withTimersBit) := goodIn_app (goodIn_of _ (by decide +kernel)) ggX5_out_X5_withTimersBit
set_option maxRecDepth 20000 in
theorem ggX5_out_X2_line2Gives : GoodIn wsX5_out wsX2_line2Gives := goodIn_r _ [21, 22, 23, 24, 25, 26, 20, 27, 28, 54, 55, 56, 57, 58, 59, 60, 61, 62, 63, 64, 65] (by decide +kernel) (by decide +kernel)
set_option maxRecDepth 20000 in
theorem gX5_out_X2_line2Gives : GoodIn wsX5_out (wsV RX5 167 RX2 yX2_line2Gives wsX2_line2Gives) := goodIn_app (goodIn_of _ (by decide +kernel)) ggX5_out_X2_line2Gives
set_option maxRecDepth 20000 in
theorem ggX5_out_X5_lineCB2Gives : GoodIn wsX5_out wsX5_lineCB2Gives := goodIn_r _ [32, 4, 33, 34, 25, 26, 20, 27, 28, 35, 36, 37, 9, 38, 16, 17, 18, 19, 21, 22, 23, 24, 46, 47, 48, 49, 50, 51, 52, 53, 72, 73, 74, 75, 76, 54, 55, 56, 57, 58, 59, 60, 61, 62, 63, 64, 65] (by decide +kernel) (by decide +kernel)
set_option maxRecDepth 20000 in
theorem gX5_out_X5_lineCB2Gives : GoodIn wsX5_out (wsV RX5 170 RX5 yX5_lineCB2Gives wsX5_lineCB2Gives) := goodIn_app (goodIn_of _ (by decide +kernel)) ggX5_out_X5_lineCB2Gives
set_option maxRecDepth 20000 in
theorem ggX5_out_X0_call : GoodIn wsX5_out wsX0_call := goodIn_r _ [43, 44, 45, 77, 78] (by decide +kernel) (by decide +kernel)
set_option maxRecDepth 20000 in
theorem gX5_out_X0_call : GoodIn wsX5_out (wsV RX5 173 RX0 yX0_call wsX0_call) := goodIn_app (goodIn_of _ (by decide +kernel)) ggX5_out_X0_call
theorem dX5_out_0 : decode cX5_out 0 = .ok (.iload_n 1, 1) := by decide +kernel
theorem dX5_out_1 : decode cX5_out 1 = .ok (.tableswitch 100 0 4 #[35, 51, 71, 79, 84], 35) := by decide +kernel
theorem dX5_out_36 : decode cX5_out 36 = .ok (.aload_n 0, 1) := by decide +kernel
theorem dX5_out_37 : decode cX5_out 37 = .ok (.getfield 21, 3) := by decide +kernel
theorem dX5_out_40 : decode cX5_out 40 = .ok (.getfield 62, 3) := by decide +kernel
theorem dX5_out_43 : decode cX5_out 43 = .ok (.aload_n 0, 1) := by decide +kernel
theorem dX5_out_44 : decode cX5_out 44 = .ok (.getfield 21, 3) := by decide +kernel
theorem dX5_out_47 : decode cX5_out 47 = .ok (.getfield 72, 3) := by decide +kernel
theorem dX5_out_50 : decode cX5_out 50 = .ok (.iand, 1) := by decide +kernel
theorem dX5_out_51 : decode cX5_out 51 = .ok (.ireturn, 1) := by decide +kernel
theorem dX5_out_52 : decode cX5_out 52 = .ok (.aload_n 0, 1) := by decide +kernel
theorem dX5_out_53 : decode cX5_out 53 = .ok (.aload_n 0, 1) := by decide +kernel
theorem dX5_out_54 : decode cX5_out 54 = .ok (.getfield 25, 3) := by decide +kernel
theorem dX5_out_57 : decode cX5_out 57 = .ok (.getfield 62, 3) := by decide +kernel
theorem dX5_out_60 : decode cX5_out 60 = .ok (.invokevirtual 164, 3) := by decide +kernel
theorem dX5_out_63 : decode cX5_out 63 = .ok (.aload_n 0, 1) := by decide +kernel
theorem dX5_out_64 : decode cX5_out 64 = .ok (.getfield 25, 3) := by decide +kernel
theorem dX5_out_67 : decode cX5_out 67 = .ok (.getfield 72, 3) := by decide +kernel
theorem dX5_out_70 : decode cX5_out 70 = .ok (.iand, 1) := by decide +kernel
theorem dX5_out_71 : decode cX5_out 71 = .ok (.ireturn, 1) := by decide +kernel
theorem dX5_out_72 : decode cX5_out 72 = .ok (.aload_n 0, 1) := by decide +kernel
theorem dX5_out_73 : decode cX5_out 73 = .ok (.getfield 21, 3) := by decide +kernel
theorem dX5_out_76 : decode cX5_out 76 = .ok (.invokevirtual 167, 3) := by decide +kernel
theorem dX5_out_79 : decode cX5_out 79 = .ok (.ireturn, 1) := by decide +kernel
theorem dX5_out_80 : decode cX5_out 80 = .ok (.aload_n 0, 1) := by decide +kernel
theorem dX5_out_81 : decode cX5_out 81 = .ok (.invokevirtual 170, 3) := by decide +kernel
theorem dX5_out_84 : decode cX5_out 84 = .ok (.ireturn, 1) := by decide +kernel
theorem dX5_out_85 : decode cX5_out 85 = .ok (.aload_n 0, 1) := by decide +kernel
theorem dX5_out_86 : decode cX5_out 86 = .ok (.getfield 10, 3) := by decide +kernel
theorem dX5_out_89 : decode cX5_out 89 = .ok (.invokevirtual 173, 3) := by decide +kernel
theorem dX5_out_92 : decode cX5_out 92 = .ok (.ifCond .eq 7, 3) := by decide +kernel
theorem dX5_out_95 : decode cX5_out 95 = .ok (.iconst 1, 1) := by decide +kernel
theorem dX5_out_96 : decode cX5_out 96 = .ok (.goto 4, 3) := by decide +kernel
theorem dX5_out_99 : decode cX5_out 99 = .ok (.iconst 0, 1) := by decide +kernel
theorem dX5_out_100 : decode cX5_out 100 = .ok (.ireturn, 1) := by decide +kernel
theorem dX5_out_101 : decode cX5_out 101 = .ok (.new 55, 3) := by decide +kernel
theorem dX5_out_104 : decode cX5_out 104 = .ok (.dup, 1) := by decide +kernel
theorem dX5_out_105 : decode cX5_out 105 = .ok (.ldc 177, 2) := by decide +kernel
theorem dX5_out_107 : decode cX5_out 107 = .ok (.invokespecial 59, 3) := by decide +kernel
theorem dX5_out_110 : decode cX5_out 110 = .ok (.athrow, 1) := by decide +kernel
theorem dX5_told_0 : decode cX5_told 0 = .ok (.iload_n 1, 1) := by decide +kernel
theorem dX5_told_1 : decode cX5_told 1 = .ok (.tableswitch 120 0 6 #[43, 51, 59, 67, 75, 83, 115], 43) := by decide +kernel
theorem dX5_told_44 : decode cX5_told 44 = .ok (.aload_n 0, 1) := by decide +kernel
theorem dX5_told_45 : decode cX5_told 45 = .ok (.getfield 33, 3) := by decide +kernel
theorem dX5_told_48 : decode cX5_told 48 = .ok (.getfield 117, 3) := by decide +kernel
theorem dX5_told_51 : decode cX5_told 51 = .ok (.ireturn, 1) := by decide +kernel
theorem dX5_told_52 : decode cX5_told 52 = .ok (.aload_n 0, 1) := by decide +kernel
theorem dX5_told_53 : decode cX5_told 53 = .ok (.getfield 40, 3) := by decide +kernel
theorem dX5_told_56 : decode cX5_told 56 = .ok (.getfield 128, 3) := by decide +kernel
theorem dX5_told_59 : decode cX5_told 59 = .ok (.ireturn, 1) := by decide +kernel
theorem dX5_told_60 : decode cX5_told 60 = .ok (.aload_n 0, 1) := by decide +kernel
theorem dX5_told_61 : decode cX5_told 61 = .ok (.getfield 33, 3) := by decide +kernel
theorem dX5_told_64 : decode cX5_told 64 = .ok (.getfield 127, 3) := by decide +kernel
theorem dX5_told_67 : decode cX5_told 67 = .ok (.ireturn, 1) := by decide +kernel
theorem dX5_told_68 : decode cX5_told 68 = .ok (.aload_n 0, 1) := by decide +kernel
theorem dX5_told_69 : decode cX5_told 69 = .ok (.getfield 47, 3) := by decide +kernel
theorem dX5_told_72 : decode cX5_told 72 = .ok (.getfield 179, 3) := by decide +kernel
theorem dX5_told_75 : decode cX5_told 75 = .ok (.ireturn, 1) := by decide +kernel
theorem dX5_told_76 : decode cX5_told 76 = .ok (.aload_n 0, 1) := by decide +kernel
theorem dX5_told_77 : decode cX5_told 77 = .ok (.getfield 33, 3) := by decide +kernel
theorem dX5_told_80 : decode cX5_told 80 = .ok (.getfield 182, 3) := by decide +kernel
theorem dX5_told_83 : decode cX5_told 83 = .ok (.ireturn, 1) := by decide +kernel
theorem dX5_told_84 : decode cX5_told 84 = .ok (.aload_n 0, 1) := by decide +kernel
theorem dX5_told_85 : decode cX5_told 85 = .ok (.getfield 33, 3) := by decide +kernel
theorem dX5_told_88 : decode cX5_told 88 = .ok (.getfield 185, 3) := by decide +kernel
theorem dX5_told_91 : decode cX5_told 91 = .ok (.ifCond .eq 7, 3) := by decide +kernel
theorem dX5_told_94 : decode cX5_told 94 = .ok (.iconst 1, 1) := by decide +kernel
theorem dX5_told_95 : decode cX5_told 95 = .ok (.goto 4, 3) := by decide +kernel
theorem dX5_told_98 : decode cX5_told 98 = .ok (.iconst 0, 1) := by decide +kernel
theorem dX5_told_99 : decode cX5_told 99 = .ok (.aload_n 0, 1) := by decide +kernel
theorem dX5_told_100 : decode cX5_told 100 = .ok (.getfield 40, 3) := by decide +kernel
theorem dX5_told_103 : decode cX5_told 103 = .ok (.getfield 189, 3) := by decide +kernel
theorem dX5_told_106 : decode cX5_told 106 = .ok (.ifCond .eq 7, 3) := by decide +kernel
theorem dX5_told_109 : decode cX5_told 109 = .ok (.iconst 2, 1) := by decide +kernel
theorem dX5_told_110 : decode cX5_told 110 = .ok (.goto 4, 3) := by decide +kernel
theorem dX5_told_113 : decode cX5_told 113 = .ok (.iconst 0, 1) := by decide +kernel
theorem dX5_told_114 : decode cX5_told 114 = .ok (.iadd, 1) := by decide +kernel
theorem dX5_told_115 : decode cX5_told 115 = .ok (.ireturn, 1) := by decide +kernel
theorem dX5_told_116 : decode cX5_told 116 = .ok (.aload_n 0, 1) := by decide +kernel
theorem dX5_told_117 : decode cX5_told 117 = .ok (.getfield 190, 3) := by decide +kernel
theorem dX5_told_120 : decode cX5_told 120 = .ok (.ireturn, 1) := by decide +kernel
theorem dX5_told_121 : decode cX5_told 121 = .ok (.new 55, 3) := by decide +kernel
theorem dX5_told_124 : decode cX5_told 124 = .ok (.dup, 1) := by decide +kernel
theorem dX5_told_125 : decode cX5_told 125 = .ok (.ldc 193, 2) := by decide +kernel
theorem dX5_told_127 : decode cX5_told 127 = .ok (.invokespecial 59, 3) := by decide +kernel
theorem dX5_told_130 : decode cX5_told 130 = .ok (.athrow, 1) := by decide +kernel
set_option maxRecDepth 20000 in
theorem ggX5_reset_X0_clear : GoodIn wsX5_reset wsX0_clear := goodIn_r _ [13, 14, 15, 62, 63] (by decide +kernel) (by decide +kernel)
set_option maxRecDepth 20000 in
theorem gX5_reset_X0_clear : GoodIn wsX5_reset (wsV RX5 195 RX0 yX0_clear wsX0_clear) := goodIn_app (goodIn_of _ (by decide +kernel)) ggX5_reset_X0_clear
set_option maxRecDepth 20000 in
theorem ggX5_reset_X2_clear : GoodIn wsX5_reset wsX2_clear := goodIn_r _ [20, 21, 22, 23, 24, 25, 26, 64, 65, 66, 67, 68, 69, 70, 71, 72, 73, 74, 75] (by decide +kernel) (by decide +kernel)
set_option maxRecDepth 20000 in
theorem gX5_reset_X2_clear : GoodIn wsX5_reset (wsV RX5 198 RX2 yX2_clear wsX2_clear) := goodIn_app (goodIn_of _ (by decide +kernel)) ggX5_reset_X2_clear
set_option maxRecDepth 20000 in
theorem ggX5_reset_X3_clear : GoodIn wsX5_reset wsX3_clear := goodIn_r _ [31, 32, 33, 34, 35, 36, 76, 77, 78, 79, 80, 81] (by decide +kernel) (by decide +kernel)
set_option maxRecDepth 20000 in
theorem gX5_reset_X3_clear : GoodIn wsX5_reset (wsV RX5 199 RX3 yX3_clear wsX3_clear) := goodIn_app (goodIn_of _ (by decide +kernel)) ggX5_reset_X3_clear
set_option maxRecDepth 20000 in
theorem ggX5_reset_X4_clear : GoodIn wsX5_reset wsX4_clear := goodIn_r _ [41, 42, 43, 44, 82, 83, 84, 85] (by decide +kernel) (by decide +kernel)
set_option maxRecDepth 20000 in
theorem gX5_reset_X4_clear : GoodIn wsX5_reset (wsV RX5 200 RX4 yX4_clear wsX4_clear) := goodIn_app (goodIn_of _ (by decide +kernel)) ggX5_reset_X4_clear
set_option maxRecDepth 20000 in
theorem ggX5_reset_X1_clear : GoodIn wsX5_reset wsX1_clear := goodIn_r _ [49, 50, 51, 52, 53, 86, 87, 88, 89, 90] (by decide +kernel) (by decide +kernel)
set_option maxRecDepth 20000 in
theorem gX5_reset_X1_clear : GoodIn wsX5_reset (wsV RX5 201 RX1 yX1_clear wsX1_clear) := goodIn_app (goodIn_of _ (by decide +kernel)) ggX5_reset_X1_clear
theorem dX5_reset_0 : decode cX5_reset 0 = .ok (.aload_n 0, 1) := by decide +kernel
theorem dX5_reset_1 : decode cX5_reset 1 = .ok (.getfield 10, 3) := by decide +kernel
theorem dX5_reset_4 : decode cX5_reset 4 = .ok (.invokevirtual 195, 3) := by decide +kernel
theorem dX5_reset_7 : decode cX5_reset 7 = .ok (.aload_n 0, 1) := by decide +kernel
theorem dX5_reset_8 : decode cX5_reset 8 = .ok (.getfield 21, 3) := by decide +kernel
theorem dX5_reset_11 : decode cX5_reset 11 = .ok (.invokevirtual 198, 3) := by decide +kernel
theorem dX5_reset_14 : decode cX5_reset 14 = .ok (.aload_n 0, 1) := by decide +kernel
theorem dX5_reset_15 : decode cX5_reset 15 = .ok (.getfield 25, 3) := by decide +kernel
theorem dX5_reset_18 : decode cX5_reset 18 = .ok (.invokevirtual 198, 3) := by decide +kernel
theorem dX5_reset_21 : decode cX5_reset 21 = .ok (.aload_n 0, 1) := by decide +kernel
theorem dX5_reset_22 : decode cX5_reset 22 = .ok (.getfield 33, 3) := by decide +kernel
theorem dX5_reset_25 : decode cX5_reset 25 = .ok (.invokevirtual 199, 3) := by decide +kernel
theorem dX5_reset_28 : decode cX5_reset 28 = .ok (.aload_n 0, 1) := by decide +kernel
theorem dX5_reset_29 : decode cX5_reset 29 = .ok (.getfield 40, 3) := by decide +kernel
theorem dX5_reset_32 : decode cX5_reset 32 = .ok (.invokevirtual 200, 3) := by decide +kernel
theorem dX5_reset_35 : decode cX5_reset 35 = .ok (.aload_n 0, 1) := by decide +kernel
theorem dX5_reset_36 : decode cX5_reset 36 = .ok (.getfield 47, 3) := by decide +kernel
theorem dX5_reset_39 : decode cX5_reset 39 = .ok (.invokevirtual 201, 3) := by decide +kernel
theorem dX5_reset_42 : decode cX5_reset 42 = .ok (.aload_n 0, 1) := by decide +kernel
theorem dX5_reset_43 : decode cX5_reset 43 = .ok (.iconst 0, 1) := by decide +kernel
theorem dX5_reset_44 : decode cX5_reset 44 = .ok (.putfield 96, 3) := by decide +kernel
theorem dX5_reset_47 : decode cX5_reset 47 = .ok (.aload_n 0, 1) := by decide +kernel
theorem dX5_reset_48 : decode cX5_reset 48 = .ok (.iconst 0, 1) := by decide +kernel
theorem dX5_reset_49 : decode cX5_reset 49 = .ok (.putfield 190, 3) := by decide +kernel
theorem dX5_reset_52 : decode cX5_reset 52 = .ok (.return_, 1) := by decide +kernel
set_option maxRecDepth 20000 in
theorem ggX5_goOn_X5_controlHas : GoodIn wsX5_goOn wsX5_controlHas := goodIn_r _ [11, 12, 78, 79, 80, 81, 82, 83, 84, 85] (by decide +kernel) (by decide +kernel)
set_option maxRecDepth 20000 in
theorem gX5_goOn_X5_controlHas : GoodIn wsX5_goOn (wsV RX5 143 RX5 yX5_controlHas wsX5_controlHas) := goodIn_app (goodIn_of _ (by decide +kernel)) ggX5_goOn_X5_controlHas
set_option maxRecDepth 20000 in
theorem ggX5_goOn_X3_goOn : GoodIn wsX5_goOn wsX3_goOn := goodIn_r _ [17, 18, 19, 20, 16, 21, 22, 23, 24, 25, 26, 27, 28, 29, 30, 31, 32, 33, 34, 35, 36, 37, 38, 39, 40, 41, 42, 98, 99, 100, 101, 102, 103, 104, 105] (by decide +kernel) (by decide +kernel)
set_option maxRecDepth 20000 in
theorem gX5_goOn_X3_goOn : GoodIn wsX5_goOn (wsV RX5 202 RX3 yX3_goOn wsX3_goOn) := goodIn_app (goodIn_of _ (by decide +kernel)) ggX5_goOn_X3_goOn
set_option maxRecDepth 20000 in
theorem ggX5_goOn_X4_countDown : GoodIn wsX5_goOn wsX4_countDown := goodIn_r _ [47, 48, 49, 50, 51, 52, 33, 34, 35, 36, 37, 106, 107, 108, 109, 104, 105] (by decide +kernel) (by decide +kernel)
set_option maxRecDepth 20000 in
theorem gX5_goOn_X4_countDown : GoodIn wsX5_goOn (wsV RX5 146 RX4 yX4_countDown wsX4_countDown) := goodIn_app (goodIn_of _ (by decide +kernel)) ggX5_goOn_X4_countDown
set_option maxRecDepth 20000 in
theorem ggX5_goOn_X5_mode : GoodIn wsX5_goOn wsX5_mode := goodIn_r _ [56, 12, 78, 79, 80, 81, 82, 83, 84, 85] (by decide +kernel) (by decide +kernel)
set_option maxRecDepth 20000 in
theorem gX5_goOn_X5_mode : GoodIn wsX5_goOn (wsV RX5 205 RX5 yX5_mode wsX5_mode) := goodIn_app (goodIn_of _ (by decide +kernel)) ggX5_goOn_X5_mode
set_option maxRecDepth 20000 in
theorem ggX5_goOn_X1_goOn : GoodIn wsX5_goOn wsX1_goOn := goodIn_r _ [61, 62, 63, 64, 65, 66, 60, 67, 68, 69, 70, 71, 33, 34, 35, 36, 37, 110, 111, 112, 113, 114, 104, 105] (by decide +kernel) (by decide +kernel)
set_option maxRecDepth 20000 in
theorem gX5_goOn_X1_goOn : GoodIn wsX5_goOn (wsV RX5 211 RX1 yX1_goOn wsX1_goOn) := goodIn_app (goodIn_of _ (by decide +kernel)) ggX5_goOn_X1_goOn
set_option maxRecDepth 20000 in
theorem ggX5_goOn_X2_endCycle : GoodIn wsX5_goOn wsX2_endCycle := goodIn_r _ [76, 77, 86, 87, 88, 89, 90, 91, 92, 93, 94, 95, 96, 97] (by decide +kernel) (by decide +kernel)
set_option maxRecDepth 20000 in
theorem gX5_goOn_X2_endCycle : GoodIn wsX5_goOn (wsV RX5 214 RX2 yX2_endCycle wsX2_endCycle) := goodIn_app (goodIn_of _ (by decide +kernel)) ggX5_goOn_X2_endCycle
theorem dX5_goOn_0 : decode cX5_goOn 0 = .ok (.aload_n 0, 1) := by decide +kernel
theorem dX5_goOn_1 : decode cX5_goOn 1 = .ok (.getfield 33, 3) := by decide +kernel
theorem dX5_goOn_4 : decode cX5_goOn 4 = .ok (.iload_n 1, 1) := by decide +kernel
theorem dX5_goOn_5 : decode cX5_goOn 5 = .ok (.aload_n 0, 1) := by decide +kernel
theorem dX5_goOn_6 : decode cX5_goOn 6 = .ok (.bipush 64, 2) := by decide +kernel
theorem dX5_goOn_8 : decode cX5_goOn 8 = .ok (.invokevirtual 143, 3) := by decide +kernel
theorem dX5_goOn_11 : decode cX5_goOn 11 = .ok (.invokevirtual 202, 3) := by decide +kernel
theorem dX5_goOn_14 : decode cX5_goOn 14 = .ok (.aload_n 0, 1) := by decide +kernel
theorem dX5_goOn_15 : decode cX5_goOn 15 = .ok (.bipush 32, 2) := by decide +kernel
theorem dX5_goOn_17 : decode cX5_goOn 17 = .ok (.invokevirtual 143, 3) := by decide +kernel
theorem dX5_goOn_20 : decode cX5_goOn 20 = .ok (.ifCond .ne 11, 3) := by decide +kernel
theorem dX5_goOn_23 : decode cX5_goOn 23 = .ok (.aload_n 0, 1) := by decide +kernel
theorem dX5_goOn_24 : decode cX5_goOn 24 = .ok (.getfield 40, 3) := by decide +kernel
theorem dX5_goOn_27 : decode cX5_goOn 27 = .ok (.iload_n 1, 1) := by decide +kernel
theorem dX5_goOn_28 : decode cX5_goOn 28 = .ok (.invokevirtual 146, 3) := by decide +kernel
theorem dX5_goOn_31 : decode cX5_goOn 31 = .ok (.aload_n 0, 1) := by decide +kernel
theorem dX5_goOn_32 : decode cX5_goOn 32 = .ok (.getfield 47, 3) := by decide +kernel
theorem dX5_goOn_35 : decode cX5_goOn 35 = .ok (.iload_n 1, 1) := by decide +kernel
theorem dX5_goOn_36 : decode cX5_goOn 36 = .ok (.aload_n 0, 1) := by decide +kernel
theorem dX5_goOn_37 : decode cX5_goOn 37 = .ok (.invokevirtual 205, 3) := by decide +kernel
theorem dX5_goOn_40 : decode cX5_goOn 40 = .ok (.aload_n 0, 1) := by decide +kernel
theorem dX5_goOn_41 : decode cX5_goOn 41 = .ok (.getfield 25, 3) := by decide +kernel
theorem dX5_goOn_44 : decode cX5_goOn 44 = .ok (.getfield 208, 3) := by decide +kernel
theorem dX5_goOn_47 : decode cX5_goOn 47 = .ok (.invokevirtual 211, 3) := by decide +kernel
theorem dX5_goOn_50 : decode cX5_goOn 50 = .ok (.aload_n 0, 1) := by decide +kernel
theorem dX5_goOn_51 : decode cX5_goOn 51 = .ok (.getfield 21, 3) := by decide +kernel
theorem dX5_goOn_54 : decode cX5_goOn 54 = .ok (.invokevirtual 214, 3) := by decide +kernel
theorem dX5_goOn_57 : decode cX5_goOn 57 = .ok (.aload_n 0, 1) := by decide +kernel
theorem dX5_goOn_58 : decode cX5_goOn 58 = .ok (.getfield 25, 3) := by decide +kernel
theorem dX5_goOn_61 : decode cX5_goOn 61 = .ok (.invokevirtual 214, 3) := by decide +kernel
theorem dX5_goOn_64 : decode cX5_goOn 64 = .ok (.aload_n 0, 1) := by decide +kernel
theorem dX5_goOn_65 : decode cX5_goOn 65 = .ok (.dup, 1) := by decide +kernel
theorem dX5_goOn_66 : decode cX5_goOn 66 = .ok (.getfield 190, 3) := by decide +kernel
theorem dX5_goOn_69 : decode cX5_goOn 69 = .ok (.iload_n 1, 1) := by decide +kernel
theorem dX5_goOn_70 : decode cX5_goOn 70 = .ok (.iadd, 1) := by decide +kernel
theorem dX5_goOn_71 : decode cX5_goOn 71 = .ok (.putfield 190, 3) := by decide +kernel
theorem dX5_goOn_74 : decode cX5_goOn 74 = .ok (.return_, 1) := by decide +kernel
set_option maxRecDepth 20000 in
theorem ggX5_readPortA_X5_portA : GoodIn wsX5_readPortA wsX5_portA := goodIn_r _ [6, 1, 7, 8, 9, 5, 10, 11, 12, 13, 14, 15, 16, 17, 18, 19, 20, 21, 22, 23, 24, 25, 26, 27, 28, 49, 50, 51, 52, 53, 54, 55, 56, 57, 58, 59, 60, 61, 62, 63, 64, 65, 66, 67, 68, 69, 70] (by decide +kernel) (by decide +kernel)
set_option maxRecDepth 20000 in
theorem gX5_readPortA_X5_portA : GoodIn wsX5_readPortA (wsV RX5 135 RX5 yX5_portA wsX5_portA) := goodIn_app (goodIn_of _ (by decide +kernel)) ggX5_readPortA_X5_portA
set_option maxRecDepth 20000 in
theorem ggX5_readPortA_X2_touch : GoodIn wsX5_readPortA wsX2_touch := goodIn_r _ [32, 17, 18, 33, 34, 35, 36, 26, 37, 28, 38, 39, 40, 15, 41, 42, 57, 58, 59, 60, 61, 62, 63, 64, 65, 66, 67, 68, 69, 70] (by decide +kernel) (by decide +kernel)
set_option maxRecDepth 20000 in
theorem gX5_readPortA_X2_touch : GoodIn wsX5_readPortA (wsV RX5 66 RX2 yX2_touch wsX2_touch) := goodIn_app (goodIn_of _ (by decide +kernel)) ggX5_readPortA_X2_touch
set_option maxRecDepth 20000 in
theorem ggX5_readPortA_X2_giveTouch : GoodIn wsX5_readPortA wsX2_giveTouch := goodIn_r _ [46, 47, 48, 38, 39, 40, 15, 41, 42, 57, 58, 59, 60, 61, 62, 63, 64, 65, 66, 67, 68] (by decide +kernel) (by decide +kernel)
set_option maxRecDepth 20000 in
theorem gX5_readPortA_X2_giveTouch : GoodIn wsX5_readPortA (wsV RX5 69 RX2 yX2_giveTouch wsX2_giveTouch) := goodIn_app (goodIn_of _ (by decide +kernel)) ggX5_readPortA_X2_giveTouch
theorem dX5_readPortA_0 : decode cX5_readPortA 0 = .ok (.aload_n 0, 1) := by decide +kernel
theorem dX5_readPortA_1 : decode cX5_readPortA 1 = .ok (.invokevirtual 135, 3) := by decide +kernel
theorem dX5_readPortA_4 : decode cX5_readPortA 4 = .ok (.istore_n 1, 1) := by decide +kernel
theorem dX5_readPortA_5 : decode cX5_readPortA 5 = .ok (.aload_n 0, 1) := by decide +kernel
theorem dX5_readPortA_6 : decode cX5_readPortA 6 = .ok (.getfield 21, 3) := by decide +kernel
theorem dX5_readPortA_9 : decode cX5_readPortA 9 = .ok (.invokevirtual 66, 3) := by decide +kernel
theorem dX5_readPortA_12 : decode cX5_readPortA 12 = .ok (.aload_n 0, 1) := by decide +kernel
theorem dX5_readPortA_13 : decode cX5_readPortA 13 = .ok (.getfield 21, 3) := by decide +kernel
theorem dX5_readPortA_16 : decode cX5_readPortA 16 = .ok (.invokevirtual 69, 3) := by decide +kernel
theorem dX5_readPortA_19 : decode cX5_readPortA 19 = .ok (.iload_n 1, 1) := by decide +kernel
theorem dX5_readPortA_20 : decode cX5_readPortA 20 = .ok (.ireturn, 1) := by decide +kernel
set_option maxRecDepth 20000 in
theorem ggX5_readPortB_X5_controlHas : GoodIn wsX5_readPortB wsX5_controlHas := goodIn_r _ [6, 7, 44, 45, 46, 47, 48, 49, 50, 51] (by decide +kernel) (by decide +kernel)
set_option maxRecDepth 20000 in
theorem gX5_readPortB_X5_controlHas : GoodIn wsX5_readPortB (wsV RX5 143 RX5 yX5_controlHas wsX5_controlHas) := goodIn_app (goodIn_of _ (by decide +kernel)) ggX5_readPortB_X5_controlHas
set_option maxRecDepth 20000 in
theorem ggX5_readPortB_X2_port : GoodIn wsX5_readPortB wsX2_port := goodIn_r _ [12, 13, 14, 15, 16, 17, 18, 19, 20, 21, 22, 23, 24, 52, 53, 54, 55, 56, 57, 58, 59, 60, 61, 62, 63, 64, 65] (by decide +kernel) (by decide +kernel)
set_option maxRecDepth 20000 in
theorem gX5_readPortB_X2_port : GoodIn wsX5_readPortB (wsV RX5 217 RX2 yX2_port wsX2_port) := goodIn_app (goodIn_of _ (by decide +kernel)) ggX5_readPortB_X2_port
set_option maxRecDepth 20000 in
theorem ggX5_readPortB_X5_withTimersBit : GoodIn wsX5_readPortB wsX5_withTimersBit := goodIn_r _ [28, 29, 2, 3, 4, 5, 6, 7, 44, 45, 46, 47, 48, 49, 50, 51, 66, 67, 68, 69, 70, 71] (by decide +kernel) (by decide +kernel)
set_option maxRecDepth 20000 in
theorem gX5_readPortB_X5_withTimersBit : GoodIn wsX5_readPortB (wsV RX5 164 RX5 yX5_withTimersBit wsX5_withTimersBit) := goodIn_app (goodIn_of _ (by decide +kernel)) ggX5_readPortB_X5_withTimersBit
set_option maxRecDepth 20000 in
theorem ggX5_readPortB_X2_touch : GoodIn wsX5_readPortB wsX2_touch := goodIn_r _ [33, 13, 14, 34, 35, 36, 37, 22, 38, 24, 39, 40, 41, 11, 42, 43, 52, 53, 54, 55, 56, 57, 58, 59, 60, 61, 62, 63, 64, 65] (by decide +kernel) (by decide +kernel)
set_option maxRecDepth 20000 in
theorem gX5_readPortB_X2_touch : GoodIn wsX5_readPortB (wsV RX5 66 RX2 yX2_touch wsX2_touch) := goodIn_app (goodIn_of _ (by decide +kernel)) ggX5_readPortB_X2_touch
theorem dX5_readPortB_0 : decode cX5_readPortB 0 = .ok (.aload_n 0, 1) := by decide +kernel
theorem dX5_readPortB_1 : decode cX5_readPortB 1 = .ok (.aload_n 0, 1) := by decide +kernel
theorem dX5_readPortB_2 : decode cX5_readPortB 2 = .ok (.getfield 25, 3) := by decide +kernel
theorem dX5_readPortB_5 : decode cX5_readPortB 5 = .ok (.aload_n 0, 1) := by decide +kernel
theorem dX5_readPortB_6 : decode cX5_readPortB 6 = .ok (.iconst 2, 1) := by decide +kernel
theorem dX5_readPortB_7 : decode cX5_readPortB 7 = .ok (.invokevirtual 143, 3) := by decide +kernel
theorem dX5_readPortB_10 : decode cX5_readPortB 10 = .ok (.invokevirtual 217, 3) := by decide +kernel
theorem dX5_readPortB_13 : decode cX5_readPortB 13 = .ok (.invokevirtual 164, 3) := by decide +kernel
theorem dX5_readPortB_16 : decode cX5_readPortB 16 = .ok (.istore_n 1, 1) := by decide +kernel
theorem dX5_readPortB_17 : decode cX5_readPortB 17 = .ok (.aload_n 0, 1) := by decide +kernel
theorem dX5_readPortB_18 : decode cX5_readPortB 18 = .ok (.getfield 25, 3) := by decide +kernel
theorem dX5_readPortB_21 : decode cX5_readPortB 21 = .ok (.invokevirtual 66, 3) := by decide +kernel
theorem dX5_readPortB_24 : decode cX5_readPortB 24 = .ok (.iload_n 1, 1) := by decide +kernel
theorem dX5_readPortB_25 : decode cX5_readPortB 25 = .ok (.ireturn, 1) := by decide +kernel
set_option maxRecDepth 20000 in
theorem ggX5_portA_X5_controlHas : GoodIn wsX5_portA wsX5_controlHas := goodIn_r _ [6, 7, 25, 26, 27, 28, 29, 30, 31, 32] (by decide +kernel) (by decide +kernel)
set_option maxRecDepth 20000 in
theorem gX5_portA_X5_controlHas : GoodIn wsX5_portA (wsV RX5 143 RX5 yX5_controlHas wsX5_controlHas) := goodIn_app (goodIn_of _ (by decide +kernel)) ggX5_portA_X5_controlHas
set_option maxRecDepth 20000 in
theorem ggX5_portA_X2_port : GoodIn wsX5_portA wsX2_port := goodIn_r _ [12, 13, 14, 15, 16, 17, 18, 19, 20, 21, 22, 23, 24, 33, 34, 35, 36, 37, 38, 39, 40, 41, 42, 43, 44, 45, 46] (by decide +kernel) (by decide +kernel)
set_option maxRecDepth 20000 in
theorem gX5_portA_X2_port : GoodIn wsX5_portA (wsV RX5 217 RX2 yX2_port wsX2_port) := goodIn_app (goodIn_of _ (by decide +kernel)) ggX5_portA_X2_port
theorem dX5_portA_0 : decode cX5_portA 0 = .ok (.aload_n 0, 1) := by decide +kernel
theorem dX5_portA_1 : decode cX5_portA 1 = .ok (.getfield 21, 3) := by decide +kernel
theorem dX5_portA_4 : decode cX5_portA 4 = .ok (.aload_n 0, 1) := by decide +kernel
theorem dX5_portA_5 : decode cX5_portA 5 = .ok (.iconst 1, 1) := by decide +kernel
theorem dX5_portA_6 : decode cX5_portA 6 = .ok (.invokevirtual 143, 3) := by decide +kernel
theorem dX5_portA_9 : decode cX5_portA 9 = .ok (.invokevirtual 217, 3) := by decide +kernel
theorem dX5_portA_12 : decode cX5_portA 12 = .ok (.ireturn, 1) := by decide +kernel
set_option maxRecDepth 20000 in
theorem ggX5_withTimersBit_X5_controlHas : GoodIn wsX5_withTimersBit wsX5_controlHas := goodIn_r _ [6, 7, 8, 9, 10, 11, 12, 13, 14, 15] (by decide +kernel) (by decide +kernel)
set_option maxRecDepth 20000 in
theorem gX5_withTimersBit_X5_controlHas : GoodIn wsX5_withTimersBit (wsV RX5 143 RX5 yX5_controlHas wsX5_controlHas) := goodIn_app (goodIn_of _ (by decide +kernel)) ggX5_withTimersBit_X5_controlHas
theorem dX5_withTimersBit_0 : decode cX5_withTimersBit 0 = .ok (.aload_n 0, 1) := by decide +kernel
theorem dX5_withTimersBit_1 : decode cX5_withTimersBit 1 = .ok (.sipush 128, 3) := by decide +kernel
theorem dX5_withTimersBit_4 : decode cX5_withTimersBit 4 = .ok (.invokevirtual 143, 3) := by decide +kernel
theorem dX5_withTimersBit_7 : decode cX5_withTimersBit 7 = .ok (.ifCond .eq 22, 3) := by decide +kernel
theorem dX5_withTimersBit_10 : decode cX5_withTimersBit 10 = .ok (.iload_n 1, 1) := by decide +kernel
theorem dX5_withTimersBit_11 : decode cX5_withTimersBit 11 = .ok (.sipush (-129), 3) := by decide +kernel
theorem dX5_withTimersBit_14 : decode cX5_withTimersBit 14 = .ok (.iand, 1) := by decide +kernel
theorem dX5_withTimersBit_15 : decode cX5_withTimersBit 15 = .ok (.aload_n 0, 1) := by decide +kernel
theorem dX5_withTimersBit_16 : decode cX5_withTimersBit 16 = .ok (.getfield 33, 3) := by decide +kernel
theorem dX5_withTimersBit_19 : decode cX5_withTimersBit 19 = .ok (.getfield 182, 3) := by decide +kernel
theorem dX5_withTimersBit_22 : decode cX5_withTimersBit 22 = .ok (.bipush 7, 2) := by decide +kernel
theorem dX5_withTimersBit_24 : decode cX5_withTimersBit 24 = .ok (.ishl, 1) := by decide +kernel
theorem dX5_withTimersBit_25 : decode cX5_withTimersBit 25 = .ok (.ior, 1) := by decide +kernel
theorem dX5_withTimersBit_26 : decode cX5_withTimersBit 26 = .ok (.goto 4, 3) := by decide +kernel
theorem dX5_withTimersBit_29 : decode cX5_withTimersBit 29 = .ok (.iload_n 1, 1) := by decide +kernel
theorem dX5_withTimersBit_30 : decode cX5_withTimersBit 30 = .ok (.ireturn, 1) := by decide +kernel
set_option maxRecDepth 20000 in
theorem ggX5_lineCB2Gives_X2_wayOfLine2 : GoodIn wsX5_lineCB2Gives wsX2_wayOfLine2 := goodIn_r _ [7, 8, 35, 36, 37, 38, 39, 40, 41, 42, 43, 44, 45, 46] (by decide +kernel) (by decide +kernel)
set_option maxRecDepth 20000 in
theorem gX5_lineCB2Gives_X2_wayOfLine2 : GoodIn wsX5_lineCB2Gives (wsV RX5 221 RX2 yX2_wayOfLine2 wsX2_wayOfLine2) := goodIn_app (goodIn_of _ (by decide +kernel)) ggX5_lineCB2Gives_X2_wayOfLine2
set_option maxRecDepth 20000 in
theorem ggX5_lineCB2Gives_X5_mode : GoodIn wsX5_lineCB2Gives wsX5_mode := goodIn_r _ [13, 14, 22, 23, 24, 25, 26, 27, 28, 29] (by decide +kernel) (by decide +kernel)
set_option maxRecDepth 20000 in
theorem gX5_lineCB2Gives_X5_mode : GoodIn wsX5_lineCB2Gives (wsV RX5 205 RX5 yX5_mode wsX5_mode) := goodIn_app (goodIn_of _ (by decide +kernel)) ggX5_lineCB2Gives_X5_mode
set_option maxRecDepth 20000 in
theorem ggX5_lineCB2Gives_X2_line2Gives : GoodIn wsX5_lineCB2Gives wsX2_line2Gives := goodIn_r _ [18, 19, 20, 21, 4, 5, 6, 7, 8, 35, 36, 37, 38, 39, 40, 41, 42, 43, 44, 45, 46] (by decide +kernel) (by decide +kernel)
set_option maxRecDepth 20000 in
theorem gX5_lineCB2Gives_X2_line2Gives : GoodIn wsX5_lineCB2Gives (wsV RX5 167 RX2 yX2_line2Gives wsX2_line2Gives) := goodIn_app (goodIn_of _ (by decide +kernel)) ggX5_lineCB2Gives_X2_line2Gives
theorem dX5_lineCB2Gives_0 : decode cX5_lineCB2Gives 0 = .ok (.aload_n 0, 1) := by decide +kernel
theorem dX5_lineCB2Gives_1 : decode cX5_lineCB2Gives 1 = .ok (.getfield 25, 3) := by decide +kernel
theorem dX5_lineCB2Gives_4 : decode cX5_lineCB2Gives 4 = .ok (.invokevirtual 221, 3) := by decide +kernel
theorem dX5_lineCB2Gives_7 : decode cX5_lineCB2Gives 7 = .ok (.iconst 4, 1) := by decide +kernel
theorem dX5_lineCB2Gives_8 : decode cX5_lineCB2Gives 8 = .ok (.if_icmp .ge 16, 3) := by decide +kernel
theorem dX5_lineCB2Gives_11 : decode cX5_lineCB2Gives 11 = .ok (.aload_n 0, 1) := by decide +kernel
theorem dX5_lineCB2Gives_12 : decode cX5_lineCB2Gives 12 = .ok (.invokevirtual 205, 3) := by decide +kernel
theorem dX5_lineCB2Gives_15 : decode cX5_lineCB2Gives 15 = .ok (.bipush 6, 2) := by decide +kernel
theorem dX5_lineCB2Gives_17 : decode cX5_lineCB2Gives 17 = .ok (.if_icmp .ne 7, 3) := by decide +kernel
theorem dX5_lineCB2Gives_20 : decode cX5_lineCB2Gives 20 = .ok (.iconst 1, 1) := by decide +kernel
theorem dX5_lineCB2Gives_21 : decode cX5_lineCB2Gives 21 = .ok (.goto 4, 3) := by decide +kernel
theorem dX5_lineCB2Gives_24 : decode cX5_lineCB2Gives 24 = .ok (.iconst 0, 1) := by decide +kernel
theorem dX5_lineCB2Gives_25 : decode cX5_lineCB2Gives 25 = .ok (.istore_n 1, 1) := by decide +kernel
theorem dX5_lineCB2Gives_26 : decode cX5_lineCB2Gives 26 = .ok (.iload_n 1, 1) := by decide +kernel
theorem dX5_lineCB2Gives_27 : decode cX5_lineCB2Gives 27 = .ok (.ifCond .eq 13, 3) := by decide +kernel
theorem dX5_lineCB2Gives_30 : decode cX5_lineCB2Gives 30 = .ok (.aload_n 0, 1) := by decide +kernel
theorem dX5_lineCB2Gives_31 : decode cX5_lineCB2Gives 31 = .ok (.getfield 47, 3) := by decide +kernel
theorem dX5_lineCB2Gives_34 : decode cX5_lineCB2Gives 34 = .ok (.getfield 224, 3) := by decide +kernel
theorem dX5_lineCB2Gives_37 : decode cX5_lineCB2Gives 37 = .ok (.goto 10, 3) := by decide +kernel
theorem dX5_lineCB2Gives_40 : decode cX5_lineCB2Gives 40 = .ok (.aload_n 0, 1) := by decide +kernel
theorem dX5_lineCB2Gives_41 : decode cX5_lineCB2Gives 41 = .ok (.getfield 25, 3) := by decide +kernel
theorem dX5_lineCB2Gives_44 : decode cX5_lineCB2Gives 44 = .ok (.invokevirtual 167, 3) := by decide +kernel
theorem dX5_lineCB2Gives_47 : decode cX5_lineCB2Gives 47 = .ok (.ireturn, 1) := by decide +kernel
theorem dX5_mode_0 : decode cX5_mode 0 = .ok (.aload_n 0, 1) := by decide +kernel
theorem dX5_mode_1 : decode cX5_mode 1 = .ok (.getfield 96, 3) := by decide +kernel
theorem dX5_mode_4 : decode cX5_mode 4 = .ok (.iconst 2, 1) := by decide +kernel
theorem dX5_mode_5 : decode cX5_mode 5 = .ok (.ishr, 1) := by decide +kernel
theorem dX5_mode_6 : decode cX5_mode 6 = .ok (.bipush 7, 2) := by decide +kernel
theorem dX5_mode_8 : decode cX5_mode 8 = .ok (.iand, 1) := by decide +kernel
theorem dX5_mode_9 : decode cX5_mode 9 = .ok (.ireturn, 1) := by decide +kernel
theorem dX5_controlHas_0 : decode cX5_controlHas 0 = .ok (.aload_n 0, 1) := by decide +kernel
theorem dX5_controlHas_1 : decode cX5_controlHas 1 = .ok (.getfield 96, 3) := by decide +kernel
theorem dX5_controlHas_4 : decode cX5_controlHas 4 = .ok (.iload_n 1, 1) := by decide +kernel
theorem dX5_controlHas_5 : decode cX5_controlHas 5 = .ok (.iand, 1) := by decide +kernel
theorem dX5_controlHas_6 : decode cX5_controlHas 6 = .ok (.ifCond .eq 7, 3) := by decide +kernel
theorem dX5_controlHas_9 : decode cX5_controlHas 9 = .ok (.iconst 1, 1) := by decide +kernel
theorem dX5_controlHas_10 : decode cX5_controlHas 10 = .ok (.goto 4, 3) := by decide +kernel
theorem dX5_controlHas_13 : decode cX5_controlHas 13 = .ok (.iconst 0, 1) := by decide +kernel
theorem dX5_controlHas_14 : decode cX5_controlHas 14 = .ok (.ireturn, 1) := by decide +kernel
theorem dX5_isByte_0 : decode cX5_isByte 0 = .ok (.iload_n 0, 1) := by decide +kernel
theorem dX5_isByte_1 : decode cX5_isByte 1 = .ok (.ifCond .lt 14, 3) := by decide +kernel
theorem dX5_isByte_4 : decode cX5_isByte 4 = .ok (.iload_n 0, 1) := by decide +kernel
theorem dX5_isByte_5 : decode cX5_isByte 5 = .ok (.sipush 255, 3) := by decide +kernel
theorem dX5_isByte_8 : decode cX5_isByte 8 = .ok (.if_icmp .gt 7, 3) := by decide +kernel
theorem dX5_isByte_11 : decode cX5_isByte 11 = .ok (.iconst 1, 1) := by decide +kernel
theorem dX5_isByte_12 : decode cX5_isByte 12 = .ok (.goto 4, 3) := by decide +kernel
theorem dX5_isByte_15 : decode cX5_isByte 15 = .ok (.iconst 0, 1) := by decide +kernel
theorem dX5_isByte_16 : decode cX5_isByte 16 = .ok (.ireturn, 1) := by decide +kernel
theorem dX5_lowByte_0 : decode cX5_lowByte 0 = .ok (.iload_n 0, 1) := by decide +kernel
theorem dX5_lowByte_1 : decode cX5_lowByte 1 = .ok (.sipush 255, 3) := by decide +kernel
theorem dX5_lowByte_4 : decode cX5_lowByte 4 = .ok (.iand, 1) := by decide +kernel
theorem dX5_lowByte_5 : decode cX5_lowByte 5 = .ok (.ireturn, 1) := by decide +kernel
theorem dX5_highByte_0 : decode cX5_highByte 0 = .ok (.iload_n 0, 1) := by decide +kernel
theorem dX5_highByte_1 : decode cX5_highByte 1 = .ok (.bipush 8, 2) := by decide +kernel
theorem dX5_highByte_3 : decode cX5_highByte 3 = .ok (.ishr, 1) := by decide +kernel
theorem dX5_highByte_4 : decode cX5_highByte 4 = .ok (.ireturn, 1) := by decide +kernel
