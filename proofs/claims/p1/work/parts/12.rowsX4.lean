theorem dX4_init_0 : decode cX4_init 0 = .ok (.aload_n 0, 1) := by decide +kernel
theorem dX4_init_1 : decode cX4_init 1 = .ok (.invokespecial 1, 3) := by decide +kernel
theorem dX4_init_4 : decode cX4_init 4 = .ok (.aload_n 0, 1) := by decide +kernel
theorem dX4_init_5 : decode cX4_init 5 = .ok (.bipush 7, 2) := by decide +kernel
theorem dX4_init_7 : decode cX4_init 7 = .ok (.newarray .int, 2) := by decide +kernel
theorem dX4_init_9 : decode cX4_init 9 = .ok (.putfield 7, 3) := by decide +kernel
theorem dX4_init_12 : decode cX4_init 12 = .ok (.aload_n 0, 1) := by decide +kernel
theorem dX4_init_13 : decode cX4_init 13 = .ok (.iconst 3, 1) := by decide +kernel
theorem dX4_init_14 : decode cX4_init 14 = .ok (.putfield 13, 3) := by decide +kernel
theorem dX4_init_17 : decode cX4_init 17 = .ok (.aload_n 0, 1) := by decide +kernel
theorem dX4_init_18 : decode cX4_init 18 = .ok (.bipush 20, 2) := by decide +kernel
theorem dX4_init_20 : decode cX4_init 20 = .ok (.putfield 17, 3) := by decide +kernel
theorem dX4_init_23 : decode cX4_init 23 = .ok (.aload_n 0, 1) := by decide +kernel
theorem dX4_init_24 : decode cX4_init 24 = .ok (.bipush 8, 2) := by decide +kernel
theorem dX4_init_26 : decode cX4_init 26 = .ok (.newarray .int, 2) := by decide +kernel
theorem dX4_init_28 : decode cX4_init 28 = .ok (.putfield 20, 3) := by decide +kernel
theorem dX4_init_31 : decode cX4_init 31 = .ok (.aload_n 0, 1) := by decide +kernel
theorem dX4_init_32 : decode cX4_init 32 = .ok (.bipush 8, 2) := by decide +kernel
theorem dX4_init_34 : decode cX4_init 34 = .ok (.newarray .int, 2) := by decide +kernel
theorem dX4_init_36 : decode cX4_init 36 = .ok (.putfield 23, 3) := by decide +kernel
theorem dX4_init_39 : decode cX4_init 39 = .ok (.aload_n 0, 1) := by decide +kernel
theorem dX4_init_40 : decode cX4_init 40 = .ok (.bipush 8, 2) := by decide +kernel
theorem dX4_init_42 : decode cX4_init 42 = .ok (.newarray .int, 2) := by decide +kernel
theorem dX4_init_44 : decode cX4_init 44 = .ok (.putfield 26, 3) := by decide +kernel
theorem dX4_init_47 : decode cX4_init 47 = .ok (.aload_n 0, 1) := by decide +kernel
theorem dX4_init_48 : decode cX4_init 48 = .ok (.bipush 8, 2) := by decide +kernel
theorem dX4_init_50 : decode cX4_init 50 = .ok (.newarray .int, 2) := by decide +kernel
theorem dX4_init_52 : decode cX4_init 52 = .ok (.putfield 29, 3) := by decide +kernel
theorem dX4_init_55 : decode cX4_init 55 = .ok (.aload_n 0, 1) := by decide +kernel
theorem dX4_init_56 : decode cX4_init 56 = .ok (.bipush 8, 2) := by decide +kernel
theorem dX4_init_58 : decode cX4_init 58 = .ok (.newarray .int, 2) := by decide +kernel
theorem dX4_init_60 : decode cX4_init 60 = .ok (.putfield 32, 3) := by decide +kernel
theorem dX4_init_63 : decode cX4_init 63 = .ok (.aload_n 0, 1) := by decide +kernel
theorem dX4_init_64 : decode cX4_init 64 = .ok (.bipush 8, 2) := by decide +kernel
theorem dX4_init_66 : decode cX4_init 66 = .ok (.newarray .int, 2) := by decide +kernel
theorem dX4_init_68 : decode cX4_init 68 = .ok (.putfield 35, 3) := by decide +kernel
theorem dX4_init_71 : decode cX4_init 71 = .ok (.aload_n 0, 1) := by decide +kernel
theorem dX4_init_72 : decode cX4_init 72 = .ok (.bipush 8, 2) := by decide +kernel
theorem dX4_init_74 : decode cX4_init 74 = .ok (.newarray .int, 2) := by decide +kernel
theorem dX4_init_76 : decode cX4_init 76 = .ok (.putfield 38, 3) := by decide +kernel
theorem dX4_init_79 : decode cX4_init 79 = .ok (.aload_n 0, 1) := by decide +kernel
theorem dX4_init_80 : decode cX4_init 80 = .ok (.bipush 8, 2) := by decide +kernel
theorem dX4_init_82 : decode cX4_init 82 = .ok (.newarray .int, 2) := by decide +kernel
theorem dX4_init_84 : decode cX4_init 84 = .ok (.putfield 41, 3) := by decide +kernel
theorem dX4_init_87 : decode cX4_init 87 = .ok (.aload_n 0, 1) := by decide +kernel
theorem dX4_init_88 : decode cX4_init 88 = .ok (.bipush 8, 2) := by decide +kernel
theorem dX4_init_90 : decode cX4_init 90 = .ok (.newarray .int, 2) := by decide +kernel
theorem dX4_init_92 : decode cX4_init 92 = .ok (.putfield 44, 3) := by decide +kernel
theorem dX4_init_95 : decode cX4_init 95 = .ok (.aload_n 0, 1) := by decide +kernel
theorem dX4_init_96 : decode cX4_init 96 = .ok (.bipush 8, 2) := by decide +kernel
theorem dX4_init_98 : decode cX4_init 98 = .ok (.newarray .int, 2) := by decide +kernel
theorem dX4_init_100 : decode cX4_init 100 = .ok (.putfield 47, 3) := by decide +kernel
theorem dX4_init_103 : decode cX4_init 103 = .ok (.aload_n 0, 1) := by decide +kernel
theorem dX4_init_104 : decode cX4_init 104 = .ok (.bipush 8, 2) := by decide +kernel
theorem dX4_init_106 : decode cX4_init 106 = .ok (.newarray .int, 2) := by decide +kernel
theorem dX4_init_108 : decode cX4_init 108 = .ok (.putfield 50, 3) := by decide +kernel
theorem dX4_init_111 : decode cX4_init 111 = .ok (.aload_n 0, 1) := by decide +kernel
theorem dX4_init_112 : decode cX4_init 112 = .ok (.bipush 8, 2) := by decide +kernel
theorem dX4_init_114 : decode cX4_init 114 = .ok (.newarray .int, 2) := by decide +kernel
theorem dX4_init_116 : decode cX4_init 116 = .ok (.putfield 53, 3) := by decide +kernel
theorem dX4_init_119 : decode cX4_init 119 = .ok (.aload_n 0, 1) := by decide +kernel
theorem dX4_init_120 : decode cX4_init 120 = .ok (.bipush 8, 2) := by decide +kernel
theorem dX4_init_122 : decode cX4_init 122 = .ok (.newarray .int, 2) := by decide +kernel
theorem dX4_init_124 : decode cX4_init 124 = .ok (.putfield 56, 3) := by decide +kernel
theorem dX4_init_127 : decode cX4_init 127 = .ok (.aload_n 0, 1) := by decide +kernel
theorem dX4_init_128 : decode cX4_init 128 = .ok (.bipush 8, 2) := by decide +kernel
theorem dX4_init_130 : decode cX4_init 130 = .ok (.newarray .int, 2) := by decide +kernel
theorem dX4_init_132 : decode cX4_init 132 = .ok (.putfield 59, 3) := by decide +kernel
theorem dX4_init_135 : decode cX4_init 135 = .ok (.aload_n 0, 1) := by decide +kernel
theorem dX4_init_136 : decode cX4_init 136 = .ok (.bipush 8, 2) := by decide +kernel
theorem dX4_init_138 : decode cX4_init 138 = .ok (.newarray .int, 2) := by decide +kernel
theorem dX4_init_140 : decode cX4_init 140 = .ok (.putfield 62, 3) := by decide +kernel
theorem dX4_init_143 : decode cX4_init 143 = .ok (.aload_n 0, 1) := by decide +kernel
theorem dX4_init_144 : decode cX4_init 144 = .ok (.bipush 8, 2) := by decide +kernel
theorem dX4_init_146 : decode cX4_init 146 = .ok (.newarray .int, 2) := by decide +kernel
theorem dX4_init_148 : decode cX4_init 148 = .ok (.putfield 65, 3) := by decide +kernel
theorem dX4_init_151 : decode cX4_init 151 = .ok (.aload_n 0, 1) := by decide +kernel
theorem dX4_init_152 : decode cX4_init 152 = .ok (.sipush 200, 3) := by decide +kernel
theorem dX4_init_155 : decode cX4_init 155 = .ok (.newarray .int, 2) := by decide +kernel
theorem dX4_init_157 : decode cX4_init 157 = .ok (.putfield 68, 3) := by decide +kernel
theorem dX4_init_160 : decode cX4_init 160 = .ok (.aload_n 0, 1) := by decide +kernel
theorem dX4_init_161 : decode cX4_init 161 = .ok (.sipush 200, 3) := by decide +kernel
theorem dX4_init_164 : decode cX4_init 164 = .ok (.newarray .int, 2) := by decide +kernel
theorem dX4_init_166 : decode cX4_init 166 = .ok (.putfield 71, 3) := by decide +kernel
theorem dX4_init_169 : decode cX4_init 169 = .ok (.aload_n 0, 1) := by decide +kernel
theorem dX4_init_170 : decode cX4_init 170 = .ok (.sipush 200, 3) := by decide +kernel
theorem dX4_init_173 : decode cX4_init 173 = .ok (.newarray .int, 2) := by decide +kernel
theorem dX4_init_175 : decode cX4_init 175 = .ok (.putfield 74, 3) := by decide +kernel
theorem dX4_init_178 : decode cX4_init 178 = .ok (.aload_n 0, 1) := by decide +kernel
theorem dX4_init_179 : decode cX4_init 179 = .ok (.sipush 200, 3) := by decide +kernel
theorem dX4_init_182 : decode cX4_init 182 = .ok (.newarray .int, 2) := by decide +kernel
theorem dX4_init_184 : decode cX4_init 184 = .ok (.putfield 77, 3) := by decide +kernel
theorem dX4_init_187 : decode cX4_init 187 = .ok (.aload_n 0, 1) := by decide +kernel
theorem dX4_init_188 : decode cX4_init 188 = .ok (.sipush 200, 3) := by decide +kernel
theorem dX4_init_191 : decode cX4_init 191 = .ok (.newarray .int, 2) := by decide +kernel
theorem dX4_init_193 : decode cX4_init 193 = .ok (.putfield 80, 3) := by decide +kernel
theorem dX4_init_196 : decode cX4_init 196 = .ok (.aload_n 0, 1) := by decide +kernel
theorem dX4_init_197 : decode cX4_init 197 = .ok (.sipush 200, 3) := by decide +kernel
theorem dX4_init_200 : decode cX4_init 200 = .ok (.newarray .int, 2) := by decide +kernel
theorem dX4_init_202 : decode cX4_init 202 = .ok (.putfield 83, 3) := by decide +kernel
theorem dX4_init_205 : decode cX4_init 205 = .ok (.aload_n 0, 1) := by decide +kernel
theorem dX4_init_206 : decode cX4_init 206 = .ok (.sipush 200, 3) := by decide +kernel
theorem dX4_init_209 : decode cX4_init 209 = .ok (.newarray .int, 2) := by decide +kernel
theorem dX4_init_211 : decode cX4_init 211 = .ok (.putfield 86, 3) := by decide +kernel
theorem dX4_init_214 : decode cX4_init 214 = .ok (.aload_n 0, 1) := by decide +kernel
theorem dX4_init_215 : decode cX4_init 215 = .ok (.sipush 200, 3) := by decide +kernel
theorem dX4_init_218 : decode cX4_init 218 = .ok (.newarray .int, 2) := by decide +kernel
theorem dX4_init_220 : decode cX4_init 220 = .ok (.putfield 89, 3) := by decide +kernel
theorem dX4_init_223 : decode cX4_init 223 = .ok (.aload_n 0, 1) := by decide +kernel
theorem dX4_init_224 : decode cX4_init 224 = .ok (.sipush 200, 3) := by decide +kernel
theorem dX4_init_227 : decode cX4_init 227 = .ok (.newarray .int, 2) := by decide +kernel
theorem dX4_init_229 : decode cX4_init 229 = .ok (.putfield 92, 3) := by decide +kernel
theorem dX4_init_232 : decode cX4_init 232 = .ok (.aload_n 0, 1) := by decide +kernel
theorem dX4_init_233 : decode cX4_init 233 = .ok (.sipush 200, 3) := by decide +kernel
theorem dX4_init_236 : decode cX4_init 236 = .ok (.newarray .boolean, 2) := by decide +kernel
theorem dX4_init_238 : decode cX4_init 238 = .ok (.putfield 95, 3) := by decide +kernel
theorem dX4_init_241 : decode cX4_init 241 = .ok (.aload_n 0, 1) := by decide +kernel
theorem dX4_init_242 : decode cX4_init 242 = .ok (.sipush 400, 3) := by decide +kernel
theorem dX4_init_245 : decode cX4_init 245 = .ok (.newarray .int, 2) := by decide +kernel
theorem dX4_init_247 : decode cX4_init 247 = .ok (.putfield 99, 3) := by decide +kernel
theorem dX4_init_250 : decode cX4_init 250 = .ok (.aload_n 0, 1) := by decide +kernel
theorem dX4_init_251 : decode cX4_init 251 = .ok (.sipush 400, 3) := by decide +kernel
theorem dX4_init_254 : decode cX4_init 254 = .ok (.newarray .int, 2) := by decide +kernel
theorem dX4_init_256 : decode cX4_init 256 = .ok (.putfield 102, 3) := by decide +kernel
theorem dX4_init_259 : decode cX4_init 259 = .ok (.aload_n 0, 1) := by decide +kernel
theorem dX4_init_260 : decode cX4_init 260 = .ok (.sipush 400, 3) := by decide +kernel
theorem dX4_init_263 : decode cX4_init 263 = .ok (.newarray .int, 2) := by decide +kernel
theorem dX4_init_265 : decode cX4_init 265 = .ok (.putfield 105, 3) := by decide +kernel
theorem dX4_init_268 : decode cX4_init 268 = .ok (.aload_n 0, 1) := by decide +kernel
theorem dX4_init_269 : decode cX4_init 269 = .ok (.sipush 400, 3) := by decide +kernel
theorem dX4_init_272 : decode cX4_init 272 = .ok (.newarray .boolean, 2) := by decide +kernel
theorem dX4_init_274 : decode cX4_init 274 = .ok (.putfield 108, 3) := by decide +kernel
theorem dX4_init_277 : decode cX4_init 277 = .ok (.aload_n 0, 1) := by decide +kernel
theorem dX4_init_278 : decode cX4_init 278 = .ok (.sipush 200, 3) := by decide +kernel
theorem dX4_init_281 : decode cX4_init 281 = .ok (.newarray .int, 2) := by decide +kernel
theorem dX4_init_283 : decode cX4_init 283 = .ok (.putfield 111, 3) := by decide +kernel
theorem dX4_init_286 : decode cX4_init 286 = .ok (.return_, 1) := by decide +kernel
theorem dX4_isIn_0 : decode cX4_isIn 0 = .ok (.iload_n 0, 1) := by decide +kernel
theorem dX4_isIn_1 : decode cX4_isIn 1 = .ok (.ifCond .lt 12, 3) := by decide +kernel
theorem dX4_isIn_4 : decode cX4_isIn 4 = .ok (.iload_n 0, 1) := by decide +kernel
theorem dX4_isIn_5 : decode cX4_isIn 5 = .ok (.iload_n 1, 1) := by decide +kernel
theorem dX4_isIn_6 : decode cX4_isIn 6 = .ok (.if_icmp .ge 7, 3) := by decide +kernel
theorem dX4_isIn_9 : decode cX4_isIn 9 = .ok (.iconst 1, 1) := by decide +kernel
theorem dX4_isIn_10 : decode cX4_isIn 10 = .ok (.goto 4, 3) := by decide +kernel
theorem dX4_isIn_13 : decode cX4_isIn 13 = .ok (.iconst 0, 1) := by decide +kernel
theorem dX4_isIn_14 : decode cX4_isIn 14 = .ok (.ireturn, 1) := by decide +kernel
set_option maxRecDepth 20000 in
theorem ggX4_isServer_X4_isIn : GoodIn wsX4_isServer wsX4_isIn := goodIn_r _ [5] (by decide +kernel) (by decide +kernel)
set_option maxRecDepth 20000 in
theorem gX4_isServer_X4_isIn : GoodIn wsX4_isServer (va_wsS RX4 117 yX4_isIn wsX4_isIn) := goodIn_app (goodIn_of _ (by decide +kernel)) ggX4_isServer_X4_isIn
theorem dX4_isServer_0 : decode cX4_isServer 0 = .ok (.iload_n 1, 1) := by decide +kernel
theorem dX4_isServer_1 : decode cX4_isServer 1 = .ok (.aload_n 0, 1) := by decide +kernel
theorem dX4_isServer_2 : decode cX4_isServer 2 = .ok (.getfield 114, 3) := by decide +kernel
theorem dX4_isServer_5 : decode cX4_isServer 5 = .ok (.invokestatic 117, 3) := by decide +kernel
theorem dX4_isServer_8 : decode cX4_isServer 8 = .ok (.ireturn, 1) := by decide +kernel
set_option maxRecDepth 20000 in
theorem ggX4_isCall_X4_isIn : GoodIn wsX4_isCall wsX4_isIn := goodIn_r _ [5] (by decide +kernel) (by decide +kernel)
set_option maxRecDepth 20000 in
theorem gX4_isCall_X4_isIn : GoodIn wsX4_isCall (va_wsS RX4 117 yX4_isIn wsX4_isIn) := goodIn_app (goodIn_of _ (by decide +kernel)) ggX4_isCall_X4_isIn
theorem dX4_isCall_0 : decode cX4_isCall 0 = .ok (.iload_n 1, 1) := by decide +kernel
theorem dX4_isCall_1 : decode cX4_isCall 1 = .ok (.aload_n 0, 1) := by decide +kernel
theorem dX4_isCall_2 : decode cX4_isCall 2 = .ok (.getfield 121, 3) := by decide +kernel
theorem dX4_isCall_5 : decode cX4_isCall 5 = .ok (.invokestatic 117, 3) := by decide +kernel
theorem dX4_isCall_8 : decode cX4_isCall 8 = .ok (.ireturn, 1) := by decide +kernel
theorem dX4_refuse_0 : decode cX4_refuse 0 = .ok (.aload_n 0, 1) := by decide +kernel
theorem dX4_refuse_1 : decode cX4_refuse 1 = .ok (.getfield 7, 3) := by decide +kernel
theorem dX4_refuse_4 : decode cX4_refuse 4 = .ok (.iload_n 1, 1) := by decide +kernel
theorem dX4_refuse_5 : decode cX4_refuse 5 = .ok (.ineg, 1) := by decide +kernel
theorem dX4_refuse_6 : decode cX4_refuse 6 = .ok (.dup2, 1) := by decide +kernel
theorem dX4_refuse_7 : decode cX4_refuse 7 = .ok (.iaload, 1) := by decide +kernel
theorem dX4_refuse_8 : decode cX4_refuse 8 = .ok (.iconst 1, 1) := by decide +kernel
theorem dX4_refuse_9 : decode cX4_refuse 9 = .ok (.iadd, 1) := by decide +kernel
theorem dX4_refuse_10 : decode cX4_refuse 10 = .ok (.iastore, 1) := by decide +kernel
theorem dX4_refuse_11 : decode cX4_refuse 11 = .ok (.iload_n 1, 1) := by decide +kernel
theorem dX4_refuse_12 : decode cX4_refuse 12 = .ok (.ireturn, 1) := by decide +kernel
set_option maxRecDepth 20000 in
theorem ggX4_set_X4_isServer : GoodIn wsX4_set wsX4_isServer := goodIn_r _ [11, 12, 13, 14, 10, 15, 36, 37, 38, 39, 40, 41, 42, 43, 44, 45, 46, 47, 48, 49, 50, 51, 52, 53, 54, 55, 56, 57, 58, 59, 60, 61, 62, 63, 64, 65, 66, 67, 68, 69, 70, 71, 72, 73, 74, 75, 76, 77, 78] (by decide +kernel) (by decide +kernel)
set_option maxRecDepth 20000 in
theorem gX4_set_X4_isServer : GoodIn wsX4_set (wsV RX4 128 RX4 yX4_isServer wsX4_isServer) := goodIn_app (goodIn_of _ (by decide +kernel)) ggX4_set_X4_isServer
set_option maxRecDepth 20000 in
theorem ggX4_set_X4_refuse : GoodIn wsX4_set wsX4_refuse := goodIn_r _ [19, 20, 36, 37, 38, 39, 40, 41, 42, 43, 44, 45, 46, 47, 48, 49, 50, 51, 52, 53, 54, 55, 56, 57, 58, 59, 60, 61, 62, 63, 64, 65, 66, 67, 68, 69, 70, 71, 72, 73, 74, 75, 76, 77, 78] (by decide +kernel) (by decide +kernel)
set_option maxRecDepth 20000 in
theorem gX4_set_X4_refuse : GoodIn wsX4_set (wsV RX4 124 RX4 yX4_refuse wsX4_refuse) := goodIn_app (goodIn_of _ (by decide +kernel)) ggX4_set_X4_refuse
set_option maxRecDepth 20000 in
theorem ggX4_set_X4_isIn : GoodIn wsX4_set wsX4_isIn := goodIn_r _ [15] (by decide +kernel) (by decide +kernel)
set_option maxRecDepth 20000 in
theorem gX4_set_X4_isIn : GoodIn wsX4_set (va_wsS RX4 117 yX4_isIn wsX4_isIn) := goodIn_app (goodIn_of _ (by decide +kernel)) ggX4_set_X4_isIn
set_option maxRecDepth 20000 in
theorem ggX4_set_X4_serverOf : GoodIn wsX4_set wsX4_serverOf := goodIn_r _ [24, 1, 25, 26, 27, 28, 29, 30, 31, 32, 33, 34, 2, 35, 3, 4, 5, 6, 7, 8, 9, 10, 11, 12, 13, 14, 15, 16, 17, 18, 19, 20, 36, 37, 38, 39, 40, 41, 42, 43, 44, 45, 46, 47, 48, 49, 50, 51, 52, 53, 54, 55, 56, 57, 58, 59, 60, 61, 62, 63, 64, 65, 66, 67, 68, 69, 70, 71, 72, 73, 74, 75, 76, 77, 78] (by decide +kernel) (by decide +kernel)
set_option maxRecDepth 20000 in
theorem gX4_set_X4_serverOf : GoodIn wsX4_set (wsV RX4 132 RX4 yX4_serverOf wsX4_serverOf) := goodIn_app (goodIn_of _ (by decide +kernel)) ggX4_set_X4_serverOf
theorem dX4_set_0 : decode cX4_set 0 = .ok (.aload_n 0, 1) := by decide +kernel
theorem dX4_set_1 : decode cX4_set 1 = .ok (.iload_n 1, 1) := by decide +kernel
theorem dX4_set_2 : decode cX4_set 2 = .ok (.invokevirtual 128, 3) := by decide +kernel
theorem dX4_set_5 : decode cX4_set 5 = .ok (.ifCond .ne 9, 3) := by decide +kernel
theorem dX4_set_8 : decode cX4_set 8 = .ok (.aload_n 0, 1) := by decide +kernel
theorem dX4_set_9 : decode cX4_set 9 = .ok (.iconst (-1), 1) := by decide +kernel
theorem dX4_set_10 : decode cX4_set 10 = .ok (.invokevirtual 124, 3) := by decide +kernel
theorem dX4_set_13 : decode cX4_set 13 = .ok (.ireturn, 1) := by decide +kernel
theorem dX4_set_14 : decode cX4_set 14 = .ok (.iload_n 2, 1) := by decide +kernel
theorem dX4_set_15 : decode cX4_set 15 = .ok (.iconst 5, 1) := by decide +kernel
theorem dX4_set_16 : decode cX4_set 16 = .ok (.invokestatic 117, 3) := by decide +kernel
theorem dX4_set_19 : decode cX4_set 19 = .ok (.ifCond .ne 10, 3) := by decide +kernel
theorem dX4_set_22 : decode cX4_set 22 = .ok (.aload_n 0, 1) := by decide +kernel
theorem dX4_set_23 : decode cX4_set 23 = .ok (.bipush (-2), 2) := by decide +kernel
theorem dX4_set_25 : decode cX4_set 25 = .ok (.invokevirtual 124, 3) := by decide +kernel
theorem dX4_set_28 : decode cX4_set 28 = .ok (.ireturn, 1) := by decide +kernel
theorem dX4_set_29 : decode cX4_set 29 = .ok (.aload_n 0, 1) := by decide +kernel
theorem dX4_set_30 : decode cX4_set 30 = .ok (.getfield 38, 3) := by decide +kernel
theorem dX4_set_33 : decode cX4_set 33 = .ok (.iload_n 1, 1) := by decide +kernel
theorem dX4_set_34 : decode cX4_set 34 = .ok (.iaload, 1) := by decide +kernel
theorem dX4_set_35 : decode cX4_set 35 = .ok (.iconst 4, 1) := by decide +kernel
theorem dX4_set_36 : decode cX4_set 36 = .ok (.if_icmp .ne 10, 3) := by decide +kernel
theorem dX4_set_39 : decode cX4_set 39 = .ok (.aload_n 0, 1) := by decide +kernel
theorem dX4_set_40 : decode cX4_set 40 = .ok (.bipush (-3), 2) := by decide +kernel
theorem dX4_set_42 : decode cX4_set 42 = .ok (.invokevirtual 124, 3) := by decide +kernel
theorem dX4_set_45 : decode cX4_set 45 = .ok (.ireturn, 1) := by decide +kernel
theorem dX4_set_46 : decode cX4_set 46 = .ok (.iload_n 3, 1) := by decide +kernel
theorem dX4_set_47 : decode cX4_set 47 = .ok (.iload_n 2, 1) := by decide +kernel
theorem dX4_set_48 : decode cX4_set 48 = .ok (.iconst 3, 1) := by decide +kernel
theorem dX4_set_49 : decode cX4_set 49 = .ok (.if_icmp .ge 7, 3) := by decide +kernel
theorem dX4_set_52 : decode cX4_set 52 = .ok (.iconst 1, 1) := by decide +kernel
theorem dX4_set_53 : decode cX4_set 53 = .ok (.goto 4, 3) := by decide +kernel
theorem dX4_set_56 : decode cX4_set 56 = .ok (.iconst 0, 1) := by decide +kernel
theorem dX4_set_57 : decode cX4_set 57 = .ok (.if_icmp .ge 10, 3) := by decide +kernel
theorem dX4_set_60 : decode cX4_set 60 = .ok (.aload_n 0, 1) := by decide +kernel
theorem dX4_set_61 : decode cX4_set 61 = .ok (.bipush (-4), 2) := by decide +kernel
theorem dX4_set_63 : decode cX4_set 63 = .ok (.invokevirtual 124, 3) := by decide +kernel
theorem dX4_set_66 : decode cX4_set 66 = .ok (.ireturn, 1) := by decide +kernel
theorem dX4_set_67 : decode cX4_set 67 = .ok (.iload_n 3, 1) := by decide +kernel
theorem dX4_set_68 : decode cX4_set 68 = .ok (.iload_n 2, 1) := by decide +kernel
theorem dX4_set_69 : decode cX4_set 69 = .ok (.ifCond .ne 8, 3) := by decide +kernel
theorem dX4_set_72 : decode cX4_set 72 = .ok (.bipush 100, 2) := by decide +kernel
theorem dX4_set_74 : decode cX4_set 74 = .ok (.goto 30, 3) := by decide +kernel
theorem dX4_set_77 : decode cX4_set 77 = .ok (.iload_n 2, 1) := by decide +kernel
theorem dX4_set_78 : decode cX4_set 78 = .ok (.iconst 1, 1) := by decide +kernel
theorem dX4_set_79 : decode cX4_set 79 = .ok (.if_icmp .eq 8, 3) := by decide +kernel
theorem dX4_set_82 : decode cX4_set 82 = .ok (.iload_n 2, 1) := by decide +kernel
theorem dX4_set_83 : decode cX4_set 83 = .ok (.iconst 3, 1) := by decide +kernel
theorem dX4_set_84 : decode cX4_set 84 = .ok (.if_icmp .ne 8, 3) := by decide +kernel
theorem dX4_set_87 : decode cX4_set 87 = .ok (.bipush 20, 2) := by decide +kernel
theorem dX4_set_89 : decode cX4_set 89 = .ok (.goto 15, 3) := by decide +kernel
theorem dX4_set_92 : decode cX4_set 92 = .ok (.iload_n 2, 1) := by decide +kernel
theorem dX4_set_93 : decode cX4_set 93 = .ok (.iconst 2, 1) := by decide +kernel
theorem dX4_set_94 : decode cX4_set 94 = .ok (.if_icmp .ne 9, 3) := by decide +kernel
theorem dX4_set_97 : decode cX4_set 97 = .ok (.sipush 200, 3) := by decide +kernel
theorem dX4_set_100 : decode cX4_set 100 = .ok (.goto 4, 3) := by decide +kernel
theorem dX4_set_103 : decode cX4_set 103 = .ok (.iconst 1, 1) := by decide +kernel
theorem dX4_set_104 : decode cX4_set 104 = .ok (.if_icmp .le 10, 3) := by decide +kernel
theorem dX4_set_107 : decode cX4_set 107 = .ok (.aload_n 0, 1) := by decide +kernel
theorem dX4_set_108 : decode cX4_set 108 = .ok (.bipush (-6), 2) := by decide +kernel
theorem dX4_set_110 : decode cX4_set 110 = .ok (.invokevirtual 124, 3) := by decide +kernel
theorem dX4_set_113 : decode cX4_set 113 = .ok (.ireturn, 1) := by decide +kernel
theorem dX4_set_114 : decode cX4_set 114 = .ok (.aload_n 0, 1) := by decide +kernel
theorem dX4_set_115 : decode cX4_set 115 = .ok (.iload_n 1, 1) := by decide +kernel
theorem dX4_set_116 : decode cX4_set 116 = .ok (.iload_n 2, 1) := by decide +kernel
theorem dX4_set_117 : decode cX4_set 117 = .ok (.ifCond .ne 8, 3) := by decide +kernel
theorem dX4_set_120 : decode cX4_set 120 = .ok (.bipush 10, 2) := by decide +kernel
theorem dX4_set_122 : decode cX4_set 122 = .ok (.goto 7, 3) := by decide +kernel
theorem dX4_set_125 : decode cX4_set 125 = .ok (.bipush 11, 2) := by decide +kernel
theorem dX4_set_127 : decode cX4_set 127 = .ok (.iload_n 2, 1) := by decide +kernel
theorem dX4_set_128 : decode cX4_set 128 = .ok (.iadd, 1) := by decide +kernel
theorem dX4_set_129 : decode cX4_set 129 = .ok (.invokevirtual 132, 3) := by decide +kernel
theorem dX4_set_132 : decode cX4_set 132 = .ok (.istore 4, 2) := by decide +kernel
theorem dX4_set_134 : decode cX4_set 134 = .ok (.iload_n 2, 1) := by decide +kernel
theorem dX4_set_135 : decode cX4_set 135 = .ok (.ifCond .ne 13, 3) := by decide +kernel
theorem dX4_set_138 : decode cX4_set 138 = .ok (.aload_n 0, 1) := by decide +kernel
theorem dX4_set_139 : decode cX4_set 139 = .ok (.getfield 20, 3) := by decide +kernel
theorem dX4_set_142 : decode cX4_set 142 = .ok (.iload_n 1, 1) := by decide +kernel
theorem dX4_set_143 : decode cX4_set 143 = .ok (.iload_n 3, 1) := by decide +kernel
theorem dX4_set_144 : decode cX4_set 144 = .ok (.iastore, 1) := by decide +kernel
theorem dX4_set_145 : decode cX4_set 145 = .ok (.goto 55, 3) := by decide +kernel
theorem dX4_set_148 : decode cX4_set 148 = .ok (.iload_n 2, 1) := by decide +kernel
theorem dX4_set_149 : decode cX4_set 149 = .ok (.iconst 1, 1) := by decide +kernel
theorem dX4_set_150 : decode cX4_set 150 = .ok (.if_icmp .ne 13, 3) := by decide +kernel
theorem dX4_set_153 : decode cX4_set 153 = .ok (.aload_n 0, 1) := by decide +kernel
theorem dX4_set_154 : decode cX4_set 154 = .ok (.getfield 26, 3) := by decide +kernel
theorem dX4_set_157 : decode cX4_set 157 = .ok (.iload_n 1, 1) := by decide +kernel
theorem dX4_set_158 : decode cX4_set 158 = .ok (.iload_n 3, 1) := by decide +kernel
theorem dX4_set_159 : decode cX4_set 159 = .ok (.iastore, 1) := by decide +kernel
theorem dX4_set_160 : decode cX4_set 160 = .ok (.goto 40, 3) := by decide +kernel
theorem dX4_set_163 : decode cX4_set 163 = .ok (.iload_n 2, 1) := by decide +kernel
theorem dX4_set_164 : decode cX4_set 164 = .ok (.iconst 2, 1) := by decide +kernel
theorem dX4_set_165 : decode cX4_set 165 = .ok (.if_icmp .ne 13, 3) := by decide +kernel
theorem dX4_set_168 : decode cX4_set 168 = .ok (.aload_n 0, 1) := by decide +kernel
theorem dX4_set_169 : decode cX4_set 169 = .ok (.getfield 29, 3) := by decide +kernel
theorem dX4_set_172 : decode cX4_set 172 = .ok (.iload_n 1, 1) := by decide +kernel
theorem dX4_set_173 : decode cX4_set 173 = .ok (.iload_n 3, 1) := by decide +kernel
theorem dX4_set_174 : decode cX4_set 174 = .ok (.iastore, 1) := by decide +kernel
theorem dX4_set_175 : decode cX4_set 175 = .ok (.goto 25, 3) := by decide +kernel
theorem dX4_set_178 : decode cX4_set 178 = .ok (.iload_n 2, 1) := by decide +kernel
theorem dX4_set_179 : decode cX4_set 179 = .ok (.iconst 3, 1) := by decide +kernel
theorem dX4_set_180 : decode cX4_set 180 = .ok (.if_icmp .ne 13, 3) := by decide +kernel
theorem dX4_set_183 : decode cX4_set 183 = .ok (.aload_n 0, 1) := by decide +kernel
theorem dX4_set_184 : decode cX4_set 184 = .ok (.getfield 32, 3) := by decide +kernel
theorem dX4_set_187 : decode cX4_set 187 = .ok (.iload_n 1, 1) := by decide +kernel
theorem dX4_set_188 : decode cX4_set 188 = .ok (.iload_n 3, 1) := by decide +kernel
theorem dX4_set_189 : decode cX4_set 189 = .ok (.iastore, 1) := by decide +kernel
theorem dX4_set_190 : decode cX4_set 190 = .ok (.goto 10, 3) := by decide +kernel
theorem dX4_set_193 : decode cX4_set 193 = .ok (.aload_n 0, 1) := by decide +kernel
theorem dX4_set_194 : decode cX4_set 194 = .ok (.getfield 35, 3) := by decide +kernel
theorem dX4_set_197 : decode cX4_set 197 = .ok (.iload_n 1, 1) := by decide +kernel
theorem dX4_set_198 : decode cX4_set 198 = .ok (.iload_n 3, 1) := by decide +kernel
theorem dX4_set_199 : decode cX4_set 199 = .ok (.iastore, 1) := by decide +kernel
theorem dX4_set_200 : decode cX4_set 200 = .ok (.iload 4, 2) := by decide +kernel
theorem dX4_set_202 : decode cX4_set 202 = .ok (.ireturn, 1) := by decide +kernel
set_option maxRecDepth 20000 in
theorem ggX4_drain_X4_isServer : GoodIn wsX4_drain wsX4_isServer := goodIn_r _ [7, 8, 9, 10, 6, 11, 17, 18, 19, 20, 21, 22, 23, 24, 25, 26, 27, 28, 29, 30, 31, 32, 33, 34, 35, 36, 37, 38, 39, 40, 41, 42, 43, 44, 45, 46, 47, 48, 49, 50, 51, 52, 53, 54, 55, 56, 57, 58, 59] (by decide +kernel) (by decide +kernel)
set_option maxRecDepth 20000 in
theorem gX4_drain_X4_isServer : GoodIn wsX4_drain (wsV RX4 128 RX4 yX4_isServer wsX4_isServer) := goodIn_app (goodIn_of _ (by decide +kernel)) ggX4_drain_X4_isServer
set_option maxRecDepth 20000 in
theorem ggX4_drain_X4_refuse : GoodIn wsX4_drain wsX4_refuse := goodIn_r _ [15, 16, 17, 18, 19, 20, 21, 22, 23, 24, 25, 26, 27, 28, 29, 30, 31, 32, 33, 34, 35, 36, 37, 38, 39, 40, 41, 42, 43, 44, 45, 46, 47, 48, 49, 50, 51, 52, 53, 54, 55, 56, 57, 58, 59] (by decide +kernel) (by decide +kernel)
set_option maxRecDepth 20000 in
theorem gX4_drain_X4_refuse : GoodIn wsX4_drain (wsV RX4 124 RX4 yX4_refuse wsX4_refuse) := goodIn_app (goodIn_of _ (by decide +kernel)) ggX4_drain_X4_refuse
theorem dX4_drain_0 : decode cX4_drain 0 = .ok (.aload_n 0, 1) := by decide +kernel
theorem dX4_drain_1 : decode cX4_drain 1 = .ok (.iload_n 1, 1) := by decide +kernel
theorem dX4_drain_2 : decode cX4_drain 2 = .ok (.invokevirtual 128, 3) := by decide +kernel
theorem dX4_drain_5 : decode cX4_drain 5 = .ok (.ifCond .ne 9, 3) := by decide +kernel
theorem dX4_drain_8 : decode cX4_drain 8 = .ok (.aload_n 0, 1) := by decide +kernel
theorem dX4_drain_9 : decode cX4_drain 9 = .ok (.iconst (-1), 1) := by decide +kernel
theorem dX4_drain_10 : decode cX4_drain 10 = .ok (.invokevirtual 124, 3) := by decide +kernel
theorem dX4_drain_13 : decode cX4_drain 13 = .ok (.ireturn, 1) := by decide +kernel
theorem dX4_drain_14 : decode cX4_drain 14 = .ok (.aload_n 0, 1) := by decide +kernel
theorem dX4_drain_15 : decode cX4_drain 15 = .ok (.getfield 38, 3) := by decide +kernel
theorem dX4_drain_18 : decode cX4_drain 18 = .ok (.iload_n 1, 1) := by decide +kernel
theorem dX4_drain_19 : decode cX4_drain 19 = .ok (.iaload, 1) := by decide +kernel
theorem dX4_drain_20 : decode cX4_drain 20 = .ok (.iconst 4, 1) := by decide +kernel
theorem dX4_drain_21 : decode cX4_drain 21 = .ok (.if_icmp .eq 13, 3) := by decide +kernel
theorem dX4_drain_24 : decode cX4_drain 24 = .ok (.aload_n 0, 1) := by decide +kernel
theorem dX4_drain_25 : decode cX4_drain 25 = .ok (.getfield 38, 3) := by decide +kernel
theorem dX4_drain_28 : decode cX4_drain 28 = .ok (.iload_n 1, 1) := by decide +kernel
theorem dX4_drain_29 : decode cX4_drain 29 = .ok (.iaload, 1) := by decide +kernel
theorem dX4_drain_30 : decode cX4_drain 30 = .ok (.iconst 3, 1) := by decide +kernel
theorem dX4_drain_31 : decode cX4_drain 31 = .ok (.if_icmp .ne 10, 3) := by decide +kernel
theorem dX4_drain_34 : decode cX4_drain 34 = .ok (.aload_n 0, 1) := by decide +kernel
theorem dX4_drain_35 : decode cX4_drain 35 = .ok (.bipush (-3), 2) := by decide +kernel
theorem dX4_drain_37 : decode cX4_drain 37 = .ok (.invokevirtual 124, 3) := by decide +kernel
theorem dX4_drain_40 : decode cX4_drain 40 = .ok (.ireturn, 1) := by decide +kernel
theorem dX4_drain_41 : decode cX4_drain 41 = .ok (.aload_n 0, 1) := by decide +kernel
theorem dX4_drain_42 : decode cX4_drain 42 = .ok (.getfield 38, 3) := by decide +kernel
theorem dX4_drain_45 : decode cX4_drain 45 = .ok (.iload_n 1, 1) := by decide +kernel
theorem dX4_drain_46 : decode cX4_drain 46 = .ok (.aload_n 0, 1) := by decide +kernel
theorem dX4_drain_47 : decode cX4_drain 47 = .ok (.getfield 41, 3) := by decide +kernel
theorem dX4_drain_50 : decode cX4_drain 50 = .ok (.iload_n 1, 1) := by decide +kernel
theorem dX4_drain_51 : decode cX4_drain 51 = .ok (.iaload, 1) := by decide +kernel
theorem dX4_drain_52 : decode cX4_drain 52 = .ok (.ifCond .ne 7, 3) := by decide +kernel
theorem dX4_drain_55 : decode cX4_drain 55 = .ok (.iconst 4, 1) := by decide +kernel
theorem dX4_drain_56 : decode cX4_drain 56 = .ok (.goto 4, 3) := by decide +kernel
theorem dX4_drain_59 : decode cX4_drain 59 = .ok (.iconst 3, 1) := by decide +kernel
theorem dX4_drain_60 : decode cX4_drain 60 = .ok (.iastore, 1) := by decide +kernel
theorem dX4_drain_61 : decode cX4_drain 61 = .ok (.aload_n 0, 1) := by decide +kernel
theorem dX4_drain_62 : decode cX4_drain 62 = .ok (.getfield 41, 3) := by decide +kernel
theorem dX4_drain_65 : decode cX4_drain 65 = .ok (.iload_n 1, 1) := by decide +kernel
theorem dX4_drain_66 : decode cX4_drain 66 = .ok (.iaload, 1) := by decide +kernel
theorem dX4_drain_67 : decode cX4_drain 67 = .ok (.ireturn, 1) := by decide +kernel
set_option maxRecDepth 20000 in
theorem ggX4_back_X4_isServer : GoodIn wsX4_back wsX4_isServer := goodIn_r _ [8, 9, 10, 11, 7, 12, 18, 19, 20, 21, 22, 23, 24, 25, 26, 27, 28, 29, 30, 31, 32, 33, 34, 35, 36, 37, 38, 39, 40, 41, 42, 43, 44, 45, 46, 47, 48, 49, 50, 51, 52, 53, 54, 55, 56, 57, 58, 59, 60] (by decide +kernel) (by decide +kernel)
set_option maxRecDepth 20000 in
theorem gX4_back_X4_isServer : GoodIn wsX4_back (wsV RX4 128 RX4 yX4_isServer wsX4_isServer) := goodIn_app (goodIn_of _ (by decide +kernel)) ggX4_back_X4_isServer
set_option maxRecDepth 20000 in
theorem ggX4_back_X4_refuse : GoodIn wsX4_back wsX4_refuse := goodIn_r _ [16, 17, 18, 19, 20, 21, 22, 23, 24, 25, 26, 27, 28, 29, 30, 31, 32, 33, 34, 35, 36, 37, 38, 39, 40, 41, 42, 43, 44, 45, 46, 47, 48, 49, 50, 51, 52, 53, 54, 55, 56, 57, 58, 59, 60] (by decide +kernel) (by decide +kernel)
set_option maxRecDepth 20000 in
theorem gX4_back_X4_refuse : GoodIn wsX4_back (wsV RX4 124 RX4 yX4_refuse wsX4_refuse) := goodIn_app (goodIn_of _ (by decide +kernel)) ggX4_back_X4_refuse
theorem dX4_back_0 : decode cX4_back 0 = .ok (.aload_n 0, 1) := by decide +kernel
theorem dX4_back_1 : decode cX4_back 1 = .ok (.iload_n 1, 1) := by decide +kernel
theorem dX4_back_2 : decode cX4_back 2 = .ok (.invokevirtual 128, 3) := by decide +kernel
theorem dX4_back_5 : decode cX4_back 5 = .ok (.ifCond .ne 9, 3) := by decide +kernel
theorem dX4_back_8 : decode cX4_back 8 = .ok (.aload_n 0, 1) := by decide +kernel
theorem dX4_back_9 : decode cX4_back 9 = .ok (.iconst (-1), 1) := by decide +kernel
theorem dX4_back_10 : decode cX4_back 10 = .ok (.invokevirtual 124, 3) := by decide +kernel
theorem dX4_back_13 : decode cX4_back 13 = .ok (.ireturn, 1) := by decide +kernel
theorem dX4_back_14 : decode cX4_back 14 = .ok (.aload_n 0, 1) := by decide +kernel
theorem dX4_back_15 : decode cX4_back 15 = .ok (.getfield 38, 3) := by decide +kernel
theorem dX4_back_18 : decode cX4_back 18 = .ok (.iload_n 1, 1) := by decide +kernel
theorem dX4_back_19 : decode cX4_back 19 = .ok (.iaload, 1) := by decide +kernel
theorem dX4_back_20 : decode cX4_back 20 = .ok (.iconst 4, 1) := by decide +kernel
theorem dX4_back_21 : decode cX4_back 21 = .ok (.if_icmp .eq 20, 3) := by decide +kernel
theorem dX4_back_24 : decode cX4_back 24 = .ok (.aload_n 0, 1) := by decide +kernel
theorem dX4_back_25 : decode cX4_back 25 = .ok (.getfield 38, 3) := by decide +kernel
theorem dX4_back_28 : decode cX4_back 28 = .ok (.iload_n 1, 1) := by decide +kernel
theorem dX4_back_29 : decode cX4_back 29 = .ok (.iaload, 1) := by decide +kernel
theorem dX4_back_30 : decode cX4_back 30 = .ok (.iconst 3, 1) := by decide +kernel
theorem dX4_back_31 : decode cX4_back 31 = .ok (.if_icmp .eq 10, 3) := by decide +kernel
theorem dX4_back_34 : decode cX4_back 34 = .ok (.aload_n 0, 1) := by decide +kernel
theorem dX4_back_35 : decode cX4_back 35 = .ok (.bipush (-3), 2) := by decide +kernel
theorem dX4_back_37 : decode cX4_back 37 = .ok (.invokevirtual 124, 3) := by decide +kernel
theorem dX4_back_40 : decode cX4_back 40 = .ok (.ireturn, 1) := by decide +kernel
theorem dX4_back_41 : decode cX4_back 41 = .ok (.aload_n 0, 1) := by decide +kernel
theorem dX4_back_42 : decode cX4_back 42 = .ok (.getfield 38, 3) := by decide +kernel
theorem dX4_back_45 : decode cX4_back 45 = .ok (.iload_n 1, 1) := by decide +kernel
theorem dX4_back_46 : decode cX4_back 46 = .ok (.iconst 2, 1) := by decide +kernel
theorem dX4_back_47 : decode cX4_back 47 = .ok (.iastore, 1) := by decide +kernel
theorem dX4_back_48 : decode cX4_back 48 = .ok (.aload_n 0, 1) := by decide +kernel
theorem dX4_back_49 : decode cX4_back 49 = .ok (.getfield 53, 3) := by decide +kernel
theorem dX4_back_52 : decode cX4_back 52 = .ok (.iload_n 1, 1) := by decide +kernel
theorem dX4_back_53 : decode cX4_back 53 = .ok (.iconst 0, 1) := by decide +kernel
theorem dX4_back_54 : decode cX4_back 54 = .ok (.iastore, 1) := by decide +kernel
theorem dX4_back_55 : decode cX4_back 55 = .ok (.aload_n 0, 1) := by decide +kernel
theorem dX4_back_56 : decode cX4_back 56 = .ok (.getfield 59, 3) := by decide +kernel
theorem dX4_back_59 : decode cX4_back 59 = .ok (.iload_n 1, 1) := by decide +kernel
theorem dX4_back_60 : decode cX4_back 60 = .ok (.bipush 10, 2) := by decide +kernel
theorem dX4_back_62 : decode cX4_back 62 = .ok (.iastore, 1) := by decide +kernel
theorem dX4_back_63 : decode cX4_back 63 = .ok (.iconst 1, 1) := by decide +kernel
theorem dX4_back_64 : decode cX4_back 64 = .ok (.ireturn, 1) := by decide +kernel
set_option maxRecDepth 20000 in
theorem ggX4_off_X4_isCall : GoodIn wsX4_off wsX4_isCall := goodIn_r _ [6, 7, 8, 9, 5, 10, 32, 33, 34, 35, 36, 37, 38, 39, 40, 41, 42, 43, 44, 45, 46, 47, 48, 49, 50, 51, 52, 53, 54, 55, 56, 57, 58, 59, 60, 61, 62, 63, 64, 65, 66, 67, 68, 69, 70, 71, 72, 73, 74] (by decide +kernel) (by decide +kernel)
set_option maxRecDepth 20000 in
theorem gX4_off_X4_isCall : GoodIn wsX4_off (wsV RX4 193 RX4 yX4_isCall wsX4_isCall) := goodIn_app (goodIn_of _ (by decide +kernel)) ggX4_off_X4_isCall
set_option maxRecDepth 20000 in
theorem ggX4_off_X4_refuse : GoodIn wsX4_off wsX4_refuse := goodIn_r _ [14, 15, 32, 33, 34, 35, 36, 37, 38, 39, 40, 41, 42, 43, 44, 45, 46, 47, 48, 49, 50, 51, 52, 53, 54, 55, 56, 57, 58, 59, 60, 61, 62, 63, 64, 65, 66, 67, 68, 69, 70, 71, 72, 73, 74] (by decide +kernel) (by decide +kernel)
set_option maxRecDepth 20000 in
theorem gX4_off_X4_refuse : GoodIn wsX4_off (wsV RX4 124 RX4 yX4_refuse wsX4_refuse) := goodIn_app (goodIn_of _ (by decide +kernel)) ggX4_off_X4_refuse
set_option maxRecDepth 20000 in
theorem ggX4_off_X4_ends : GoodIn wsX4_off wsX4_ends := goodIn_r _ [19, 20, 1, 21, 22, 23, 24, 25, 5, 26, 27, 28, 29, 30, 31, 32, 33, 34, 35, 36, 37, 38, 39, 40, 41, 42, 43, 44, 45, 46, 47, 48, 49, 50, 51, 52, 53, 54, 55, 56, 57, 58, 59, 60, 61, 62, 63, 64, 65, 66, 67, 68, 69, 70, 71, 72, 73, 74] (by decide +kernel) (by decide +kernel)
set_option maxRecDepth 20000 in
theorem gX4_off_X4_ends : GoodIn wsX4_off (wsV RX4 196 RX4 yX4_ends wsX4_ends) := goodIn_app (goodIn_of _ (by decide +kernel)) ggX4_off_X4_ends
theorem dX4_off_0 : decode cX4_off 0 = .ok (.aload_n 0, 1) := by decide +kernel
theorem dX4_off_1 : decode cX4_off 1 = .ok (.iload_n 1, 1) := by decide +kernel
theorem dX4_off_2 : decode cX4_off 2 = .ok (.invokevirtual 193, 3) := by decide +kernel
theorem dX4_off_5 : decode cX4_off 5 = .ok (.ifCond .ne 9, 3) := by decide +kernel
theorem dX4_off_8 : decode cX4_off 8 = .ok (.aload_n 0, 1) := by decide +kernel
theorem dX4_off_9 : decode cX4_off 9 = .ok (.iconst (-1), 1) := by decide +kernel
theorem dX4_off_10 : decode cX4_off 10 = .ok (.invokevirtual 124, 3) := by decide +kernel
theorem dX4_off_13 : decode cX4_off 13 = .ok (.ireturn, 1) := by decide +kernel
theorem dX4_off_14 : decode cX4_off 14 = .ok (.aload_n 0, 1) := by decide +kernel
theorem dX4_off_15 : decode cX4_off 15 = .ok (.getfield 77, 3) := by decide +kernel
theorem dX4_off_18 : decode cX4_off 18 = .ok (.iload_n 1, 1) := by decide +kernel
theorem dX4_off_19 : decode cX4_off 19 = .ok (.iaload, 1) := by decide +kernel
theorem dX4_off_20 : decode cX4_off 20 = .ok (.iconst 1, 1) := by decide +kernel
theorem dX4_off_21 : decode cX4_off 21 = .ok (.if_icmp .le 10, 3) := by decide +kernel
theorem dX4_off_24 : decode cX4_off 24 = .ok (.aload_n 0, 1) := by decide +kernel
theorem dX4_off_25 : decode cX4_off 25 = .ok (.bipush (-3), 2) := by decide +kernel
theorem dX4_off_27 : decode cX4_off 27 = .ok (.invokevirtual 124, 3) := by decide +kernel
theorem dX4_off_30 : decode cX4_off 30 = .ok (.ireturn, 1) := by decide +kernel
theorem dX4_off_31 : decode cX4_off 31 = .ok (.aload_n 0, 1) := by decide +kernel
theorem dX4_off_32 : decode cX4_off 32 = .ok (.iload_n 1, 1) := by decide +kernel
theorem dX4_off_33 : decode cX4_off 33 = .ok (.iconst 4, 1) := by decide +kernel
theorem dX4_off_34 : decode cX4_off 34 = .ok (.invokevirtual 196, 3) := by decide +kernel
theorem dX4_off_37 : decode cX4_off 37 = .ok (.iconst 1, 1) := by decide +kernel
theorem dX4_off_38 : decode cX4_off 38 = .ok (.ireturn, 1) := by decide +kernel
set_option maxRecDepth 20000 in
theorem ggX4_callOf_X4_isCall : GoodIn wsX4_callOf wsX4_isCall := goodIn_r _ [16, 17, 18, 19, 15, 20, 26, 27, 28, 29, 30, 31, 32, 33, 34, 35, 36, 37, 38, 39, 40, 41, 42, 43, 44, 45, 46, 47, 48, 49, 50, 51, 52, 53, 54, 55, 56, 57, 58, 59, 60, 61, 62, 63, 64, 65, 66, 67, 68] (by decide +kernel) (by decide +kernel)
set_option maxRecDepth 20000 in
theorem gX4_callOf_X4_isCall : GoodIn wsX4_callOf (wsV RX4 193 RX4 yX4_isCall wsX4_isCall) := goodIn_app (goodIn_of _ (by decide +kernel)) ggX4_callOf_X4_isCall
set_option maxRecDepth 20000 in
theorem ggX4_callOf_X4_refuse : GoodIn wsX4_callOf wsX4_refuse := goodIn_r _ [24, 25, 26, 27, 28, 29, 30, 31, 32, 33, 34, 35, 36, 37, 38, 39, 40, 41, 42, 43, 44, 45, 46, 47, 48, 49, 50, 51, 52, 53, 54, 55, 56, 57, 58, 59, 60, 61, 62, 63, 64, 65, 66, 67, 68] (by decide +kernel) (by decide +kernel)
set_option maxRecDepth 20000 in
theorem gX4_callOf_X4_refuse : GoodIn wsX4_callOf (wsV RX4 124 RX4 yX4_refuse wsX4_refuse) := goodIn_app (goodIn_of _ (by decide +kernel)) ggX4_callOf_X4_refuse
theorem dX4_callOf_0 : decode cX4_callOf 0 = .ok (.aload_n 0, 1) := by decide +kernel
theorem dX4_callOf_1 : decode cX4_callOf 1 = .ok (.iload_n 1, 1) := by decide +kernel
theorem dX4_callOf_2 : decode cX4_callOf 2 = .ok (.invokevirtual 193, 3) := by decide +kernel
theorem dX4_callOf_5 : decode cX4_callOf 5 = .ok (.ifCond .ne 9, 3) := by decide +kernel
theorem dX4_callOf_8 : decode cX4_callOf 8 = .ok (.aload_n 0, 1) := by decide +kernel
theorem dX4_callOf_9 : decode cX4_callOf 9 = .ok (.iconst (-1), 1) := by decide +kernel
theorem dX4_callOf_10 : decode cX4_callOf 10 = .ok (.invokevirtual 124, 3) := by decide +kernel
theorem dX4_callOf_13 : decode cX4_callOf 13 = .ok (.ireturn, 1) := by decide +kernel
theorem dX4_callOf_14 : decode cX4_callOf 14 = .ok (.iload_n 2, 1) := by decide +kernel
theorem dX4_callOf_15 : decode cX4_callOf 15 = .ok (.tableswitch 196 0 10 #[57, 64, 71, 78, 85, 100, 107, 149, 175, 182, 189], 57) := by decide +kernel
theorem dX4_callOf_72 : decode cX4_callOf 72 = .ok (.aload_n 0, 1) := by decide +kernel
theorem dX4_callOf_73 : decode cX4_callOf 73 = .ok (.getfield 77, 3) := by decide +kernel
theorem dX4_callOf_76 : decode cX4_callOf 76 = .ok (.iload_n 1, 1) := by decide +kernel
theorem dX4_callOf_77 : decode cX4_callOf 77 = .ok (.iaload, 1) := by decide +kernel
theorem dX4_callOf_78 : decode cX4_callOf 78 = .ok (.ireturn, 1) := by decide +kernel
theorem dX4_callOf_79 : decode cX4_callOf 79 = .ok (.aload_n 0, 1) := by decide +kernel
theorem dX4_callOf_80 : decode cX4_callOf 80 = .ok (.getfield 68, 3) := by decide +kernel
theorem dX4_callOf_83 : decode cX4_callOf 83 = .ok (.iload_n 1, 1) := by decide +kernel
theorem dX4_callOf_84 : decode cX4_callOf 84 = .ok (.iaload, 1) := by decide +kernel
theorem dX4_callOf_85 : decode cX4_callOf 85 = .ok (.ireturn, 1) := by decide +kernel
theorem dX4_callOf_86 : decode cX4_callOf 86 = .ok (.aload_n 0, 1) := by decide +kernel
theorem dX4_callOf_87 : decode cX4_callOf 87 = .ok (.getfield 71, 3) := by decide +kernel
theorem dX4_callOf_90 : decode cX4_callOf 90 = .ok (.iload_n 1, 1) := by decide +kernel
theorem dX4_callOf_91 : decode cX4_callOf 91 = .ok (.iaload, 1) := by decide +kernel
theorem dX4_callOf_92 : decode cX4_callOf 92 = .ok (.ireturn, 1) := by decide +kernel
theorem dX4_callOf_93 : decode cX4_callOf 93 = .ok (.aload_n 0, 1) := by decide +kernel
theorem dX4_callOf_94 : decode cX4_callOf 94 = .ok (.getfield 74, 3) := by decide +kernel
theorem dX4_callOf_97 : decode cX4_callOf 97 = .ok (.iload_n 1, 1) := by decide +kernel
theorem dX4_callOf_98 : decode cX4_callOf 98 = .ok (.iaload, 1) := by decide +kernel
theorem dX4_callOf_99 : decode cX4_callOf 99 = .ok (.ireturn, 1) := by decide +kernel
theorem dX4_callOf_100 : decode cX4_callOf 100 = .ok (.aload_n 0, 1) := by decide +kernel
theorem dX4_callOf_101 : decode cX4_callOf 101 = .ok (.getfield 95, 3) := by decide +kernel
theorem dX4_callOf_104 : decode cX4_callOf 104 = .ok (.iload_n 1, 1) := by decide +kernel
theorem dX4_callOf_105 : decode cX4_callOf 105 = .ok (.baload, 1) := by decide +kernel
theorem dX4_callOf_106 : decode cX4_callOf 106 = .ok (.ifCond .eq 7, 3) := by decide +kernel
theorem dX4_callOf_109 : decode cX4_callOf 109 = .ok (.iconst 1, 1) := by decide +kernel
theorem dX4_callOf_110 : decode cX4_callOf 110 = .ok (.goto 4, 3) := by decide +kernel
theorem dX4_callOf_113 : decode cX4_callOf 113 = .ok (.iconst 0, 1) := by decide +kernel
theorem dX4_callOf_114 : decode cX4_callOf 114 = .ok (.ireturn, 1) := by decide +kernel
theorem dX4_callOf_115 : decode cX4_callOf 115 = .ok (.aload_n 0, 1) := by decide +kernel
theorem dX4_callOf_116 : decode cX4_callOf 116 = .ok (.getfield 80, 3) := by decide +kernel
theorem dX4_callOf_119 : decode cX4_callOf 119 = .ok (.iload_n 1, 1) := by decide +kernel
theorem dX4_callOf_120 : decode cX4_callOf 120 = .ok (.iaload, 1) := by decide +kernel
theorem dX4_callOf_121 : decode cX4_callOf 121 = .ok (.ireturn, 1) := by decide +kernel
theorem dX4_callOf_122 : decode cX4_callOf 122 = .ok (.aload_n 0, 1) := by decide +kernel
theorem dX4_callOf_123 : decode cX4_callOf 123 = .ok (.getfield 77, 3) := by decide +kernel
theorem dX4_callOf_126 : decode cX4_callOf 126 = .ok (.iload_n 1, 1) := by decide +kernel
theorem dX4_callOf_127 : decode cX4_callOf 127 = .ok (.iaload, 1) := by decide +kernel
theorem dX4_callOf_128 : decode cX4_callOf 128 = .ok (.iconst 2, 1) := by decide +kernel
theorem dX4_callOf_129 : decode cX4_callOf 129 = .ok (.if_icmp .ne 12, 3) := by decide +kernel
theorem dX4_callOf_132 : decode cX4_callOf 132 = .ok (.aload_n 0, 1) := by decide +kernel
theorem dX4_callOf_133 : decode cX4_callOf 133 = .ok (.getfield 92, 3) := by decide +kernel
theorem dX4_callOf_136 : decode cX4_callOf 136 = .ok (.iload_n 1, 1) := by decide +kernel
theorem dX4_callOf_137 : decode cX4_callOf 137 = .ok (.iaload, 1) := by decide +kernel
theorem dX4_callOf_138 : decode cX4_callOf 138 = .ok (.goto 25, 3) := by decide +kernel
theorem dX4_callOf_141 : decode cX4_callOf 141 = .ok (.aload_n 0, 1) := by decide +kernel
theorem dX4_callOf_142 : decode cX4_callOf 142 = .ok (.getfield 80, 3) := by decide +kernel
theorem dX4_callOf_145 : decode cX4_callOf 145 = .ok (.iload_n 1, 1) := by decide +kernel
theorem dX4_callOf_146 : decode cX4_callOf 146 = .ok (.iaload, 1) := by decide +kernel
theorem dX4_callOf_147 : decode cX4_callOf 147 = .ok (.ifCond .le 14, 3) := by decide +kernel
theorem dX4_callOf_150 : decode cX4_callOf 150 = .ok (.aload_n 0, 1) := by decide +kernel
theorem dX4_callOf_151 : decode cX4_callOf 151 = .ok (.getfield 99, 3) := by decide +kernel
theorem dX4_callOf_154 : decode cX4_callOf 154 = .ok (.iconst 2, 1) := by decide +kernel
theorem dX4_callOf_155 : decode cX4_callOf 155 = .ok (.iload_n 1, 1) := by decide +kernel
theorem dX4_callOf_156 : decode cX4_callOf 156 = .ok (.imul, 1) := by decide +kernel
theorem dX4_callOf_157 : decode cX4_callOf 157 = .ok (.iaload, 1) := by decide +kernel
theorem dX4_callOf_158 : decode cX4_callOf 158 = .ok (.goto 5, 3) := by decide +kernel
theorem dX4_callOf_161 : decode cX4_callOf 161 = .ok (.bipush (-9), 2) := by decide +kernel
theorem dX4_callOf_163 : decode cX4_callOf 163 = .ok (.ireturn, 1) := by decide +kernel
theorem dX4_callOf_164 : decode cX4_callOf 164 = .ok (.aload_n 0, 1) := by decide +kernel
theorem dX4_callOf_165 : decode cX4_callOf 165 = .ok (.getfield 80, 3) := by decide +kernel
theorem dX4_callOf_168 : decode cX4_callOf 168 = .ok (.iload_n 1, 1) := by decide +kernel
theorem dX4_callOf_169 : decode cX4_callOf 169 = .ok (.iaload, 1) := by decide +kernel
theorem dX4_callOf_170 : decode cX4_callOf 170 = .ok (.iconst 1, 1) := by decide +kernel
theorem dX4_callOf_171 : decode cX4_callOf 171 = .ok (.if_icmp .le 16, 3) := by decide +kernel
theorem dX4_callOf_174 : decode cX4_callOf 174 = .ok (.aload_n 0, 1) := by decide +kernel
theorem dX4_callOf_175 : decode cX4_callOf 175 = .ok (.getfield 99, 3) := by decide +kernel
theorem dX4_callOf_178 : decode cX4_callOf 178 = .ok (.iconst 2, 1) := by decide +kernel
theorem dX4_callOf_179 : decode cX4_callOf 179 = .ok (.iload_n 1, 1) := by decide +kernel
theorem dX4_callOf_180 : decode cX4_callOf 180 = .ok (.imul, 1) := by decide +kernel
theorem dX4_callOf_181 : decode cX4_callOf 181 = .ok (.iconst 1, 1) := by decide +kernel
theorem dX4_callOf_182 : decode cX4_callOf 182 = .ok (.iadd, 1) := by decide +kernel
theorem dX4_callOf_183 : decode cX4_callOf 183 = .ok (.iaload, 1) := by decide +kernel
theorem dX4_callOf_184 : decode cX4_callOf 184 = .ok (.goto 5, 3) := by decide +kernel
theorem dX4_callOf_187 : decode cX4_callOf 187 = .ok (.bipush (-9), 2) := by decide +kernel
theorem dX4_callOf_189 : decode cX4_callOf 189 = .ok (.ireturn, 1) := by decide +kernel
theorem dX4_callOf_190 : decode cX4_callOf 190 = .ok (.aload_n 0, 1) := by decide +kernel
theorem dX4_callOf_191 : decode cX4_callOf 191 = .ok (.getfield 83, 3) := by decide +kernel
theorem dX4_callOf_194 : decode cX4_callOf 194 = .ok (.iload_n 1, 1) := by decide +kernel
theorem dX4_callOf_195 : decode cX4_callOf 195 = .ok (.iaload, 1) := by decide +kernel
theorem dX4_callOf_196 : decode cX4_callOf 196 = .ok (.ireturn, 1) := by decide +kernel
theorem dX4_callOf_197 : decode cX4_callOf 197 = .ok (.aload_n 0, 1) := by decide +kernel
theorem dX4_callOf_198 : decode cX4_callOf 198 = .ok (.getfield 86, 3) := by decide +kernel
theorem dX4_callOf_201 : decode cX4_callOf 201 = .ok (.iload_n 1, 1) := by decide +kernel
theorem dX4_callOf_202 : decode cX4_callOf 202 = .ok (.iaload, 1) := by decide +kernel
theorem dX4_callOf_203 : decode cX4_callOf 203 = .ok (.ireturn, 1) := by decide +kernel
theorem dX4_callOf_204 : decode cX4_callOf 204 = .ok (.aload_n 0, 1) := by decide +kernel
theorem dX4_callOf_205 : decode cX4_callOf 205 = .ok (.getfield 89, 3) := by decide +kernel
theorem dX4_callOf_208 : decode cX4_callOf 208 = .ok (.iload_n 1, 1) := by decide +kernel
theorem dX4_callOf_209 : decode cX4_callOf 209 = .ok (.iaload, 1) := by decide +kernel
theorem dX4_callOf_210 : decode cX4_callOf 210 = .ok (.ireturn, 1) := by decide +kernel
theorem dX4_callOf_211 : decode cX4_callOf 211 = .ok (.aload_n 0, 1) := by decide +kernel
theorem dX4_callOf_212 : decode cX4_callOf 212 = .ok (.bipush (-2), 2) := by decide +kernel
theorem dX4_callOf_214 : decode cX4_callOf 214 = .ok (.invokevirtual 124, 3) := by decide +kernel
theorem dX4_callOf_217 : decode cX4_callOf 217 = .ok (.ireturn, 1) := by decide +kernel
set_option maxRecDepth 20000 in
theorem ggX4_serverOf_X4_isServer : GoodIn wsX4_serverOf wsX4_isServer := goodIn_r _ [22, 23, 24, 25, 21, 26, 32, 33, 34, 35, 36, 37, 38, 39, 40, 41, 42, 43, 44, 45, 46, 47, 48, 49, 50, 51, 52, 53, 54, 55, 56, 57, 58, 59, 60, 61, 62, 63, 64, 65, 66, 67, 68, 69, 70, 71, 72, 73, 74] (by decide +kernel) (by decide +kernel)
set_option maxRecDepth 20000 in
theorem gX4_serverOf_X4_isServer : GoodIn wsX4_serverOf (wsV RX4 128 RX4 yX4_isServer wsX4_isServer) := goodIn_app (goodIn_of _ (by decide +kernel)) ggX4_serverOf_X4_isServer
set_option maxRecDepth 20000 in
theorem ggX4_serverOf_X4_refuse : GoodIn wsX4_serverOf wsX4_refuse := goodIn_r _ [30, 31, 32, 33, 34, 35, 36, 37, 38, 39, 40, 41, 42, 43, 44, 45, 46, 47, 48, 49, 50, 51, 52, 53, 54, 55, 56, 57, 58, 59, 60, 61, 62, 63, 64, 65, 66, 67, 68, 69, 70, 71, 72, 73, 74] (by decide +kernel) (by decide +kernel)
set_option maxRecDepth 20000 in
theorem gX4_serverOf_X4_refuse : GoodIn wsX4_serverOf (wsV RX4 124 RX4 yX4_refuse wsX4_refuse) := goodIn_app (goodIn_of _ (by decide +kernel)) ggX4_serverOf_X4_refuse
theorem dX4_serverOf_0 : decode cX4_serverOf 0 = .ok (.aload_n 0, 1) := by decide +kernel
theorem dX4_serverOf_1 : decode cX4_serverOf 1 = .ok (.iload_n 1, 1) := by decide +kernel
theorem dX4_serverOf_2 : decode cX4_serverOf 2 = .ok (.invokevirtual 128, 3) := by decide +kernel
theorem dX4_serverOf_5 : decode cX4_serverOf 5 = .ok (.ifCond .ne 9, 3) := by decide +kernel
theorem dX4_serverOf_8 : decode cX4_serverOf 8 = .ok (.aload_n 0, 1) := by decide +kernel
theorem dX4_serverOf_9 : decode cX4_serverOf 9 = .ok (.iconst (-1), 1) := by decide +kernel
theorem dX4_serverOf_10 : decode cX4_serverOf 10 = .ok (.invokevirtual 124, 3) := by decide +kernel
theorem dX4_serverOf_13 : decode cX4_serverOf 13 = .ok (.ireturn, 1) := by decide +kernel
theorem dX4_serverOf_14 : decode cX4_serverOf 14 = .ok (.iload_n 2, 1) := by decide +kernel
theorem dX4_serverOf_15 : decode cX4_serverOf 15 = .ok (.tableswitch 207 0 15 #[77, 84, 91, 98, 105, 112, 119, 141, 148, 155, 165, 172, 179, 186, 193, 200], 77) := by decide +kernel
theorem dX4_serverOf_92 : decode cX4_serverOf 92 = .ok (.aload_n 0, 1) := by decide +kernel
theorem dX4_serverOf_93 : decode cX4_serverOf 93 = .ok (.getfield 38, 3) := by decide +kernel
theorem dX4_serverOf_96 : decode cX4_serverOf 96 = .ok (.iload_n 1, 1) := by decide +kernel
theorem dX4_serverOf_97 : decode cX4_serverOf 97 = .ok (.iaload, 1) := by decide +kernel
theorem dX4_serverOf_98 : decode cX4_serverOf 98 = .ok (.ireturn, 1) := by decide +kernel
theorem dX4_serverOf_99 : decode cX4_serverOf 99 = .ok (.aload_n 0, 1) := by decide +kernel
theorem dX4_serverOf_100 : decode cX4_serverOf 100 = .ok (.getfield 41, 3) := by decide +kernel
theorem dX4_serverOf_103 : decode cX4_serverOf 103 = .ok (.iload_n 1, 1) := by decide +kernel
theorem dX4_serverOf_104 : decode cX4_serverOf 104 = .ok (.iaload, 1) := by decide +kernel
theorem dX4_serverOf_105 : decode cX4_serverOf 105 = .ok (.ireturn, 1) := by decide +kernel
theorem dX4_serverOf_106 : decode cX4_serverOf 106 = .ok (.aload_n 0, 1) := by decide +kernel
theorem dX4_serverOf_107 : decode cX4_serverOf 107 = .ok (.getfield 44, 3) := by decide +kernel
theorem dX4_serverOf_110 : decode cX4_serverOf 110 = .ok (.iload_n 1, 1) := by decide +kernel
theorem dX4_serverOf_111 : decode cX4_serverOf 111 = .ok (.iaload, 1) := by decide +kernel
theorem dX4_serverOf_112 : decode cX4_serverOf 112 = .ok (.ireturn, 1) := by decide +kernel
theorem dX4_serverOf_113 : decode cX4_serverOf 113 = .ok (.aload_n 0, 1) := by decide +kernel
theorem dX4_serverOf_114 : decode cX4_serverOf 114 = .ok (.getfield 47, 3) := by decide +kernel
theorem dX4_serverOf_117 : decode cX4_serverOf 117 = .ok (.iload_n 1, 1) := by decide +kernel
theorem dX4_serverOf_118 : decode cX4_serverOf 118 = .ok (.iaload, 1) := by decide +kernel
theorem dX4_serverOf_119 : decode cX4_serverOf 119 = .ok (.ireturn, 1) := by decide +kernel
theorem dX4_serverOf_120 : decode cX4_serverOf 120 = .ok (.aload_n 0, 1) := by decide +kernel
theorem dX4_serverOf_121 : decode cX4_serverOf 121 = .ok (.getfield 50, 3) := by decide +kernel
theorem dX4_serverOf_124 : decode cX4_serverOf 124 = .ok (.iload_n 1, 1) := by decide +kernel
theorem dX4_serverOf_125 : decode cX4_serverOf 125 = .ok (.iaload, 1) := by decide +kernel
theorem dX4_serverOf_126 : decode cX4_serverOf 126 = .ok (.ireturn, 1) := by decide +kernel
theorem dX4_serverOf_127 : decode cX4_serverOf 127 = .ok (.aload_n 0, 1) := by decide +kernel
theorem dX4_serverOf_128 : decode cX4_serverOf 128 = .ok (.getfield 53, 3) := by decide +kernel
theorem dX4_serverOf_131 : decode cX4_serverOf 131 = .ok (.iload_n 1, 1) := by decide +kernel
theorem dX4_serverOf_132 : decode cX4_serverOf 132 = .ok (.iaload, 1) := by decide +kernel
theorem dX4_serverOf_133 : decode cX4_serverOf 133 = .ok (.ireturn, 1) := by decide +kernel
theorem dX4_serverOf_134 : decode cX4_serverOf 134 = .ok (.aload_n 0, 1) := by decide +kernel
theorem dX4_serverOf_135 : decode cX4_serverOf 135 = .ok (.getfield 38, 3) := by decide +kernel
theorem dX4_serverOf_138 : decode cX4_serverOf 138 = .ok (.iload_n 1, 1) := by decide +kernel
theorem dX4_serverOf_139 : decode cX4_serverOf 139 = .ok (.iaload, 1) := by decide +kernel
theorem dX4_serverOf_140 : decode cX4_serverOf 140 = .ok (.iconst 1, 1) := by decide +kernel
theorem dX4_serverOf_141 : decode cX4_serverOf 141 = .ok (.if_icmp .ne 12, 3) := by decide +kernel
theorem dX4_serverOf_144 : decode cX4_serverOf 144 = .ok (.aload_n 0, 1) := by decide +kernel
theorem dX4_serverOf_145 : decode cX4_serverOf 145 = .ok (.getfield 56, 3) := by decide +kernel
theorem dX4_serverOf_148 : decode cX4_serverOf 148 = .ok (.iload_n 1, 1) := by decide +kernel
theorem dX4_serverOf_149 : decode cX4_serverOf 149 = .ok (.iaload, 1) := by decide +kernel
theorem dX4_serverOf_150 : decode cX4_serverOf 150 = .ok (.goto 5, 3) := by decide +kernel
theorem dX4_serverOf_153 : decode cX4_serverOf 153 = .ok (.bipush (-9), 2) := by decide +kernel
theorem dX4_serverOf_155 : decode cX4_serverOf 155 = .ok (.ireturn, 1) := by decide +kernel
theorem dX4_serverOf_156 : decode cX4_serverOf 156 = .ok (.aload_n 0, 1) := by decide +kernel
theorem dX4_serverOf_157 : decode cX4_serverOf 157 = .ok (.getfield 59, 3) := by decide +kernel
theorem dX4_serverOf_160 : decode cX4_serverOf 160 = .ok (.iload_n 1, 1) := by decide +kernel
theorem dX4_serverOf_161 : decode cX4_serverOf 161 = .ok (.iaload, 1) := by decide +kernel
theorem dX4_serverOf_162 : decode cX4_serverOf 162 = .ok (.ireturn, 1) := by decide +kernel
theorem dX4_serverOf_163 : decode cX4_serverOf 163 = .ok (.aload_n 0, 1) := by decide +kernel
theorem dX4_serverOf_164 : decode cX4_serverOf 164 = .ok (.getfield 62, 3) := by decide +kernel
theorem dX4_serverOf_167 : decode cX4_serverOf 167 = .ok (.iload_n 1, 1) := by decide +kernel
theorem dX4_serverOf_168 : decode cX4_serverOf 168 = .ok (.iaload, 1) := by decide +kernel
theorem dX4_serverOf_169 : decode cX4_serverOf 169 = .ok (.ireturn, 1) := by decide +kernel
theorem dX4_serverOf_170 : decode cX4_serverOf 170 = .ok (.aload_n 0, 1) := by decide +kernel
theorem dX4_serverOf_171 : decode cX4_serverOf 171 = .ok (.getfield 65, 3) := by decide +kernel
theorem dX4_serverOf_174 : decode cX4_serverOf 174 = .ok (.iload_n 1, 1) := by decide +kernel
theorem dX4_serverOf_175 : decode cX4_serverOf 175 = .ok (.iaload, 1) := by decide +kernel
theorem dX4_serverOf_176 : decode cX4_serverOf 176 = .ok (.ldc 234, 2) := by decide +kernel
theorem dX4_serverOf_178 : decode cX4_serverOf 178 = .ok (.iadd, 1) := by decide +kernel
theorem dX4_serverOf_179 : decode cX4_serverOf 179 = .ok (.ireturn, 1) := by decide +kernel
theorem dX4_serverOf_180 : decode cX4_serverOf 180 = .ok (.aload_n 0, 1) := by decide +kernel
theorem dX4_serverOf_181 : decode cX4_serverOf 181 = .ok (.getfield 20, 3) := by decide +kernel
theorem dX4_serverOf_184 : decode cX4_serverOf 184 = .ok (.iload_n 1, 1) := by decide +kernel
theorem dX4_serverOf_185 : decode cX4_serverOf 185 = .ok (.iaload, 1) := by decide +kernel
theorem dX4_serverOf_186 : decode cX4_serverOf 186 = .ok (.ireturn, 1) := by decide +kernel
theorem dX4_serverOf_187 : decode cX4_serverOf 187 = .ok (.aload_n 0, 1) := by decide +kernel
theorem dX4_serverOf_188 : decode cX4_serverOf 188 = .ok (.getfield 23, 3) := by decide +kernel
theorem dX4_serverOf_191 : decode cX4_serverOf 191 = .ok (.iload_n 1, 1) := by decide +kernel
theorem dX4_serverOf_192 : decode cX4_serverOf 192 = .ok (.iaload, 1) := by decide +kernel
theorem dX4_serverOf_193 : decode cX4_serverOf 193 = .ok (.ireturn, 1) := by decide +kernel
theorem dX4_serverOf_194 : decode cX4_serverOf 194 = .ok (.aload_n 0, 1) := by decide +kernel
theorem dX4_serverOf_195 : decode cX4_serverOf 195 = .ok (.getfield 26, 3) := by decide +kernel
theorem dX4_serverOf_198 : decode cX4_serverOf 198 = .ok (.iload_n 1, 1) := by decide +kernel
theorem dX4_serverOf_199 : decode cX4_serverOf 199 = .ok (.iaload, 1) := by decide +kernel
theorem dX4_serverOf_200 : decode cX4_serverOf 200 = .ok (.ireturn, 1) := by decide +kernel
theorem dX4_serverOf_201 : decode cX4_serverOf 201 = .ok (.aload_n 0, 1) := by decide +kernel
theorem dX4_serverOf_202 : decode cX4_serverOf 202 = .ok (.getfield 29, 3) := by decide +kernel
theorem dX4_serverOf_205 : decode cX4_serverOf 205 = .ok (.iload_n 1, 1) := by decide +kernel
theorem dX4_serverOf_206 : decode cX4_serverOf 206 = .ok (.iaload, 1) := by decide +kernel
theorem dX4_serverOf_207 : decode cX4_serverOf 207 = .ok (.ireturn, 1) := by decide +kernel
theorem dX4_serverOf_208 : decode cX4_serverOf 208 = .ok (.aload_n 0, 1) := by decide +kernel
theorem dX4_serverOf_209 : decode cX4_serverOf 209 = .ok (.getfield 32, 3) := by decide +kernel
theorem dX4_serverOf_212 : decode cX4_serverOf 212 = .ok (.iload_n 1, 1) := by decide +kernel
theorem dX4_serverOf_213 : decode cX4_serverOf 213 = .ok (.iaload, 1) := by decide +kernel
theorem dX4_serverOf_214 : decode cX4_serverOf 214 = .ok (.ireturn, 1) := by decide +kernel
theorem dX4_serverOf_215 : decode cX4_serverOf 215 = .ok (.aload_n 0, 1) := by decide +kernel
theorem dX4_serverOf_216 : decode cX4_serverOf 216 = .ok (.getfield 35, 3) := by decide +kernel
theorem dX4_serverOf_219 : decode cX4_serverOf 219 = .ok (.iload_n 1, 1) := by decide +kernel
theorem dX4_serverOf_220 : decode cX4_serverOf 220 = .ok (.iaload, 1) := by decide +kernel
theorem dX4_serverOf_221 : decode cX4_serverOf 221 = .ok (.ireturn, 1) := by decide +kernel
theorem dX4_serverOf_222 : decode cX4_serverOf 222 = .ok (.aload_n 0, 1) := by decide +kernel
theorem dX4_serverOf_223 : decode cX4_serverOf 223 = .ok (.bipush (-2), 2) := by decide +kernel
theorem dX4_serverOf_225 : decode cX4_serverOf 225 = .ok (.invokevirtual 124, 3) := by decide +kernel
theorem dX4_serverOf_228 : decode cX4_serverOf 228 = .ok (.ireturn, 1) := by decide +kernel
set_option maxRecDepth 20000 in
theorem ggX4_mark_X4_isServer : GoodIn wsX4_mark wsX4_isServer := goodIn_r _ [5, 6, 7, 8, 4, 9, 20, 21, 22, 23, 24, 25, 26, 27, 28, 29, 30, 31, 32, 33, 34, 35, 36, 37, 38, 39, 40, 41, 42, 43, 44, 45, 46, 47, 48, 49, 50, 51, 52, 53, 54, 55, 56, 57, 58, 59, 60, 61, 62] (by decide +kernel) (by decide +kernel)
set_option maxRecDepth 20000 in
theorem gX4_mark_X4_isServer : GoodIn wsX4_mark (wsV RX4 128 RX4 yX4_isServer wsX4_isServer) := goodIn_app (goodIn_of _ (by decide +kernel)) ggX4_mark_X4_isServer
set_option maxRecDepth 20000 in
theorem ggX4_mark_X4_refuse : GoodIn wsX4_mark wsX4_refuse := goodIn_r _ [13, 14, 20, 21, 22, 23, 24, 25, 26, 27, 28, 29, 30, 31, 32, 33, 34, 35, 36, 37, 38, 39, 40, 41, 42, 43, 44, 45, 46, 47, 48, 49, 50, 51, 52, 53, 54, 55, 56, 57, 58, 59, 60, 61, 62] (by decide +kernel) (by decide +kernel)
set_option maxRecDepth 20000 in
theorem gX4_mark_X4_refuse : GoodIn wsX4_mark (wsV RX4 124 RX4 yX4_refuse wsX4_refuse) := goodIn_app (goodIn_of _ (by decide +kernel)) ggX4_mark_X4_refuse
set_option maxRecDepth 20000 in
theorem ggX4_mark_X4_isIn : GoodIn wsX4_mark wsX4_isIn := goodIn_r _ [9] (by decide +kernel) (by decide +kernel)
set_option maxRecDepth 20000 in
theorem gX4_mark_X4_isIn : GoodIn wsX4_mark (va_wsS RX4 117 yX4_isIn wsX4_isIn) := goodIn_app (goodIn_of _ (by decide +kernel)) ggX4_mark_X4_isIn
set_option maxRecDepth 20000 in
theorem ggX4_mark_X4_markOf : GoodIn wsX4_mark wsX4_markOf := goodIn_r _ [17, 18, 19] (by decide +kernel) (by decide +kernel)
set_option maxRecDepth 20000 in
theorem gX4_mark_X4_markOf : GoodIn wsX4_mark (va_wsS RX4 144 yX4_markOf wsX4_markOf) := goodIn_app (goodIn_of _ (by decide +kernel)) ggX4_mark_X4_markOf
theorem dX4_mark_0 : decode cX4_mark 0 = .ok (.aload_n 0, 1) := by decide +kernel
theorem dX4_mark_1 : decode cX4_mark 1 = .ok (.iload_n 1, 1) := by decide +kernel
theorem dX4_mark_2 : decode cX4_mark 2 = .ok (.invokevirtual 128, 3) := by decide +kernel
theorem dX4_mark_5 : decode cX4_mark 5 = .ok (.ifCond .ne 9, 3) := by decide +kernel
theorem dX4_mark_8 : decode cX4_mark 8 = .ok (.aload_n 0, 1) := by decide +kernel
theorem dX4_mark_9 : decode cX4_mark 9 = .ok (.iconst (-1), 1) := by decide +kernel
theorem dX4_mark_10 : decode cX4_mark 10 = .ok (.invokevirtual 124, 3) := by decide +kernel
theorem dX4_mark_13 : decode cX4_mark 13 = .ok (.ireturn, 1) := by decide +kernel
theorem dX4_mark_14 : decode cX4_mark 14 = .ok (.iload_n 2, 1) := by decide +kernel
theorem dX4_mark_15 : decode cX4_mark 15 = .ok (.iconst 4, 1) := by decide +kernel
theorem dX4_mark_16 : decode cX4_mark 16 = .ok (.invokestatic 117, 3) := by decide +kernel
theorem dX4_mark_19 : decode cX4_mark 19 = .ok (.ifCond .eq 11, 3) := by decide +kernel
theorem dX4_mark_22 : decode cX4_mark 22 = .ok (.iload_n 1, 1) := by decide +kernel
theorem dX4_mark_23 : decode cX4_mark 23 = .ok (.iload_n 2, 1) := by decide +kernel
theorem dX4_mark_24 : decode cX4_mark 24 = .ok (.invokestatic 144, 3) := by decide +kernel
theorem dX4_mark_27 : decode cX4_mark 27 = .ok (.goto 9, 3) := by decide +kernel
theorem dX4_mark_30 : decode cX4_mark 30 = .ok (.aload_n 0, 1) := by decide +kernel
theorem dX4_mark_31 : decode cX4_mark 31 = .ok (.bipush (-2), 2) := by decide +kernel
theorem dX4_mark_33 : decode cX4_mark 33 = .ok (.invokevirtual 124, 3) := by decide +kernel
theorem dX4_mark_36 : decode cX4_mark 36 = .ok (.ireturn, 1) := by decide +kernel
set_option maxRecDepth 20000 in
theorem ggX4_share_X4_isServer : GoodIn wsX4_share wsX4_isServer := goodIn_r _ [7, 8, 9, 10, 6, 11, 17, 18, 19, 20, 21, 22, 23, 24, 25, 26, 27, 28, 29, 30, 31, 32, 33, 34, 35, 36, 37, 38, 39, 40, 41, 42, 43, 44, 45, 46, 47, 48, 49, 50, 51, 52, 53, 54, 55, 56, 57, 58, 59] (by decide +kernel) (by decide +kernel)
set_option maxRecDepth 20000 in
theorem gX4_share_X4_isServer : GoodIn wsX4_share (wsV RX4 128 RX4 yX4_isServer wsX4_isServer) := goodIn_app (goodIn_of _ (by decide +kernel)) ggX4_share_X4_isServer
set_option maxRecDepth 20000 in
theorem ggX4_share_X4_refuse : GoodIn wsX4_share wsX4_refuse := goodIn_r _ [15, 16, 17, 18, 19, 20, 21, 22, 23, 24, 25, 26, 27, 28, 29, 30, 31, 32, 33, 34, 35, 36, 37, 38, 39, 40, 41, 42, 43, 44, 45, 46, 47, 48, 49, 50, 51, 52, 53, 54, 55, 56, 57, 58, 59] (by decide +kernel) (by decide +kernel)
set_option maxRecDepth 20000 in
theorem gX4_share_X4_refuse : GoodIn wsX4_share (wsV RX4 124 RX4 yX4_refuse wsX4_refuse) := goodIn_app (goodIn_of _ (by decide +kernel)) ggX4_share_X4_refuse
theorem dX4_share_0 : decode cX4_share 0 = .ok (.aload_n 0, 1) := by decide +kernel
theorem dX4_share_1 : decode cX4_share 1 = .ok (.iload_n 1, 1) := by decide +kernel
theorem dX4_share_2 : decode cX4_share 2 = .ok (.invokevirtual 128, 3) := by decide +kernel
theorem dX4_share_5 : decode cX4_share 5 = .ok (.ifCond .ne 9, 3) := by decide +kernel
theorem dX4_share_8 : decode cX4_share 8 = .ok (.aload_n 0, 1) := by decide +kernel
theorem dX4_share_9 : decode cX4_share 9 = .ok (.iconst (-1), 1) := by decide +kernel
theorem dX4_share_10 : decode cX4_share 10 = .ok (.invokevirtual 124, 3) := by decide +kernel
theorem dX4_share_13 : decode cX4_share 13 = .ok (.ireturn, 1) := by decide +kernel
theorem dX4_share_14 : decode cX4_share 14 = .ok (.aload_n 0, 1) := by decide +kernel
theorem dX4_share_15 : decode cX4_share 15 = .ok (.getfield 160, 3) := by decide +kernel
theorem dX4_share_18 : decode cX4_share 18 = .ok (.ifCond .ne 7, 3) := by decide +kernel
theorem dX4_share_21 : decode cX4_share 21 = .ok (.iconst 0, 1) := by decide +kernel
theorem dX4_share_22 : decode cX4_share 22 = .ok (.goto 18, 3) := by decide +kernel
theorem dX4_share_25 : decode cX4_share 25 = .ok (.sipush 1000, 3) := by decide +kernel
theorem dX4_share_28 : decode cX4_share 28 = .ok (.aload_n 0, 1) := by decide +kernel
theorem dX4_share_29 : decode cX4_share 29 = .ok (.getfield 44, 3) := by decide +kernel
theorem dX4_share_32 : decode cX4_share 32 = .ok (.iload_n 1, 1) := by decide +kernel
theorem dX4_share_33 : decode cX4_share 33 = .ok (.iaload, 1) := by decide +kernel
theorem dX4_share_34 : decode cX4_share 34 = .ok (.imul, 1) := by decide +kernel
theorem dX4_share_35 : decode cX4_share 35 = .ok (.aload_n 0, 1) := by decide +kernel
theorem dX4_share_36 : decode cX4_share 36 = .ok (.getfield 160, 3) := by decide +kernel
theorem dX4_share_39 : decode cX4_share 39 = .ok (.idiv, 1) := by decide +kernel
theorem dX4_share_40 : decode cX4_share 40 = .ok (.ireturn, 1) := by decide +kernel
set_option maxRecDepth 20000 in
theorem ggX4_rule_X4_isIn : GoodIn wsX4_rule wsX4_isIn := goodIn_r _ [5] (by decide +kernel) (by decide +kernel)
set_option maxRecDepth 20000 in
theorem gX4_rule_X4_isIn : GoodIn wsX4_rule (va_wsS RX4 117 yX4_isIn wsX4_isIn) := goodIn_app (goodIn_of _ (by decide +kernel)) ggX4_rule_X4_isIn
set_option maxRecDepth 20000 in
theorem ggX4_rule_X4_refuse : GoodIn wsX4_rule wsX4_refuse := goodIn_r _ [9, 10, 11, 12, 13, 14, 15, 16, 17, 18, 19, 20, 21, 22, 23, 24, 25, 26, 27, 28, 29, 30, 31, 32, 33, 34, 35, 36, 37, 38, 39, 40, 41, 42, 43, 44, 45, 46, 47, 48, 49, 50, 51, 52, 53] (by decide +kernel) (by decide +kernel)
set_option maxRecDepth 20000 in
theorem gX4_rule_X4_refuse : GoodIn wsX4_rule (wsV RX4 124 RX4 yX4_refuse wsX4_refuse) := goodIn_app (goodIn_of _ (by decide +kernel)) ggX4_rule_X4_refuse
theorem dX4_rule_0 : decode cX4_rule 0 = .ok (.iload_n 1, 1) := by decide +kernel
theorem dX4_rule_1 : decode cX4_rule 1 = .ok (.iconst 4, 1) := by decide +kernel
theorem dX4_rule_2 : decode cX4_rule 2 = .ok (.invokestatic 117, 3) := by decide +kernel
theorem dX4_rule_5 : decode cX4_rule 5 = .ok (.ifCond .ne 9, 3) := by decide +kernel
theorem dX4_rule_8 : decode cX4_rule 8 = .ok (.aload_n 0, 1) := by decide +kernel
theorem dX4_rule_9 : decode cX4_rule 9 = .ok (.iconst (-1), 1) := by decide +kernel
theorem dX4_rule_10 : decode cX4_rule 10 = .ok (.invokevirtual 124, 3) := by decide +kernel
theorem dX4_rule_13 : decode cX4_rule 13 = .ok (.ireturn, 1) := by decide +kernel
theorem dX4_rule_14 : decode cX4_rule 14 = .ok (.aload_n 0, 1) := by decide +kernel
theorem dX4_rule_15 : decode cX4_rule 15 = .ok (.getfield 136, 3) := by decide +kernel
theorem dX4_rule_18 : decode cX4_rule 18 = .ok (.istore_n 2, 1) := by decide +kernel
theorem dX4_rule_19 : decode cX4_rule 19 = .ok (.aload_n 0, 1) := by decide +kernel
theorem dX4_rule_20 : decode cX4_rule 20 = .ok (.iload_n 1, 1) := by decide +kernel
theorem dX4_rule_21 : decode cX4_rule 21 = .ok (.putfield 136, 3) := by decide +kernel
theorem dX4_rule_24 : decode cX4_rule 24 = .ok (.iload_n 2, 1) := by decide +kernel
theorem dX4_rule_25 : decode cX4_rule 25 = .ok (.ireturn, 1) := by decide +kernel
set_option maxRecDepth 20000 in
theorem ggX4_limit_X4_refuse : GoodIn wsX4_limit wsX4_refuse := goodIn_r _ [6, 7, 8, 9, 10, 11, 12, 13, 14, 15, 16, 17, 18, 19, 20, 21, 22, 23, 24, 25, 26, 27, 28, 29, 30, 31, 32, 33, 34, 35, 36, 37, 38, 39, 40, 41, 42, 43, 44, 45, 46, 47, 48, 49, 50] (by decide +kernel) (by decide +kernel)
set_option maxRecDepth 20000 in
theorem gX4_limit_X4_refuse : GoodIn wsX4_limit (wsV RX4 124 RX4 yX4_refuse wsX4_refuse) := goodIn_app (goodIn_of _ (by decide +kernel)) ggX4_limit_X4_refuse
theorem dX4_limit_0 : decode cX4_limit 0 = .ok (.iload_n 1, 1) := by decide +kernel
theorem dX4_limit_1 : decode cX4_limit 1 = .ok (.iconst 1, 1) := by decide +kernel
theorem dX4_limit_2 : decode cX4_limit 2 = .ok (.if_icmp .ge 10, 3) := by decide +kernel
theorem dX4_limit_5 : decode cX4_limit 5 = .ok (.aload_n 0, 1) := by decide +kernel
theorem dX4_limit_6 : decode cX4_limit 6 = .ok (.bipush (-4), 2) := by decide +kernel
theorem dX4_limit_8 : decode cX4_limit 8 = .ok (.invokevirtual 124, 3) := by decide +kernel
theorem dX4_limit_11 : decode cX4_limit 11 = .ok (.ireturn, 1) := by decide +kernel
theorem dX4_limit_12 : decode cX4_limit 12 = .ok (.iload_n 1, 1) := by decide +kernel
theorem dX4_limit_13 : decode cX4_limit 13 = .ok (.bipush 10, 2) := by decide +kernel
theorem dX4_limit_15 : decode cX4_limit 15 = .ok (.if_icmp .le 10, 3) := by decide +kernel
theorem dX4_limit_18 : decode cX4_limit 18 = .ok (.aload_n 0, 1) := by decide +kernel
theorem dX4_limit_19 : decode cX4_limit 19 = .ok (.bipush (-6), 2) := by decide +kernel
theorem dX4_limit_21 : decode cX4_limit 21 = .ok (.invokevirtual 124, 3) := by decide +kernel
theorem dX4_limit_24 : decode cX4_limit 24 = .ok (.ireturn, 1) := by decide +kernel
theorem dX4_limit_25 : decode cX4_limit 25 = .ok (.aload_n 0, 1) := by decide +kernel
theorem dX4_limit_26 : decode cX4_limit 26 = .ok (.getfield 13, 3) := by decide +kernel
theorem dX4_limit_29 : decode cX4_limit 29 = .ok (.istore_n 2, 1) := by decide +kernel
theorem dX4_limit_30 : decode cX4_limit 30 = .ok (.aload_n 0, 1) := by decide +kernel
theorem dX4_limit_31 : decode cX4_limit 31 = .ok (.iload_n 1, 1) := by decide +kernel
theorem dX4_limit_32 : decode cX4_limit 32 = .ok (.putfield 13, 3) := by decide +kernel
theorem dX4_limit_35 : decode cX4_limit 35 = .ok (.iload_n 2, 1) := by decide +kernel
theorem dX4_limit_36 : decode cX4_limit 36 = .ok (.ireturn, 1) := by decide +kernel
set_option maxRecDepth 20000 in
theorem ggX4_budget_X4_refuse : GoodIn wsX4_budget wsX4_refuse := goodIn_r _ [6, 7, 8, 9, 10, 11, 12, 13, 14, 15, 16, 17, 18, 19, 20, 21, 22, 23, 24, 25, 26, 27, 28, 29, 30, 31, 32, 33, 34, 35, 36, 37, 38, 39, 40, 41, 42, 43, 44, 45, 46, 47, 48, 49, 50] (by decide +kernel) (by decide +kernel)
set_option maxRecDepth 20000 in
theorem gX4_budget_X4_refuse : GoodIn wsX4_budget (wsV RX4 124 RX4 yX4_refuse wsX4_refuse) := goodIn_app (goodIn_of _ (by decide +kernel)) ggX4_budget_X4_refuse
theorem dX4_budget_0 : decode cX4_budget 0 = .ok (.iload_n 1, 1) := by decide +kernel
theorem dX4_budget_1 : decode cX4_budget 1 = .ok (.ifCond .ge 10, 3) := by decide +kernel
theorem dX4_budget_4 : decode cX4_budget 4 = .ok (.aload_n 0, 1) := by decide +kernel
theorem dX4_budget_5 : decode cX4_budget 5 = .ok (.bipush (-4), 2) := by decide +kernel
theorem dX4_budget_7 : decode cX4_budget 7 = .ok (.invokevirtual 124, 3) := by decide +kernel
theorem dX4_budget_10 : decode cX4_budget 10 = .ok (.ireturn, 1) := by decide +kernel
theorem dX4_budget_11 : decode cX4_budget 11 = .ok (.iload_n 1, 1) := by decide +kernel
theorem dX4_budget_12 : decode cX4_budget 12 = .ok (.bipush 100, 2) := by decide +kernel
theorem dX4_budget_14 : decode cX4_budget 14 = .ok (.if_icmp .le 10, 3) := by decide +kernel
theorem dX4_budget_17 : decode cX4_budget 17 = .ok (.aload_n 0, 1) := by decide +kernel
theorem dX4_budget_18 : decode cX4_budget 18 = .ok (.bipush (-6), 2) := by decide +kernel
theorem dX4_budget_20 : decode cX4_budget 20 = .ok (.invokevirtual 124, 3) := by decide +kernel
theorem dX4_budget_23 : decode cX4_budget 23 = .ok (.ireturn, 1) := by decide +kernel
theorem dX4_budget_24 : decode cX4_budget 24 = .ok (.aload_n 0, 1) := by decide +kernel
theorem dX4_budget_25 : decode cX4_budget 25 = .ok (.getfield 17, 3) := by decide +kernel
theorem dX4_budget_28 : decode cX4_budget 28 = .ok (.istore_n 2, 1) := by decide +kernel
theorem dX4_budget_29 : decode cX4_budget 29 = .ok (.aload_n 0, 1) := by decide +kernel
theorem dX4_budget_30 : decode cX4_budget 30 = .ok (.iload_n 1, 1) := by decide +kernel
theorem dX4_budget_31 : decode cX4_budget 31 = .ok (.putfield 17, 3) := by decide +kernel
theorem dX4_budget_34 : decode cX4_budget 34 = .ok (.iload_n 2, 1) := by decide +kernel
theorem dX4_budget_35 : decode cX4_budget 35 = .ok (.ireturn, 1) := by decide +kernel
set_option maxRecDepth 20000 in
theorem ggX4_hedge_X4_refuse : GoodIn wsX4_hedge wsX4_refuse := goodIn_r _ [6, 7, 8, 9, 10, 11, 12, 13, 14, 15, 16, 17, 18, 19, 20, 21, 22, 23, 24, 25, 26, 27, 28, 29, 30, 31, 32, 33, 34, 35, 36, 37, 38, 39, 40, 41, 42, 43, 44, 45, 46, 47, 48, 49, 50] (by decide +kernel) (by decide +kernel)
set_option maxRecDepth 20000 in
theorem gX4_hedge_X4_refuse : GoodIn wsX4_hedge (wsV RX4 124 RX4 yX4_refuse wsX4_refuse) := goodIn_app (goodIn_of _ (by decide +kernel)) ggX4_hedge_X4_refuse
theorem dX4_hedge_0 : decode cX4_hedge 0 = .ok (.iload_n 1, 1) := by decide +kernel
theorem dX4_hedge_1 : decode cX4_hedge 1 = .ok (.ifCond .ge 10, 3) := by decide +kernel
theorem dX4_hedge_4 : decode cX4_hedge 4 = .ok (.aload_n 0, 1) := by decide +kernel
theorem dX4_hedge_5 : decode cX4_hedge 5 = .ok (.bipush (-4), 2) := by decide +kernel
theorem dX4_hedge_7 : decode cX4_hedge 7 = .ok (.invokevirtual 124, 3) := by decide +kernel
theorem dX4_hedge_10 : decode cX4_hedge 10 = .ok (.ireturn, 1) := by decide +kernel
theorem dX4_hedge_11 : decode cX4_hedge 11 = .ok (.iload_n 1, 1) := by decide +kernel
theorem dX4_hedge_12 : decode cX4_hedge 12 = .ok (.sipush 500, 3) := by decide +kernel
theorem dX4_hedge_15 : decode cX4_hedge 15 = .ok (.if_icmp .le 10, 3) := by decide +kernel
theorem dX4_hedge_18 : decode cX4_hedge 18 = .ok (.aload_n 0, 1) := by decide +kernel
theorem dX4_hedge_19 : decode cX4_hedge 19 = .ok (.bipush (-6), 2) := by decide +kernel
theorem dX4_hedge_21 : decode cX4_hedge 21 = .ok (.invokevirtual 124, 3) := by decide +kernel
theorem dX4_hedge_24 : decode cX4_hedge 24 = .ok (.ireturn, 1) := by decide +kernel
theorem dX4_hedge_25 : decode cX4_hedge 25 = .ok (.aload_n 0, 1) := by decide +kernel
theorem dX4_hedge_26 : decode cX4_hedge 26 = .ok (.getfield 139, 3) := by decide +kernel
theorem dX4_hedge_29 : decode cX4_hedge 29 = .ok (.istore_n 2, 1) := by decide +kernel
theorem dX4_hedge_30 : decode cX4_hedge 30 = .ok (.aload_n 0, 1) := by decide +kernel
theorem dX4_hedge_31 : decode cX4_hedge 31 = .ok (.iload_n 1, 1) := by decide +kernel
theorem dX4_hedge_32 : decode cX4_hedge 32 = .ok (.putfield 139, 3) := by decide +kernel
theorem dX4_hedge_35 : decode cX4_hedge 35 = .ok (.iload_n 2, 1) := by decide +kernel
theorem dX4_hedge_36 : decode cX4_hedge 36 = .ok (.ireturn, 1) := by decide +kernel
theorem dX4_mays_0 : decode cX4_mays 0 = .ok (.iconst 0, 1) := by decide +kernel
theorem dX4_mays_1 : decode cX4_mays 1 = .ok (.istore_n 2, 1) := by decide +kernel
theorem dX4_mays_2 : decode cX4_mays 2 = .ok (.iconst 0, 1) := by decide +kernel
theorem dX4_mays_3 : decode cX4_mays 3 = .ok (.istore_n 3, 1) := by decide +kernel
theorem dX4_mays_4 : decode cX4_mays 4 = .ok (.iload_n 3, 1) := by decide +kernel
theorem dX4_mays_5 : decode cX4_mays 5 = .ok (.aload_n 0, 1) := by decide +kernel
theorem dX4_mays_6 : decode cX4_mays 6 = .ok (.getfield 114, 3) := by decide +kernel
theorem dX4_mays_9 : decode cX4_mays 9 = .ok (.if_icmp .ge 66, 3) := by decide +kernel
theorem dX4_mays_12 : decode cX4_mays 12 = .ok (.iload_n 1, 1) := by decide +kernel
theorem dX4_mays_13 : decode cX4_mays 13 = .ok (.iload_n 3, 1) := by decide +kernel
theorem dX4_mays_14 : decode cX4_mays 14 = .ok (.ishr, 1) := by decide +kernel
theorem dX4_mays_15 : decode cX4_mays 15 = .ok (.iconst 1, 1) := by decide +kernel
theorem dX4_mays_16 : decode cX4_mays 16 = .ok (.iand, 1) := by decide +kernel
theorem dX4_mays_17 : decode cX4_mays 17 = .ok (.ifCond .ne 52, 3) := by decide +kernel
theorem dX4_mays_20 : decode cX4_mays 20 = .ok (.aload_n 0, 1) := by decide +kernel
theorem dX4_mays_21 : decode cX4_mays 21 = .ok (.getfield 41, 3) := by decide +kernel
theorem dX4_mays_24 : decode cX4_mays 24 = .ok (.iload_n 3, 1) := by decide +kernel
theorem dX4_mays_25 : decode cX4_mays 25 = .ok (.iaload, 1) := by decide +kernel
theorem dX4_mays_26 : decode cX4_mays 26 = .ok (.aload_n 0, 1) := by decide +kernel
theorem dX4_mays_27 : decode cX4_mays 27 = .ok (.getfield 26, 3) := by decide +kernel
theorem dX4_mays_30 : decode cX4_mays 30 = .ok (.iload_n 3, 1) := by decide +kernel
theorem dX4_mays_31 : decode cX4_mays 31 = .ok (.iaload, 1) := by decide +kernel
theorem dX4_mays_32 : decode cX4_mays 32 = .ok (.if_icmp .ge 37, 3) := by decide +kernel
theorem dX4_mays_35 : decode cX4_mays 35 = .ok (.aload_n 0, 1) := by decide +kernel
theorem dX4_mays_36 : decode cX4_mays 36 = .ok (.getfield 38, 3) := by decide +kernel
theorem dX4_mays_39 : decode cX4_mays 39 = .ok (.iload_n 3, 1) := by decide +kernel
theorem dX4_mays_40 : decode cX4_mays 40 = .ok (.iaload, 1) := by decide +kernel
theorem dX4_mays_41 : decode cX4_mays 41 = .ok (.ifCond .eq 22, 3) := by decide +kernel
theorem dX4_mays_44 : decode cX4_mays 44 = .ok (.aload_n 0, 1) := by decide +kernel
theorem dX4_mays_45 : decode cX4_mays 45 = .ok (.getfield 38, 3) := by decide +kernel
theorem dX4_mays_48 : decode cX4_mays 48 = .ok (.iload_n 3, 1) := by decide +kernel
theorem dX4_mays_49 : decode cX4_mays 49 = .ok (.iaload, 1) := by decide +kernel
theorem dX4_mays_50 : decode cX4_mays 50 = .ok (.iconst 2, 1) := by decide +kernel
theorem dX4_mays_51 : decode cX4_mays 51 = .ok (.if_icmp .ne 18, 3) := by decide +kernel
theorem dX4_mays_54 : decode cX4_mays 54 = .ok (.aload_n 0, 1) := by decide +kernel
theorem dX4_mays_55 : decode cX4_mays 55 = .ok (.getfield 41, 3) := by decide +kernel
theorem dX4_mays_58 : decode cX4_mays 58 = .ok (.iload_n 3, 1) := by decide +kernel
theorem dX4_mays_59 : decode cX4_mays 59 = .ok (.iaload, 1) := by decide +kernel
theorem dX4_mays_60 : decode cX4_mays 60 = .ok (.ifCond .ne 9, 3) := by decide +kernel
theorem dX4_mays_63 : decode cX4_mays 63 = .ok (.iload_n 2, 1) := by decide +kernel
theorem dX4_mays_64 : decode cX4_mays 64 = .ok (.iconst 1, 1) := by decide +kernel
theorem dX4_mays_65 : decode cX4_mays 65 = .ok (.iload_n 3, 1) := by decide +kernel
theorem dX4_mays_66 : decode cX4_mays 66 = .ok (.ishl, 1) := by decide +kernel
theorem dX4_mays_67 : decode cX4_mays 67 = .ok (.ior, 1) := by decide +kernel
theorem dX4_mays_68 : decode cX4_mays 68 = .ok (.istore_n 2, 1) := by decide +kernel
theorem dX4_mays_69 : decode cX4_mays 69 = .ok (.iinc 3 1, 3) := by decide +kernel
theorem dX4_mays_72 : decode cX4_mays 72 = .ok (.goto (-68), 3) := by decide +kernel
theorem dX4_mays_75 : decode cX4_mays 75 = .ok (.iload_n 2, 1) := by decide +kernel
theorem dX4_mays_76 : decode cX4_mays 76 = .ok (.ireturn, 1) := by decide +kernel
set_option maxRecDepth 20000 in
theorem ggX4_asksFor_X4_mays : GoodIn wsX4_asksFor wsX4_mays := goodIn_r _ [7, 8, 9, 10, 11, 58, 59, 60, 61, 62, 63, 64, 65, 66, 67, 68, 69, 70, 71, 72, 73, 74, 75, 76, 77, 78, 79, 80, 81, 82, 83, 84, 85, 86, 87, 88, 89, 90, 91, 92, 93, 94, 95, 96, 97, 98, 99, 100] (by decide +kernel) (by decide +kernel)
set_option maxRecDepth 20000 in
theorem gX4_asksFor_X4_mays : GoodIn wsX4_asksFor (wsV RX4 167 RX4 yX4_mays wsX4_mays) := goodIn_app (goodIn_of _ (by decide +kernel)) ggX4_asksFor_X4_mays
set_option maxRecDepth 20000 in
theorem ggX4_asksFor_X4_picked : GoodIn wsX4_asksFor wsX4_picked := goodIn_r _ [15, 16, 17, 18, 19, 6, 20, 8, 21, 22, 23, 24, 25, 26, 9, 27, 28, 29, 30, 31, 32, 33, 34, 35, 36, 37, 38, 39, 40, 58, 59, 60, 61, 62, 63, 64, 65, 66, 67, 68, 69, 70, 71, 72, 73, 74, 75, 76, 77, 78, 79, 80, 81, 82, 83, 84, 85, 86, 87, 88, 89, 90, 91, 92, 93, 94, 95, 96, 97, 98, 99, 100] (by decide +kernel) (by decide +kernel)
set_option maxRecDepth 20000 in
theorem gX4_asksFor_X4_picked : GoodIn wsX4_asksFor (wsV RX4 170 RX4 yX4_picked wsX4_picked) := goodIn_app (goodIn_of _ (by decide +kernel)) ggX4_asksFor_X4_picked
set_option maxRecDepth 20000 in
theorem ggX4_asksFor_X4_ask : GoodIn wsX4_asksFor wsX4_ask := goodIn_r _ [44, 45, 46, 9, 47, 48, 49, 50, 51, 52, 53, 54, 55, 56, 1, 57, 58, 59, 60, 61, 62, 63, 64, 65, 66, 67, 68, 69, 70, 71, 72, 73, 74, 75, 76, 77, 78, 79, 80, 81, 82, 83, 84, 85, 86, 87, 88, 89, 90, 91, 92, 93, 94, 95, 96, 97, 98, 99, 100] (by decide +kernel) (by decide +kernel)
set_option maxRecDepth 20000 in
theorem gX4_asksFor_X4_ask : GoodIn wsX4_asksFor (wsV RX4 174 RX4 yX4_ask wsX4_ask) := goodIn_app (goodIn_of _ (by decide +kernel)) ggX4_asksFor_X4_ask
theorem dX4_asksFor_0 : decode cX4_asksFor 0 = .ok (.aload_n 0, 1) := by decide +kernel
theorem dX4_asksFor_1 : decode cX4_asksFor 1 = .ok (.aload_n 0, 1) := by decide +kernel
theorem dX4_asksFor_2 : decode cX4_asksFor 2 = .ok (.getfield 83, 3) := by decide +kernel
theorem dX4_asksFor_5 : decode cX4_asksFor 5 = .ok (.iload_n 1, 1) := by decide +kernel
theorem dX4_asksFor_6 : decode cX4_asksFor 6 = .ok (.iaload, 1) := by decide +kernel
theorem dX4_asksFor_7 : decode cX4_asksFor 7 = .ok (.invokevirtual 167, 3) := by decide +kernel
theorem dX4_asksFor_10 : decode cX4_asksFor 10 = .ok (.istore_n 2, 1) := by decide +kernel
theorem dX4_asksFor_11 : decode cX4_asksFor 11 = .ok (.iload_n 2, 1) := by decide +kernel
theorem dX4_asksFor_12 : decode cX4_asksFor 12 = .ok (.ifCond .ne 5, 3) := by decide +kernel
theorem dX4_asksFor_15 : decode cX4_asksFor 15 = .ok (.iconst 0, 1) := by decide +kernel
theorem dX4_asksFor_16 : decode cX4_asksFor 16 = .ok (.ireturn, 1) := by decide +kernel
theorem dX4_asksFor_17 : decode cX4_asksFor 17 = .ok (.aload_n 0, 1) := by decide +kernel
theorem dX4_asksFor_18 : decode cX4_asksFor 18 = .ok (.iload_n 1, 1) := by decide +kernel
theorem dX4_asksFor_19 : decode cX4_asksFor 19 = .ok (.aload_n 0, 1) := by decide +kernel
theorem dX4_asksFor_20 : decode cX4_asksFor 20 = .ok (.iload_n 2, 1) := by decide +kernel
theorem dX4_asksFor_21 : decode cX4_asksFor 21 = .ok (.aload_n 0, 1) := by decide +kernel
theorem dX4_asksFor_22 : decode cX4_asksFor 22 = .ok (.getfield 68, 3) := by decide +kernel
theorem dX4_asksFor_25 : decode cX4_asksFor 25 = .ok (.iload_n 1, 1) := by decide +kernel
theorem dX4_asksFor_26 : decode cX4_asksFor 26 = .ok (.iaload, 1) := by decide +kernel
theorem dX4_asksFor_27 : decode cX4_asksFor 27 = .ok (.iconst 1, 1) := by decide +kernel
theorem dX4_asksFor_28 : decode cX4_asksFor 28 = .ok (.invokevirtual 170, 3) := by decide +kernel
theorem dX4_asksFor_31 : decode cX4_asksFor 31 = .ok (.invokevirtual 174, 3) := by decide +kernel
theorem dX4_asksFor_34 : decode cX4_asksFor 34 = .ok (.iconst 1, 1) := by decide +kernel
theorem dX4_asksFor_35 : decode cX4_asksFor 35 = .ok (.ireturn, 1) := by decide +kernel
set_option maxRecDepth 20000 in
theorem ggX4_pick_X4_refuse : GoodIn wsX4_pick wsX4_refuse := goodIn_r _ [6, 7, 44, 45, 46, 47, 48, 49, 50, 51, 52, 53, 54, 55, 56, 57, 58, 59, 60, 61, 62, 63, 64, 65, 66, 67, 68, 69, 70, 71, 72, 73, 74, 75, 76, 77, 78, 79, 80, 81, 82, 83, 84, 85, 86] (by decide +kernel) (by decide +kernel)
set_option maxRecDepth 20000 in
theorem gX4_pick_X4_refuse : GoodIn wsX4_pick (wsV RX4 124 RX4 yX4_refuse wsX4_refuse) := goodIn_app (goodIn_of _ (by decide +kernel)) ggX4_pick_X4_refuse
set_option maxRecDepth 20000 in
theorem ggX4_pick_X4_mays : GoodIn wsX4_pick wsX4_mays := goodIn_r _ [11, 12, 13, 14, 15, 44, 45, 46, 47, 48, 49, 50, 51, 52, 53, 54, 55, 56, 57, 58, 59, 60, 61, 62, 63, 64, 65, 66, 67, 68, 69, 70, 71, 72, 73, 74, 75, 76, 77, 78, 79, 80, 81, 82, 83, 84, 85, 86] (by decide +kernel) (by decide +kernel)
set_option maxRecDepth 20000 in
theorem gX4_pick_X4_mays : GoodIn wsX4_pick (wsV RX4 167 RX4 yX4_mays wsX4_mays) := goodIn_app (goodIn_of _ (by decide +kernel)) ggX4_pick_X4_mays
set_option maxRecDepth 20000 in
theorem ggX4_pick_X4_picked : GoodIn wsX4_pick wsX4_picked := goodIn_r _ [19, 20, 21, 22, 23, 5, 24, 12, 25, 26, 27, 28, 29, 30, 13, 31, 32, 33, 34, 1, 35, 36, 37, 38, 39, 40, 41, 42, 43, 44, 45, 46, 47, 48, 49, 50, 51, 52, 53, 54, 55, 56, 57, 58, 59, 60, 61, 62, 63, 64, 65, 66, 67, 68, 69, 70, 71, 72, 73, 74, 75, 76, 77, 78, 79, 80, 81, 82, 83, 84, 85, 86] (by decide +kernel) (by decide +kernel)
set_option maxRecDepth 20000 in
theorem gX4_pick_X4_picked : GoodIn wsX4_pick (wsV RX4 170 RX4 yX4_picked wsX4_picked) := goodIn_app (goodIn_of _ (by decide +kernel)) ggX4_pick_X4_picked
theorem dX4_pick_0 : decode cX4_pick 0 = .ok (.iload_n 1, 1) := by decide +kernel
theorem dX4_pick_1 : decode cX4_pick 1 = .ok (.ifCond .ge 10, 3) := by decide +kernel
theorem dX4_pick_4 : decode cX4_pick 4 = .ok (.aload_n 0, 1) := by decide +kernel
theorem dX4_pick_5 : decode cX4_pick 5 = .ok (.bipush (-4), 2) := by decide +kernel
theorem dX4_pick_7 : decode cX4_pick 7 = .ok (.invokevirtual 124, 3) := by decide +kernel
theorem dX4_pick_10 : decode cX4_pick 10 = .ok (.ireturn, 1) := by decide +kernel
theorem dX4_pick_11 : decode cX4_pick 11 = .ok (.iload_n 1, 1) := by decide +kernel
theorem dX4_pick_12 : decode cX4_pick 12 = .ok (.ldc 143, 2) := by decide +kernel
theorem dX4_pick_14 : decode cX4_pick 14 = .ok (.if_icmp .lt 10, 3) := by decide +kernel
theorem dX4_pick_17 : decode cX4_pick 17 = .ok (.aload_n 0, 1) := by decide +kernel
theorem dX4_pick_18 : decode cX4_pick 18 = .ok (.bipush (-6), 2) := by decide +kernel
theorem dX4_pick_20 : decode cX4_pick 20 = .ok (.invokevirtual 124, 3) := by decide +kernel
theorem dX4_pick_23 : decode cX4_pick 23 = .ok (.ireturn, 1) := by decide +kernel
theorem dX4_pick_24 : decode cX4_pick 24 = .ok (.aload_n 0, 1) := by decide +kernel
theorem dX4_pick_25 : decode cX4_pick 25 = .ok (.iconst 0, 1) := by decide +kernel
theorem dX4_pick_26 : decode cX4_pick 26 = .ok (.invokevirtual 167, 3) := by decide +kernel
theorem dX4_pick_29 : decode cX4_pick 29 = .ok (.istore_n 2, 1) := by decide +kernel
theorem dX4_pick_30 : decode cX4_pick 30 = .ok (.iload_n 2, 1) := by decide +kernel
theorem dX4_pick_31 : decode cX4_pick 31 = .ok (.ifCond .ne 8, 3) := by decide +kernel
theorem dX4_pick_34 : decode cX4_pick 34 = .ok (.bipush (-9), 2) := by decide +kernel
theorem dX4_pick_36 : decode cX4_pick 36 = .ok (.goto 10, 3) := by decide +kernel
theorem dX4_pick_39 : decode cX4_pick 39 = .ok (.aload_n 0, 1) := by decide +kernel
theorem dX4_pick_40 : decode cX4_pick 40 = .ok (.iload_n 2, 1) := by decide +kernel
theorem dX4_pick_41 : decode cX4_pick 41 = .ok (.iload_n 1, 1) := by decide +kernel
theorem dX4_pick_42 : decode cX4_pick 42 = .ok (.iconst 0, 1) := by decide +kernel
theorem dX4_pick_43 : decode cX4_pick 43 = .ok (.invokevirtual 170, 3) := by decide +kernel
theorem dX4_pick_46 : decode cX4_pick 46 = .ok (.ireturn, 1) := by decide +kernel
set_option maxRecDepth 20000 in
theorem ggX4_line_X4_isAhead : GoodIn wsX4_line wsX4_isAhead := goodIn_r _ [9, 10, 11, 12, 13, 14, 15, 16, 17, 18, 19, 20, 21, 22, 23, 24, 25, 26, 27, 28, 29, 30, 31, 32, 33, 34, 35, 36, 37, 38, 39, 40, 41, 42, 43, 44, 45, 46, 47, 48, 49, 50, 51, 52, 53, 54] (by decide +kernel) (by decide +kernel)
set_option maxRecDepth 20000 in
theorem gX4_line_X4_isAhead : GoodIn wsX4_line (wsV RX4 215 RX4 yX4_isAhead wsX4_isAhead) := goodIn_app (goodIn_of _ (by decide +kernel)) ggX4_line_X4_isAhead
theorem dX4_line_0 : decode cX4_line 0 = .ok (.aload_n 0, 1) := by decide +kernel
theorem dX4_line_1 : decode cX4_line 1 = .ok (.iconst 0, 1) := by decide +kernel
theorem dX4_line_2 : decode cX4_line 2 = .ok (.putfield 212, 3) := by decide +kernel
theorem dX4_line_5 : decode cX4_line 5 = .ok (.iconst 0, 1) := by decide +kernel
theorem dX4_line_6 : decode cX4_line 6 = .ok (.istore_n 1, 1) := by decide +kernel
theorem dX4_line_7 : decode cX4_line 7 = .ok (.iload_n 1, 1) := by decide +kernel
theorem dX4_line_8 : decode cX4_line 8 = .ok (.aload_n 0, 1) := by decide +kernel
theorem dX4_line_9 : decode cX4_line 9 = .ok (.getfield 121, 3) := by decide +kernel
theorem dX4_line_12 : decode cX4_line 12 = .ok (.if_icmp .ge 83, 3) := by decide +kernel
theorem dX4_line_15 : decode cX4_line 15 = .ok (.aload_n 0, 1) := by decide +kernel
theorem dX4_line_16 : decode cX4_line 16 = .ok (.getfield 77, 3) := by decide +kernel
theorem dX4_line_19 : decode cX4_line 19 = .ok (.iload_n 1, 1) := by decide +kernel
theorem dX4_line_20 : decode cX4_line 20 = .ok (.iaload, 1) := by decide +kernel
theorem dX4_line_21 : decode cX4_line 21 = .ok (.ifCond .eq 6, 3) := by decide +kernel
theorem dX4_line_24 : decode cX4_line 24 = .ok (.goto 65, 3) := by decide +kernel
theorem dX4_line_27 : decode cX4_line 27 = .ok (.aload_n 0, 1) := by decide +kernel
theorem dX4_line_28 : decode cX4_line 28 = .ok (.getfield 212, 3) := by decide +kernel
theorem dX4_line_31 : decode cX4_line 31 = .ok (.istore_n 2, 1) := by decide +kernel
theorem dX4_line_32 : decode cX4_line 32 = .ok (.iload_n 2, 1) := by decide +kernel
theorem dX4_line_33 : decode cX4_line 33 = .ok (.ifCond .le 39, 3) := by decide +kernel
theorem dX4_line_36 : decode cX4_line 36 = .ok (.aload_n 0, 1) := by decide +kernel
theorem dX4_line_37 : decode cX4_line 37 = .ok (.iload_n 1, 1) := by decide +kernel
theorem dX4_line_38 : decode cX4_line 38 = .ok (.aload_n 0, 1) := by decide +kernel
theorem dX4_line_39 : decode cX4_line 39 = .ok (.getfield 111, 3) := by decide +kernel
theorem dX4_line_42 : decode cX4_line 42 = .ok (.iload_n 2, 1) := by decide +kernel
theorem dX4_line_43 : decode cX4_line 43 = .ok (.iconst 1, 1) := by decide +kernel
theorem dX4_line_44 : decode cX4_line 44 = .ok (.isub, 1) := by decide +kernel
theorem dX4_line_45 : decode cX4_line 45 = .ok (.iaload, 1) := by decide +kernel
theorem dX4_line_46 : decode cX4_line 46 = .ok (.invokevirtual 215, 3) := by decide +kernel
theorem dX4_line_49 : decode cX4_line 49 = .ok (.ifCond .eq 23, 3) := by decide +kernel
theorem dX4_line_52 : decode cX4_line 52 = .ok (.aload_n 0, 1) := by decide +kernel
theorem dX4_line_53 : decode cX4_line 53 = .ok (.getfield 111, 3) := by decide +kernel
theorem dX4_line_56 : decode cX4_line 56 = .ok (.iload_n 2, 1) := by decide +kernel
theorem dX4_line_57 : decode cX4_line 57 = .ok (.aload_n 0, 1) := by decide +kernel
theorem dX4_line_58 : decode cX4_line 58 = .ok (.getfield 111, 3) := by decide +kernel
theorem dX4_line_61 : decode cX4_line 61 = .ok (.iload_n 2, 1) := by decide +kernel
theorem dX4_line_62 : decode cX4_line 62 = .ok (.iconst 1, 1) := by decide +kernel
theorem dX4_line_63 : decode cX4_line 63 = .ok (.isub, 1) := by decide +kernel
theorem dX4_line_64 : decode cX4_line 64 = .ok (.iaload, 1) := by decide +kernel
theorem dX4_line_65 : decode cX4_line 65 = .ok (.iastore, 1) := by decide +kernel
theorem dX4_line_66 : decode cX4_line 66 = .ok (.iinc 2 (-1), 3) := by decide +kernel
theorem dX4_line_69 : decode cX4_line 69 = .ok (.goto (-37), 3) := by decide +kernel
theorem dX4_line_72 : decode cX4_line 72 = .ok (.aload_n 0, 1) := by decide +kernel
theorem dX4_line_73 : decode cX4_line 73 = .ok (.getfield 111, 3) := by decide +kernel
theorem dX4_line_76 : decode cX4_line 76 = .ok (.iload_n 2, 1) := by decide +kernel
theorem dX4_line_77 : decode cX4_line 77 = .ok (.iload_n 1, 1) := by decide +kernel
theorem dX4_line_78 : decode cX4_line 78 = .ok (.iastore, 1) := by decide +kernel
theorem dX4_line_79 : decode cX4_line 79 = .ok (.aload_n 0, 1) := by decide +kernel
theorem dX4_line_80 : decode cX4_line 80 = .ok (.dup, 1) := by decide +kernel
theorem dX4_line_81 : decode cX4_line 81 = .ok (.getfield 212, 3) := by decide +kernel
theorem dX4_line_84 : decode cX4_line 84 = .ok (.iconst 1, 1) := by decide +kernel
theorem dX4_line_85 : decode cX4_line 85 = .ok (.iadd, 1) := by decide +kernel
theorem dX4_line_86 : decode cX4_line 86 = .ok (.putfield 212, 3) := by decide +kernel
theorem dX4_line_89 : decode cX4_line 89 = .ok (.iinc 1 1, 3) := by decide +kernel
theorem dX4_line_92 : decode cX4_line 92 = .ok (.goto (-85), 3) := by decide +kernel
theorem dX4_line_95 : decode cX4_line 95 = .ok (.return_, 1) := by decide +kernel
set_option maxRecDepth 20000 in
theorem ggX4_queue_X4_line : GoodIn wsX4_queue wsX4_line := goodIn_r _ [7, 1, 8, 9, 2, 10, 11, 12, 6, 13, 14, 15, 19, 20, 21, 22, 23, 24, 25, 26, 27, 28, 29, 30, 31, 32, 33, 34, 35, 36, 37, 38, 39, 40, 41, 42, 43, 44, 45, 46, 47, 48, 49, 50, 51, 52, 53, 54, 55, 56, 57, 58, 59, 60, 61] (by decide +kernel) (by decide +kernel)
set_option maxRecDepth 20000 in
theorem gX4_queue_X4_line : GoodIn wsX4_queue (wsV RX4 227 RX4 yX4_line wsX4_line) := goodIn_app (goodIn_of _ (by decide +kernel)) ggX4_queue_X4_line
set_option maxRecDepth 20000 in
theorem ggX4_queue_X4_isIn : GoodIn wsX4_queue wsX4_isIn := goodIn_r _ [18] (by decide +kernel) (by decide +kernel)
set_option maxRecDepth 20000 in
theorem gX4_queue_X4_isIn : GoodIn wsX4_queue (va_wsS RX4 117 yX4_isIn wsX4_isIn) := goodIn_app (goodIn_of _ (by decide +kernel)) ggX4_queue_X4_isIn
theorem dX4_queue_0 : decode cX4_queue 0 = .ok (.aload_n 0, 1) := by decide +kernel
theorem dX4_queue_1 : decode cX4_queue 1 = .ok (.invokevirtual 227, 3) := by decide +kernel
theorem dX4_queue_4 : decode cX4_queue 4 = .ok (.iload_n 1, 1) := by decide +kernel
theorem dX4_queue_5 : decode cX4_queue 5 = .ok (.aload_n 0, 1) := by decide +kernel
theorem dX4_queue_6 : decode cX4_queue 6 = .ok (.getfield 212, 3) := by decide +kernel
theorem dX4_queue_9 : decode cX4_queue 9 = .ok (.invokestatic 117, 3) := by decide +kernel
theorem dX4_queue_12 : decode cX4_queue 12 = .ok (.ifCond .eq 12, 3) := by decide +kernel
theorem dX4_queue_15 : decode cX4_queue 15 = .ok (.aload_n 0, 1) := by decide +kernel
theorem dX4_queue_16 : decode cX4_queue 16 = .ok (.getfield 111, 3) := by decide +kernel
theorem dX4_queue_19 : decode cX4_queue 19 = .ok (.iload_n 1, 1) := by decide +kernel
theorem dX4_queue_20 : decode cX4_queue 20 = .ok (.iaload, 1) := by decide +kernel
theorem dX4_queue_21 : decode cX4_queue 21 = .ok (.goto 5, 3) := by decide +kernel
theorem dX4_queue_24 : decode cX4_queue 24 = .ok (.bipush (-9), 2) := by decide +kernel
theorem dX4_queue_26 : decode cX4_queue 26 = .ok (.ireturn, 1) := by decide +kernel
theorem dX4_inState_0 : decode cX4_inState 0 = .ok (.iconst 0, 1) := by decide +kernel
theorem dX4_inState_1 : decode cX4_inState 1 = .ok (.istore_n 2, 1) := by decide +kernel
theorem dX4_inState_2 : decode cX4_inState 2 = .ok (.iconst 0, 1) := by decide +kernel
theorem dX4_inState_3 : decode cX4_inState 3 = .ok (.istore_n 3, 1) := by decide +kernel
theorem dX4_inState_4 : decode cX4_inState 4 = .ok (.iload_n 3, 1) := by decide +kernel
theorem dX4_inState_5 : decode cX4_inState 5 = .ok (.aload_n 0, 1) := by decide +kernel
theorem dX4_inState_6 : decode cX4_inState 6 = .ok (.getfield 121, 3) := by decide +kernel
theorem dX4_inState_9 : decode cX4_inState 9 = .ok (.if_icmp .ge 27, 3) := by decide +kernel
theorem dX4_inState_12 : decode cX4_inState 12 = .ok (.iload_n 2, 1) := by decide +kernel
theorem dX4_inState_13 : decode cX4_inState 13 = .ok (.aload_n 0, 1) := by decide +kernel
theorem dX4_inState_14 : decode cX4_inState 14 = .ok (.getfield 77, 3) := by decide +kernel
theorem dX4_inState_17 : decode cX4_inState 17 = .ok (.iload_n 3, 1) := by decide +kernel
theorem dX4_inState_18 : decode cX4_inState 18 = .ok (.iaload, 1) := by decide +kernel
theorem dX4_inState_19 : decode cX4_inState 19 = .ok (.iload_n 1, 1) := by decide +kernel
theorem dX4_inState_20 : decode cX4_inState 20 = .ok (.if_icmp .ne 7, 3) := by decide +kernel
theorem dX4_inState_23 : decode cX4_inState 23 = .ok (.iconst 1, 1) := by decide +kernel
theorem dX4_inState_24 : decode cX4_inState 24 = .ok (.goto 4, 3) := by decide +kernel
theorem dX4_inState_27 : decode cX4_inState 27 = .ok (.iconst 0, 1) := by decide +kernel
theorem dX4_inState_28 : decode cX4_inState 28 = .ok (.iadd, 1) := by decide +kernel
theorem dX4_inState_29 : decode cX4_inState 29 = .ok (.istore_n 2, 1) := by decide +kernel
theorem dX4_inState_30 : decode cX4_inState 30 = .ok (.iinc 3 1, 3) := by decide +kernel
theorem dX4_inState_33 : decode cX4_inState 33 = .ok (.goto (-29), 3) := by decide +kernel
theorem dX4_inState_36 : decode cX4_inState 36 = .ok (.iload_n 2, 1) := by decide +kernel
theorem dX4_inState_37 : decode cX4_inState 37 = .ok (.ireturn, 1) := by decide +kernel
set_option maxRecDepth 20000 in
theorem ggX4_count_X4_inState : GoodIn wsX4_count wsX4_inState := goodIn_r _ [13, 4, 14, 15, 16, 17, 18, 19, 20, 21, 22, 23, 24, 25, 26, 27, 28, 29, 30, 31, 32, 33, 34, 35, 36, 37, 38, 39, 40, 41, 42, 43, 44, 45, 46, 47, 48, 49, 50, 51, 52, 53, 54, 55, 56, 57] (by decide +kernel) (by decide +kernel)
set_option maxRecDepth 20000 in
theorem gX4_count_X4_inState : GoodIn wsX4_count (wsV RX4 235 RX4 yX4_inState wsX4_inState) := goodIn_app (goodIn_of _ (by decide +kernel)) ggX4_count_X4_inState
theorem dX4_count_0 : decode cX4_count 0 = .ok (.iload_n 1, 1) := by decide +kernel
theorem dX4_count_1 : decode cX4_count 1 = .ok (.bipush 10, 2) := by decide +kernel
theorem dX4_count_3 : decode cX4_count 3 = .ok (.if_icmp .le 19, 3) := by decide +kernel
theorem dX4_count_6 : decode cX4_count 6 = .ok (.iload_n 1, 1) := by decide +kernel
theorem dX4_count_7 : decode cX4_count 7 = .ok (.bipush 17, 2) := by decide +kernel
theorem dX4_count_9 : decode cX4_count 9 = .ok (.if_icmp .ge 13, 3) := by decide +kernel
theorem dX4_count_12 : decode cX4_count 12 = .ok (.aload_n 0, 1) := by decide +kernel
theorem dX4_count_13 : decode cX4_count 13 = .ok (.getfield 7, 3) := by decide +kernel
theorem dX4_count_16 : decode cX4_count 16 = .ok (.iload_n 1, 1) := by decide +kernel
theorem dX4_count_17 : decode cX4_count 17 = .ok (.bipush 10, 2) := by decide +kernel
theorem dX4_count_19 : decode cX4_count 19 = .ok (.isub, 1) := by decide +kernel
theorem dX4_count_20 : decode cX4_count 20 = .ok (.iaload, 1) := by decide +kernel
theorem dX4_count_21 : decode cX4_count 21 = .ok (.ireturn, 1) := by decide +kernel
theorem dX4_count_22 : decode cX4_count 22 = .ok (.iconst 0, 1) := by decide +kernel
theorem dX4_count_23 : decode cX4_count 23 = .ok (.istore_n 2, 1) := by decide +kernel
theorem dX4_count_24 : decode cX4_count 24 = .ok (.iload_n 1, 1) := by decide +kernel
theorem dX4_count_25 : decode cX4_count 25 = .ok (.tableswitch 152 0 17 #[87, 92, 97, 102, 102, 102, 102, 102, 110, 115, 120, 152, 152, 152, 152, 152, 152, 125], 87) := by decide +kernel
theorem dX4_count_112 : decode cX4_count 112 = .ok (.aload_n 0, 1) := by decide +kernel
theorem dX4_count_113 : decode cX4_count 113 = .ok (.getfield 163, 3) := by decide +kernel
theorem dX4_count_116 : decode cX4_count 116 = .ok (.ireturn, 1) := by decide +kernel
theorem dX4_count_117 : decode cX4_count 117 = .ok (.aload_n 0, 1) := by decide +kernel
theorem dX4_count_118 : decode cX4_count 118 = .ok (.getfield 114, 3) := by decide +kernel
theorem dX4_count_121 : decode cX4_count 121 = .ok (.ireturn, 1) := by decide +kernel
theorem dX4_count_122 : decode cX4_count 122 = .ok (.aload_n 0, 1) := by decide +kernel
theorem dX4_count_123 : decode cX4_count 123 = .ok (.getfield 121, 3) := by decide +kernel
theorem dX4_count_126 : decode cX4_count 126 = .ok (.ireturn, 1) := by decide +kernel
theorem dX4_count_127 : decode cX4_count 127 = .ok (.aload_n 0, 1) := by decide +kernel
theorem dX4_count_128 : decode cX4_count 128 = .ok (.iload_n 1, 1) := by decide +kernel
theorem dX4_count_129 : decode cX4_count 129 = .ok (.iconst 3, 1) := by decide +kernel
theorem dX4_count_130 : decode cX4_count 130 = .ok (.isub, 1) := by decide +kernel
theorem dX4_count_131 : decode cX4_count 131 = .ok (.invokevirtual 235, 3) := by decide +kernel
theorem dX4_count_134 : decode cX4_count 134 = .ok (.ireturn, 1) := by decide +kernel
theorem dX4_count_135 : decode cX4_count 135 = .ok (.aload_n 0, 1) := by decide +kernel
theorem dX4_count_136 : decode cX4_count 136 = .ok (.getfield 160, 3) := by decide +kernel
theorem dX4_count_139 : decode cX4_count 139 = .ok (.ireturn, 1) := by decide +kernel
theorem dX4_count_140 : decode cX4_count 140 = .ok (.aload_n 0, 1) := by decide +kernel
theorem dX4_count_141 : decode cX4_count 141 = .ok (.getfield 206, 3) := by decide +kernel
theorem dX4_count_144 : decode cX4_count 144 = .ok (.ireturn, 1) := by decide +kernel
theorem dX4_count_145 : decode cX4_count 145 = .ok (.aload_n 0, 1) := by decide +kernel
theorem dX4_count_146 : decode cX4_count 146 = .ok (.getfield 209, 3) := by decide +kernel
theorem dX4_count_149 : decode cX4_count 149 = .ok (.ireturn, 1) := by decide +kernel
theorem dX4_count_150 : decode cX4_count 150 = .ok (.iconst 0, 1) := by decide +kernel
theorem dX4_count_151 : decode cX4_count 151 = .ok (.istore_n 3, 1) := by decide +kernel
theorem dX4_count_152 : decode cX4_count 152 = .ok (.iload_n 3, 1) := by decide +kernel
theorem dX4_count_153 : decode cX4_count 153 = .ok (.aload_n 0, 1) := by decide +kernel
theorem dX4_count_154 : decode cX4_count 154 = .ok (.getfield 114, 3) := by decide +kernel
theorem dX4_count_157 : decode cX4_count 157 = .ok (.if_icmp .ge 18, 3) := by decide +kernel
theorem dX4_count_160 : decode cX4_count 160 = .ok (.iload_n 2, 1) := by decide +kernel
theorem dX4_count_161 : decode cX4_count 161 = .ok (.aload_n 0, 1) := by decide +kernel
theorem dX4_count_162 : decode cX4_count 162 = .ok (.getfield 41, 3) := by decide +kernel
theorem dX4_count_165 : decode cX4_count 165 = .ok (.iload_n 3, 1) := by decide +kernel
theorem dX4_count_166 : decode cX4_count 166 = .ok (.iaload, 1) := by decide +kernel
theorem dX4_count_167 : decode cX4_count 167 = .ok (.iadd, 1) := by decide +kernel
theorem dX4_count_168 : decode cX4_count 168 = .ok (.istore_n 2, 1) := by decide +kernel
theorem dX4_count_169 : decode cX4_count 169 = .ok (.iinc 3 1, 3) := by decide +kernel
theorem dX4_count_172 : decode cX4_count 172 = .ok (.goto (-20), 3) := by decide +kernel
theorem dX4_count_175 : decode cX4_count 175 = .ok (.iload_n 2, 1) := by decide +kernel
theorem dX4_count_176 : decode cX4_count 176 = .ok (.ireturn, 1) := by decide +kernel
theorem dX4_count_177 : decode cX4_count 177 = .ok (.bipush (-9), 2) := by decide +kernel
theorem dX4_count_179 : decode cX4_count 179 = .ok (.ireturn, 1) := by decide +kernel
set_option maxRecDepth 20000 in
theorem ggX4_goesOn_X4_comesBack : GoodIn wsX4_goesOn wsX4_comesBack := goodIn_r _ [15, 16, 17, 18, 1, 19, 20, 21, 22, 23, 24, 2, 3, 25, 26, 27, 14, 28, 29, 30, 31, 5, 32, 33, 34, 35, 36, 37, 38, 39, 40, 10, 41, 42, 43, 44, 45, 46, 47, 6, 48, 49, 50, 51, 52, 53, 54, 55, 56, 4, 125, 126, 127, 128, 129, 130, 131, 132, 133, 134, 135, 136, 137, 138, 139, 140, 141, 142, 143, 144, 145, 146, 147, 148, 149, 150, 151, 152, 153, 154, 155, 156, 157, 158, 159, 160, 161, 162, 163, 164, 165, 166, 167] (by decide +kernel) (by decide +kernel)
set_option maxRecDepth 20000 in
theorem gX4_goesOn_X4_comesBack : GoodIn wsX4_goesOn (wsV RX4 218 RX4 yX4_comesBack wsX4_comesBack) := goodIn_app (goodIn_of _ (by decide +kernel)) ggX4_goesOn_X4_comesBack
set_option maxRecDepth 20000 in
theorem ggX4_goesOn_X4_isDue : GoodIn wsX4_goesOn wsX4_isDue := goodIn_r _ [60, 22, 1, 3, 16, 17, 37, 38, 39, 14, 40, 10, 41, 18, 19, 42, 43, 44, 45, 46, 30, 5, 47, 6, 31, 48, 49, 50, 51, 52, 53, 54, 55, 56, 4, 32, 33, 34, 35, 36, 125, 126, 127, 128, 129, 130, 131, 132, 133, 134, 135, 136, 137, 138, 139, 140, 141, 142, 143, 144, 145, 146, 147, 148, 149, 150, 151, 152, 153, 154, 155, 156, 157, 158, 159, 160, 161, 162, 163, 164, 165, 166, 167] (by decide +kernel) (by decide +kernel)
set_option maxRecDepth 20000 in
theorem gX4_goesOn_X4_isDue : GoodIn wsX4_goesOn (wsV RX4 221 RX4 yX4_isDue wsX4_isDue) := goodIn_app (goodIn_of _ (by decide +kernel)) ggX4_goesOn_X4_isDue
set_option maxRecDepth 20000 in
theorem ggX4_goesOn_X4_hedges : GoodIn wsX4_goesOn wsX4_hedges := goodIn_r _ [64, 3, 21, 16, 41, 7, 1, 65, 66, 67, 68, 69, 14, 70, 4, 10, 71, 5, 72, 73, 74, 75, 76, 77, 78, 79, 80, 81, 82, 17, 18, 83, 84, 85, 19, 86, 125, 126, 127, 128, 129, 130, 131, 132, 133, 134, 135, 136, 137, 138, 139, 140, 141, 142, 143, 144, 145, 146, 147, 148, 149, 150, 151, 152, 153, 154, 155, 156, 157, 158, 159, 160, 161, 162, 163, 164, 165, 166, 167] (by decide +kernel) (by decide +kernel)
set_option maxRecDepth 20000 in
theorem gX4_goesOn_X4_hedges : GoodIn wsX4_goesOn (wsV RX4 224 RX4 yX4_hedges wsX4_hedges) := goodIn_app (goodIn_of _ (by decide +kernel)) ggX4_goesOn_X4_hedges
set_option maxRecDepth 20000 in
theorem ggX4_goesOn_X4_line : GoodIn wsX4_goesOn wsX4_line := goodIn_r _ [90, 8, 2, 3, 9, 91, 92, 93, 14, 94, 95, 22, 125, 126, 127, 128, 129, 130, 131, 132, 133, 134, 135, 136, 137, 138, 139, 140, 141, 142, 143, 144, 145, 146, 147, 148, 149, 150, 151, 152, 153, 154, 155, 156, 157, 158, 159, 160, 161, 162, 163, 164, 165, 166, 167] (by decide +kernel) (by decide +kernel)
set_option maxRecDepth 20000 in
theorem gX4_goesOn_X4_line : GoodIn wsX4_goesOn (wsV RX4 227 RX4 yX4_line wsX4_line) := goodIn_app (goodIn_of _ (by decide +kernel)) ggX4_goesOn_X4_line
set_option maxRecDepth 20000 in
theorem ggX4_goesOn_X4_asksFor : GoodIn wsX4_goesOn wsX4_asksFor := goodIn_r _ [99, 65, 100, 67, 68, 69, 14, 70, 4, 10, 71, 5, 101, 102, 103, 104, 105, 106, 107, 108, 109, 76, 110, 72, 73, 74, 75, 111, 112, 113, 114, 115, 116, 117, 118, 119, 120, 121, 122, 123, 124, 77, 78, 79, 80, 81, 82, 16, 17, 41, 1, 18, 83, 84, 85, 19, 86, 3, 125, 126, 127, 128, 129, 130, 131, 132, 133, 134, 135, 136, 137, 138, 139, 140, 141, 142, 143, 144, 145, 146, 147, 148, 149, 150, 151, 152, 153, 154, 155, 156, 157, 158, 159, 160, 161, 162, 163, 164, 165, 166, 167] (by decide +kernel) (by decide +kernel)
set_option maxRecDepth 20000 in
theorem gX4_goesOn_X4_asksFor : GoodIn wsX4_goesOn (wsV RX4 178 RX4 yX4_asksFor wsX4_asksFor) := goodIn_app (goodIn_of _ (by decide +kernel)) ggX4_goesOn_X4_asksFor
theorem dX4_goesOn_0 : decode cX4_goesOn 0 = .ok (.aload_n 0, 1) := by decide +kernel
theorem dX4_goesOn_1 : decode cX4_goesOn 1 = .ok (.dup, 1) := by decide +kernel
theorem dX4_goesOn_2 : decode cX4_goesOn 2 = .ok (.getfield 163, 3) := by decide +kernel
theorem dX4_goesOn_5 : decode cX4_goesOn 5 = .ok (.iconst 1, 1) := by decide +kernel
theorem dX4_goesOn_6 : decode cX4_goesOn 6 = .ok (.iadd, 1) := by decide +kernel
theorem dX4_goesOn_7 : decode cX4_goesOn 7 = .ok (.putfield 163, 3) := by decide +kernel
theorem dX4_goesOn_10 : decode cX4_goesOn 10 = .ok (.iconst 0, 1) := by decide +kernel
theorem dX4_goesOn_11 : decode cX4_goesOn 11 = .ok (.istore_n 1, 1) := by decide +kernel
theorem dX4_goesOn_12 : decode cX4_goesOn 12 = .ok (.iconst 0, 1) := by decide +kernel
theorem dX4_goesOn_13 : decode cX4_goesOn 13 = .ok (.istore_n 2, 1) := by decide +kernel
theorem dX4_goesOn_14 : decode cX4_goesOn 14 = .ok (.iload_n 2, 1) := by decide +kernel
theorem dX4_goesOn_15 : decode cX4_goesOn 15 = .ok (.aload_n 0, 1) := by decide +kernel
theorem dX4_goesOn_16 : decode cX4_goesOn 16 = .ok (.getfield 121, 3) := by decide +kernel
theorem dX4_goesOn_19 : decode cX4_goesOn 19 = .ok (.if_icmp .ge 35, 3) := by decide +kernel
theorem dX4_goesOn_22 : decode cX4_goesOn 22 = .ok (.iload_n 1, 1) := by decide +kernel
theorem dX4_goesOn_23 : decode cX4_goesOn 23 = .ok (.aload_n 0, 1) := by decide +kernel
theorem dX4_goesOn_24 : decode cX4_goesOn 24 = .ok (.getfield 77, 3) := by decide +kernel
theorem dX4_goesOn_27 : decode cX4_goesOn 27 = .ok (.iload_n 2, 1) := by decide +kernel
theorem dX4_goesOn_28 : decode cX4_goesOn 28 = .ok (.iaload, 1) := by decide +kernel
theorem dX4_goesOn_29 : decode cX4_goesOn 29 = .ok (.iconst 1, 1) := by decide +kernel
theorem dX4_goesOn_30 : decode cX4_goesOn 30 = .ok (.if_icmp .ne 15, 3) := by decide +kernel
theorem dX4_goesOn_33 : decode cX4_goesOn 33 = .ok (.aload_n 0, 1) := by decide +kernel
theorem dX4_goesOn_34 : decode cX4_goesOn 34 = .ok (.iload_n 2, 1) := by decide +kernel
theorem dX4_goesOn_35 : decode cX4_goesOn 35 = .ok (.invokevirtual 218, 3) := by decide +kernel
theorem dX4_goesOn_38 : decode cX4_goesOn 38 = .ok (.ifCond .eq 7, 3) := by decide +kernel
theorem dX4_goesOn_41 : decode cX4_goesOn 41 = .ok (.iconst 1, 1) := by decide +kernel
theorem dX4_goesOn_42 : decode cX4_goesOn 42 = .ok (.goto 4, 3) := by decide +kernel
theorem dX4_goesOn_45 : decode cX4_goesOn 45 = .ok (.iconst 0, 1) := by decide +kernel
theorem dX4_goesOn_46 : decode cX4_goesOn 46 = .ok (.iadd, 1) := by decide +kernel
theorem dX4_goesOn_47 : decode cX4_goesOn 47 = .ok (.istore_n 1, 1) := by decide +kernel
theorem dX4_goesOn_48 : decode cX4_goesOn 48 = .ok (.iinc 2 1, 3) := by decide +kernel
theorem dX4_goesOn_51 : decode cX4_goesOn 51 = .ok (.goto (-37), 3) := by decide +kernel
theorem dX4_goesOn_54 : decode cX4_goesOn 54 = .ok (.iconst 0, 1) := by decide +kernel
theorem dX4_goesOn_55 : decode cX4_goesOn 55 = .ok (.istore_n 2, 1) := by decide +kernel
theorem dX4_goesOn_56 : decode cX4_goesOn 56 = .ok (.iload_n 2, 1) := by decide +kernel
theorem dX4_goesOn_57 : decode cX4_goesOn 57 = .ok (.aload_n 0, 1) := by decide +kernel
theorem dX4_goesOn_58 : decode cX4_goesOn 58 = .ok (.getfield 121, 3) := by decide +kernel
theorem dX4_goesOn_61 : decode cX4_goesOn 61 = .ok (.if_icmp .ge 25, 3) := by decide +kernel
theorem dX4_goesOn_64 : decode cX4_goesOn 64 = .ok (.iload_n 1, 1) := by decide +kernel
theorem dX4_goesOn_65 : decode cX4_goesOn 65 = .ok (.aload_n 0, 1) := by decide +kernel
theorem dX4_goesOn_66 : decode cX4_goesOn 66 = .ok (.iload_n 2, 1) := by decide +kernel
theorem dX4_goesOn_67 : decode cX4_goesOn 67 = .ok (.invokevirtual 221, 3) := by decide +kernel
theorem dX4_goesOn_70 : decode cX4_goesOn 70 = .ok (.ifCond .eq 7, 3) := by decide +kernel
theorem dX4_goesOn_73 : decode cX4_goesOn 73 = .ok (.iconst 1, 1) := by decide +kernel
theorem dX4_goesOn_74 : decode cX4_goesOn 74 = .ok (.goto 4, 3) := by decide +kernel
theorem dX4_goesOn_77 : decode cX4_goesOn 77 = .ok (.iconst 0, 1) := by decide +kernel
theorem dX4_goesOn_78 : decode cX4_goesOn 78 = .ok (.iadd, 1) := by decide +kernel
theorem dX4_goesOn_79 : decode cX4_goesOn 79 = .ok (.istore_n 1, 1) := by decide +kernel
theorem dX4_goesOn_80 : decode cX4_goesOn 80 = .ok (.iinc 2 1, 3) := by decide +kernel
theorem dX4_goesOn_83 : decode cX4_goesOn 83 = .ok (.goto (-27), 3) := by decide +kernel
theorem dX4_goesOn_86 : decode cX4_goesOn 86 = .ok (.iconst 0, 1) := by decide +kernel
theorem dX4_goesOn_87 : decode cX4_goesOn 87 = .ok (.istore_n 2, 1) := by decide +kernel
theorem dX4_goesOn_88 : decode cX4_goesOn 88 = .ok (.iload_n 2, 1) := by decide +kernel
theorem dX4_goesOn_89 : decode cX4_goesOn 89 = .ok (.aload_n 0, 1) := by decide +kernel
theorem dX4_goesOn_90 : decode cX4_goesOn 90 = .ok (.getfield 114, 3) := by decide +kernel
theorem dX4_goesOn_93 : decode cX4_goesOn 93 = .ok (.if_icmp .ge 39, 3) := by decide +kernel
theorem dX4_goesOn_96 : decode cX4_goesOn 96 = .ok (.aload_n 0, 1) := by decide +kernel
theorem dX4_goesOn_97 : decode cX4_goesOn 97 = .ok (.getfield 38, 3) := by decide +kernel
theorem dX4_goesOn_100 : decode cX4_goesOn 100 = .ok (.iload_n 2, 1) := by decide +kernel
theorem dX4_goesOn_101 : decode cX4_goesOn 101 = .ok (.iaload, 1) := by decide +kernel
theorem dX4_goesOn_102 : decode cX4_goesOn 102 = .ok (.iconst 1, 1) := by decide +kernel
theorem dX4_goesOn_103 : decode cX4_goesOn 103 = .ok (.if_icmp .ne 23, 3) := by decide +kernel
theorem dX4_goesOn_106 : decode cX4_goesOn 106 = .ok (.aload_n 0, 1) := by decide +kernel
theorem dX4_goesOn_107 : decode cX4_goesOn 107 = .ok (.getfield 56, 3) := by decide +kernel
theorem dX4_goesOn_110 : decode cX4_goesOn 110 = .ok (.iload_n 2, 1) := by decide +kernel
theorem dX4_goesOn_111 : decode cX4_goesOn 111 = .ok (.iaload, 1) := by decide +kernel
theorem dX4_goesOn_112 : decode cX4_goesOn 112 = .ok (.aload_n 0, 1) := by decide +kernel
theorem dX4_goesOn_113 : decode cX4_goesOn 113 = .ok (.getfield 163, 3) := by decide +kernel
theorem dX4_goesOn_116 : decode cX4_goesOn 116 = .ok (.if_icmp .gt 10, 3) := by decide +kernel
theorem dX4_goesOn_119 : decode cX4_goesOn 119 = .ok (.aload_n 0, 1) := by decide +kernel
theorem dX4_goesOn_120 : decode cX4_goesOn 120 = .ok (.getfield 38, 3) := by decide +kernel
theorem dX4_goesOn_123 : decode cX4_goesOn 123 = .ok (.iload_n 2, 1) := by decide +kernel
theorem dX4_goesOn_124 : decode cX4_goesOn 124 = .ok (.iconst 2, 1) := by decide +kernel
theorem dX4_goesOn_125 : decode cX4_goesOn 125 = .ok (.iastore, 1) := by decide +kernel
theorem dX4_goesOn_126 : decode cX4_goesOn 126 = .ok (.iinc 2 1, 3) := by decide +kernel
theorem dX4_goesOn_129 : decode cX4_goesOn 129 = .ok (.goto (-41), 3) := by decide +kernel
theorem dX4_goesOn_132 : decode cX4_goesOn 132 = .ok (.iconst 0, 1) := by decide +kernel
theorem dX4_goesOn_133 : decode cX4_goesOn 133 = .ok (.istore_n 2, 1) := by decide +kernel
theorem dX4_goesOn_134 : decode cX4_goesOn 134 = .ok (.iload_n 2, 1) := by decide +kernel
theorem dX4_goesOn_135 : decode cX4_goesOn 135 = .ok (.aload_n 0, 1) := by decide +kernel
theorem dX4_goesOn_136 : decode cX4_goesOn 136 = .ok (.getfield 121, 3) := by decide +kernel
theorem dX4_goesOn_139 : decode cX4_goesOn 139 = .ok (.if_icmp .ge 21, 3) := by decide +kernel
theorem dX4_goesOn_142 : decode cX4_goesOn 142 = .ok (.aload_n 0, 1) := by decide +kernel
theorem dX4_goesOn_143 : decode cX4_goesOn 143 = .ok (.getfield 139, 3) := by decide +kernel
theorem dX4_goesOn_146 : decode cX4_goesOn 146 = .ok (.ifCond .le 14, 3) := by decide +kernel
theorem dX4_goesOn_149 : decode cX4_goesOn 149 = .ok (.aload_n 0, 1) := by decide +kernel
theorem dX4_goesOn_150 : decode cX4_goesOn 150 = .ok (.iload_n 2, 1) := by decide +kernel
theorem dX4_goesOn_151 : decode cX4_goesOn 151 = .ok (.invokevirtual 224, 3) := by decide +kernel
theorem dX4_goesOn_154 : decode cX4_goesOn 154 = .ok (.iinc 2 1, 3) := by decide +kernel
theorem dX4_goesOn_157 : decode cX4_goesOn 157 = .ok (.goto (-23), 3) := by decide +kernel
theorem dX4_goesOn_160 : decode cX4_goesOn 160 = .ok (.aload_n 0, 1) := by decide +kernel
theorem dX4_goesOn_161 : decode cX4_goesOn 161 = .ok (.invokevirtual 227, 3) := by decide +kernel
theorem dX4_goesOn_164 : decode cX4_goesOn 164 = .ok (.iconst 0, 1) := by decide +kernel
theorem dX4_goesOn_165 : decode cX4_goesOn 165 = .ok (.istore_n 2, 1) := by decide +kernel
theorem dX4_goesOn_166 : decode cX4_goesOn 166 = .ok (.iload_n 2, 1) := by decide +kernel
theorem dX4_goesOn_167 : decode cX4_goesOn 167 = .ok (.aload_n 0, 1) := by decide +kernel
theorem dX4_goesOn_168 : decode cX4_goesOn 168 = .ok (.getfield 212, 3) := by decide +kernel
theorem dX4_goesOn_171 : decode cX4_goesOn 171 = .ok (.if_icmp .ge 20, 3) := by decide +kernel
theorem dX4_goesOn_174 : decode cX4_goesOn 174 = .ok (.aload_n 0, 1) := by decide +kernel
theorem dX4_goesOn_175 : decode cX4_goesOn 175 = .ok (.aload_n 0, 1) := by decide +kernel
theorem dX4_goesOn_176 : decode cX4_goesOn 176 = .ok (.getfield 111, 3) := by decide +kernel
theorem dX4_goesOn_179 : decode cX4_goesOn 179 = .ok (.iload_n 2, 1) := by decide +kernel
theorem dX4_goesOn_180 : decode cX4_goesOn 180 = .ok (.iaload, 1) := by decide +kernel
theorem dX4_goesOn_181 : decode cX4_goesOn 181 = .ok (.invokevirtual 178, 3) := by decide +kernel
theorem dX4_goesOn_184 : decode cX4_goesOn 184 = .ok (.istore_n 3, 1) := by decide +kernel
theorem dX4_goesOn_185 : decode cX4_goesOn 185 = .ok (.iinc 2 1, 3) := by decide +kernel
theorem dX4_goesOn_188 : decode cX4_goesOn 188 = .ok (.goto (-22), 3) := by decide +kernel
theorem dX4_goesOn_191 : decode cX4_goesOn 191 = .ok (.iconst 0, 1) := by decide +kernel
theorem dX4_goesOn_192 : decode cX4_goesOn 192 = .ok (.istore_n 2, 1) := by decide +kernel
theorem dX4_goesOn_193 : decode cX4_goesOn 193 = .ok (.iload_n 2, 1) := by decide +kernel
theorem dX4_goesOn_194 : decode cX4_goesOn 194 = .ok (.aload_n 0, 1) := by decide +kernel
theorem dX4_goesOn_195 : decode cX4_goesOn 195 = .ok (.getfield 114, 3) := by decide +kernel
theorem dX4_goesOn_198 : decode cX4_goesOn 198 = .ok (.if_icmp .ge 35, 3) := by decide +kernel
theorem dX4_goesOn_201 : decode cX4_goesOn 201 = .ok (.aload_n 0, 1) := by decide +kernel
theorem dX4_goesOn_202 : decode cX4_goesOn 202 = .ok (.getfield 38, 3) := by decide +kernel
theorem dX4_goesOn_205 : decode cX4_goesOn 205 = .ok (.iload_n 2, 1) := by decide +kernel
theorem dX4_goesOn_206 : decode cX4_goesOn 206 = .ok (.iaload, 1) := by decide +kernel
theorem dX4_goesOn_207 : decode cX4_goesOn 207 = .ok (.iconst 3, 1) := by decide +kernel
theorem dX4_goesOn_208 : decode cX4_goesOn 208 = .ok (.if_icmp .ne 19, 3) := by decide +kernel
theorem dX4_goesOn_211 : decode cX4_goesOn 211 = .ok (.aload_n 0, 1) := by decide +kernel
theorem dX4_goesOn_212 : decode cX4_goesOn 212 = .ok (.getfield 41, 3) := by decide +kernel
theorem dX4_goesOn_215 : decode cX4_goesOn 215 = .ok (.iload_n 2, 1) := by decide +kernel
theorem dX4_goesOn_216 : decode cX4_goesOn 216 = .ok (.iaload, 1) := by decide +kernel
theorem dX4_goesOn_217 : decode cX4_goesOn 217 = .ok (.ifCond .ne 10, 3) := by decide +kernel
theorem dX4_goesOn_220 : decode cX4_goesOn 220 = .ok (.aload_n 0, 1) := by decide +kernel
theorem dX4_goesOn_221 : decode cX4_goesOn 221 = .ok (.getfield 38, 3) := by decide +kernel
theorem dX4_goesOn_224 : decode cX4_goesOn 224 = .ok (.iload_n 2, 1) := by decide +kernel
theorem dX4_goesOn_225 : decode cX4_goesOn 225 = .ok (.iconst 4, 1) := by decide +kernel
theorem dX4_goesOn_226 : decode cX4_goesOn 226 = .ok (.iastore, 1) := by decide +kernel
theorem dX4_goesOn_227 : decode cX4_goesOn 227 = .ok (.iinc 2 1, 3) := by decide +kernel
theorem dX4_goesOn_230 : decode cX4_goesOn 230 = .ok (.goto (-37), 3) := by decide +kernel
theorem dX4_goesOn_233 : decode cX4_goesOn 233 = .ok (.iload_n 1, 1) := by decide +kernel
theorem dX4_goesOn_234 : decode cX4_goesOn 234 = .ok (.ireturn, 1) := by decide +kernel
set_option maxRecDepth 20000 in
theorem ggX4_ticks_X4_refuse : GoodIn wsX4_ticks wsX4_refuse := goodIn_r _ [6, 7, 134, 135, 136, 137, 138, 139, 140, 141, 142, 143, 144, 145, 146, 147, 148, 149, 150, 151, 152, 153, 154, 155, 156, 157, 158, 159, 160, 161, 162, 163, 164, 165, 166, 167, 168, 169, 170, 171, 172, 173, 174, 175, 176] (by decide +kernel) (by decide +kernel)
set_option maxRecDepth 20000 in
theorem gX4_ticks_X4_refuse : GoodIn wsX4_ticks (wsV RX4 124 RX4 yX4_refuse wsX4_refuse) := goodIn_app (goodIn_of _ (by decide +kernel)) ggX4_ticks_X4_refuse
set_option maxRecDepth 20000 in
theorem ggX4_ticks_X4_goesOn : GoodIn wsX4_ticks wsX4_goesOn := goodIn_r _ [11, 1, 12, 13, 14, 15, 16, 17, 18, 19, 20, 21, 22, 23, 5, 24, 25, 26, 27, 28, 29, 30, 31, 32, 33, 34, 35, 36, 37, 38, 39, 40, 41, 42, 43, 44, 45, 46, 47, 48, 49, 50, 51, 52, 53, 54, 55, 56, 57, 58, 59, 60, 61, 62, 63, 64, 65, 66, 67, 68, 69, 70, 71, 72, 73, 74, 75, 76, 77, 78, 79, 80, 81, 82, 83, 84, 85, 86, 87, 88, 89, 90, 91, 92, 93, 94, 95, 96, 97, 98, 99, 100, 101, 102, 103, 104, 105, 106, 107, 108, 109, 110, 111, 112, 113, 114, 115, 116, 117, 118, 119, 120, 121, 122, 123, 124, 125, 126, 127, 128, 129, 130, 131, 132, 133, 134, 135, 136, 137, 138, 139, 140, 141, 142, 143, 144, 145, 146, 147, 148, 149, 150, 151, 152, 153, 154, 155, 156, 157, 158, 159, 160, 161, 162, 163, 164, 165, 166, 167, 168, 169, 170, 171, 172, 173, 174, 175, 176] (by decide +kernel) (by decide +kernel)
set_option maxRecDepth 20000 in
theorem gX4_ticks_X4_goesOn : GoodIn wsX4_ticks (wsV RX4 230 RX4 yX4_goesOn wsX4_goesOn) := goodIn_app (goodIn_of _ (by decide +kernel)) ggX4_ticks_X4_goesOn
theorem dX4_ticks_0 : decode cX4_ticks 0 = .ok (.iload_n 1, 1) := by decide +kernel
theorem dX4_ticks_1 : decode cX4_ticks 1 = .ok (.iconst 1, 1) := by decide +kernel
theorem dX4_ticks_2 : decode cX4_ticks 2 = .ok (.if_icmp .ge 10, 3) := by decide +kernel
theorem dX4_ticks_5 : decode cX4_ticks 5 = .ok (.aload_n 0, 1) := by decide +kernel
theorem dX4_ticks_6 : decode cX4_ticks 6 = .ok (.bipush (-4), 2) := by decide +kernel
theorem dX4_ticks_8 : decode cX4_ticks 8 = .ok (.invokevirtual 124, 3) := by decide +kernel
theorem dX4_ticks_11 : decode cX4_ticks 11 = .ok (.ireturn, 1) := by decide +kernel
theorem dX4_ticks_12 : decode cX4_ticks 12 = .ok (.iload_n 1, 1) := by decide +kernel
theorem dX4_ticks_13 : decode cX4_ticks 13 = .ok (.sipush 20000, 3) := by decide +kernel
theorem dX4_ticks_16 : decode cX4_ticks 16 = .ok (.aload_n 0, 1) := by decide +kernel
theorem dX4_ticks_17 : decode cX4_ticks 17 = .ok (.getfield 163, 3) := by decide +kernel
theorem dX4_ticks_20 : decode cX4_ticks 20 = .ok (.isub, 1) := by decide +kernel
theorem dX4_ticks_21 : decode cX4_ticks 21 = .ok (.if_icmp .le 10, 3) := by decide +kernel
theorem dX4_ticks_24 : decode cX4_ticks 24 = .ok (.aload_n 0, 1) := by decide +kernel
theorem dX4_ticks_25 : decode cX4_ticks 25 = .ok (.bipush (-6), 2) := by decide +kernel
theorem dX4_ticks_27 : decode cX4_ticks 27 = .ok (.invokevirtual 124, 3) := by decide +kernel
theorem dX4_ticks_30 : decode cX4_ticks 30 = .ok (.ireturn, 1) := by decide +kernel
theorem dX4_ticks_31 : decode cX4_ticks 31 = .ok (.iconst 0, 1) := by decide +kernel
theorem dX4_ticks_32 : decode cX4_ticks 32 = .ok (.istore_n 2, 1) := by decide +kernel
theorem dX4_ticks_33 : decode cX4_ticks 33 = .ok (.iconst 0, 1) := by decide +kernel
theorem dX4_ticks_34 : decode cX4_ticks 34 = .ok (.istore_n 3, 1) := by decide +kernel
theorem dX4_ticks_35 : decode cX4_ticks 35 = .ok (.iload_n 3, 1) := by decide +kernel
theorem dX4_ticks_36 : decode cX4_ticks 36 = .ok (.iload_n 1, 1) := by decide +kernel
theorem dX4_ticks_37 : decode cX4_ticks 37 = .ok (.if_icmp .ge 16, 3) := by decide +kernel
theorem dX4_ticks_40 : decode cX4_ticks 40 = .ok (.iload_n 2, 1) := by decide +kernel
theorem dX4_ticks_41 : decode cX4_ticks 41 = .ok (.aload_n 0, 1) := by decide +kernel
theorem dX4_ticks_42 : decode cX4_ticks 42 = .ok (.invokevirtual 230, 3) := by decide +kernel
theorem dX4_ticks_45 : decode cX4_ticks 45 = .ok (.iadd, 1) := by decide +kernel
theorem dX4_ticks_46 : decode cX4_ticks 46 = .ok (.istore_n 2, 1) := by decide +kernel
theorem dX4_ticks_47 : decode cX4_ticks 47 = .ok (.iinc 3 1, 3) := by decide +kernel
theorem dX4_ticks_50 : decode cX4_ticks 50 = .ok (.goto (-15), 3) := by decide +kernel
theorem dX4_ticks_53 : decode cX4_ticks 53 = .ok (.iload_n 2, 1) := by decide +kernel
theorem dX4_ticks_54 : decode cX4_ticks 54 = .ok (.ireturn, 1) := by decide +kernel
set_option maxRecDepth 20000 in
theorem ggX4_server_X4_isIn : GoodIn wsX4_server wsX4_isIn := goodIn_r _ [11] (by decide +kernel) (by decide +kernel)
set_option maxRecDepth 20000 in
theorem gX4_server_X4_isIn : GoodIn wsX4_server (va_wsS RX4 117 yX4_isIn wsX4_isIn) := goodIn_app (goodIn_of _ (by decide +kernel)) ggX4_server_X4_isIn
set_option maxRecDepth 20000 in
theorem ggX4_server_X4_refuse : GoodIn wsX4_server wsX4_refuse := goodIn_r _ [15, 16, 17, 18, 19, 20, 21, 22, 23, 24, 25, 26, 27, 28, 29, 30, 31, 32, 33, 34, 35, 36, 37, 38, 39, 40, 41, 42, 43, 44, 45, 46, 47, 48, 49, 50, 51, 52, 53, 54, 55, 56, 57, 58, 59] (by decide +kernel) (by decide +kernel)
set_option maxRecDepth 20000 in
theorem gX4_server_X4_refuse : GoodIn wsX4_server (wsV RX4 124 RX4 yX4_refuse wsX4_refuse) := goodIn_app (goodIn_of _ (by decide +kernel)) ggX4_server_X4_refuse
theorem dX4_server_0 : decode cX4_server 0 = .ok (.iload_n 2, 1) := by decide +kernel
theorem dX4_server_1 : decode cX4_server 1 = .ok (.iconst 4, 1) := by decide +kernel
theorem dX4_server_2 : decode cX4_server 2 = .ok (.invokestatic 117, 3) := by decide +kernel
theorem dX4_server_5 : decode cX4_server 5 = .ok (.ifCond .ne 9, 3) := by decide +kernel
theorem dX4_server_8 : decode cX4_server 8 = .ok (.aload_n 0, 1) := by decide +kernel
theorem dX4_server_9 : decode cX4_server 9 = .ok (.iconst (-1), 1) := by decide +kernel
theorem dX4_server_10 : decode cX4_server 10 = .ok (.invokevirtual 124, 3) := by decide +kernel
theorem dX4_server_13 : decode cX4_server 13 = .ok (.ireturn, 1) := by decide +kernel
theorem dX4_server_14 : decode cX4_server 14 = .ok (.iload_n 1, 1) := by decide +kernel
theorem dX4_server_15 : decode cX4_server 15 = .ok (.iconst 1, 1) := by decide +kernel
theorem dX4_server_16 : decode cX4_server 16 = .ok (.if_icmp .lt 19, 3) := by decide +kernel
theorem dX4_server_19 : decode cX4_server 19 = .ok (.iload_n 3, 1) := by decide +kernel
theorem dX4_server_20 : decode cX4_server 20 = .ok (.iconst 1, 1) := by decide +kernel
theorem dX4_server_21 : decode cX4_server 21 = .ok (.if_icmp .lt 14, 3) := by decide +kernel
theorem dX4_server_24 : decode cX4_server 24 = .ok (.iload 4, 2) := by decide +kernel
theorem dX4_server_26 : decode cX4_server 26 = .ok (.iconst 1, 1) := by decide +kernel
theorem dX4_server_27 : decode cX4_server 27 = .ok (.if_icmp .lt 8, 3) := by decide +kernel
theorem dX4_server_30 : decode cX4_server 30 = .ok (.iload 5, 2) := by decide +kernel
theorem dX4_server_32 : decode cX4_server 32 = .ok (.ifCond .ge 10, 3) := by decide +kernel
theorem dX4_server_35 : decode cX4_server 35 = .ok (.aload_n 0, 1) := by decide +kernel
theorem dX4_server_36 : decode cX4_server 36 = .ok (.bipush (-4), 2) := by decide +kernel
theorem dX4_server_38 : decode cX4_server 38 = .ok (.invokevirtual 124, 3) := by decide +kernel
theorem dX4_server_41 : decode cX4_server 41 = .ok (.ireturn, 1) := by decide +kernel
theorem dX4_server_42 : decode cX4_server 42 = .ok (.iload_n 1, 1) := by decide +kernel
theorem dX4_server_43 : decode cX4_server 43 = .ok (.bipush 100, 2) := by decide +kernel
theorem dX4_server_45 : decode cX4_server 45 = .ok (.if_icmp .gt 33, 3) := by decide +kernel
theorem dX4_server_48 : decode cX4_server 48 = .ok (.iload_n 3, 1) := by decide +kernel
theorem dX4_server_49 : decode cX4_server 49 = .ok (.bipush 20, 2) := by decide +kernel
theorem dX4_server_51 : decode cX4_server 51 = .ok (.if_icmp .gt 27, 3) := by decide +kernel
theorem dX4_server_54 : decode cX4_server 54 = .ok (.iload 4, 2) := by decide +kernel
theorem dX4_server_56 : decode cX4_server 56 = .ok (.sipush 200, 3) := by decide +kernel
theorem dX4_server_59 : decode cX4_server 59 = .ok (.if_icmp .gt 19, 3) := by decide +kernel
theorem dX4_server_62 : decode cX4_server 62 = .ok (.iload 5, 2) := by decide +kernel
theorem dX4_server_64 : decode cX4_server 64 = .ok (.bipush 20, 2) := by decide +kernel
theorem dX4_server_66 : decode cX4_server 66 = .ok (.if_icmp .gt 12, 3) := by decide +kernel
theorem dX4_server_69 : decode cX4_server 69 = .ok (.aload_n 0, 1) := by decide +kernel
theorem dX4_server_70 : decode cX4_server 70 = .ok (.getfield 114, 3) := by decide +kernel
theorem dX4_server_73 : decode cX4_server 73 = .ok (.bipush 8, 2) := by decide +kernel
theorem dX4_server_75 : decode cX4_server 75 = .ok (.if_icmp .ne 10, 3) := by decide +kernel
theorem dX4_server_78 : decode cX4_server 78 = .ok (.aload_n 0, 1) := by decide +kernel
theorem dX4_server_79 : decode cX4_server 79 = .ok (.bipush (-6), 2) := by decide +kernel
theorem dX4_server_81 : decode cX4_server 81 = .ok (.invokevirtual 124, 3) := by decide +kernel
theorem dX4_server_84 : decode cX4_server 84 = .ok (.ireturn, 1) := by decide +kernel
theorem dX4_server_85 : decode cX4_server 85 = .ok (.aload_n 0, 1) := by decide +kernel
theorem dX4_server_86 : decode cX4_server 86 = .ok (.getfield 114, 3) := by decide +kernel
theorem dX4_server_89 : decode cX4_server 89 = .ok (.istore 6, 2) := by decide +kernel
theorem dX4_server_91 : decode cX4_server 91 = .ok (.aload_n 0, 1) := by decide +kernel
theorem dX4_server_92 : decode cX4_server 92 = .ok (.dup, 1) := by decide +kernel
theorem dX4_server_93 : decode cX4_server 93 = .ok (.getfield 114, 3) := by decide +kernel
theorem dX4_server_96 : decode cX4_server 96 = .ok (.iconst 1, 1) := by decide +kernel
theorem dX4_server_97 : decode cX4_server 97 = .ok (.iadd, 1) := by decide +kernel
theorem dX4_server_98 : decode cX4_server 98 = .ok (.putfield 114, 3) := by decide +kernel
theorem dX4_server_101 : decode cX4_server 101 = .ok (.aload_n 0, 1) := by decide +kernel
theorem dX4_server_102 : decode cX4_server 102 = .ok (.getfield 20, 3) := by decide +kernel
theorem dX4_server_105 : decode cX4_server 105 = .ok (.iload 6, 2) := by decide +kernel
theorem dX4_server_107 : decode cX4_server 107 = .ok (.iload_n 1, 1) := by decide +kernel
theorem dX4_server_108 : decode cX4_server 108 = .ok (.iastore, 1) := by decide +kernel
theorem dX4_server_109 : decode cX4_server 109 = .ok (.aload_n 0, 1) := by decide +kernel
theorem dX4_server_110 : decode cX4_server 110 = .ok (.getfield 23, 3) := by decide +kernel
theorem dX4_server_113 : decode cX4_server 113 = .ok (.iload 6, 2) := by decide +kernel
theorem dX4_server_115 : decode cX4_server 115 = .ok (.iload_n 2, 1) := by decide +kernel
theorem dX4_server_116 : decode cX4_server 116 = .ok (.iastore, 1) := by decide +kernel
theorem dX4_server_117 : decode cX4_server 117 = .ok (.aload_n 0, 1) := by decide +kernel
theorem dX4_server_118 : decode cX4_server 118 = .ok (.getfield 26, 3) := by decide +kernel
theorem dX4_server_121 : decode cX4_server 121 = .ok (.iload 6, 2) := by decide +kernel
theorem dX4_server_123 : decode cX4_server 123 = .ok (.iload_n 3, 1) := by decide +kernel
theorem dX4_server_124 : decode cX4_server 124 = .ok (.iastore, 1) := by decide +kernel
theorem dX4_server_125 : decode cX4_server 125 = .ok (.aload_n 0, 1) := by decide +kernel
theorem dX4_server_126 : decode cX4_server 126 = .ok (.getfield 29, 3) := by decide +kernel
theorem dX4_server_129 : decode cX4_server 129 = .ok (.iload 6, 2) := by decide +kernel
theorem dX4_server_131 : decode cX4_server 131 = .ok (.iload 4, 2) := by decide +kernel
theorem dX4_server_133 : decode cX4_server 133 = .ok (.iastore, 1) := by decide +kernel
theorem dX4_server_134 : decode cX4_server 134 = .ok (.aload_n 0, 1) := by decide +kernel
theorem dX4_server_135 : decode cX4_server 135 = .ok (.getfield 32, 3) := by decide +kernel
theorem dX4_server_138 : decode cX4_server 138 = .ok (.iload 6, 2) := by decide +kernel
theorem dX4_server_140 : decode cX4_server 140 = .ok (.iload 5, 2) := by decide +kernel
theorem dX4_server_142 : decode cX4_server 142 = .ok (.iastore, 1) := by decide +kernel
theorem dX4_server_143 : decode cX4_server 143 = .ok (.aload_n 0, 1) := by decide +kernel
theorem dX4_server_144 : decode cX4_server 144 = .ok (.getfield 59, 3) := by decide +kernel
theorem dX4_server_147 : decode cX4_server 147 = .ok (.iload 6, 2) := by decide +kernel
theorem dX4_server_149 : decode cX4_server 149 = .ok (.bipush 10, 2) := by decide +kernel
theorem dX4_server_151 : decode cX4_server 151 = .ok (.iastore, 1) := by decide +kernel
theorem dX4_server_152 : decode cX4_server 152 = .ok (.iload 6, 2) := by decide +kernel
theorem dX4_server_154 : decode cX4_server 154 = .ok (.ireturn, 1) := by decide +kernel
set_option maxRecDepth 20000 in
theorem ggX4_call_X4_refuse : GoodIn wsX4_call wsX4_refuse := goodIn_r _ [15, 16, 74, 75, 76, 77, 78, 79, 80, 81, 82, 83, 84, 85, 86, 87, 88, 89, 90, 91, 92, 93, 94, 95, 96, 97, 98, 99, 100, 101, 102, 103, 104, 105, 106, 107, 108, 109, 110, 111, 112, 113, 114, 115, 116] (by decide +kernel) (by decide +kernel)
set_option maxRecDepth 20000 in
theorem gX4_call_X4_refuse : GoodIn wsX4_call (wsV RX4 124 RX4 yX4_refuse wsX4_refuse) := goodIn_app (goodIn_of _ (by decide +kernel)) ggX4_call_X4_refuse
set_option maxRecDepth 20000 in
theorem ggX4_call_X4_asksFor : GoodIn wsX4_call wsX4_asksFor := goodIn_r _ [20, 21, 3, 22, 23, 24, 14, 25, 26, 27, 28, 29, 30, 31, 32, 33, 34, 35, 36, 37, 38, 39, 40, 41, 42, 43, 44, 45, 46, 47, 48, 1, 49, 50, 51, 52, 53, 54, 55, 56, 57, 58, 59, 60, 61, 62, 63, 64, 65, 66, 6, 67, 68, 69, 70, 71, 72, 73, 74, 75, 76, 77, 78, 79, 80, 81, 82, 83, 84, 85, 86, 87, 88, 89, 90, 91, 92, 93, 94, 95, 96, 97, 98, 99, 100, 101, 102, 103, 104, 105, 106, 107, 108, 109, 110, 111, 112, 113, 114, 115, 116] (by decide +kernel) (by decide +kernel)
set_option maxRecDepth 20000 in
theorem gX4_call_X4_asksFor : GoodIn wsX4_call (wsV RX4 178 RX4 yX4_asksFor wsX4_asksFor) := goodIn_app (goodIn_of _ (by decide +kernel)) ggX4_call_X4_asksFor
theorem dX4_call_0 : decode cX4_call 0 = .ok (.iload_n 1, 1) := by decide +kernel
theorem dX4_call_1 : decode cX4_call 1 = .ok (.ifCond .lt 12, 3) := by decide +kernel
theorem dX4_call_4 : decode cX4_call 4 = .ok (.iload_n 2, 1) := by decide +kernel
theorem dX4_call_5 : decode cX4_call 5 = .ok (.ifCond .lt 8, 3) := by decide +kernel
theorem dX4_call_8 : decode cX4_call 8 = .ok (.iload_n 3, 1) := by decide +kernel
theorem dX4_call_9 : decode cX4_call 9 = .ok (.iconst 1, 1) := by decide +kernel
theorem dX4_call_10 : decode cX4_call 10 = .ok (.if_icmp .ge 10, 3) := by decide +kernel
theorem dX4_call_13 : decode cX4_call 13 = .ok (.aload_n 0, 1) := by decide +kernel
theorem dX4_call_14 : decode cX4_call 14 = .ok (.bipush (-4), 2) := by decide +kernel
theorem dX4_call_16 : decode cX4_call 16 = .ok (.invokevirtual 124, 3) := by decide +kernel
theorem dX4_call_19 : decode cX4_call 19 = .ok (.ireturn, 1) := by decide +kernel
theorem dX4_call_20 : decode cX4_call 20 = .ok (.iload_n 1, 1) := by decide +kernel
theorem dX4_call_21 : decode cX4_call 21 = .ok (.ldc 143, 2) := by decide +kernel
theorem dX4_call_23 : decode cX4_call 23 = .ok (.if_icmp .ge 25, 3) := by decide +kernel
theorem dX4_call_26 : decode cX4_call 26 = .ok (.iload_n 2, 1) := by decide +kernel
theorem dX4_call_27 : decode cX4_call 27 = .ok (.iconst 3, 1) := by decide +kernel
theorem dX4_call_28 : decode cX4_call 28 = .ok (.if_icmp .gt 20, 3) := by decide +kernel
theorem dX4_call_31 : decode cX4_call 31 = .ok (.iload_n 3, 1) := by decide +kernel
theorem dX4_call_32 : decode cX4_call 32 = .ok (.sipush 2000, 3) := by decide +kernel
theorem dX4_call_35 : decode cX4_call 35 = .ok (.if_icmp .gt 13, 3) := by decide +kernel
theorem dX4_call_38 : decode cX4_call 38 = .ok (.aload_n 0, 1) := by decide +kernel
theorem dX4_call_39 : decode cX4_call 39 = .ok (.getfield 121, 3) := by decide +kernel
theorem dX4_call_42 : decode cX4_call 42 = .ok (.sipush 200, 3) := by decide +kernel
theorem dX4_call_45 : decode cX4_call 45 = .ok (.if_icmp .ne 10, 3) := by decide +kernel
theorem dX4_call_48 : decode cX4_call 48 = .ok (.aload_n 0, 1) := by decide +kernel
theorem dX4_call_49 : decode cX4_call 49 = .ok (.bipush (-6), 2) := by decide +kernel
theorem dX4_call_51 : decode cX4_call 51 = .ok (.invokevirtual 124, 3) := by decide +kernel
theorem dX4_call_54 : decode cX4_call 54 = .ok (.ireturn, 1) := by decide +kernel
theorem dX4_call_55 : decode cX4_call 55 = .ok (.aload_n 0, 1) := by decide +kernel
theorem dX4_call_56 : decode cX4_call 56 = .ok (.getfield 121, 3) := by decide +kernel
theorem dX4_call_59 : decode cX4_call 59 = .ok (.istore 5, 2) := by decide +kernel
theorem dX4_call_61 : decode cX4_call 61 = .ok (.aload_n 0, 1) := by decide +kernel
theorem dX4_call_62 : decode cX4_call 62 = .ok (.dup, 1) := by decide +kernel
theorem dX4_call_63 : decode cX4_call 63 = .ok (.getfield 121, 3) := by decide +kernel
theorem dX4_call_66 : decode cX4_call 66 = .ok (.iconst 1, 1) := by decide +kernel
theorem dX4_call_67 : decode cX4_call 67 = .ok (.iadd, 1) := by decide +kernel
theorem dX4_call_68 : decode cX4_call 68 = .ok (.putfield 121, 3) := by decide +kernel
theorem dX4_call_71 : decode cX4_call 71 = .ok (.aload_n 0, 1) := by decide +kernel
theorem dX4_call_72 : decode cX4_call 72 = .ok (.getfield 68, 3) := by decide +kernel
theorem dX4_call_75 : decode cX4_call 75 = .ok (.iload 5, 2) := by decide +kernel
theorem dX4_call_77 : decode cX4_call 77 = .ok (.iload_n 1, 1) := by decide +kernel
theorem dX4_call_78 : decode cX4_call 78 = .ok (.iastore, 1) := by decide +kernel
theorem dX4_call_79 : decode cX4_call 79 = .ok (.aload_n 0, 1) := by decide +kernel
theorem dX4_call_80 : decode cX4_call 80 = .ok (.getfield 71, 3) := by decide +kernel
theorem dX4_call_83 : decode cX4_call 83 = .ok (.iload 5, 2) := by decide +kernel
theorem dX4_call_85 : decode cX4_call 85 = .ok (.iload_n 2, 1) := by decide +kernel
theorem dX4_call_86 : decode cX4_call 86 = .ok (.iastore, 1) := by decide +kernel
theorem dX4_call_87 : decode cX4_call 87 = .ok (.aload_n 0, 1) := by decide +kernel
theorem dX4_call_88 : decode cX4_call 88 = .ok (.getfield 74, 3) := by decide +kernel
theorem dX4_call_91 : decode cX4_call 91 = .ok (.iload 5, 2) := by decide +kernel
theorem dX4_call_93 : decode cX4_call 93 = .ok (.aload_n 0, 1) := by decide +kernel
theorem dX4_call_94 : decode cX4_call 94 = .ok (.getfield 163, 3) := by decide +kernel
theorem dX4_call_97 : decode cX4_call 97 = .ok (.iload_n 3, 1) := by decide +kernel
theorem dX4_call_98 : decode cX4_call 98 = .ok (.iadd, 1) := by decide +kernel
theorem dX4_call_99 : decode cX4_call 99 = .ok (.iastore, 1) := by decide +kernel
theorem dX4_call_100 : decode cX4_call 100 = .ok (.aload_n 0, 1) := by decide +kernel
theorem dX4_call_101 : decode cX4_call 101 = .ok (.getfield 95, 3) := by decide +kernel
theorem dX4_call_104 : decode cX4_call 104 = .ok (.iload 5, 2) := by decide +kernel
theorem dX4_call_106 : decode cX4_call 106 = .ok (.iload 4, 2) := by decide +kernel
theorem dX4_call_108 : decode cX4_call 108 = .ok (.bastore, 1) := by decide +kernel
theorem dX4_call_109 : decode cX4_call 109 = .ok (.aload_n 0, 1) := by decide +kernel
theorem dX4_call_110 : decode cX4_call 110 = .ok (.getfield 86, 3) := by decide +kernel
theorem dX4_call_113 : decode cX4_call 113 = .ok (.iload 5, 2) := by decide +kernel
theorem dX4_call_115 : decode cX4_call 115 = .ok (.aload_n 0, 1) := by decide +kernel
theorem dX4_call_116 : decode cX4_call 116 = .ok (.getfield 163, 3) := by decide +kernel
theorem dX4_call_119 : decode cX4_call 119 = .ok (.iastore, 1) := by decide +kernel
theorem dX4_call_120 : decode cX4_call 120 = .ok (.aload_n 0, 1) := by decide +kernel
theorem dX4_call_121 : decode cX4_call 121 = .ok (.getfield 89, 3) := by decide +kernel
theorem dX4_call_124 : decode cX4_call 124 = .ok (.iload 5, 2) := by decide +kernel
theorem dX4_call_126 : decode cX4_call 126 = .ok (.bipush (-9), 2) := by decide +kernel
theorem dX4_call_128 : decode cX4_call 128 = .ok (.iastore, 1) := by decide +kernel
theorem dX4_call_129 : decode cX4_call 129 = .ok (.aload_n 0, 1) := by decide +kernel
theorem dX4_call_130 : decode cX4_call 130 = .ok (.getfield 92, 3) := by decide +kernel
theorem dX4_call_133 : decode cX4_call 133 = .ok (.iload 5, 2) := by decide +kernel
theorem dX4_call_135 : decode cX4_call 135 = .ok (.bipush (-9), 2) := by decide +kernel
theorem dX4_call_137 : decode cX4_call 137 = .ok (.iastore, 1) := by decide +kernel
theorem dX4_call_138 : decode cX4_call 138 = .ok (.aload_n 0, 1) := by decide +kernel
theorem dX4_call_139 : decode cX4_call 139 = .ok (.iload 5, 2) := by decide +kernel
theorem dX4_call_141 : decode cX4_call 141 = .ok (.invokevirtual 178, 3) := by decide +kernel
theorem dX4_call_144 : decode cX4_call 144 = .ok (.istore 6, 2) := by decide +kernel
theorem dX4_call_146 : decode cX4_call 146 = .ok (.iload 5, 2) := by decide +kernel
theorem dX4_call_148 : decode cX4_call 148 = .ok (.ireturn, 1) := by decide +kernel
