theorem dX4_init_0 : decode cX4_init 0 = .ok (.aload_n 0, 1) := by decide +kernel
theorem dX4_init_1 : decode cX4_init 1 = .ok (.invokespecial 1, 3) := by decide +kernel
theorem dX4_init_4 : decode cX4_init 4 = .ok (.aload_n 0, 1) := by decide +kernel
theorem dX4_init_5 : decode cX4_init 5 = .ok (.bipush 7, 2) := by decide +kernel
theorem dX4_init_7 : decode cX4_init 7 = .ok (.newarray .int, 2) := by decide +kernel
theorem dX4_init_9 : decode cX4_init 9 = .ok (.putfield 7, 3) := by decide +kernel
theorem dX4_init_12 : decode cX4_init 12 = .ok (.aload_n 0, 1) := by decide +kernel
theorem dX4_init_13 : decode cX4_init 13 = .ok (.iconst 3, 1) := by decide +kernel
theorem dX4_init_14 : decode cX4_init 14 = .ok (.putfield 13, 3) := by decide +kernel
theorem dX4_init_17 : decode cX4_init 17 = .ok (.aload_n 0, 1) := by decide +kernel
theorem dX4_init_18 : decode cX4_init 18 = .ok (.bipush 20, 2) := by decide +kernel
theorem dX4_init_20 : decode cX4_init 20 = .ok (.putfield 17, 3) := by decide +kernel
theorem dX4_init_23 : decode cX4_init 23 = .ok (.aload_n 0, 1) := by decide +kernel
theorem dX4_init_24 : decode cX4_init 24 = .ok (.bipush 8, 2) := by decide +kernel
theorem dX4_init_26 : decode cX4_init 26 = .ok (.newarray .int, 2) := by decide +kernel
theorem dX4_init_28 : decode cX4_init 28 = .ok (.putfield 20, 3) := by decide +kernel
theorem dX4_init_31 : decode cX4_init 31 = .ok (.aload_n 0, 1) := by decide +kernel
theorem dX4_init_32 : decode cX4_init 32 = .ok (.bipush 8, 2) := by decide +kernel
theorem dX4_init_34 : decode cX4_init 34 = .ok (.newarray .int, 2) := by decide +kernel
theorem dX4_init_36 : decode cX4_init 36 = .ok (.putfield 23, 3) := by decide +kernel
theorem dX4_init_39 : decode cX4_init 39 = .ok (.aload_n 0, 1) := by decide +kernel
theorem dX4_init_40 : decode cX4_init 40 = .ok (.bipush 8, 2) := by decide +kernel
theorem dX4_init_42 : decode cX4_init 42 = .ok (.newarray .int, 2) := by decide +kernel
theorem dX4_init_44 : decode cX4_init 44 = .ok (.putfield 26, 3) := by decide +kernel
theorem dX4_init_47 : decode cX4_init 47 = .ok (.aload_n 0, 1) := by decide +kernel
theorem dX4_init_48 : decode cX4_init 48 = .ok (.bipush 8, 2) := by decide +kernel
theorem dX4_init_50 : decode cX4_init 50 = .ok (.newarray .int, 2) := by decide +kernel
theorem dX4_init_52 : decode cX4_init 52 = .ok (.putfield 29, 3) := by decide +kernel
theorem dX4_init_55 : decode cX4_init 55 = .ok (.aload_n 0, 1) := by decide +kernel
theorem dX4_init_56 : decode cX4_init 56 = .ok (.bipush 8, 2) := by decide +kernel
theorem dX4_init_58 : decode cX4_init 58 = .ok (.newarray .int, 2) := by decide +kernel
theorem dX4_init_60 : decode cX4_init 60 = .ok (.putfield 32, 3) := by decide +kernel
theorem dX4_init_63 : decode cX4_init 63 = .ok (.aload_n 0, 1) := by decide +kernel
theorem dX4_init_64 : decode cX4_init 64 = .ok (.bipush 8, 2) := by decide +kernel
theorem dX4_init_66 : decode cX4_init 66 = .ok (.newarray .int, 2) := by decide +kernel
theorem dX4_init_68 : decode cX4_init 68 = .ok (.putfield 35, 3) := by decide +kernel
theorem dX4_init_71 : decode cX4_init 71 = .ok (.aload_n 0, 1) := by decide +kernel
theorem dX4_init_72 : decode cX4_init 72 = .ok (.bipush 8, 2) := by decide +kernel
theorem dX4_init_74 : decode cX4_init 74 = .ok (.newarray .int, 2) := by decide +kernel
theorem dX4_init_76 : decode cX4_init 76 = .ok (.putfield 38, 3) := by decide +kernel
theorem dX4_init_79 : decode cX4_init 79 = .ok (.aload_n 0, 1) := by decide +kernel
theorem dX4_init_80 : decode cX4_init 80 = .ok (.bipush 8, 2) := by decide +kernel
theorem dX4_init_82 : decode cX4_init 82 = .ok (.newarray .int, 2) := by decide +kernel
theorem dX4_init_84 : decode cX4_init 84 = .ok (.putfield 41, 3) := by decide +kernel
theorem dX4_init_87 : decode cX4_init 87 = .ok (.aload_n 0, 1) := by decide +kernel
theorem dX4_init_88 : decode cX4_init 88 = .ok (.bipush 8, 2) := by decide +kernel
theorem dX4_init_90 : decode cX4_init 90 = .ok (.newarray .int, 2) := by decide +kernel
theorem dX4_init_92 : decode cX4_init 92 = .ok (.putfield 44, 3) := by decide +kernel
theorem dX4_init_95 : decode cX4_init 95 = .ok (.aload_n 0, 1) := by decide +kernel
theorem dX4_init_96 : decode cX4_init 96 = .ok (.bipush 8, 2) := by decide +kernel
theorem dX4_init_98 : decode cX4_init 98 = .ok (.newarray .int, 2) := by decide +kernel
theorem dX4_init_100 : decode cX4_init 100 = .ok (.putfield 47, 3) := by decide +kernel
theorem dX4_init_103 : decode cX4_init 103 = .ok (.aload_n 0, 1) := by decide +kernel
theorem dX4_init_104 : decode cX4_init 104 = .ok (.bipush 8, 2) := by decide +kernel
theorem dX4_init_106 : decode cX4_init 106 = .ok (.newarray .int, 2) := by decide +kernel
theorem dX4_init_108 : decode cX4_init 108 = .ok (.putfield 50, 3) := by decide +kernel
theorem dX4_init_111 : decode cX4_init 111 = .ok (.aload_n 0, 1) := by decide +kernel
theorem dX4_init_112 : decode cX4_init 112 = .ok (.bipush 8, 2) := by decide +kernel
theorem dX4_init_114 : decode cX4_init 114 = .ok (.newarray .int, 2) := by decide +kernel
theorem dX4_init_116 : decode cX4_init 116 = .ok (.putfield 53, 3) := by decide +kernel
theorem dX4_init_119 : decode cX4_init 119 = .ok (.aload_n 0, 1) := by decide +kernel
theorem dX4_init_120 : decode cX4_init 120 = .ok (.bipush 8, 2) := by decide +kernel
theorem dX4_init_122 : decode cX4_init 122 = .ok (.newarray .int, 2) := by decide +kernel
theorem dX4_init_124 : decode cX4_init 124 = .ok (.putfield 56, 3) := by decide +kernel
theorem dX4_init_127 : decode cX4_init 127 = .ok (.aload_n 0, 1) := by decide +kernel
theorem dX4_init_128 : decode cX4_init 128 = .ok (.bipush 8, 2) := by decide +kernel
theorem dX4_init_130 : decode cX4_init 130 = .ok (.newarray .int, 2) := by decide +kernel
theorem dX4_init_132 : decode cX4_init 132 = .ok (.putfield 59, 3) := by decide +kernel
theorem dX4_init_135 : decode cX4_init 135 = .ok (.aload_n 0, 1) := by decide +kernel
theorem dX4_init_136 : decode cX4_init 136 = .ok (.bipush 8, 2) := by decide +kernel
theorem dX4_init_138 : decode cX4_init 138 = .ok (.newarray .int, 2) := by decide +kernel
theorem dX4_init_140 : decode cX4_init 140 = .ok (.putfield 62, 3) := by decide +kernel
theorem dX4_init_143 : decode cX4_init 143 = .ok (.aload_n 0, 1) := by decide +kernel
theorem dX4_init_144 : decode cX4_init 144 = .ok (.bipush 8, 2) := by decide +kernel
theorem dX4_init_146 : decode cX4_init 146 = .ok (.newarray .int, 2) := by decide +kernel
theorem dX4_init_148 : decode cX4_init 148 = .ok (.putfield 65, 3) := by decide +kernel
theorem dX4_init_151 : decode cX4_init 151 = .ok (.aload_n 0, 1) := by decide +kernel
theorem dX4_init_152 : decode cX4_init 152 = .ok (.sipush 200, 3) := by decide +kernel
theorem dX4_init_155 : decode cX4_init 155 = .ok (.newarray .int, 2) := by decide +kernel
theorem dX4_init_157 : decode cX4_init 157 = .ok (.putfield 68, 3) := by decide +kernel
theorem dX4_init_160 : decode cX4_init 160 = .ok (.aload_n 0, 1) := by decide +kernel
theorem dX4_init_161 : decode cX4_init 161 = .ok (.sipush 200, 3) := by decide +kernel
theorem dX4_init_164 : decode cX4_init 164 = .ok (.newarray .int, 2) := by decide +kernel
theorem dX4_init_166 : decode cX4_init 166 = .ok (.putfield 71, 3) := by decide +kernel
theorem dX4_init_169 : decode cX4_init 169 = .ok (.aload_n 0, 1) := by decide +kernel
theorem dX4_init_170 : decode cX4_init 170 = .ok (.sipush 200, 3) := by decide +kernel
theorem dX4_init_173 : decode cX4_init 173 = .ok (.newarray .int, 2) := by decide +kernel
theorem dX4_init_175 : decode cX4_init 175 = .ok (.putfield 74, 3) := by decide +kernel
theorem dX4_init_178 : decode cX4_init 178 = .ok (.aload_n 0, 1) := by decide +kernel
theorem dX4_init_179 : decode cX4_init 179 = .ok (.sipush 200, 3) := by decide +kernel
theorem dX4_init_182 : decode cX4_init 182 = .ok (.newarray .int, 2) := by decide +kernel
theorem dX4_init_184 : decode cX4_init 184 = .ok (.putfield 77, 3) := by decide +kernel
theorem dX4_init_187 : decode cX4_init 187 = .ok (.aload_n 0, 1) := by decide +kernel
theorem dX4_init_188 : decode cX4_init 188 = .ok (.sipush 200, 3) := by decide +kernel
theorem dX4_init_191 : decode cX4_init 191 = .ok (.newarray .int, 2) := by decide +kernel
theorem dX4_init_193 : decode cX4_init 193 = .ok (.putfield 80, 3) := by decide +kernel
theorem dX4_init_196 : decode cX4_init 196 = .ok (.aload_n 0, 1) := by decide +kernel
theorem dX4_init_197 : decode cX4_init 197 = .ok (.sipush 200, 3) := by decide +kernel
theorem dX4_init_200 : decode cX4_init 200 = .ok (.newarray .int, 2) := by decide +kernel
theorem dX4_init_202 : decode cX4_init 202 = .ok (.putfield 83, 3) := by decide +kernel
theorem dX4_init_205 : decode cX4_init 205 = .ok (.aload_n 0, 1) := by decide +kernel
theorem dX4_init_206 : decode cX4_init 206 = .ok (.sipush 200, 3) := by decide +kernel
theorem dX4_init_209 : decode cX4_init 209 = .ok (.newarray .int, 2) := by decide +kernel
theorem dX4_init_211 : decode cX4_init 211 = .ok (.putfield 86, 3) := by decide +kernel
theorem dX4_init_214 : decode cX4_init 214 = .ok (.aload_n 0, 1) := by decide +kernel
theorem dX4_init_215 : decode cX4_init 215 = .ok (.sipush 200, 3) := by decide +kernel
theorem dX4_init_218 : decode cX4_init 218 = .ok (.newarray .int, 2) := by decide +kernel
theorem dX4_init_220 : decode cX4_init 220 = .ok (.putfield 89, 3) := by decide +kernel
theorem dX4_init_223 : decode cX4_init 223 = .ok (.aload_n 0, 1) := by decide +kernel
theorem dX4_init_224 : decode cX4_init 224 = .ok (.sipush 200, 3) := by decide +kernel
theorem dX4_init_227 : decode cX4_init 227 = .ok (.newarray .int, 2) := by decide +kernel
theorem dX4_init_229 : decode cX4_init 229 = .ok (.putfield 92, 3) := by decide +kernel
theorem dX4_init_232 : decode cX4_init 232 = .ok (.aload_n 0, 1) := by decide +kernel
theorem dX4_init_233 : decode cX4_init 233 = .ok (.sipush 200, 3) := by decide +kernel
theorem dX4_init_236 : decode cX4_init 236 = .ok (.newarray .boolean, 2) := by decide +kernel
theorem dX4_init_238 : decode cX4_init 238 = .ok (.putfield 95, 3) := by decide +kernel
theorem dX4_init_241 : decode cX4_init 241 = .ok (.aload_n 0, 1) := by decide +kernel
theorem dX4_init_242 : decode cX4_init 242 = .ok (.sipush 400, 3) := by decide +kernel
theorem dX4_init_245 : decode cX4_init 245 = .ok (.newarray .int, 2) := by decide +kernel
theorem dX4_init_247 : decode cX4_init 247 = .ok (.putfield 99, 3) := by decide +kernel
theorem dX4_init_250 : decode cX4_init 250 = .ok (.aload_n 0, 1) := by decide +kernel
theorem dX4_init_251 : decode cX4_init 251 = .ok (.sipush 400, 3) := by decide +kernel
theorem dX4_init_254 : decode cX4_init 254 = .ok (.newarray .int, 2) := by decide +kernel
theorem dX4_init_256 : decode cX4_init 256 = .ok (.putfield 102, 3) := by decide +kernel
theorem dX4_init_259 : decode cX4_init 259 = .ok (.aload_n 0, 1) := by decide +kernel
theorem dX4_init_260 : decode cX4_init 260 = .ok (.sipush 400, 3) := by decide +kernel
theorem dX4_init_263 : decode cX4_init 263 = .ok (.newarray .int, 2) := by decide +kernel
theorem dX4_init_265 : decode cX4_init 265 = .ok (.putfield 105, 3) := by decide +kernel
theorem dX4_init_268 : decode cX4_init 268 = .ok (.aload_n 0, 1) := by decide +kernel
theorem dX4_init_269 : decode cX4_init 269 = .ok (.sipush 400, 3) := by decide +kernel
theorem dX4_init_272 : decode cX4_init 272 = .ok (.newarray .boolean, 2) := by decide +kernel
theorem dX4_init_274 : decode cX4_init 274 = .ok (.putfield 108, 3) := by decide +kernel
theorem dX4_init_277 : decode cX4_init 277 = .ok (.aload_n 0, 1) := by decide +kernel
theorem dX4_init_278 : decode cX4_init 278 = .ok (.sipush 200, 3) := by decide +kernel
theorem dX4_init_281 : decode cX4_init 281 = .ok (.newarray .int, 2) := by decide +kernel
theorem dX4_init_283 : decode cX4_init 283 = .ok (.putfield 111, 3) := by decide +kernel
theorem dX4_init_286 : decode cX4_init 286 = .ok (.return_, 1) := by decide +kernel
theorem dX4_refuse_0 : decode cX4_refuse 0 = .ok (.aload_n 0, 1) := by decide +kernel
theorem dX4_refuse_1 : decode cX4_refuse 1 = .ok (.getfield 7, 3) := by decide +kernel
theorem dX4_refuse_4 : decode cX4_refuse 4 = .ok (.iload_n 1, 1) := by decide +kernel
theorem dX4_refuse_5 : decode cX4_refuse 5 = .ok (.ineg, 1) := by decide +kernel
theorem dX4_refuse_6 : decode cX4_refuse 6 = .ok (.dup2, 1) := by decide +kernel
theorem dX4_refuse_7 : decode cX4_refuse 7 = .ok (.iaload, 1) := by decide +kernel
theorem dX4_refuse_8 : decode cX4_refuse 8 = .ok (.iconst 1, 1) := by decide +kernel
theorem dX4_refuse_9 : decode cX4_refuse 9 = .ok (.iadd, 1) := by decide +kernel
theorem dX4_refuse_10 : decode cX4_refuse 10 = .ok (.iastore, 1) := by decide +kernel
theorem dX4_refuse_11 : decode cX4_refuse 11 = .ok (.iload_n 1, 1) := by decide +kernel
theorem dX4_refuse_12 : decode cX4_refuse 12 = .ok (.ireturn, 1) := by decide +kernel
theorem dX4_isIn_0 : decode cX4_isIn 0 = .ok (.iload_n 0, 1) := by decide +kernel
theorem dX4_isIn_1 : decode cX4_isIn 1 = .ok (.ifCond .lt 12, 3) := by decide +kernel
theorem dX4_isIn_4 : decode cX4_isIn 4 = .ok (.iload_n 0, 1) := by decide +kernel
theorem dX4_isIn_5 : decode cX4_isIn 5 = .ok (.iload_n 1, 1) := by decide +kernel
theorem dX4_isIn_6 : decode cX4_isIn 6 = .ok (.if_icmp .ge 7, 3) := by decide +kernel
theorem dX4_isIn_9 : decode cX4_isIn 9 = .ok (.iconst 1, 1) := by decide +kernel
theorem dX4_isIn_10 : decode cX4_isIn 10 = .ok (.goto 4, 3) := by decide +kernel
theorem dX4_isIn_13 : decode cX4_isIn 13 = .ok (.iconst 0, 1) := by decide +kernel
theorem dX4_isIn_14 : decode cX4_isIn 14 = .ok (.ireturn, 1) := by decide +kernel
theorem dX4_isServer_0 : decode cX4_isServer 0 = .ok (.iload_n 1, 1) := by decide +kernel
theorem dX4_isServer_1 : decode cX4_isServer 1 = .ok (.aload_n 0, 1) := by decide +kernel
theorem dX4_isServer_2 : decode cX4_isServer 2 = .ok (.getfield 114, 3) := by decide +kernel
theorem dX4_isServer_5 : decode cX4_isServer 5 = .ok (.invokestatic 117, 3) := by decide +kernel
theorem dX4_isServer_8 : decode cX4_isServer 8 = .ok (.ireturn, 1) := by decide +kernel
theorem dX4_isCall_0 : decode cX4_isCall 0 = .ok (.iload_n 1, 1) := by decide +kernel
theorem dX4_isCall_1 : decode cX4_isCall 1 = .ok (.aload_n 0, 1) := by decide +kernel
theorem dX4_isCall_2 : decode cX4_isCall 2 = .ok (.getfield 121, 3) := by decide +kernel
theorem dX4_isCall_5 : decode cX4_isCall 5 = .ok (.invokestatic 117, 3) := by decide +kernel
theorem dX4_isCall_8 : decode cX4_isCall 8 = .ok (.ireturn, 1) := by decide +kernel
theorem dX4_server_0 : decode cX4_server 0 = .ok (.iload_n 2, 1) := by decide +kernel
theorem dX4_server_1 : decode cX4_server 1 = .ok (.iconst 4, 1) := by decide +kernel
theorem dX4_server_2 : decode cX4_server 2 = .ok (.invokestatic 117, 3) := by decide +kernel
theorem dX4_server_5 : decode cX4_server 5 = .ok (.ifCond .ne 9, 3) := by decide +kernel
theorem dX4_server_8 : decode cX4_server 8 = .ok (.aload_n 0, 1) := by decide +kernel
theorem dX4_server_9 : decode cX4_server 9 = .ok (.iconst (-1), 1) := by decide +kernel
theorem dX4_server_10 : decode cX4_server 10 = .ok (.invokevirtual 124, 3) := by decide +kernel
theorem dX4_server_13 : decode cX4_server 13 = .ok (.ireturn, 1) := by decide +kernel
theorem dX4_server_14 : decode cX4_server 14 = .ok (.iload_n 1, 1) := by decide +kernel
theorem dX4_server_15 : decode cX4_server 15 = .ok (.iconst 1, 1) := by decide +kernel
theorem dX4_server_16 : decode cX4_server 16 = .ok (.if_icmp .lt 19, 3) := by decide +kernel
theorem dX4_server_19 : decode cX4_server 19 = .ok (.iload_n 3, 1) := by decide +kernel
theorem dX4_server_20 : decode cX4_server 20 = .ok (.iconst 1, 1) := by decide +kernel
theorem dX4_server_21 : decode cX4_server 21 = .ok (.if_icmp .lt 14, 3) := by decide +kernel
theorem dX4_server_24 : decode cX4_server 24 = .ok (.iload 4, 2) := by decide +kernel
theorem dX4_server_26 : decode cX4_server 26 = .ok (.iconst 1, 1) := by decide +kernel
theorem dX4_server_27 : decode cX4_server 27 = .ok (.if_icmp .lt 8, 3) := by decide +kernel
theorem dX4_server_30 : decode cX4_server 30 = .ok (.iload 5, 2) := by decide +kernel
theorem dX4_server_32 : decode cX4_server 32 = .ok (.ifCond .ge 10, 3) := by decide +kernel
theorem dX4_server_35 : decode cX4_server 35 = .ok (.aload_n 0, 1) := by decide +kernel
theorem dX4_server_36 : decode cX4_server 36 = .ok (.bipush (-4), 2) := by decide +kernel
theorem dX4_server_38 : decode cX4_server 38 = .ok (.invokevirtual 124, 3) := by decide +kernel
theorem dX4_server_41 : decode cX4_server 41 = .ok (.ireturn, 1) := by decide +kernel
theorem dX4_server_42 : decode cX4_server 42 = .ok (.iload_n 1, 1) := by decide +kernel
theorem dX4_server_43 : decode cX4_server 43 = .ok (.bipush 100, 2) := by decide +kernel
theorem dX4_server_45 : decode cX4_server 45 = .ok (.if_icmp .gt 33, 3) := by decide +kernel
theorem dX4_server_48 : decode cX4_server 48 = .ok (.iload_n 3, 1) := by decide +kernel
theorem dX4_server_49 : decode cX4_server 49 = .ok (.bipush 20, 2) := by decide +kernel
theorem dX4_server_51 : decode cX4_server 51 = .ok (.if_icmp .gt 27, 3) := by decide +kernel
theorem dX4_server_54 : decode cX4_server 54 = .ok (.iload 4, 2) := by decide +kernel
theorem dX4_server_56 : decode cX4_server 56 = .ok (.sipush 200, 3) := by decide +kernel
theorem dX4_server_59 : decode cX4_server 59 = .ok (.if_icmp .gt 19, 3) := by decide +kernel
theorem dX4_server_62 : decode cX4_server 62 = .ok (.iload 5, 2) := by decide +kernel
theorem dX4_server_64 : decode cX4_server 64 = .ok (.bipush 20, 2) := by decide +kernel
theorem dX4_server_66 : decode cX4_server 66 = .ok (.if_icmp .gt 12, 3) := by decide +kernel
theorem dX4_server_69 : decode cX4_server 69 = .ok (.aload_n 0, 1) := by decide +kernel
theorem dX4_server_70 : decode cX4_server 70 = .ok (.getfield 114, 3) := by decide +kernel
theorem dX4_server_73 : decode cX4_server 73 = .ok (.bipush 8, 2) := by decide +kernel
theorem dX4_server_75 : decode cX4_server 75 = .ok (.if_icmp .ne 10, 3) := by decide +kernel
theorem dX4_server_78 : decode cX4_server 78 = .ok (.aload_n 0, 1) := by decide +kernel
theorem dX4_server_79 : decode cX4_server 79 = .ok (.bipush (-6), 2) := by decide +kernel
theorem dX4_server_81 : decode cX4_server 81 = .ok (.invokevirtual 124, 3) := by decide +kernel
theorem dX4_server_84 : decode cX4_server 84 = .ok (.ireturn, 1) := by decide +kernel
theorem dX4_server_85 : decode cX4_server 85 = .ok (.aload_n 0, 1) := by decide +kernel
theorem dX4_server_86 : decode cX4_server 86 = .ok (.getfield 114, 3) := by decide +kernel
theorem dX4_server_89 : decode cX4_server 89 = .ok (.istore 6, 2) := by decide +kernel
theorem dX4_server_91 : decode cX4_server 91 = .ok (.aload_n 0, 1) := by decide +kernel
theorem dX4_server_92 : decode cX4_server 92 = .ok (.dup, 1) := by decide +kernel
theorem dX4_server_93 : decode cX4_server 93 = .ok (.getfield 114, 3) := by decide +kernel
theorem dX4_server_96 : decode cX4_server 96 = .ok (.iconst 1, 1) := by decide +kernel
theorem dX4_server_97 : decode cX4_server 97 = .ok (.iadd, 1) := by decide +kernel
theorem dX4_server_98 : decode cX4_server 98 = .ok (.putfield 114, 3) := by decide +kernel
theorem dX4_server_101 : decode cX4_server 101 = .ok (.aload_n 0, 1) := by decide +kernel
theorem dX4_server_102 : decode cX4_server 102 = .ok (.getfield 20, 3) := by decide +kernel
theorem dX4_server_105 : decode cX4_server 105 = .ok (.iload 6, 2) := by decide +kernel
theorem dX4_server_107 : decode cX4_server 107 = .ok (.iload_n 1, 1) := by decide +kernel
theorem dX4_server_108 : decode cX4_server 108 = .ok (.iastore, 1) := by decide +kernel
theorem dX4_server_109 : decode cX4_server 109 = .ok (.aload_n 0, 1) := by decide +kernel
theorem dX4_server_110 : decode cX4_server 110 = .ok (.getfield 23, 3) := by decide +kernel
theorem dX4_server_113 : decode cX4_server 113 = .ok (.iload 6, 2) := by decide +kernel
theorem dX4_server_115 : decode cX4_server 115 = .ok (.iload_n 2, 1) := by decide +kernel
theorem dX4_server_116 : decode cX4_server 116 = .ok (.iastore, 1) := by decide +kernel
theorem dX4_server_117 : decode cX4_server 117 = .ok (.aload_n 0, 1) := by decide +kernel
theorem dX4_server_118 : decode cX4_server 118 = .ok (.getfield 26, 3) := by decide +kernel
theorem dX4_server_121 : decode cX4_server 121 = .ok (.iload 6, 2) := by decide +kernel
theorem dX4_server_123 : decode cX4_server 123 = .ok (.iload_n 3, 1) := by decide +kernel
theorem dX4_server_124 : decode cX4_server 124 = .ok (.iastore, 1) := by decide +kernel
theorem dX4_server_125 : decode cX4_server 125 = .ok (.aload_n 0, 1) := by decide +kernel
theorem dX4_server_126 : decode cX4_server 126 = .ok (.getfield 29, 3) := by decide +kernel
theorem dX4_server_129 : decode cX4_server 129 = .ok (.iload 6, 2) := by decide +kernel
theorem dX4_server_131 : decode cX4_server 131 = .ok (.iload 4, 2) := by decide +kernel
theorem dX4_server_133 : decode cX4_server 133 = .ok (.iastore, 1) := by decide +kernel
theorem dX4_server_134 : decode cX4_server 134 = .ok (.aload_n 0, 1) := by decide +kernel
theorem dX4_server_135 : decode cX4_server 135 = .ok (.getfield 32, 3) := by decide +kernel
theorem dX4_server_138 : decode cX4_server 138 = .ok (.iload 6, 2) := by decide +kernel
theorem dX4_server_140 : decode cX4_server 140 = .ok (.iload 5, 2) := by decide +kernel
theorem dX4_server_142 : decode cX4_server 142 = .ok (.iastore, 1) := by decide +kernel
theorem dX4_server_143 : decode cX4_server 143 = .ok (.aload_n 0, 1) := by decide +kernel
theorem dX4_server_144 : decode cX4_server 144 = .ok (.getfield 59, 3) := by decide +kernel
theorem dX4_server_147 : decode cX4_server 147 = .ok (.iload 6, 2) := by decide +kernel
theorem dX4_server_149 : decode cX4_server 149 = .ok (.bipush 10, 2) := by decide +kernel
theorem dX4_server_151 : decode cX4_server 151 = .ok (.iastore, 1) := by decide +kernel
theorem dX4_server_152 : decode cX4_server 152 = .ok (.iload 6, 2) := by decide +kernel
theorem dX4_server_154 : decode cX4_server 154 = .ok (.ireturn, 1) := by decide +kernel
theorem dX4_set_0 : decode cX4_set 0 = .ok (.aload_n 0, 1) := by decide +kernel
theorem dX4_set_1 : decode cX4_set 1 = .ok (.iload_n 1, 1) := by decide +kernel
theorem dX4_set_2 : decode cX4_set 2 = .ok (.invokevirtual 128, 3) := by decide +kernel
theorem dX4_set_5 : decode cX4_set 5 = .ok (.ifCond .ne 9, 3) := by decide +kernel
theorem dX4_set_8 : decode cX4_set 8 = .ok (.aload_n 0, 1) := by decide +kernel
theorem dX4_set_9 : decode cX4_set 9 = .ok (.iconst (-1), 1) := by decide +kernel
theorem dX4_set_10 : decode cX4_set 10 = .ok (.invokevirtual 124, 3) := by decide +kernel
theorem dX4_set_13 : decode cX4_set 13 = .ok (.ireturn, 1) := by decide +kernel
theorem dX4_set_14 : decode cX4_set 14 = .ok (.iload_n 2, 1) := by decide +kernel
theorem dX4_set_15 : decode cX4_set 15 = .ok (.iconst 5, 1) := by decide +kernel
theorem dX4_set_16 : decode cX4_set 16 = .ok (.invokestatic 117, 3) := by decide +kernel
theorem dX4_set_19 : decode cX4_set 19 = .ok (.ifCond .ne 10, 3) := by decide +kernel
theorem dX4_set_22 : decode cX4_set 22 = .ok (.aload_n 0, 1) := by decide +kernel
theorem dX4_set_23 : decode cX4_set 23 = .ok (.bipush (-2), 2) := by decide +kernel
theorem dX4_set_25 : decode cX4_set 25 = .ok (.invokevirtual 124, 3) := by decide +kernel
theorem dX4_set_28 : decode cX4_set 28 = .ok (.ireturn, 1) := by decide +kernel
theorem dX4_set_29 : decode cX4_set 29 = .ok (.aload_n 0, 1) := by decide +kernel
theorem dX4_set_30 : decode cX4_set 30 = .ok (.getfield 38, 3) := by decide +kernel
theorem dX4_set_33 : decode cX4_set 33 = .ok (.iload_n 1, 1) := by decide +kernel
theorem dX4_set_34 : decode cX4_set 34 = .ok (.iaload, 1) := by decide +kernel
theorem dX4_set_35 : decode cX4_set 35 = .ok (.iconst 4, 1) := by decide +kernel
theorem dX4_set_36 : decode cX4_set 36 = .ok (.if_icmp .ne 10, 3) := by decide +kernel
theorem dX4_set_39 : decode cX4_set 39 = .ok (.aload_n 0, 1) := by decide +kernel
theorem dX4_set_40 : decode cX4_set 40 = .ok (.bipush (-3), 2) := by decide +kernel
theorem dX4_set_42 : decode cX4_set 42 = .ok (.invokevirtual 124, 3) := by decide +kernel
theorem dX4_set_45 : decode cX4_set 45 = .ok (.ireturn, 1) := by decide +kernel
theorem dX4_set_46 : decode cX4_set 46 = .ok (.iload_n 3, 1) := by decide +kernel
theorem dX4_set_47 : decode cX4_set 47 = .ok (.iload_n 2, 1) := by decide +kernel
theorem dX4_set_48 : decode cX4_set 48 = .ok (.iconst 3, 1) := by decide +kernel
theorem dX4_set_49 : decode cX4_set 49 = .ok (.if_icmp .ge 7, 3) := by decide +kernel
theorem dX4_set_52 : decode cX4_set 52 = .ok (.iconst 1, 1) := by decide +kernel
theorem dX4_set_53 : decode cX4_set 53 = .ok (.goto 4, 3) := by decide +kernel
theorem dX4_set_56 : decode cX4_set 56 = .ok (.iconst 0, 1) := by decide +kernel
theorem dX4_set_57 : decode cX4_set 57 = .ok (.if_icmp .ge 10, 3) := by decide +kernel
theorem dX4_set_60 : decode cX4_set 60 = .ok (.aload_n 0, 1) := by decide +kernel
theorem dX4_set_61 : decode cX4_set 61 = .ok (.bipush (-4), 2) := by decide +kernel
theorem dX4_set_63 : decode cX4_set 63 = .ok (.invokevirtual 124, 3) := by decide +kernel
theorem dX4_set_66 : decode cX4_set 66 = .ok (.ireturn, 1) := by decide +kernel
theorem dX4_set_67 : decode cX4_set 67 = .ok (.iload_n 3, 1) := by decide +kernel
theorem dX4_set_68 : decode cX4_set 68 = .ok (.iload_n 2, 1) := by decide +kernel
theorem dX4_set_69 : decode cX4_set 69 = .ok (.ifCond .ne 8, 3) := by decide +kernel
theorem dX4_set_72 : decode cX4_set 72 = .ok (.bipush 100, 2) := by decide +kernel
theorem dX4_set_74 : decode cX4_set 74 = .ok (.goto 30, 3) := by decide +kernel
theorem dX4_set_77 : decode cX4_set 77 = .ok (.iload_n 2, 1) := by decide +kernel
theorem dX4_set_78 : decode cX4_set 78 = .ok (.iconst 1, 1) := by decide +kernel
theorem dX4_set_79 : decode cX4_set 79 = .ok (.if_icmp .eq 8, 3) := by decide +kernel
theorem dX4_set_82 : decode cX4_set 82 = .ok (.iload_n 2, 1) := by decide +kernel
theorem dX4_set_83 : decode cX4_set 83 = .ok (.iconst 3, 1) := by decide +kernel
theorem dX4_set_84 : decode cX4_set 84 = .ok (.if_icmp .ne 8, 3) := by decide +kernel
theorem dX4_set_87 : decode cX4_set 87 = .ok (.bipush 20, 2) := by decide +kernel
theorem dX4_set_89 : decode cX4_set 89 = .ok (.goto 15, 3) := by decide +kernel
theorem dX4_set_92 : decode cX4_set 92 = .ok (.iload_n 2, 1) := by decide +kernel
theorem dX4_set_93 : decode cX4_set 93 = .ok (.iconst 2, 1) := by decide +kernel
theorem dX4_set_94 : decode cX4_set 94 = .ok (.if_icmp .ne 9, 3) := by decide +kernel
theorem dX4_set_97 : decode cX4_set 97 = .ok (.sipush 200, 3) := by decide +kernel
theorem dX4_set_100 : decode cX4_set 100 = .ok (.goto 4, 3) := by decide +kernel
theorem dX4_set_103 : decode cX4_set 103 = .ok (.iconst 1, 1) := by decide +kernel
theorem dX4_set_104 : decode cX4_set 104 = .ok (.if_icmp .le 10, 3) := by decide +kernel
theorem dX4_set_107 : decode cX4_set 107 = .ok (.aload_n 0, 1) := by decide +kernel
theorem dX4_set_108 : decode cX4_set 108 = .ok (.bipush (-6), 2) := by decide +kernel
theorem dX4_set_110 : decode cX4_set 110 = .ok (.invokevirtual 124, 3) := by decide +kernel
theorem dX4_set_113 : decode cX4_set 113 = .ok (.ireturn, 1) := by decide +kernel
theorem dX4_set_114 : decode cX4_set 114 = .ok (.aload_n 0, 1) := by decide +kernel
theorem dX4_set_115 : decode cX4_set 115 = .ok (.iload_n 1, 1) := by decide +kernel
theorem dX4_set_116 : decode cX4_set 116 = .ok (.iload_n 2, 1) := by decide +kernel
theorem dX4_set_117 : decode cX4_set 117 = .ok (.ifCond .ne 8, 3) := by decide +kernel
theorem dX4_set_120 : decode cX4_set 120 = .ok (.bipush 10, 2) := by decide +kernel
theorem dX4_set_122 : decode cX4_set 122 = .ok (.goto 7, 3) := by decide +kernel
theorem dX4_set_125 : decode cX4_set 125 = .ok (.bipush 11, 2) := by decide +kernel
theorem dX4_set_127 : decode cX4_set 127 = .ok (.iload_n 2, 1) := by decide +kernel
theorem dX4_set_128 : decode cX4_set 128 = .ok (.iadd, 1) := by decide +kernel
theorem dX4_set_129 : decode cX4_set 129 = .ok (.invokevirtual 132, 3) := by decide +kernel
theorem dX4_set_132 : decode cX4_set 132 = .ok (.istore 4, 2) := by decide +kernel
theorem dX4_set_134 : decode cX4_set 134 = .ok (.iload_n 2, 1) := by decide +kernel
theorem dX4_set_135 : decode cX4_set 135 = .ok (.ifCond .ne 13, 3) := by decide +kernel
theorem dX4_set_138 : decode cX4_set 138 = .ok (.aload_n 0, 1) := by decide +kernel
theorem dX4_set_139 : decode cX4_set 139 = .ok (.getfield 20, 3) := by decide +kernel
theorem dX4_set_142 : decode cX4_set 142 = .ok (.iload_n 1, 1) := by decide +kernel
theorem dX4_set_143 : decode cX4_set 143 = .ok (.iload_n 3, 1) := by decide +kernel
theorem dX4_set_144 : decode cX4_set 144 = .ok (.iastore, 1) := by decide +kernel
theorem dX4_set_145 : decode cX4_set 145 = .ok (.goto 55, 3) := by decide +kernel
theorem dX4_set_148 : decode cX4_set 148 = .ok (.iload_n 2, 1) := by decide +kernel
theorem dX4_set_149 : decode cX4_set 149 = .ok (.iconst 1, 1) := by decide +kernel
theorem dX4_set_150 : decode cX4_set 150 = .ok (.if_icmp .ne 13, 3) := by decide +kernel
theorem dX4_set_153 : decode cX4_set 153 = .ok (.aload_n 0, 1) := by decide +kernel
theorem dX4_set_154 : decode cX4_set 154 = .ok (.getfield 26, 3) := by decide +kernel
theorem dX4_set_157 : decode cX4_set 157 = .ok (.iload_n 1, 1) := by decide +kernel
theorem dX4_set_158 : decode cX4_set 158 = .ok (.iload_n 3, 1) := by decide +kernel
theorem dX4_set_159 : decode cX4_set 159 = .ok (.iastore, 1) := by decide +kernel
theorem dX4_set_160 : decode cX4_set 160 = .ok (.goto 40, 3) := by decide +kernel
theorem dX4_set_163 : decode cX4_set 163 = .ok (.iload_n 2, 1) := by decide +kernel
theorem dX4_set_164 : decode cX4_set 164 = .ok (.iconst 2, 1) := by decide +kernel
theorem dX4_set_165 : decode cX4_set 165 = .ok (.if_icmp .ne 13, 3) := by decide +kernel
theorem dX4_set_168 : decode cX4_set 168 = .ok (.aload_n 0, 1) := by decide +kernel
theorem dX4_set_169 : decode cX4_set 169 = .ok (.getfield 29, 3) := by decide +kernel
theorem dX4_set_172 : decode cX4_set 172 = .ok (.iload_n 1, 1) := by decide +kernel
theorem dX4_set_173 : decode cX4_set 173 = .ok (.iload_n 3, 1) := by decide +kernel
theorem dX4_set_174 : decode cX4_set 174 = .ok (.iastore, 1) := by decide +kernel
theorem dX4_set_175 : decode cX4_set 175 = .ok (.goto 25, 3) := by decide +kernel
theorem dX4_set_178 : decode cX4_set 178 = .ok (.iload_n 2, 1) := by decide +kernel
theorem dX4_set_179 : decode cX4_set 179 = .ok (.iconst 3, 1) := by decide +kernel
theorem dX4_set_180 : decode cX4_set 180 = .ok (.if_icmp .ne 13, 3) := by decide +kernel
theorem dX4_set_183 : decode cX4_set 183 = .ok (.aload_n 0, 1) := by decide +kernel
theorem dX4_set_184 : decode cX4_set 184 = .ok (.getfield 32, 3) := by decide +kernel
theorem dX4_set_187 : decode cX4_set 187 = .ok (.iload_n 1, 1) := by decide +kernel
theorem dX4_set_188 : decode cX4_set 188 = .ok (.iload_n 3, 1) := by decide +kernel
theorem dX4_set_189 : decode cX4_set 189 = .ok (.iastore, 1) := by decide +kernel
theorem dX4_set_190 : decode cX4_set 190 = .ok (.goto 10, 3) := by decide +kernel
theorem dX4_set_193 : decode cX4_set 193 = .ok (.aload_n 0, 1) := by decide +kernel
theorem dX4_set_194 : decode cX4_set 194 = .ok (.getfield 35, 3) := by decide +kernel
theorem dX4_set_197 : decode cX4_set 197 = .ok (.iload_n 1, 1) := by decide +kernel
theorem dX4_set_198 : decode cX4_set 198 = .ok (.iload_n 3, 1) := by decide +kernel
theorem dX4_set_199 : decode cX4_set 199 = .ok (.iastore, 1) := by decide +kernel
theorem dX4_set_200 : decode cX4_set 200 = .ok (.iload 4, 2) := by decide +kernel
theorem dX4_set_202 : decode cX4_set 202 = .ok (.ireturn, 1) := by decide +kernel
theorem dX4_drain_0 : decode cX4_drain 0 = .ok (.aload_n 0, 1) := by decide +kernel
theorem dX4_drain_1 : decode cX4_drain 1 = .ok (.iload_n 1, 1) := by decide +kernel
theorem dX4_drain_2 : decode cX4_drain 2 = .ok (.invokevirtual 128, 3) := by decide +kernel
theorem dX4_drain_5 : decode cX4_drain 5 = .ok (.ifCond .ne 9, 3) := by decide +kernel
theorem dX4_drain_8 : decode cX4_drain 8 = .ok (.aload_n 0, 1) := by decide +kernel
theorem dX4_drain_9 : decode cX4_drain 9 = .ok (.iconst (-1), 1) := by decide +kernel
theorem dX4_drain_10 : decode cX4_drain 10 = .ok (.invokevirtual 124, 3) := by decide +kernel
theorem dX4_drain_13 : decode cX4_drain 13 = .ok (.ireturn, 1) := by decide +kernel
theorem dX4_drain_14 : decode cX4_drain 14 = .ok (.aload_n 0, 1) := by decide +kernel
theorem dX4_drain_15 : decode cX4_drain 15 = .ok (.getfield 38, 3) := by decide +kernel
theorem dX4_drain_18 : decode cX4_drain 18 = .ok (.iload_n 1, 1) := by decide +kernel
theorem dX4_drain_19 : decode cX4_drain 19 = .ok (.iaload, 1) := by decide +kernel
theorem dX4_drain_20 : decode cX4_drain 20 = .ok (.iconst 4, 1) := by decide +kernel
theorem dX4_drain_21 : decode cX4_drain 21 = .ok (.if_icmp .eq 13, 3) := by decide +kernel
theorem dX4_drain_24 : decode cX4_drain 24 = .ok (.aload_n 0, 1) := by decide +kernel
theorem dX4_drain_25 : decode cX4_drain 25 = .ok (.getfield 38, 3) := by decide +kernel
theorem dX4_drain_28 : decode cX4_drain 28 = .ok (.iload_n 1, 1) := by decide +kernel
theorem dX4_drain_29 : decode cX4_drain 29 = .ok (.iaload, 1) := by decide +kernel
theorem dX4_drain_30 : decode cX4_drain 30 = .ok (.iconst 3, 1) := by decide +kernel
theorem dX4_drain_31 : decode cX4_drain 31 = .ok (.if_icmp .ne 10, 3) := by decide +kernel
theorem dX4_drain_34 : decode cX4_drain 34 = .ok (.aload_n 0, 1) := by decide +kernel
theorem dX4_drain_35 : decode cX4_drain 35 = .ok (.bipush (-3), 2) := by decide +kernel
theorem dX4_drain_37 : decode cX4_drain 37 = .ok (.invokevirtual 124, 3) := by decide +kernel
theorem dX4_drain_40 : decode cX4_drain 40 = .ok (.ireturn, 1) := by decide +kernel
theorem dX4_drain_41 : decode cX4_drain 41 = .ok (.aload_n 0, 1) := by decide +kernel
theorem dX4_drain_42 : decode cX4_drain 42 = .ok (.getfield 38, 3) := by decide +kernel
theorem dX4_drain_45 : decode cX4_drain 45 = .ok (.iload_n 1, 1) := by decide +kernel
theorem dX4_drain_46 : decode cX4_drain 46 = .ok (.aload_n 0, 1) := by decide +kernel
theorem dX4_drain_47 : decode cX4_drain 47 = .ok (.getfield 41, 3) := by decide +kernel
theorem dX4_drain_50 : decode cX4_drain 50 = .ok (.iload_n 1, 1) := by decide +kernel
theorem dX4_drain_51 : decode cX4_drain 51 = .ok (.iaload, 1) := by decide +kernel
theorem dX4_drain_52 : decode cX4_drain 52 = .ok (.ifCond .ne 7, 3) := by decide +kernel
theorem dX4_drain_55 : decode cX4_drain 55 = .ok (.iconst 4, 1) := by decide +kernel
theorem dX4_drain_56 : decode cX4_drain 56 = .ok (.goto 4, 3) := by decide +kernel
theorem dX4_drain_59 : decode cX4_drain 59 = .ok (.iconst 3, 1) := by decide +kernel
theorem dX4_drain_60 : decode cX4_drain 60 = .ok (.iastore, 1) := by decide +kernel
theorem dX4_drain_61 : decode cX4_drain 61 = .ok (.aload_n 0, 1) := by decide +kernel
theorem dX4_drain_62 : decode cX4_drain 62 = .ok (.getfield 41, 3) := by decide +kernel
theorem dX4_drain_65 : decode cX4_drain 65 = .ok (.iload_n 1, 1) := by decide +kernel
theorem dX4_drain_66 : decode cX4_drain 66 = .ok (.iaload, 1) := by decide +kernel
theorem dX4_drain_67 : decode cX4_drain 67 = .ok (.ireturn, 1) := by decide +kernel
theorem dX4_back_0 : decode cX4_back 0 = .ok (.aload_n 0, 1) := by decide +kernel
theorem dX4_back_1 : decode cX4_back 1 = .ok (.iload_n 1, 1) := by decide +kernel
theorem dX4_back_2 : decode cX4_back 2 = .ok (.invokevirtual 128, 3) := by decide +kernel
theorem dX4_back_5 : decode cX4_back 5 = .ok (.ifCond .ne 9, 3) := by decide +kernel
theorem dX4_back_8 : decode cX4_back 8 = .ok (.aload_n 0, 1) := by decide +kernel
theorem dX4_back_9 : decode cX4_back 9 = .ok (.iconst (-1), 1) := by decide +kernel
theorem dX4_back_10 : decode cX4_back 10 = .ok (.invokevirtual 124, 3) := by decide +kernel
theorem dX4_back_13 : decode cX4_back 13 = .ok (.ireturn, 1) := by decide +kernel
theorem dX4_back_14 : decode cX4_back 14 = .ok (.aload_n 0, 1) := by decide +kernel
theorem dX4_back_15 : decode cX4_back 15 = .ok (.getfield 38, 3) := by decide +kernel
theorem dX4_back_18 : decode cX4_back 18 = .ok (.iload_n 1, 1) := by decide +kernel
theorem dX4_back_19 : decode cX4_back 19 = .ok (.iaload, 1) := by decide +kernel
theorem dX4_back_20 : decode cX4_back 20 = .ok (.iconst 4, 1) := by decide +kernel
theorem dX4_back_21 : decode cX4_back 21 = .ok (.if_icmp .eq 20, 3) := by decide +kernel
theorem dX4_back_24 : decode cX4_back 24 = .ok (.aload_n 0, 1) := by decide +kernel
theorem dX4_back_25 : decode cX4_back 25 = .ok (.getfield 38, 3) := by decide +kernel
theorem dX4_back_28 : decode cX4_back 28 = .ok (.iload_n 1, 1) := by decide +kernel
theorem dX4_back_29 : decode cX4_back 29 = .ok (.iaload, 1) := by decide +kernel
theorem dX4_back_30 : decode cX4_back 30 = .ok (.iconst 3, 1) := by decide +kernel
theorem dX4_back_31 : decode cX4_back 31 = .ok (.if_icmp .eq 10, 3) := by decide +kernel
theorem dX4_back_34 : decode cX4_back 34 = .ok (.aload_n 0, 1) := by decide +kernel
theorem dX4_back_35 : decode cX4_back 35 = .ok (.bipush (-3), 2) := by decide +kernel
theorem dX4_back_37 : decode cX4_back 37 = .ok (.invokevirtual 124, 3) := by decide +kernel
theorem dX4_back_40 : decode cX4_back 40 = .ok (.ireturn, 1) := by decide +kernel
theorem dX4_back_41 : decode cX4_back 41 = .ok (.aload_n 0, 1) := by decide +kernel
theorem dX4_back_42 : decode cX4_back 42 = .ok (.getfield 38, 3) := by decide +kernel
theorem dX4_back_45 : decode cX4_back 45 = .ok (.iload_n 1, 1) := by decide +kernel
theorem dX4_back_46 : decode cX4_back 46 = .ok (.iconst 2, 1) := by decide +kernel
theorem dX4_back_47 : decode cX4_back 47 = .ok (.iastore, 1) := by decide +kernel
theorem dX4_back_48 : decode cX4_back 48 = .ok (.aload_n 0, 1) := by decide +kernel
theorem dX4_back_49 : decode cX4_back 49 = .ok (.getfield 53, 3) := by decide +kernel
theorem dX4_back_52 : decode cX4_back 52 = .ok (.iload_n 1, 1) := by decide +kernel
theorem dX4_back_53 : decode cX4_back 53 = .ok (.iconst 0, 1) := by decide +kernel
theorem dX4_back_54 : decode cX4_back 54 = .ok (.iastore, 1) := by decide +kernel
theorem dX4_back_55 : decode cX4_back 55 = .ok (.aload_n 0, 1) := by decide +kernel
theorem dX4_back_56 : decode cX4_back 56 = .ok (.getfield 59, 3) := by decide +kernel
theorem dX4_back_59 : decode cX4_back 59 = .ok (.iload_n 1, 1) := by decide +kernel
theorem dX4_back_60 : decode cX4_back 60 = .ok (.bipush 10, 2) := by decide +kernel
theorem dX4_back_62 : decode cX4_back 62 = .ok (.iastore, 1) := by decide +kernel
theorem dX4_back_63 : decode cX4_back 63 = .ok (.iconst 1, 1) := by decide +kernel
theorem dX4_back_64 : decode cX4_back 64 = .ok (.ireturn, 1) := by decide +kernel
theorem dX4_rule_0 : decode cX4_rule 0 = .ok (.iload_n 1, 1) := by decide +kernel
theorem dX4_rule_1 : decode cX4_rule 1 = .ok (.iconst 4, 1) := by decide +kernel
theorem dX4_rule_2 : decode cX4_rule 2 = .ok (.invokestatic 117, 3) := by decide +kernel
theorem dX4_rule_5 : decode cX4_rule 5 = .ok (.ifCond .ne 9, 3) := by decide +kernel
theorem dX4_rule_8 : decode cX4_rule 8 = .ok (.aload_n 0, 1) := by decide +kernel
theorem dX4_rule_9 : decode cX4_rule 9 = .ok (.iconst (-1), 1) := by decide +kernel
theorem dX4_rule_10 : decode cX4_rule 10 = .ok (.invokevirtual 124, 3) := by decide +kernel
theorem dX4_rule_13 : decode cX4_rule 13 = .ok (.ireturn, 1) := by decide +kernel
theorem dX4_rule_14 : decode cX4_rule 14 = .ok (.aload_n 0, 1) := by decide +kernel
theorem dX4_rule_15 : decode cX4_rule 15 = .ok (.getfield 136, 3) := by decide +kernel
theorem dX4_rule_18 : decode cX4_rule 18 = .ok (.istore_n 2, 1) := by decide +kernel
theorem dX4_rule_19 : decode cX4_rule 19 = .ok (.aload_n 0, 1) := by decide +kernel
theorem dX4_rule_20 : decode cX4_rule 20 = .ok (.iload_n 1, 1) := by decide +kernel
theorem dX4_rule_21 : decode cX4_rule 21 = .ok (.putfield 136, 3) := by decide +kernel
theorem dX4_rule_24 : decode cX4_rule 24 = .ok (.iload_n 2, 1) := by decide +kernel
theorem dX4_rule_25 : decode cX4_rule 25 = .ok (.ireturn, 1) := by decide +kernel
theorem dX4_limit_0 : decode cX4_limit 0 = .ok (.iload_n 1, 1) := by decide +kernel
theorem dX4_limit_1 : decode cX4_limit 1 = .ok (.iconst 1, 1) := by decide +kernel
theorem dX4_limit_2 : decode cX4_limit 2 = .ok (.if_icmp .ge 10, 3) := by decide +kernel
theorem dX4_limit_5 : decode cX4_limit 5 = .ok (.aload_n 0, 1) := by decide +kernel
theorem dX4_limit_6 : decode cX4_limit 6 = .ok (.bipush (-4), 2) := by decide +kernel
theorem dX4_limit_8 : decode cX4_limit 8 = .ok (.invokevirtual 124, 3) := by decide +kernel
theorem dX4_limit_11 : decode cX4_limit 11 = .ok (.ireturn, 1) := by decide +kernel
theorem dX4_limit_12 : decode cX4_limit 12 = .ok (.iload_n 1, 1) := by decide +kernel
theorem dX4_limit_13 : decode cX4_limit 13 = .ok (.bipush 10, 2) := by decide +kernel
theorem dX4_limit_15 : decode cX4_limit 15 = .ok (.if_icmp .le 10, 3) := by decide +kernel
theorem dX4_limit_18 : decode cX4_limit 18 = .ok (.aload_n 0, 1) := by decide +kernel
theorem dX4_limit_19 : decode cX4_limit 19 = .ok (.bipush (-6), 2) := by decide +kernel
theorem dX4_limit_21 : decode cX4_limit 21 = .ok (.invokevirtual 124, 3) := by decide +kernel
theorem dX4_limit_24 : decode cX4_limit 24 = .ok (.ireturn, 1) := by decide +kernel
theorem dX4_limit_25 : decode cX4_limit 25 = .ok (.aload_n 0, 1) := by decide +kernel
theorem dX4_limit_26 : decode cX4_limit 26 = .ok (.getfield 13, 3) := by decide +kernel
theorem dX4_limit_29 : decode cX4_limit 29 = .ok (.istore_n 2, 1) := by decide +kernel
theorem dX4_limit_30 : decode cX4_limit 30 = .ok (.aload_n 0, 1) := by decide +kernel
theorem dX4_limit_31 : decode cX4_limit 31 = .ok (.iload_n 1, 1) := by decide +kernel
theorem dX4_limit_32 : decode cX4_limit 32 = .ok (.putfield 13, 3) := by decide +kernel
theorem dX4_limit_35 : decode cX4_limit 35 = .ok (.iload_n 2, 1) := by decide +kernel
theorem dX4_limit_36 : decode cX4_limit 36 = .ok (.ireturn, 1) := by decide +kernel
theorem dX4_budget_0 : decode cX4_budget 0 = .ok (.iload_n 1, 1) := by decide +kernel
theorem dX4_budget_1 : decode cX4_budget 1 = .ok (.ifCond .ge 10, 3) := by decide +kernel
theorem dX4_budget_4 : decode cX4_budget 4 = .ok (.aload_n 0, 1) := by decide +kernel
theorem dX4_budget_5 : decode cX4_budget 5 = .ok (.bipush (-4), 2) := by decide +kernel
theorem dX4_budget_7 : decode cX4_budget 7 = .ok (.invokevirtual 124, 3) := by decide +kernel
theorem dX4_budget_10 : decode cX4_budget 10 = .ok (.ireturn, 1) := by decide +kernel
theorem dX4_budget_11 : decode cX4_budget 11 = .ok (.iload_n 1, 1) := by decide +kernel
theorem dX4_budget_12 : decode cX4_budget 12 = .ok (.bipush 100, 2) := by decide +kernel
theorem dX4_budget_14 : decode cX4_budget 14 = .ok (.if_icmp .le 10, 3) := by decide +kernel
theorem dX4_budget_17 : decode cX4_budget 17 = .ok (.aload_n 0, 1) := by decide +kernel
theorem dX4_budget_18 : decode cX4_budget 18 = .ok (.bipush (-6), 2) := by decide +kernel
theorem dX4_budget_20 : decode cX4_budget 20 = .ok (.invokevirtual 124, 3) := by decide +kernel
theorem dX4_budget_23 : decode cX4_budget 23 = .ok (.ireturn, 1) := by decide +kernel
theorem dX4_budget_24 : decode cX4_budget 24 = .ok (.aload_n 0, 1) := by decide +kernel
theorem dX4_budget_25 : decode cX4_budget 25 = .ok (.getfield 17, 3) := by decide +kernel
theorem dX4_budget_28 : decode cX4_budget 28 = .ok (.istore_n 2, 1) := by decide +kernel
theorem dX4_budget_29 : decode cX4_budget 29 = .ok (.aload_n 0, 1) := by decide +kernel
theorem dX4_budget_30 : decode cX4_budget 30 = .ok (.iload_n 1, 1) := by decide +kernel
theorem dX4_budget_31 : decode cX4_budget 31 = .ok (.putfield 17, 3) := by decide +kernel
theorem dX4_budget_34 : decode cX4_budget 34 = .ok (.iload_n 2, 1) := by decide +kernel
theorem dX4_budget_35 : decode cX4_budget 35 = .ok (.ireturn, 1) := by decide +kernel
theorem dX4_hedge_0 : decode cX4_hedge 0 = .ok (.iload_n 1, 1) := by decide +kernel
theorem dX4_hedge_1 : decode cX4_hedge 1 = .ok (.ifCond .ge 10, 3) := by decide +kernel
theorem dX4_hedge_4 : decode cX4_hedge 4 = .ok (.aload_n 0, 1) := by decide +kernel
theorem dX4_hedge_5 : decode cX4_hedge 5 = .ok (.bipush (-4), 2) := by decide +kernel
theorem dX4_hedge_7 : decode cX4_hedge 7 = .ok (.invokevirtual 124, 3) := by decide +kernel
theorem dX4_hedge_10 : decode cX4_hedge 10 = .ok (.ireturn, 1) := by decide +kernel
theorem dX4_hedge_11 : decode cX4_hedge 11 = .ok (.iload_n 1, 1) := by decide +kernel
theorem dX4_hedge_12 : decode cX4_hedge 12 = .ok (.sipush 500, 3) := by decide +kernel
theorem dX4_hedge_15 : decode cX4_hedge 15 = .ok (.if_icmp .le 10, 3) := by decide +kernel
theorem dX4_hedge_18 : decode cX4_hedge 18 = .ok (.aload_n 0, 1) := by decide +kernel
theorem dX4_hedge_19 : decode cX4_hedge 19 = .ok (.bipush (-6), 2) := by decide +kernel
theorem dX4_hedge_21 : decode cX4_hedge 21 = .ok (.invokevirtual 124, 3) := by decide +kernel
theorem dX4_hedge_24 : decode cX4_hedge 24 = .ok (.ireturn, 1) := by decide +kernel
theorem dX4_hedge_25 : decode cX4_hedge 25 = .ok (.aload_n 0, 1) := by decide +kernel
theorem dX4_hedge_26 : decode cX4_hedge 26 = .ok (.getfield 139, 3) := by decide +kernel
theorem dX4_hedge_29 : decode cX4_hedge 29 = .ok (.istore_n 2, 1) := by decide +kernel
theorem dX4_hedge_30 : decode cX4_hedge 30 = .ok (.aload_n 0, 1) := by decide +kernel
theorem dX4_hedge_31 : decode cX4_hedge 31 = .ok (.iload_n 1, 1) := by decide +kernel
theorem dX4_hedge_32 : decode cX4_hedge 32 = .ok (.putfield 139, 3) := by decide +kernel
theorem dX4_hedge_35 : decode cX4_hedge 35 = .ok (.iload_n 2, 1) := by decide +kernel
theorem dX4_hedge_36 : decode cX4_hedge 36 = .ok (.ireturn, 1) := by decide +kernel
theorem dX4_mays_0 : decode cX4_mays 0 = .ok (.iconst 0, 1) := by decide +kernel
theorem dX4_mays_1 : decode cX4_mays 1 = .ok (.istore_n 2, 1) := by decide +kernel
theorem dX4_mays_2 : decode cX4_mays 2 = .ok (.iconst 0, 1) := by decide +kernel
theorem dX4_mays_3 : decode cX4_mays 3 = .ok (.istore_n 3, 1) := by decide +kernel
theorem dX4_mays_4 : decode cX4_mays 4 = .ok (.iload_n 3, 1) := by decide +kernel
theorem dX4_mays_5 : decode cX4_mays 5 = .ok (.aload_n 0, 1) := by decide +kernel
theorem dX4_mays_6 : decode cX4_mays 6 = .ok (.getfield 114, 3) := by decide +kernel
theorem dX4_mays_9 : decode cX4_mays 9 = .ok (.if_icmp .ge 66, 3) := by decide +kernel
theorem dX4_mays_12 : decode cX4_mays 12 = .ok (.iload_n 1, 1) := by decide +kernel
theorem dX4_mays_13 : decode cX4_mays 13 = .ok (.iload_n 3, 1) := by decide +kernel
theorem dX4_mays_14 : decode cX4_mays 14 = .ok (.ishr, 1) := by decide +kernel
theorem dX4_mays_15 : decode cX4_mays 15 = .ok (.iconst 1, 1) := by decide +kernel
theorem dX4_mays_16 : decode cX4_mays 16 = .ok (.iand, 1) := by decide +kernel
theorem dX4_mays_17 : decode cX4_mays 17 = .ok (.ifCond .ne 52, 3) := by decide +kernel
theorem dX4_mays_20 : decode cX4_mays 20 = .ok (.aload_n 0, 1) := by decide +kernel
theorem dX4_mays_21 : decode cX4_mays 21 = .ok (.getfield 41, 3) := by decide +kernel
theorem dX4_mays_24 : decode cX4_mays 24 = .ok (.iload_n 3, 1) := by decide +kernel
theorem dX4_mays_25 : decode cX4_mays 25 = .ok (.iaload, 1) := by decide +kernel
theorem dX4_mays_26 : decode cX4_mays 26 = .ok (.aload_n 0, 1) := by decide +kernel
theorem dX4_mays_27 : decode cX4_mays 27 = .ok (.getfield 26, 3) := by decide +kernel
theorem dX4_mays_30 : decode cX4_mays 30 = .ok (.iload_n 3, 1) := by decide +kernel
theorem dX4_mays_31 : decode cX4_mays 31 = .ok (.iaload, 1) := by decide +kernel
theorem dX4_mays_32 : decode cX4_mays 32 = .ok (.if_icmp .ge 37, 3) := by decide +kernel
theorem dX4_mays_35 : decode cX4_mays 35 = .ok (.aload_n 0, 1) := by decide +kernel
theorem dX4_mays_36 : decode cX4_mays 36 = .ok (.getfield 38, 3) := by decide +kernel
theorem dX4_mays_39 : decode cX4_mays 39 = .ok (.iload_n 3, 1) := by decide +kernel
theorem dX4_mays_40 : decode cX4_mays 40 = .ok (.iaload, 1) := by decide +kernel
theorem dX4_mays_41 : decode cX4_mays 41 = .ok (.ifCond .eq 22, 3) := by decide +kernel
theorem dX4_mays_44 : decode cX4_mays 44 = .ok (.aload_n 0, 1) := by decide +kernel
theorem dX4_mays_45 : decode cX4_mays 45 = .ok (.getfield 38, 3) := by decide +kernel
theorem dX4_mays_48 : decode cX4_mays 48 = .ok (.iload_n 3, 1) := by decide +kernel
theorem dX4_mays_49 : decode cX4_mays 49 = .ok (.iaload, 1) := by decide +kernel
theorem dX4_mays_50 : decode cX4_mays 50 = .ok (.iconst 2, 1) := by decide +kernel
theorem dX4_mays_51 : decode cX4_mays 51 = .ok (.if_icmp .ne 18, 3) := by decide +kernel
theorem dX4_mays_54 : decode cX4_mays 54 = .ok (.aload_n 0, 1) := by decide +kernel
theorem dX4_mays_55 : decode cX4_mays 55 = .ok (.getfield 41, 3) := by decide +kernel
theorem dX4_mays_58 : decode cX4_mays 58 = .ok (.iload_n 3, 1) := by decide +kernel
theorem dX4_mays_59 : decode cX4_mays 59 = .ok (.iaload, 1) := by decide +kernel
theorem dX4_mays_60 : decode cX4_mays 60 = .ok (.ifCond .ne 9, 3) := by decide +kernel
theorem dX4_mays_63 : decode cX4_mays 63 = .ok (.iload_n 2, 1) := by decide +kernel
theorem dX4_mays_64 : decode cX4_mays 64 = .ok (.iconst 1, 1) := by decide +kernel
theorem dX4_mays_65 : decode cX4_mays 65 = .ok (.iload_n 3, 1) := by decide +kernel
theorem dX4_mays_66 : decode cX4_mays 66 = .ok (.ishl, 1) := by decide +kernel
theorem dX4_mays_67 : decode cX4_mays 67 = .ok (.ior, 1) := by decide +kernel
theorem dX4_mays_68 : decode cX4_mays 68 = .ok (.istore_n 2, 1) := by decide +kernel
theorem dX4_mays_69 : decode cX4_mays 69 = .ok (.iinc 3 1, 3) := by decide +kernel
theorem dX4_mays_72 : decode cX4_mays 72 = .ok (.goto (-68), 3) := by decide +kernel
theorem dX4_mays_75 : decode cX4_mays 75 = .ok (.iload_n 2, 1) := by decide +kernel
theorem dX4_mays_76 : decode cX4_mays 76 = .ok (.ireturn, 1) := by decide +kernel
theorem dX4_fewest_0 : decode cX4_fewest 0 = .ok (.iconst (-1), 1) := by decide +kernel
theorem dX4_fewest_1 : decode cX4_fewest 1 = .ok (.istore_n 2, 1) := by decide +kernel
theorem dX4_fewest_2 : decode cX4_fewest 2 = .ok (.iconst 0, 1) := by decide +kernel
theorem dX4_fewest_3 : decode cX4_fewest 3 = .ok (.istore_n 3, 1) := by decide +kernel
theorem dX4_fewest_4 : decode cX4_fewest 4 = .ok (.iload_n 3, 1) := by decide +kernel
theorem dX4_fewest_5 : decode cX4_fewest 5 = .ok (.aload_n 0, 1) := by decide +kernel
theorem dX4_fewest_6 : decode cX4_fewest 6 = .ok (.getfield 114, 3) := by decide +kernel
theorem dX4_fewest_9 : decode cX4_fewest 9 = .ok (.if_icmp .ge 53, 3) := by decide +kernel
theorem dX4_fewest_12 : decode cX4_fewest 12 = .ok (.iload_n 1, 1) := by decide +kernel
theorem dX4_fewest_13 : decode cX4_fewest 13 = .ok (.iload_n 3, 1) := by decide +kernel
theorem dX4_fewest_14 : decode cX4_fewest 14 = .ok (.ishr, 1) := by decide +kernel
theorem dX4_fewest_15 : decode cX4_fewest 15 = .ok (.iconst 1, 1) := by decide +kernel
theorem dX4_fewest_16 : decode cX4_fewest 16 = .ok (.iand, 1) := by decide +kernel
theorem dX4_fewest_17 : decode cX4_fewest 17 = .ok (.iconst 1, 1) := by decide +kernel
theorem dX4_fewest_18 : decode cX4_fewest 18 = .ok (.if_icmp .ne 38, 3) := by decide +kernel
theorem dX4_fewest_21 : decode cX4_fewest 21 = .ok (.iload_n 2, 1) := by decide +kernel
theorem dX4_fewest_22 : decode cX4_fewest 22 = .ok (.ifCond .lt 32, 3) := by decide +kernel
theorem dX4_fewest_25 : decode cX4_fewest 25 = .ok (.aload_n 0, 1) := by decide +kernel
theorem dX4_fewest_26 : decode cX4_fewest 26 = .ok (.getfield 41, 3) := by decide +kernel
theorem dX4_fewest_29 : decode cX4_fewest 29 = .ok (.iload_n 3, 1) := by decide +kernel
theorem dX4_fewest_30 : decode cX4_fewest 30 = .ok (.iaload, 1) := by decide +kernel
theorem dX4_fewest_31 : decode cX4_fewest 31 = .ok (.aload_n 0, 1) := by decide +kernel
theorem dX4_fewest_32 : decode cX4_fewest 32 = .ok (.getfield 20, 3) := by decide +kernel
theorem dX4_fewest_35 : decode cX4_fewest 35 = .ok (.iload_n 2, 1) := by decide +kernel
theorem dX4_fewest_36 : decode cX4_fewest 36 = .ok (.iaload, 1) := by decide +kernel
theorem dX4_fewest_37 : decode cX4_fewest 37 = .ok (.imul, 1) := by decide +kernel
theorem dX4_fewest_38 : decode cX4_fewest 38 = .ok (.aload_n 0, 1) := by decide +kernel
theorem dX4_fewest_39 : decode cX4_fewest 39 = .ok (.getfield 41, 3) := by decide +kernel
theorem dX4_fewest_42 : decode cX4_fewest 42 = .ok (.iload_n 2, 1) := by decide +kernel
theorem dX4_fewest_43 : decode cX4_fewest 43 = .ok (.iaload, 1) := by decide +kernel
theorem dX4_fewest_44 : decode cX4_fewest 44 = .ok (.aload_n 0, 1) := by decide +kernel
theorem dX4_fewest_45 : decode cX4_fewest 45 = .ok (.getfield 20, 3) := by decide +kernel
theorem dX4_fewest_48 : decode cX4_fewest 48 = .ok (.iload_n 3, 1) := by decide +kernel
theorem dX4_fewest_49 : decode cX4_fewest 49 = .ok (.iaload, 1) := by decide +kernel
theorem dX4_fewest_50 : decode cX4_fewest 50 = .ok (.imul, 1) := by decide +kernel
theorem dX4_fewest_51 : decode cX4_fewest 51 = .ok (.if_icmp .ge 5, 3) := by decide +kernel
theorem dX4_fewest_54 : decode cX4_fewest 54 = .ok (.iload_n 3, 1) := by decide +kernel
theorem dX4_fewest_55 : decode cX4_fewest 55 = .ok (.istore_n 2, 1) := by decide +kernel
theorem dX4_fewest_56 : decode cX4_fewest 56 = .ok (.iinc 3 1, 3) := by decide +kernel
theorem dX4_fewest_59 : decode cX4_fewest 59 = .ok (.goto (-55), 3) := by decide +kernel
theorem dX4_fewest_62 : decode cX4_fewest 62 = .ok (.iload_n 2, 1) := by decide +kernel
theorem dX4_fewest_63 : decode cX4_fewest 63 = .ok (.ireturn, 1) := by decide +kernel
theorem dX4_markOf_0 : decode cX4_markOf 0 = .ok (.ldc 142, 2) := by decide +kernel
theorem dX4_markOf_2 : decode cX4_markOf 2 = .ok (.iconst 4, 1) := by decide +kernel
theorem dX4_markOf_3 : decode cX4_markOf 3 = .ok (.iload_n 0, 1) := by decide +kernel
theorem dX4_markOf_4 : decode cX4_markOf 4 = .ok (.imul, 1) := by decide +kernel
theorem dX4_markOf_5 : decode cX4_markOf 5 = .ok (.iload_n 1, 1) := by decide +kernel
theorem dX4_markOf_6 : decode cX4_markOf 6 = .ok (.iadd, 1) := by decide +kernel
theorem dX4_markOf_7 : decode cX4_markOf 7 = .ok (.iconst 1, 1) := by decide +kernel
theorem dX4_markOf_8 : decode cX4_markOf 8 = .ok (.iadd, 1) := by decide +kernel
theorem dX4_markOf_9 : decode cX4_markOf 9 = .ok (.imul, 1) := by decide +kernel
theorem dX4_markOf_10 : decode cX4_markOf 10 = .ok (.ldc 143, 2) := by decide +kernel
theorem dX4_markOf_12 : decode cX4_markOf 12 = .ok (.irem, 1) := by decide +kernel
theorem dX4_markOf_13 : decode cX4_markOf 13 = .ok (.ireturn, 1) := by decide +kernel
theorem dX4_onRing_0 : decode cX4_onRing 0 = .ok (.iconst (-1), 1) := by decide +kernel
theorem dX4_onRing_1 : decode cX4_onRing 1 = .ok (.istore_n 3, 1) := by decide +kernel
theorem dX4_onRing_2 : decode cX4_onRing 2 = .ok (.ldc 143, 2) := by decide +kernel
theorem dX4_onRing_4 : decode cX4_onRing 4 = .ok (.istore 4, 2) := by decide +kernel
theorem dX4_onRing_6 : decode cX4_onRing 6 = .ok (.iconst 0, 1) := by decide +kernel
theorem dX4_onRing_7 : decode cX4_onRing 7 = .ok (.istore 5, 2) := by decide +kernel
theorem dX4_onRing_9 : decode cX4_onRing 9 = .ok (.iload 5, 2) := by decide +kernel
theorem dX4_onRing_11 : decode cX4_onRing 11 = .ok (.aload_n 0, 1) := by decide +kernel
theorem dX4_onRing_12 : decode cX4_onRing 12 = .ok (.getfield 114, 3) := by decide +kernel
theorem dX4_onRing_15 : decode cX4_onRing 15 = .ok (.if_icmp .ge 68, 3) := by decide +kernel
theorem dX4_onRing_18 : decode cX4_onRing 18 = .ok (.iconst 0, 1) := by decide +kernel
theorem dX4_onRing_19 : decode cX4_onRing 19 = .ok (.istore 6, 2) := by decide +kernel
theorem dX4_onRing_21 : decode cX4_onRing 21 = .ok (.iload 6, 2) := by decide +kernel
theorem dX4_onRing_23 : decode cX4_onRing 23 = .ok (.iconst 4, 1) := by decide +kernel
theorem dX4_onRing_24 : decode cX4_onRing 24 = .ok (.if_icmp .ge 53, 3) := by decide +kernel
theorem dX4_onRing_27 : decode cX4_onRing 27 = .ok (.iload_n 1, 1) := by decide +kernel
theorem dX4_onRing_28 : decode cX4_onRing 28 = .ok (.iload 5, 2) := by decide +kernel
theorem dX4_onRing_30 : decode cX4_onRing 30 = .ok (.ishr, 1) := by decide +kernel
theorem dX4_onRing_31 : decode cX4_onRing 31 = .ok (.iconst 1, 1) := by decide +kernel
theorem dX4_onRing_32 : decode cX4_onRing 32 = .ok (.iand, 1) := by decide +kernel
theorem dX4_onRing_33 : decode cX4_onRing 33 = .ok (.iconst 1, 1) := by decide +kernel
theorem dX4_onRing_34 : decode cX4_onRing 34 = .ok (.if_icmp .ne 43, 3) := by decide +kernel
theorem dX4_onRing_37 : decode cX4_onRing 37 = .ok (.iload 5, 2) := by decide +kernel
theorem dX4_onRing_39 : decode cX4_onRing 39 = .ok (.iload 6, 2) := by decide +kernel
theorem dX4_onRing_41 : decode cX4_onRing 41 = .ok (.invokestatic 144, 3) := by decide +kernel
theorem dX4_onRing_44 : decode cX4_onRing 44 = .ok (.iload_n 2, 1) := by decide +kernel
theorem dX4_onRing_45 : decode cX4_onRing 45 = .ok (.isub, 1) := by decide +kernel
theorem dX4_onRing_46 : decode cX4_onRing 46 = .ok (.ldc 143, 2) := by decide +kernel
theorem dX4_onRing_48 : decode cX4_onRing 48 = .ok (.iadd, 1) := by decide +kernel
theorem dX4_onRing_49 : decode cX4_onRing 49 = .ok (.ldc 143, 2) := by decide +kernel
theorem dX4_onRing_51 : decode cX4_onRing 51 = .ok (.irem, 1) := by decide +kernel
theorem dX4_onRing_52 : decode cX4_onRing 52 = .ok (.istore 7, 2) := by decide +kernel
theorem dX4_onRing_54 : decode cX4_onRing 54 = .ok (.iload 7, 2) := by decide +kernel
theorem dX4_onRing_56 : decode cX4_onRing 56 = .ok (.iload 4, 2) := by decide +kernel
theorem dX4_onRing_58 : decode cX4_onRing 58 = .ok (.if_icmp .lt 6, 3) := by decide +kernel
theorem dX4_onRing_61 : decode cX4_onRing 61 = .ok (.goto 10, 3) := by decide +kernel
theorem dX4_onRing_64 : decode cX4_onRing 64 = .ok (.iload 7, 2) := by decide +kernel
theorem dX4_onRing_66 : decode cX4_onRing 66 = .ok (.istore 4, 2) := by decide +kernel
theorem dX4_onRing_68 : decode cX4_onRing 68 = .ok (.iload 5, 2) := by decide +kernel
theorem dX4_onRing_70 : decode cX4_onRing 70 = .ok (.istore_n 3, 1) := by decide +kernel
theorem dX4_onRing_71 : decode cX4_onRing 71 = .ok (.iinc 6 1, 3) := by decide +kernel
theorem dX4_onRing_74 : decode cX4_onRing 74 = .ok (.goto (-53), 3) := by decide +kernel
theorem dX4_onRing_77 : decode cX4_onRing 77 = .ok (.iinc 5 1, 3) := by decide +kernel
theorem dX4_onRing_80 : decode cX4_onRing 80 = .ok (.goto (-71), 3) := by decide +kernel
theorem dX4_onRing_83 : decode cX4_onRing 83 = .ok (.iload_n 3, 1) := by decide +kernel
theorem dX4_onRing_84 : decode cX4_onRing 84 = .ok (.ireturn, 1) := by decide +kernel
theorem dX4_near_0 : decode cX4_near 0 = .ok (.iconst 0, 1) := by decide +kernel
theorem dX4_near_1 : decode cX4_near 1 = .ok (.istore_n 3, 1) := by decide +kernel
theorem dX4_near_2 : decode cX4_near 2 = .ok (.iconst 0, 1) := by decide +kernel
theorem dX4_near_3 : decode cX4_near 3 = .ok (.istore 4, 2) := by decide +kernel
theorem dX4_near_5 : decode cX4_near 5 = .ok (.iload 4, 2) := by decide +kernel
theorem dX4_near_7 : decode cX4_near 7 = .ok (.aload_n 0, 1) := by decide +kernel
theorem dX4_near_8 : decode cX4_near 8 = .ok (.getfield 114, 3) := by decide +kernel
theorem dX4_near_11 : decode cX4_near 11 = .ok (.if_icmp .ge 39, 3) := by decide +kernel
theorem dX4_near_14 : decode cX4_near 14 = .ok (.iload_n 1, 1) := by decide +kernel
theorem dX4_near_15 : decode cX4_near 15 = .ok (.iload 4, 2) := by decide +kernel
theorem dX4_near_17 : decode cX4_near 17 = .ok (.ishr, 1) := by decide +kernel
theorem dX4_near_18 : decode cX4_near 18 = .ok (.iconst 1, 1) := by decide +kernel
theorem dX4_near_19 : decode cX4_near 19 = .ok (.iand, 1) := by decide +kernel
theorem dX4_near_20 : decode cX4_near 20 = .ok (.iconst 1, 1) := by decide +kernel
theorem dX4_near_21 : decode cX4_near 21 = .ok (.if_icmp .ne 23, 3) := by decide +kernel
theorem dX4_near_24 : decode cX4_near 24 = .ok (.aload_n 0, 1) := by decide +kernel
theorem dX4_near_25 : decode cX4_near 25 = .ok (.getfield 23, 3) := by decide +kernel
theorem dX4_near_28 : decode cX4_near 28 = .ok (.iload 4, 2) := by decide +kernel
theorem dX4_near_30 : decode cX4_near 30 = .ok (.iaload, 1) := by decide +kernel
theorem dX4_near_31 : decode cX4_near 31 = .ok (.iload_n 2, 1) := by decide +kernel
theorem dX4_near_32 : decode cX4_near 32 = .ok (.iconst 4, 1) := by decide +kernel
theorem dX4_near_33 : decode cX4_near 33 = .ok (.irem, 1) := by decide +kernel
theorem dX4_near_34 : decode cX4_near 34 = .ok (.if_icmp .ne 10, 3) := by decide +kernel
theorem dX4_near_37 : decode cX4_near 37 = .ok (.iload_n 3, 1) := by decide +kernel
theorem dX4_near_38 : decode cX4_near 38 = .ok (.iconst 1, 1) := by decide +kernel
theorem dX4_near_39 : decode cX4_near 39 = .ok (.iload 4, 2) := by decide +kernel
theorem dX4_near_41 : decode cX4_near 41 = .ok (.ishl, 1) := by decide +kernel
theorem dX4_near_42 : decode cX4_near 42 = .ok (.ior, 1) := by decide +kernel
theorem dX4_near_43 : decode cX4_near 43 = .ok (.istore_n 3, 1) := by decide +kernel
theorem dX4_near_44 : decode cX4_near 44 = .ok (.iinc 4 1, 3) := by decide +kernel
theorem dX4_near_47 : decode cX4_near 47 = .ok (.goto (-42), 3) := by decide +kernel
theorem dX4_near_50 : decode cX4_near 50 = .ok (.aload_n 0, 1) := by decide +kernel
theorem dX4_near_51 : decode cX4_near 51 = .ok (.iload_n 3, 1) := by decide +kernel
theorem dX4_near_52 : decode cX4_near 52 = .ok (.ifCond .eq 7, 3) := by decide +kernel
theorem dX4_near_55 : decode cX4_near 55 = .ok (.iload_n 3, 1) := by decide +kernel
theorem dX4_near_56 : decode cX4_near 56 = .ok (.goto 4, 3) := by decide +kernel
theorem dX4_near_59 : decode cX4_near 59 = .ok (.iload_n 1, 1) := by decide +kernel
theorem dX4_near_60 : decode cX4_near 60 = .ok (.invokevirtual 147, 3) := by decide +kernel
theorem dX4_near_63 : decode cX4_near 63 = .ok (.ireturn, 1) := by decide +kernel
theorem dX4_byTurns_0 : decode cX4_byTurns 0 = .ok (.iconst (-1), 1) := by decide +kernel
theorem dX4_byTurns_1 : decode cX4_byTurns 1 = .ok (.istore_n 3, 1) := by decide +kernel
theorem dX4_byTurns_2 : decode cX4_byTurns 2 = .ok (.iconst 0, 1) := by decide +kernel
theorem dX4_byTurns_3 : decode cX4_byTurns 3 = .ok (.istore 4, 2) := by decide +kernel
theorem dX4_byTurns_5 : decode cX4_byTurns 5 = .ok (.iconst 0, 1) := by decide +kernel
theorem dX4_byTurns_6 : decode cX4_byTurns 6 = .ok (.istore 5, 2) := by decide +kernel
theorem dX4_byTurns_8 : decode cX4_byTurns 8 = .ok (.iload 5, 2) := by decide +kernel
theorem dX4_byTurns_10 : decode cX4_byTurns 10 = .ok (.aload_n 0, 1) := by decide +kernel
theorem dX4_byTurns_11 : decode cX4_byTurns 11 = .ok (.getfield 114, 3) := by decide +kernel
theorem dX4_byTurns_14 : decode cX4_byTurns 14 = .ok (.if_icmp .ge 71, 3) := by decide +kernel
theorem dX4_byTurns_17 : decode cX4_byTurns 17 = .ok (.iload_n 1, 1) := by decide +kernel
theorem dX4_byTurns_18 : decode cX4_byTurns 18 = .ok (.iload 5, 2) := by decide +kernel
theorem dX4_byTurns_20 : decode cX4_byTurns 20 = .ok (.ishr, 1) := by decide +kernel
theorem dX4_byTurns_21 : decode cX4_byTurns 21 = .ok (.iconst 1, 1) := by decide +kernel
theorem dX4_byTurns_22 : decode cX4_byTurns 22 = .ok (.iand, 1) := by decide +kernel
theorem dX4_byTurns_23 : decode cX4_byTurns 23 = .ok (.ifCond .ne 6, 3) := by decide +kernel
theorem dX4_byTurns_26 : decode cX4_byTurns 26 = .ok (.goto 53, 3) := by decide +kernel
theorem dX4_byTurns_29 : decode cX4_byTurns 29 = .ok (.iload 4, 2) := by decide +kernel
theorem dX4_byTurns_31 : decode cX4_byTurns 31 = .ok (.aload_n 0, 1) := by decide +kernel
theorem dX4_byTurns_32 : decode cX4_byTurns 32 = .ok (.getfield 20, 3) := by decide +kernel
theorem dX4_byTurns_35 : decode cX4_byTurns 35 = .ok (.iload 5, 2) := by decide +kernel
theorem dX4_byTurns_37 : decode cX4_byTurns 37 = .ok (.iaload, 1) := by decide +kernel
theorem dX4_byTurns_38 : decode cX4_byTurns 38 = .ok (.iadd, 1) := by decide +kernel
theorem dX4_byTurns_39 : decode cX4_byTurns 39 = .ok (.istore 4, 2) := by decide +kernel
theorem dX4_byTurns_41 : decode cX4_byTurns 41 = .ok (.iload_n 3, 1) := by decide +kernel
theorem dX4_byTurns_42 : decode cX4_byTurns 42 = .ok (.ifCond .lt 34, 3) := by decide +kernel
theorem dX4_byTurns_45 : decode cX4_byTurns 45 = .ok (.aload_n 0, 1) := by decide +kernel
theorem dX4_byTurns_46 : decode cX4_byTurns 46 = .ok (.getfield 65, 3) := by decide +kernel
theorem dX4_byTurns_49 : decode cX4_byTurns 49 = .ok (.iload 5, 2) := by decide +kernel
theorem dX4_byTurns_51 : decode cX4_byTurns 51 = .ok (.iaload, 1) := by decide +kernel
theorem dX4_byTurns_52 : decode cX4_byTurns 52 = .ok (.aload_n 0, 1) := by decide +kernel
theorem dX4_byTurns_53 : decode cX4_byTurns 53 = .ok (.getfield 20, 3) := by decide +kernel
theorem dX4_byTurns_56 : decode cX4_byTurns 56 = .ok (.iload 5, 2) := by decide +kernel
theorem dX4_byTurns_58 : decode cX4_byTurns 58 = .ok (.iaload, 1) := by decide +kernel
theorem dX4_byTurns_59 : decode cX4_byTurns 59 = .ok (.iadd, 1) := by decide +kernel
theorem dX4_byTurns_60 : decode cX4_byTurns 60 = .ok (.aload_n 0, 1) := by decide +kernel
theorem dX4_byTurns_61 : decode cX4_byTurns 61 = .ok (.getfield 65, 3) := by decide +kernel
theorem dX4_byTurns_64 : decode cX4_byTurns 64 = .ok (.iload_n 3, 1) := by decide +kernel
theorem dX4_byTurns_65 : decode cX4_byTurns 65 = .ok (.iaload, 1) := by decide +kernel
theorem dX4_byTurns_66 : decode cX4_byTurns 66 = .ok (.aload_n 0, 1) := by decide +kernel
theorem dX4_byTurns_67 : decode cX4_byTurns 67 = .ok (.getfield 20, 3) := by decide +kernel
theorem dX4_byTurns_70 : decode cX4_byTurns 70 = .ok (.iload_n 3, 1) := by decide +kernel
theorem dX4_byTurns_71 : decode cX4_byTurns 71 = .ok (.iaload, 1) := by decide +kernel
theorem dX4_byTurns_72 : decode cX4_byTurns 72 = .ok (.iadd, 1) := by decide +kernel
theorem dX4_byTurns_73 : decode cX4_byTurns 73 = .ok (.if_icmp .le 6, 3) := by decide +kernel
theorem dX4_byTurns_76 : decode cX4_byTurns 76 = .ok (.iload 5, 2) := by decide +kernel
theorem dX4_byTurns_78 : decode cX4_byTurns 78 = .ok (.istore_n 3, 1) := by decide +kernel
theorem dX4_byTurns_79 : decode cX4_byTurns 79 = .ok (.iinc 5 1, 3) := by decide +kernel
theorem dX4_byTurns_82 : decode cX4_byTurns 82 = .ok (.goto (-74), 3) := by decide +kernel
theorem dX4_byTurns_85 : decode cX4_byTurns 85 = .ok (.iconst 0, 1) := by decide +kernel
theorem dX4_byTurns_86 : decode cX4_byTurns 86 = .ok (.istore 5, 2) := by decide +kernel
theorem dX4_byTurns_88 : decode cX4_byTurns 88 = .ok (.iload 5, 2) := by decide +kernel
theorem dX4_byTurns_90 : decode cX4_byTurns 90 = .ok (.aload_n 0, 1) := by decide +kernel
theorem dX4_byTurns_91 : decode cX4_byTurns 91 = .ok (.getfield 114, 3) := by decide +kernel
theorem dX4_byTurns_94 : decode cX4_byTurns 94 = .ok (.if_icmp .ge 44, 3) := by decide +kernel
theorem dX4_byTurns_97 : decode cX4_byTurns 97 = .ok (.iload_n 2, 1) := by decide +kernel
theorem dX4_byTurns_98 : decode cX4_byTurns 98 = .ok (.ifCond .eq 40, 3) := by decide +kernel
theorem dX4_byTurns_101 : decode cX4_byTurns 101 = .ok (.aload_n 0, 1) := by decide +kernel
theorem dX4_byTurns_102 : decode cX4_byTurns 102 = .ok (.getfield 65, 3) := by decide +kernel
theorem dX4_byTurns_105 : decode cX4_byTurns 105 = .ok (.iload 5, 2) := by decide +kernel
theorem dX4_byTurns_107 : decode cX4_byTurns 107 = .ok (.dup2, 1) := by decide +kernel
theorem dX4_byTurns_108 : decode cX4_byTurns 108 = .ok (.iaload, 1) := by decide +kernel
theorem dX4_byTurns_109 : decode cX4_byTurns 109 = .ok (.iload_n 1, 1) := by decide +kernel
theorem dX4_byTurns_110 : decode cX4_byTurns 110 = .ok (.iload 5, 2) := by decide +kernel
theorem dX4_byTurns_112 : decode cX4_byTurns 112 = .ok (.ishr, 1) := by decide +kernel
theorem dX4_byTurns_113 : decode cX4_byTurns 113 = .ok (.iconst 1, 1) := by decide +kernel
theorem dX4_byTurns_114 : decode cX4_byTurns 114 = .ok (.iand, 1) := by decide +kernel
theorem dX4_byTurns_115 : decode cX4_byTurns 115 = .ok (.iconst 1, 1) := by decide +kernel
theorem dX4_byTurns_116 : decode cX4_byTurns 116 = .ok (.if_icmp .ne 13, 3) := by decide +kernel
theorem dX4_byTurns_119 : decode cX4_byTurns 119 = .ok (.aload_n 0, 1) := by decide +kernel
theorem dX4_byTurns_120 : decode cX4_byTurns 120 = .ok (.getfield 20, 3) := by decide +kernel
theorem dX4_byTurns_123 : decode cX4_byTurns 123 = .ok (.iload 5, 2) := by decide +kernel
theorem dX4_byTurns_125 : decode cX4_byTurns 125 = .ok (.iaload, 1) := by decide +kernel
theorem dX4_byTurns_126 : decode cX4_byTurns 126 = .ok (.goto 4, 3) := by decide +kernel
theorem dX4_byTurns_129 : decode cX4_byTurns 129 = .ok (.iconst 0, 1) := by decide +kernel
theorem dX4_byTurns_130 : decode cX4_byTurns 130 = .ok (.iadd, 1) := by decide +kernel
theorem dX4_byTurns_131 : decode cX4_byTurns 131 = .ok (.iastore, 1) := by decide +kernel
theorem dX4_byTurns_132 : decode cX4_byTurns 132 = .ok (.iinc 5 1, 3) := by decide +kernel
theorem dX4_byTurns_135 : decode cX4_byTurns 135 = .ok (.goto (-47), 3) := by decide +kernel
theorem dX4_byTurns_138 : decode cX4_byTurns 138 = .ok (.iload_n 2, 1) := by decide +kernel
theorem dX4_byTurns_139 : decode cX4_byTurns 139 = .ok (.ifCond .eq 14, 3) := by decide +kernel
theorem dX4_byTurns_142 : decode cX4_byTurns 142 = .ok (.aload_n 0, 1) := by decide +kernel
theorem dX4_byTurns_143 : decode cX4_byTurns 143 = .ok (.getfield 65, 3) := by decide +kernel
theorem dX4_byTurns_146 : decode cX4_byTurns 146 = .ok (.iload_n 3, 1) := by decide +kernel
theorem dX4_byTurns_147 : decode cX4_byTurns 147 = .ok (.dup2, 1) := by decide +kernel
theorem dX4_byTurns_148 : decode cX4_byTurns 148 = .ok (.iaload, 1) := by decide +kernel
theorem dX4_byTurns_149 : decode cX4_byTurns 149 = .ok (.iload 4, 2) := by decide +kernel
theorem dX4_byTurns_151 : decode cX4_byTurns 151 = .ok (.isub, 1) := by decide +kernel
theorem dX4_byTurns_152 : decode cX4_byTurns 152 = .ok (.iastore, 1) := by decide +kernel
theorem dX4_byTurns_153 : decode cX4_byTurns 153 = .ok (.iload_n 3, 1) := by decide +kernel
theorem dX4_byTurns_154 : decode cX4_byTurns 154 = .ok (.ireturn, 1) := by decide +kernel
theorem dX4_picked_0 : decode cX4_picked 0 = .ok (.aload_n 0, 1) := by decide +kernel
theorem dX4_picked_1 : decode cX4_picked 1 = .ok (.getfield 136, 3) := by decide +kernel
theorem dX4_picked_4 : decode cX4_picked 4 = .ok (.tableswitch 48 0 2 #[28, 35, 41], 28) := by decide +kernel
theorem dX4_picked_32 : decode cX4_picked 32 = .ok (.aload_n 0, 1) := by decide +kernel
theorem dX4_picked_33 : decode cX4_picked 33 = .ok (.iload_n 1, 1) := by decide +kernel
theorem dX4_picked_34 : decode cX4_picked 34 = .ok (.iload_n 3, 1) := by decide +kernel
theorem dX4_picked_35 : decode cX4_picked 35 = .ok (.invokevirtual 150, 3) := by decide +kernel
theorem dX4_picked_38 : decode cX4_picked 38 = .ok (.ireturn, 1) := by decide +kernel
theorem dX4_picked_39 : decode cX4_picked 39 = .ok (.aload_n 0, 1) := by decide +kernel
theorem dX4_picked_40 : decode cX4_picked 40 = .ok (.iload_n 1, 1) := by decide +kernel
theorem dX4_picked_41 : decode cX4_picked 41 = .ok (.invokevirtual 147, 3) := by decide +kernel
theorem dX4_picked_44 : decode cX4_picked 44 = .ok (.ireturn, 1) := by decide +kernel
theorem dX4_picked_45 : decode cX4_picked 45 = .ok (.aload_n 0, 1) := by decide +kernel
theorem dX4_picked_46 : decode cX4_picked 46 = .ok (.iload_n 1, 1) := by decide +kernel
theorem dX4_picked_47 : decode cX4_picked 47 = .ok (.iload_n 2, 1) := by decide +kernel
theorem dX4_picked_48 : decode cX4_picked 48 = .ok (.invokevirtual 154, 3) := by decide +kernel
theorem dX4_picked_51 : decode cX4_picked 51 = .ok (.ireturn, 1) := by decide +kernel
theorem dX4_picked_52 : decode cX4_picked 52 = .ok (.aload_n 0, 1) := by decide +kernel
theorem dX4_picked_53 : decode cX4_picked 53 = .ok (.iload_n 1, 1) := by decide +kernel
theorem dX4_picked_54 : decode cX4_picked 54 = .ok (.iload_n 2, 1) := by decide +kernel
theorem dX4_picked_55 : decode cX4_picked 55 = .ok (.invokevirtual 157, 3) := by decide +kernel
theorem dX4_picked_58 : decode cX4_picked 58 = .ok (.ireturn, 1) := by decide +kernel
theorem dX4_ask_0 : decode cX4_ask 0 = .ok (.aload_n 0, 1) := by decide +kernel
theorem dX4_ask_1 : decode cX4_ask 1 = .ok (.getfield 44, 3) := by decide +kernel
theorem dX4_ask_4 : decode cX4_ask 4 = .ok (.iload_n 2, 1) := by decide +kernel
theorem dX4_ask_5 : decode cX4_ask 5 = .ok (.dup2, 1) := by decide +kernel
theorem dX4_ask_6 : decode cX4_ask 6 = .ok (.iaload, 1) := by decide +kernel
theorem dX4_ask_7 : decode cX4_ask 7 = .ok (.iconst 1, 1) := by decide +kernel
theorem dX4_ask_8 : decode cX4_ask 8 = .ok (.iadd, 1) := by decide +kernel
theorem dX4_ask_9 : decode cX4_ask 9 = .ok (.iastore, 1) := by decide +kernel
theorem dX4_ask_10 : decode cX4_ask 10 = .ok (.aload_n 0, 1) := by decide +kernel
theorem dX4_ask_11 : decode cX4_ask 11 = .ok (.dup, 1) := by decide +kernel
theorem dX4_ask_12 : decode cX4_ask 12 = .ok (.getfield 160, 3) := by decide +kernel
theorem dX4_ask_15 : decode cX4_ask 15 = .ok (.iconst 1, 1) := by decide +kernel
theorem dX4_ask_16 : decode cX4_ask 16 = .ok (.iadd, 1) := by decide +kernel
theorem dX4_ask_17 : decode cX4_ask 17 = .ok (.putfield 160, 3) := by decide +kernel
theorem dX4_ask_20 : decode cX4_ask 20 = .ok (.aload_n 0, 1) := by decide +kernel
theorem dX4_ask_21 : decode cX4_ask 21 = .ok (.getfield 41, 3) := by decide +kernel
theorem dX4_ask_24 : decode cX4_ask 24 = .ok (.iload_n 2, 1) := by decide +kernel
theorem dX4_ask_25 : decode cX4_ask 25 = .ok (.dup2, 1) := by decide +kernel
theorem dX4_ask_26 : decode cX4_ask 26 = .ok (.iaload, 1) := by decide +kernel
theorem dX4_ask_27 : decode cX4_ask 27 = .ok (.iconst 1, 1) := by decide +kernel
theorem dX4_ask_28 : decode cX4_ask 28 = .ok (.iadd, 1) := by decide +kernel
theorem dX4_ask_29 : decode cX4_ask 29 = .ok (.iastore, 1) := by decide +kernel
theorem dX4_ask_30 : decode cX4_ask 30 = .ok (.iconst 2, 1) := by decide +kernel
theorem dX4_ask_31 : decode cX4_ask 31 = .ok (.iload_n 1, 1) := by decide +kernel
theorem dX4_ask_32 : decode cX4_ask 32 = .ok (.imul, 1) := by decide +kernel
theorem dX4_ask_33 : decode cX4_ask 33 = .ok (.aload_n 0, 1) := by decide +kernel
theorem dX4_ask_34 : decode cX4_ask 34 = .ok (.getfield 80, 3) := by decide +kernel
theorem dX4_ask_37 : decode cX4_ask 37 = .ok (.iload_n 1, 1) := by decide +kernel
theorem dX4_ask_38 : decode cX4_ask 38 = .ok (.iaload, 1) := by decide +kernel
theorem dX4_ask_39 : decode cX4_ask 39 = .ok (.iadd, 1) := by decide +kernel
theorem dX4_ask_40 : decode cX4_ask 40 = .ok (.istore_n 3, 1) := by decide +kernel
theorem dX4_ask_41 : decode cX4_ask 41 = .ok (.aload_n 0, 1) := by decide +kernel
theorem dX4_ask_42 : decode cX4_ask 42 = .ok (.getfield 99, 3) := by decide +kernel
theorem dX4_ask_45 : decode cX4_ask 45 = .ok (.iload_n 3, 1) := by decide +kernel
theorem dX4_ask_46 : decode cX4_ask 46 = .ok (.iload_n 2, 1) := by decide +kernel
theorem dX4_ask_47 : decode cX4_ask 47 = .ok (.iastore, 1) := by decide +kernel
theorem dX4_ask_48 : decode cX4_ask 48 = .ok (.aload_n 0, 1) := by decide +kernel
theorem dX4_ask_49 : decode cX4_ask 49 = .ok (.getfield 102, 3) := by decide +kernel
theorem dX4_ask_52 : decode cX4_ask 52 = .ok (.iload_n 3, 1) := by decide +kernel
theorem dX4_ask_53 : decode cX4_ask 53 = .ok (.aload_n 0, 1) := by decide +kernel
theorem dX4_ask_54 : decode cX4_ask 54 = .ok (.getfield 163, 3) := by decide +kernel
theorem dX4_ask_57 : decode cX4_ask 57 = .ok (.iastore, 1) := by decide +kernel
theorem dX4_ask_58 : decode cX4_ask 58 = .ok (.aload_n 0, 1) := by decide +kernel
theorem dX4_ask_59 : decode cX4_ask 59 = .ok (.getfield 105, 3) := by decide +kernel
theorem dX4_ask_62 : decode cX4_ask 62 = .ok (.iload_n 3, 1) := by decide +kernel
theorem dX4_ask_63 : decode cX4_ask 63 = .ok (.aload_n 0, 1) := by decide +kernel
theorem dX4_ask_64 : decode cX4_ask 64 = .ok (.getfield 35, 3) := by decide +kernel
theorem dX4_ask_67 : decode cX4_ask 67 = .ok (.iload_n 2, 1) := by decide +kernel
theorem dX4_ask_68 : decode cX4_ask 68 = .ok (.iaload, 1) := by decide +kernel
theorem dX4_ask_69 : decode cX4_ask 69 = .ok (.iconst 1, 1) := by decide +kernel
theorem dX4_ask_70 : decode cX4_ask 70 = .ok (.if_icmp .ne 8, 3) := by decide +kernel
theorem dX4_ask_73 : decode cX4_ask 73 = .ok (.ldc 166, 2) := by decide +kernel
theorem dX4_ask_75 : decode cX4_ask 75 = .ok (.goto 14, 3) := by decide +kernel
theorem dX4_ask_78 : decode cX4_ask 78 = .ok (.aload_n 0, 1) := by decide +kernel
theorem dX4_ask_79 : decode cX4_ask 79 = .ok (.getfield 163, 3) := by decide +kernel
theorem dX4_ask_82 : decode cX4_ask 82 = .ok (.aload_n 0, 1) := by decide +kernel
theorem dX4_ask_83 : decode cX4_ask 83 = .ok (.getfield 29, 3) := by decide +kernel
theorem dX4_ask_86 : decode cX4_ask 86 = .ok (.iload_n 2, 1) := by decide +kernel
theorem dX4_ask_87 : decode cX4_ask 87 = .ok (.iaload, 1) := by decide +kernel
theorem dX4_ask_88 : decode cX4_ask 88 = .ok (.iadd, 1) := by decide +kernel
theorem dX4_ask_89 : decode cX4_ask 89 = .ok (.iastore, 1) := by decide +kernel
theorem dX4_ask_90 : decode cX4_ask 90 = .ok (.aload_n 0, 1) := by decide +kernel
theorem dX4_ask_91 : decode cX4_ask 91 = .ok (.getfield 108, 3) := by decide +kernel
theorem dX4_ask_94 : decode cX4_ask 94 = .ok (.iload_n 3, 1) := by decide +kernel
theorem dX4_ask_95 : decode cX4_ask 95 = .ok (.aload_n 0, 1) := by decide +kernel
theorem dX4_ask_96 : decode cX4_ask 96 = .ok (.getfield 32, 3) := by decide +kernel
theorem dX4_ask_99 : decode cX4_ask 99 = .ok (.iload_n 2, 1) := by decide +kernel
theorem dX4_ask_100 : decode cX4_ask 100 = .ok (.iaload, 1) := by decide +kernel
theorem dX4_ask_101 : decode cX4_ask 101 = .ok (.ifCond .le 23, 3) := by decide +kernel
theorem dX4_ask_104 : decode cX4_ask 104 = .ok (.aload_n 0, 1) := by decide +kernel
theorem dX4_ask_105 : decode cX4_ask 105 = .ok (.getfield 44, 3) := by decide +kernel
theorem dX4_ask_108 : decode cX4_ask 108 = .ok (.iload_n 2, 1) := by decide +kernel
theorem dX4_ask_109 : decode cX4_ask 109 = .ok (.iaload, 1) := by decide +kernel
theorem dX4_ask_110 : decode cX4_ask 110 = .ok (.aload_n 0, 1) := by decide +kernel
theorem dX4_ask_111 : decode cX4_ask 111 = .ok (.getfield 32, 3) := by decide +kernel
theorem dX4_ask_114 : decode cX4_ask 114 = .ok (.iload_n 2, 1) := by decide +kernel
theorem dX4_ask_115 : decode cX4_ask 115 = .ok (.iaload, 1) := by decide +kernel
theorem dX4_ask_116 : decode cX4_ask 116 = .ok (.irem, 1) := by decide +kernel
theorem dX4_ask_117 : decode cX4_ask 117 = .ok (.ifCond .ne 7, 3) := by decide +kernel
theorem dX4_ask_120 : decode cX4_ask 120 = .ok (.iconst 1, 1) := by decide +kernel
theorem dX4_ask_121 : decode cX4_ask 121 = .ok (.goto 4, 3) := by decide +kernel
theorem dX4_ask_124 : decode cX4_ask 124 = .ok (.iconst 0, 1) := by decide +kernel
theorem dX4_ask_125 : decode cX4_ask 125 = .ok (.bastore, 1) := by decide +kernel
theorem dX4_ask_126 : decode cX4_ask 126 = .ok (.aload_n 0, 1) := by decide +kernel
theorem dX4_ask_127 : decode cX4_ask 127 = .ok (.getfield 80, 3) := by decide +kernel
theorem dX4_ask_130 : decode cX4_ask 130 = .ok (.iload_n 1, 1) := by decide +kernel
theorem dX4_ask_131 : decode cX4_ask 131 = .ok (.dup2, 1) := by decide +kernel
theorem dX4_ask_132 : decode cX4_ask 132 = .ok (.iaload, 1) := by decide +kernel
theorem dX4_ask_133 : decode cX4_ask 133 = .ok (.iconst 1, 1) := by decide +kernel
theorem dX4_ask_134 : decode cX4_ask 134 = .ok (.iadd, 1) := by decide +kernel
theorem dX4_ask_135 : decode cX4_ask 135 = .ok (.iastore, 1) := by decide +kernel
theorem dX4_ask_136 : decode cX4_ask 136 = .ok (.aload_n 0, 1) := by decide +kernel
theorem dX4_ask_137 : decode cX4_ask 137 = .ok (.getfield 83, 3) := by decide +kernel
theorem dX4_ask_140 : decode cX4_ask 140 = .ok (.iload_n 1, 1) := by decide +kernel
theorem dX4_ask_141 : decode cX4_ask 141 = .ok (.dup2, 1) := by decide +kernel
theorem dX4_ask_142 : decode cX4_ask 142 = .ok (.iaload, 1) := by decide +kernel
theorem dX4_ask_143 : decode cX4_ask 143 = .ok (.iconst 1, 1) := by decide +kernel
theorem dX4_ask_144 : decode cX4_ask 144 = .ok (.iload_n 2, 1) := by decide +kernel
theorem dX4_ask_145 : decode cX4_ask 145 = .ok (.ishl, 1) := by decide +kernel
theorem dX4_ask_146 : decode cX4_ask 146 = .ok (.ior, 1) := by decide +kernel
theorem dX4_ask_147 : decode cX4_ask 147 = .ok (.iastore, 1) := by decide +kernel
theorem dX4_ask_148 : decode cX4_ask 148 = .ok (.aload_n 0, 1) := by decide +kernel
theorem dX4_ask_149 : decode cX4_ask 149 = .ok (.getfield 77, 3) := by decide +kernel
theorem dX4_ask_152 : decode cX4_ask 152 = .ok (.iload_n 1, 1) := by decide +kernel
theorem dX4_ask_153 : decode cX4_ask 153 = .ok (.iconst 1, 1) := by decide +kernel
theorem dX4_ask_154 : decode cX4_ask 154 = .ok (.iastore, 1) := by decide +kernel
theorem dX4_ask_155 : decode cX4_ask 155 = .ok (.return_, 1) := by decide +kernel
theorem dX4_asksFor_0 : decode cX4_asksFor 0 = .ok (.aload_n 0, 1) := by decide +kernel
theorem dX4_asksFor_1 : decode cX4_asksFor 1 = .ok (.aload_n 0, 1) := by decide +kernel
theorem dX4_asksFor_2 : decode cX4_asksFor 2 = .ok (.getfield 83, 3) := by decide +kernel
theorem dX4_asksFor_5 : decode cX4_asksFor 5 = .ok (.iload_n 1, 1) := by decide +kernel
theorem dX4_asksFor_6 : decode cX4_asksFor 6 = .ok (.iaload, 1) := by decide +kernel
theorem dX4_asksFor_7 : decode cX4_asksFor 7 = .ok (.invokevirtual 167, 3) := by decide +kernel
theorem dX4_asksFor_10 : decode cX4_asksFor 10 = .ok (.istore_n 2, 1) := by decide +kernel
theorem dX4_asksFor_11 : decode cX4_asksFor 11 = .ok (.iload_n 2, 1) := by decide +kernel
theorem dX4_asksFor_12 : decode cX4_asksFor 12 = .ok (.ifCond .ne 5, 3) := by decide +kernel
theorem dX4_asksFor_15 : decode cX4_asksFor 15 = .ok (.iconst 0, 1) := by decide +kernel
theorem dX4_asksFor_16 : decode cX4_asksFor 16 = .ok (.ireturn, 1) := by decide +kernel
theorem dX4_asksFor_17 : decode cX4_asksFor 17 = .ok (.aload_n 0, 1) := by decide +kernel
theorem dX4_asksFor_18 : decode cX4_asksFor 18 = .ok (.iload_n 1, 1) := by decide +kernel
theorem dX4_asksFor_19 : decode cX4_asksFor 19 = .ok (.aload_n 0, 1) := by decide +kernel
theorem dX4_asksFor_20 : decode cX4_asksFor 20 = .ok (.iload_n 2, 1) := by decide +kernel
theorem dX4_asksFor_21 : decode cX4_asksFor 21 = .ok (.aload_n 0, 1) := by decide +kernel
theorem dX4_asksFor_22 : decode cX4_asksFor 22 = .ok (.getfield 68, 3) := by decide +kernel
theorem dX4_asksFor_25 : decode cX4_asksFor 25 = .ok (.iload_n 1, 1) := by decide +kernel
theorem dX4_asksFor_26 : decode cX4_asksFor 26 = .ok (.iaload, 1) := by decide +kernel
theorem dX4_asksFor_27 : decode cX4_asksFor 27 = .ok (.iconst 1, 1) := by decide +kernel
theorem dX4_asksFor_28 : decode cX4_asksFor 28 = .ok (.invokevirtual 170, 3) := by decide +kernel
theorem dX4_asksFor_31 : decode cX4_asksFor 31 = .ok (.invokevirtual 174, 3) := by decide +kernel
theorem dX4_asksFor_34 : decode cX4_asksFor 34 = .ok (.iconst 1, 1) := by decide +kernel
theorem dX4_asksFor_35 : decode cX4_asksFor 35 = .ok (.ireturn, 1) := by decide +kernel
