theorem dX12_init_0 : decode cX12_init 0 = .ok (.aload_n 0, 1) := by decide +kernel
theorem dX12_init_1 : decode cX12_init 1 = .ok (.invokespecial 3, 3) := by decide +kernel
theorem dX12_init_4 : decode cX12_init 4 = .ok (.aload_n 0, 1) := by decide +kernel
theorem dX12_init_5 : decode cX12_init 5 = .ok (.bipush 12, 2) := by decide +kernel
theorem dX12_init_7 : decode cX12_init 7 = .ok (.newarray .int, 2) := by decide +kernel
theorem dX12_init_9 : decode cX12_init 9 = .ok (.putfield 9, 3) := by decide +kernel
theorem dX12_init_12 : decode cX12_init 12 = .ok (.aload_n 0, 1) := by decide +kernel
theorem dX12_init_13 : decode cX12_init 13 = .ok (.bipush 12, 2) := by decide +kernel
theorem dX12_init_15 : decode cX12_init 15 = .ok (.newarray .int, 2) := by decide +kernel
theorem dX12_init_17 : decode cX12_init 17 = .ok (.putfield 15, 3) := by decide +kernel
theorem dX12_init_20 : decode cX12_init 20 = .ok (.aload_n 0, 1) := by decide +kernel
theorem dX12_init_21 : decode cX12_init 21 = .ok (.bipush 6, 2) := by decide +kernel
theorem dX12_init_23 : decode cX12_init 23 = .ok (.newarray .int, 2) := by decide +kernel
theorem dX12_init_25 : decode cX12_init 25 = .ok (.putfield 18, 3) := by decide +kernel
theorem dX12_init_28 : decode cX12_init 28 = .ok (.aload_n 0, 1) := by decide +kernel
theorem dX12_init_29 : decode cX12_init 29 = .ok (.bipush 6, 2) := by decide +kernel
theorem dX12_init_31 : decode cX12_init 31 = .ok (.newarray .int, 2) := by decide +kernel
theorem dX12_init_33 : decode cX12_init 33 = .ok (.putfield 21, 3) := by decide +kernel
theorem dX12_init_36 : decode cX12_init 36 = .ok (.aload_n 0, 1) := by decide +kernel
theorem dX12_init_37 : decode cX12_init 37 = .ok (.bipush 6, 2) := by decide +kernel
theorem dX12_init_39 : decode cX12_init 39 = .ok (.newarray .int, 2) := by decide +kernel
theorem dX12_init_41 : decode cX12_init 41 = .ok (.putfield 24, 3) := by decide +kernel
theorem dX12_init_44 : decode cX12_init 44 = .ok (.aload_n 0, 1) := by decide +kernel
theorem dX12_init_45 : decode cX12_init 45 = .ok (.bipush 6, 2) := by decide +kernel
theorem dX12_init_47 : decode cX12_init 47 = .ok (.newarray .int, 2) := by decide +kernel
theorem dX12_init_49 : decode cX12_init 49 = .ok (.putfield 27, 3) := by decide +kernel
theorem dX12_init_52 : decode cX12_init 52 = .ok (.aload_n 0, 1) := by decide +kernel
theorem dX12_init_53 : decode cX12_init 53 = .ok (.bipush 6, 2) := by decide +kernel
theorem dX12_init_55 : decode cX12_init 55 = .ok (.newarray .int, 2) := by decide +kernel
theorem dX12_init_57 : decode cX12_init 57 = .ok (.putfield 30, 3) := by decide +kernel
theorem dX12_init_60 : decode cX12_init 60 = .ok (.aload_n 0, 1) := by decide +kernel
theorem dX12_init_61 : decode cX12_init 61 = .ok (.bipush 24, 2) := by decide +kernel
theorem dX12_init_63 : decode cX12_init 63 = .ok (.newarray .int, 2) := by decide +kernel
theorem dX12_init_65 : decode cX12_init 65 = .ok (.putfield 33, 3) := by decide +kernel
theorem dX12_init_68 : decode cX12_init 68 = .ok (.aload_n 0, 1) := by decide +kernel
theorem dX12_init_69 : decode cX12_init 69 = .ok (.bipush 100, 2) := by decide +kernel
theorem dX12_init_71 : decode cX12_init 71 = .ok (.newarray .int, 2) := by decide +kernel
theorem dX12_init_73 : decode cX12_init 73 = .ok (.putfield 36, 3) := by decide +kernel
theorem dX12_init_76 : decode cX12_init 76 = .ok (.aload_n 0, 1) := by decide +kernel
theorem dX12_init_77 : decode cX12_init 77 = .ok (.bipush 6, 2) := by decide +kernel
theorem dX12_init_79 : decode cX12_init 79 = .ok (.newarray .int, 2) := by decide +kernel
theorem dX12_init_81 : decode cX12_init 81 = .ok (.putfield 39, 3) := by decide +kernel
theorem dX12_init_84 : decode cX12_init 84 = .ok (.aload_n 0, 1) := by decide +kernel
theorem dX12_init_85 : decode cX12_init 85 = .ok (.bipush 61, 2) := by decide +kernel
theorem dX12_init_87 : decode cX12_init 87 = .ok (.newarray .int, 2) := by decide +kernel
theorem dX12_init_89 : decode cX12_init 89 = .ok (.putfield 42, 3) := by decide +kernel
theorem dX12_init_92 : decode cX12_init 92 = .ok (.aload_n 0, 1) := by decide +kernel
theorem dX12_init_93 : decode cX12_init 93 = .ok (.bipush 61, 2) := by decide +kernel
theorem dX12_init_95 : decode cX12_init 95 = .ok (.newarray .int, 2) := by decide +kernel
theorem dX12_init_97 : decode cX12_init 97 = .ok (.putfield 45, 3) := by decide +kernel
theorem dX12_init_100 : decode cX12_init 100 = .ok (.aload_n 0, 1) := by decide +kernel
theorem dX12_init_101 : decode cX12_init 101 = .ok (.bipush 61, 2) := by decide +kernel
theorem dX12_init_103 : decode cX12_init 103 = .ok (.newarray .int, 2) := by decide +kernel
theorem dX12_init_105 : decode cX12_init 105 = .ok (.putfield 48, 3) := by decide +kernel
theorem dX12_init_108 : decode cX12_init 108 = .ok (.aload_n 0, 1) := by decide +kernel
theorem dX12_init_109 : decode cX12_init 109 = .ok (.bipush 61, 2) := by decide +kernel
theorem dX12_init_111 : decode cX12_init 111 = .ok (.newarray .int, 2) := by decide +kernel
theorem dX12_init_113 : decode cX12_init 113 = .ok (.putfield 51, 3) := by decide +kernel
theorem dX12_init_116 : decode cX12_init 116 = .ok (.aload_n 0, 1) := by decide +kernel
theorem dX12_init_117 : decode cX12_init 117 = .ok (.sipush 800, 3) := by decide +kernel
theorem dX12_init_120 : decode cX12_init 120 = .ok (.newarray .int, 2) := by decide +kernel
theorem dX12_init_122 : decode cX12_init 122 = .ok (.putfield 54, 3) := by decide +kernel
theorem dX12_init_125 : decode cX12_init 125 = .ok (.aload_n 0, 1) := by decide +kernel
theorem dX12_init_126 : decode cX12_init 126 = .ok (.bipush 110, 2) := by decide +kernel
theorem dX12_init_128 : decode cX12_init 128 = .ok (.newarray .boolean, 2) := by decide +kernel
theorem dX12_init_130 : decode cX12_init 130 = .ok (.putfield 57, 3) := by decide +kernel
theorem dX12_init_133 : decode cX12_init 133 = .ok (.aload_n 0, 1) := by decide +kernel
theorem dX12_init_134 : decode cX12_init 134 = .ok (.iconst 5, 1) := by decide +kernel
theorem dX12_init_135 : decode cX12_init 135 = .ok (.newarray .int, 2) := by decide +kernel
theorem dX12_init_137 : decode cX12_init 137 = .ok (.putfield 61, 3) := by decide +kernel
theorem dX12_init_140 : decode cX12_init 140 = .ok (.aload_n 0, 1) := by decide +kernel
theorem dX12_init_141 : decode cX12_init 141 = .ok (.iconst 5, 1) := by decide +kernel
theorem dX12_init_142 : decode cX12_init 142 = .ok (.newarray .int, 2) := by decide +kernel
theorem dX12_init_144 : decode cX12_init 144 = .ok (.putfield 64, 3) := by decide +kernel
theorem dX12_init_147 : decode cX12_init 147 = .ok (.aload_n 0, 1) := by decide +kernel
theorem dX12_init_148 : decode cX12_init 148 = .ok (.iconst 5, 1) := by decide +kernel
theorem dX12_init_149 : decode cX12_init 149 = .ok (.newarray .int, 2) := by decide +kernel
theorem dX12_init_151 : decode cX12_init 151 = .ok (.putfield 67, 3) := by decide +kernel
theorem dX12_init_154 : decode cX12_init 154 = .ok (.aload_n 0, 1) := by decide +kernel
theorem dX12_init_155 : decode cX12_init 155 = .ok (.bipush 10, 2) := by decide +kernel
theorem dX12_init_157 : decode cX12_init 157 = .ok (.newarray .int, 2) := by decide +kernel
theorem dX12_init_159 : decode cX12_init 159 = .ok (.putfield 70, 3) := by decide +kernel
theorem dX12_init_162 : decode cX12_init 162 = .ok (.aload_n 0, 1) := by decide +kernel
theorem dX12_init_163 : decode cX12_init 163 = .ok (.bipush 10, 2) := by decide +kernel
theorem dX12_init_165 : decode cX12_init 165 = .ok (.newarray .int, 2) := by decide +kernel
theorem dX12_init_167 : decode cX12_init 167 = .ok (.putfield 73, 3) := by decide +kernel
theorem dX12_init_170 : decode cX12_init 170 = .ok (.aload_n 0, 1) := by decide +kernel
theorem dX12_init_171 : decode cX12_init 171 = .ok (.bipush 8, 2) := by decide +kernel
theorem dX12_init_173 : decode cX12_init 173 = .ok (.newarray .int, 2) := by decide +kernel
theorem dX12_init_175 : decode cX12_init 175 = .ok (.putfield 76, 3) := by decide +kernel
theorem dX12_init_178 : decode cX12_init 178 = .ok (.aload_n 0, 1) := by decide +kernel
theorem dX12_init_179 : decode cX12_init 179 = .ok (.bipush 8, 2) := by decide +kernel
theorem dX12_init_181 : decode cX12_init 181 = .ok (.newarray .int, 2) := by decide +kernel
theorem dX12_init_183 : decode cX12_init 183 = .ok (.putfield 79, 3) := by decide +kernel
theorem dX12_init_186 : decode cX12_init 186 = .ok (.aload_n 0, 1) := by decide +kernel
theorem dX12_init_187 : decode cX12_init 187 = .ok (.bipush 20, 2) := by decide +kernel
theorem dX12_init_189 : decode cX12_init 189 = .ok (.newarray .int, 2) := by decide +kernel
theorem dX12_init_191 : decode cX12_init 191 = .ok (.putfield 82, 3) := by decide +kernel
theorem dX12_init_194 : decode cX12_init 194 = .ok (.aload_n 0, 1) := by decide +kernel
theorem dX12_init_195 : decode cX12_init 195 = .ok (.sipush 136, 3) := by decide +kernel
theorem dX12_init_198 : decode cX12_init 198 = .ok (.newarray .int, 2) := by decide +kernel
theorem dX12_init_200 : decode cX12_init 200 = .ok (.putfield 85, 3) := by decide +kernel
theorem dX12_init_203 : decode cX12_init 203 = .ok (.aload_n 0, 1) := by decide +kernel
theorem dX12_init_204 : decode cX12_init 204 = .ok (.sipush 136, 3) := by decide +kernel
theorem dX12_init_207 : decode cX12_init 207 = .ok (.newarray .int, 2) := by decide +kernel
theorem dX12_init_209 : decode cX12_init 209 = .ok (.putfield 88, 3) := by decide +kernel
theorem dX12_init_212 : decode cX12_init 212 = .ok (.aload_n 0, 1) := by decide +kernel
theorem dX12_init_213 : decode cX12_init 213 = .ok (.bipush 6, 2) := by decide +kernel
theorem dX12_init_215 : decode cX12_init 215 = .ok (.newarray .int, 2) := by decide +kernel
theorem dX12_init_217 : decode cX12_init 217 = .ok (.putfield 91, 3) := by decide +kernel
theorem dX12_init_220 : decode cX12_init 220 = .ok (.aload_n 0, 1) := by decide +kernel
theorem dX12_init_221 : decode cX12_init 221 = .ok (.bipush 6, 2) := by decide +kernel
theorem dX12_init_223 : decode cX12_init 223 = .ok (.newarray .int, 2) := by decide +kernel
theorem dX12_init_225 : decode cX12_init 225 = .ok (.putfield 94, 3) := by decide +kernel
theorem dX12_init_228 : decode cX12_init 228 = .ok (.aload_n 0, 1) := by decide +kernel
theorem dX12_init_229 : decode cX12_init 229 = .ok (.sipush 360, 3) := by decide +kernel
theorem dX12_init_232 : decode cX12_init 232 = .ok (.newarray .long, 2) := by decide +kernel
theorem dX12_init_234 : decode cX12_init 234 = .ok (.putfield 97, 3) := by decide +kernel
theorem dX12_init_237 : decode cX12_init 237 = .ok (.iconst 0, 1) := by decide +kernel
theorem dX12_init_238 : decode cX12_init 238 = .ok (.istore_n 1, 1) := by decide +kernel
theorem dX12_init_239 : decode cX12_init 239 = .ok (.iload_n 1, 1) := by decide +kernel
theorem dX12_init_240 : decode cX12_init 240 = .ok (.bipush 12, 2) := by decide +kernel
theorem dX12_init_242 : decode cX12_init 242 = .ok (.if_icmp .ge 28, 3) := by decide +kernel
theorem dX12_init_245 : decode cX12_init 245 = .ok (.aload_n 0, 1) := by decide +kernel
theorem dX12_init_246 : decode cX12_init 246 = .ok (.getfield 9, 3) := by decide +kernel
theorem dX12_init_249 : decode cX12_init 249 = .ok (.iload_n 1, 1) := by decide +kernel
theorem dX12_init_250 : decode cX12_init 250 = .ok (.iconst 5, 1) := by decide +kernel
theorem dX12_init_251 : decode cX12_init 251 = .ok (.iastore, 1) := by decide +kernel
theorem dX12_init_252 : decode cX12_init 252 = .ok (.aload_n 0, 1) := by decide +kernel
theorem dX12_init_253 : decode cX12_init 253 = .ok (.getfield 15, 3) := by decide +kernel
theorem dX12_init_256 : decode cX12_init 256 = .ok (.iload_n 1, 1) := by decide +kernel
theorem dX12_init_257 : decode cX12_init 257 = .ok (.iconst 1, 1) := by decide +kernel
theorem dX12_init_258 : decode cX12_init 258 = .ok (.iload_n 1, 1) := by decide +kernel
theorem dX12_init_259 : decode cX12_init 259 = .ok (.bipush 8, 2) := by decide +kernel
theorem dX12_init_261 : decode cX12_init 261 = .ok (.irem, 1) := by decide +kernel
theorem dX12_init_262 : decode cX12_init 262 = .ok (.ishl, 1) := by decide +kernel
theorem dX12_init_263 : decode cX12_init 263 = .ok (.iastore, 1) := by decide +kernel
theorem dX12_init_264 : decode cX12_init 264 = .ok (.iinc 1 1, 3) := by decide +kernel
theorem dX12_init_267 : decode cX12_init 267 = .ok (.goto (-28), 3) := by decide +kernel
theorem dX12_init_270 : decode cX12_init 270 = .ok (.aload_n 0, 1) := by decide +kernel
theorem dX12_init_271 : decode cX12_init 271 = .ok (.iconst (-1), 1) := by decide +kernel
theorem dX12_init_272 : decode cX12_init 272 = .ok (.putfield 101, 3) := by decide +kernel
theorem dX12_init_275 : decode cX12_init 275 = .ok (.iconst 0, 1) := by decide +kernel
theorem dX12_init_276 : decode cX12_init 276 = .ok (.istore_n 1, 1) := by decide +kernel
theorem dX12_init_277 : decode cX12_init 277 = .ok (.iload_n 1, 1) := by decide +kernel
theorem dX12_init_278 : decode cX12_init 278 = .ok (.bipush 6, 2) := by decide +kernel
theorem dX12_init_280 : decode cX12_init 280 = .ok (.if_icmp .ge 16, 3) := by decide +kernel
theorem dX12_init_283 : decode cX12_init 283 = .ok (.aload_n 0, 1) := by decide +kernel
theorem dX12_init_284 : decode cX12_init 284 = .ok (.getfield 91, 3) := by decide +kernel
theorem dX12_init_287 : decode cX12_init 287 = .ok (.iload_n 1, 1) := by decide +kernel
theorem dX12_init_288 : decode cX12_init 288 = .ok (.iconst (-1), 1) := by decide +kernel
theorem dX12_init_289 : decode cX12_init 289 = .ok (.iastore, 1) := by decide +kernel
theorem dX12_init_290 : decode cX12_init 290 = .ok (.iinc 1 1, 3) := by decide +kernel
theorem dX12_init_293 : decode cX12_init 293 = .ok (.goto (-16), 3) := by decide +kernel
theorem dX12_init_296 : decode cX12_init 296 = .ok (.return_, 1) := by decide +kernel
theorem dX12_within_0 : decode cX12_within 0 = .ok (.iload_n 0, 1) := by decide +kernel
theorem dX12_within_1 : decode cX12_within 1 = .ok (.iload_n 1, 1) := by decide +kernel
theorem dX12_within_2 : decode cX12_within 2 = .ok (.if_icmp .lt 12, 3) := by decide +kernel
theorem dX12_within_5 : decode cX12_within 5 = .ok (.iload_n 0, 1) := by decide +kernel
theorem dX12_within_6 : decode cX12_within 6 = .ok (.iload_n 2, 1) := by decide +kernel
theorem dX12_within_7 : decode cX12_within 7 = .ok (.if_icmp .gt 7, 3) := by decide +kernel
theorem dX12_within_10 : decode cX12_within 10 = .ok (.iconst 1, 1) := by decide +kernel
theorem dX12_within_11 : decode cX12_within 11 = .ok (.goto 4, 3) := by decide +kernel
theorem dX12_within_14 : decode cX12_within 14 = .ok (.iconst 0, 1) := by decide +kernel
theorem dX12_within_15 : decode cX12_within 15 = .ok (.ireturn, 1) := by decide +kernel
theorem dX12_isOne_0 : decode cX12_isOne 0 = .ok (.iload_n 1, 1) := by decide +kernel
theorem dX12_isOne_1 : decode cX12_isOne 1 = .ok (.iconst 0, 1) := by decide +kernel
theorem dX12_isOne_2 : decode cX12_isOne 2 = .ok (.aload_n 0, 1) := by decide +kernel
theorem dX12_isOne_3 : decode cX12_isOne 3 = .ok (.getfield 105, 3) := by decide +kernel
theorem dX12_isOne_6 : decode cX12_isOne 6 = .ok (.iconst 1, 1) := by decide +kernel
theorem dX12_isOne_7 : decode cX12_isOne 7 = .ok (.isub, 1) := by decide +kernel
theorem dX12_isOne_8 : decode cX12_isOne 8 = .ok (.invokestatic 108, 3) := by decide +kernel
theorem dX12_isOne_11 : decode cX12_isOne 11 = .ok (.ireturn, 1) := by decide +kernel
theorem dX12_isWord_0 : decode cX12_isWord 0 = .ok (.iload_n 0, 1) := by decide +kernel
theorem dX12_isWord_1 : decode cX12_isWord 1 = .ok (.iconst 0, 1) := by decide +kernel
theorem dX12_isWord_2 : decode cX12_isWord 2 = .ok (.bipush 11, 2) := by decide +kernel
theorem dX12_isWord_4 : decode cX12_isWord 4 = .ok (.invokestatic 108, 3) := by decide +kernel
theorem dX12_isWord_7 : decode cX12_isWord 7 = .ok (.ireturn, 1) := by decide +kernel
theorem dX12_areWords_0 : decode cX12_areWords 0 = .ok (.iload_n 0, 1) := by decide +kernel
theorem dX12_areWords_1 : decode cX12_areWords 1 = .ok (.iconst 0, 1) := by decide +kernel
theorem dX12_areWords_2 : decode cX12_areWords 2 = .ok (.sipush 4095, 3) := by decide +kernel
theorem dX12_areWords_5 : decode cX12_areWords 5 = .ok (.invokestatic 108, 3) := by decide +kernel
theorem dX12_areWords_8 : decode cX12_areWords 8 = .ok (.ireturn, 1) := by decide +kernel
theorem dX12_has_0 : decode cX12_has 0 = .ok (.iload_n 0, 1) := by decide +kernel
theorem dX12_has_1 : decode cX12_has 1 = .ok (.iload_n 1, 1) := by decide +kernel
theorem dX12_has_2 : decode cX12_has 2 = .ok (.ishr, 1) := by decide +kernel
theorem dX12_has_3 : decode cX12_has 3 = .ok (.iconst 1, 1) := by decide +kernel
theorem dX12_has_4 : decode cX12_has 4 = .ok (.iand, 1) := by decide +kernel
theorem dX12_has_5 : decode cX12_has 5 = .ok (.iconst 1, 1) := by decide +kernel
theorem dX12_has_6 : decode cX12_has 6 = .ok (.if_icmp .ne 7, 3) := by decide +kernel
theorem dX12_has_9 : decode cX12_has 9 = .ok (.iconst 1, 1) := by decide +kernel
theorem dX12_has_10 : decode cX12_has 10 = .ok (.goto 4, 3) := by decide +kernel
theorem dX12_has_13 : decode cX12_has 13 = .ok (.iconst 0, 1) := by decide +kernel
theorem dX12_has_14 : decode cX12_has 14 = .ok (.ireturn, 1) := by decide +kernel
theorem dX12_pigeon_0 : decode cX12_pigeon 0 = .ok (.iload_n 1, 1) := by decide +kernel
theorem dX12_pigeon_1 : decode cX12_pigeon 1 = .ok (.iconst 0, 1) := by decide +kernel
theorem dX12_pigeon_2 : decode cX12_pigeon 2 = .ok (.bipush 6, 2) := by decide +kernel
theorem dX12_pigeon_4 : decode cX12_pigeon 4 = .ok (.invokestatic 108, 3) := by decide +kernel
theorem dX12_pigeon_7 : decode cX12_pigeon 7 = .ok (.ifCond .ne 5, 3) := by decide +kernel
theorem dX12_pigeon_10 : decode cX12_pigeon 10 = .ok (.iconst (-1), 1) := by decide +kernel
theorem dX12_pigeon_11 : decode cX12_pigeon 11 = .ok (.ireturn, 1) := by decide +kernel
theorem dX12_pigeon_12 : decode cX12_pigeon 12 = .ok (.iload_n 2, 1) := by decide +kernel
theorem dX12_pigeon_13 : decode cX12_pigeon 13 = .ok (.iconst 0, 1) := by decide +kernel
theorem dX12_pigeon_14 : decode cX12_pigeon 14 = .ok (.bipush 9, 2) := by decide +kernel
theorem dX12_pigeon_16 : decode cX12_pigeon 16 = .ok (.invokestatic 108, 3) := by decide +kernel
theorem dX12_pigeon_19 : decode cX12_pigeon 19 = .ok (.ifCond .ne 6, 3) := by decide +kernel
theorem dX12_pigeon_22 : decode cX12_pigeon 22 = .ok (.bipush (-2), 2) := by decide +kernel
theorem dX12_pigeon_24 : decode cX12_pigeon 24 = .ok (.ireturn, 1) := by decide +kernel
theorem dX12_pigeon_25 : decode cX12_pigeon 25 = .ok (.aload_n 0, 1) := by decide +kernel
theorem dX12_pigeon_26 : decode cX12_pigeon 26 = .ok (.getfield 105, 3) := by decide +kernel
theorem dX12_pigeon_29 : decode cX12_pigeon 29 = .ok (.bipush 6, 2) := by decide +kernel
theorem dX12_pigeon_31 : decode cX12_pigeon 31 = .ok (.if_icmp .ne 6, 3) := by decide +kernel
theorem dX12_pigeon_34 : decode cX12_pigeon 34 = .ok (.bipush (-4), 2) := by decide +kernel
theorem dX12_pigeon_36 : decode cX12_pigeon 36 = .ok (.ireturn, 1) := by decide +kernel
theorem dX12_pigeon_37 : decode cX12_pigeon 37 = .ok (.aload_n 0, 1) := by decide +kernel
theorem dX12_pigeon_38 : decode cX12_pigeon 38 = .ok (.getfield 18, 3) := by decide +kernel
theorem dX12_pigeon_41 : decode cX12_pigeon 41 = .ok (.aload_n 0, 1) := by decide +kernel
theorem dX12_pigeon_42 : decode cX12_pigeon 42 = .ok (.getfield 105, 3) := by decide +kernel
theorem dX12_pigeon_45 : decode cX12_pigeon 45 = .ok (.iload_n 1, 1) := by decide +kernel
theorem dX12_pigeon_46 : decode cX12_pigeon 46 = .ok (.iastore, 1) := by decide +kernel
theorem dX12_pigeon_47 : decode cX12_pigeon 47 = .ok (.aload_n 0, 1) := by decide +kernel
theorem dX12_pigeon_48 : decode cX12_pigeon 48 = .ok (.getfield 21, 3) := by decide +kernel
theorem dX12_pigeon_51 : decode cX12_pigeon 51 = .ok (.aload_n 0, 1) := by decide +kernel
theorem dX12_pigeon_52 : decode cX12_pigeon 52 = .ok (.getfield 105, 3) := by decide +kernel
theorem dX12_pigeon_55 : decode cX12_pigeon 55 = .ok (.iload_n 2, 1) := by decide +kernel
theorem dX12_pigeon_56 : decode cX12_pigeon 56 = .ok (.iastore, 1) := by decide +kernel
theorem dX12_pigeon_57 : decode cX12_pigeon 57 = .ok (.aload_n 0, 1) := by decide +kernel
theorem dX12_pigeon_58 : decode cX12_pigeon 58 = .ok (.getfield 24, 3) := by decide +kernel
theorem dX12_pigeon_61 : decode cX12_pigeon 61 = .ok (.aload_n 0, 1) := by decide +kernel
theorem dX12_pigeon_62 : decode cX12_pigeon 62 = .ok (.getfield 105, 3) := by decide +kernel
theorem dX12_pigeon_65 : decode cX12_pigeon 65 = .ok (.iconst 0, 1) := by decide +kernel
theorem dX12_pigeon_66 : decode cX12_pigeon 66 = .ok (.iastore, 1) := by decide +kernel
theorem dX12_pigeon_67 : decode cX12_pigeon 67 = .ok (.aload_n 0, 1) := by decide +kernel
theorem dX12_pigeon_68 : decode cX12_pigeon 68 = .ok (.getfield 27, 3) := by decide +kernel
theorem dX12_pigeon_71 : decode cX12_pigeon 71 = .ok (.aload_n 0, 1) := by decide +kernel
theorem dX12_pigeon_72 : decode cX12_pigeon 72 = .ok (.getfield 105, 3) := by decide +kernel
theorem dX12_pigeon_75 : decode cX12_pigeon 75 = .ok (.iconst 0, 1) := by decide +kernel
theorem dX12_pigeon_76 : decode cX12_pigeon 76 = .ok (.iastore, 1) := by decide +kernel
theorem dX12_pigeon_77 : decode cX12_pigeon 77 = .ok (.aload_n 0, 1) := by decide +kernel
theorem dX12_pigeon_78 : decode cX12_pigeon 78 = .ok (.getfield 30, 3) := by decide +kernel
theorem dX12_pigeon_81 : decode cX12_pigeon 81 = .ok (.aload_n 0, 1) := by decide +kernel
theorem dX12_pigeon_82 : decode cX12_pigeon 82 = .ok (.getfield 105, 3) := by decide +kernel
theorem dX12_pigeon_85 : decode cX12_pigeon 85 = .ok (.iconst 0, 1) := by decide +kernel
theorem dX12_pigeon_86 : decode cX12_pigeon 86 = .ok (.iastore, 1) := by decide +kernel
theorem dX12_pigeon_87 : decode cX12_pigeon 87 = .ok (.iconst 0, 1) := by decide +kernel
theorem dX12_pigeon_88 : decode cX12_pigeon 88 = .ok (.istore_n 3, 1) := by decide +kernel
theorem dX12_pigeon_89 : decode cX12_pigeon 89 = .ok (.iload_n 3, 1) := by decide +kernel
theorem dX12_pigeon_90 : decode cX12_pigeon 90 = .ok (.iconst 4, 1) := by decide +kernel
theorem dX12_pigeon_91 : decode cX12_pigeon 91 = .ok (.if_icmp .ge 23, 3) := by decide +kernel
theorem dX12_pigeon_94 : decode cX12_pigeon 94 = .ok (.aload_n 0, 1) := by decide +kernel
theorem dX12_pigeon_95 : decode cX12_pigeon 95 = .ok (.getfield 33, 3) := by decide +kernel
theorem dX12_pigeon_98 : decode cX12_pigeon 98 = .ok (.iconst 4, 1) := by decide +kernel
theorem dX12_pigeon_99 : decode cX12_pigeon 99 = .ok (.aload_n 0, 1) := by decide +kernel
theorem dX12_pigeon_100 : decode cX12_pigeon 100 = .ok (.getfield 105, 3) := by decide +kernel
theorem dX12_pigeon_103 : decode cX12_pigeon 103 = .ok (.imul, 1) := by decide +kernel
theorem dX12_pigeon_104 : decode cX12_pigeon 104 = .ok (.iload_n 3, 1) := by decide +kernel
theorem dX12_pigeon_105 : decode cX12_pigeon 105 = .ok (.iadd, 1) := by decide +kernel
theorem dX12_pigeon_106 : decode cX12_pigeon 106 = .ok (.iconst 0, 1) := by decide +kernel
theorem dX12_pigeon_107 : decode cX12_pigeon 107 = .ok (.iastore, 1) := by decide +kernel
theorem dX12_pigeon_108 : decode cX12_pigeon 108 = .ok (.iinc 3 1, 3) := by decide +kernel
theorem dX12_pigeon_111 : decode cX12_pigeon 111 = .ok (.goto (-22), 3) := by decide +kernel
theorem dX12_pigeon_114 : decode cX12_pigeon 114 = .ok (.aload_n 0, 1) := by decide +kernel
theorem dX12_pigeon_115 : decode cX12_pigeon 115 = .ok (.dup, 1) := by decide +kernel
theorem dX12_pigeon_116 : decode cX12_pigeon 116 = .ok (.getfield 105, 3) := by decide +kernel
theorem dX12_pigeon_119 : decode cX12_pigeon 119 = .ok (.dup_x1, 1) := by decide +kernel
theorem dX12_pigeon_120 : decode cX12_pigeon 120 = .ok (.iconst 1, 1) := by decide +kernel
theorem dX12_pigeon_121 : decode cX12_pigeon 121 = .ok (.iadd, 1) := by decide +kernel
theorem dX12_pigeon_122 : decode cX12_pigeon 122 = .ok (.putfield 105, 3) := by decide +kernel
theorem dX12_pigeon_125 : decode cX12_pigeon 125 = .ok (.ireturn, 1) := by decide +kernel
theorem dX12_of_0 : decode cX12_of 0 = .ok (.aload_n 0, 1) := by decide +kernel
theorem dX12_of_1 : decode cX12_of 1 = .ok (.iload_n 1, 1) := by decide +kernel
theorem dX12_of_2 : decode cX12_of 2 = .ok (.invokevirtual 112, 3) := by decide +kernel
theorem dX12_of_5 : decode cX12_of 5 = .ok (.ifCond .ne 5, 3) := by decide +kernel
theorem dX12_of_8 : decode cX12_of 8 = .ok (.iconst (-1), 1) := by decide +kernel
theorem dX12_of_9 : decode cX12_of 9 = .ok (.ireturn, 1) := by decide +kernel
theorem dX12_of_10 : decode cX12_of 10 = .ok (.iload_n 2, 1) := by decide +kernel
theorem dX12_of_11 : decode cX12_of 11 = .ok (.tableswitch 96 0 6 #[41, 48, 55, 62, 69, 76, 90], 41) := by decide +kernel
theorem dX12_of_52 : decode cX12_of 52 = .ok (.aload_n 0, 1) := by decide +kernel
theorem dX12_of_53 : decode cX12_of 53 = .ok (.getfield 18, 3) := by decide +kernel
theorem dX12_of_56 : decode cX12_of 56 = .ok (.iload_n 1, 1) := by decide +kernel
theorem dX12_of_57 : decode cX12_of 57 = .ok (.iaload, 1) := by decide +kernel
theorem dX12_of_58 : decode cX12_of 58 = .ok (.ireturn, 1) := by decide +kernel
theorem dX12_of_59 : decode cX12_of 59 = .ok (.aload_n 0, 1) := by decide +kernel
theorem dX12_of_60 : decode cX12_of 60 = .ok (.getfield 21, 3) := by decide +kernel
theorem dX12_of_63 : decode cX12_of 63 = .ok (.iload_n 1, 1) := by decide +kernel
theorem dX12_of_64 : decode cX12_of 64 = .ok (.iaload, 1) := by decide +kernel
theorem dX12_of_65 : decode cX12_of 65 = .ok (.ireturn, 1) := by decide +kernel
theorem dX12_of_66 : decode cX12_of 66 = .ok (.aload_n 0, 1) := by decide +kernel
theorem dX12_of_67 : decode cX12_of 67 = .ok (.getfield 24, 3) := by decide +kernel
theorem dX12_of_70 : decode cX12_of 70 = .ok (.iload_n 1, 1) := by decide +kernel
theorem dX12_of_71 : decode cX12_of 71 = .ok (.iaload, 1) := by decide +kernel
theorem dX12_of_72 : decode cX12_of 72 = .ok (.ireturn, 1) := by decide +kernel
theorem dX12_of_73 : decode cX12_of 73 = .ok (.aload_n 0, 1) := by decide +kernel
theorem dX12_of_74 : decode cX12_of 74 = .ok (.getfield 27, 3) := by decide +kernel
theorem dX12_of_77 : decode cX12_of 77 = .ok (.iload_n 1, 1) := by decide +kernel
theorem dX12_of_78 : decode cX12_of 78 = .ok (.iaload, 1) := by decide +kernel
theorem dX12_of_79 : decode cX12_of 79 = .ok (.ireturn, 1) := by decide +kernel
theorem dX12_of_80 : decode cX12_of 80 = .ok (.aload_n 0, 1) := by decide +kernel
theorem dX12_of_81 : decode cX12_of 81 = .ok (.getfield 30, 3) := by decide +kernel
theorem dX12_of_84 : decode cX12_of 84 = .ok (.iload_n 1, 1) := by decide +kernel
theorem dX12_of_85 : decode cX12_of 85 = .ok (.iaload, 1) := by decide +kernel
theorem dX12_of_86 : decode cX12_of 86 = .ok (.ireturn, 1) := by decide +kernel
theorem dX12_of_87 : decode cX12_of 87 = .ok (.aload_n 0, 1) := by decide +kernel
theorem dX12_of_88 : decode cX12_of 88 = .ok (.iload_n 1, 1) := by decide +kernel
theorem dX12_of_89 : decode cX12_of 89 = .ok (.invokevirtual 116, 3) := by decide +kernel
theorem dX12_of_92 : decode cX12_of 92 = .ok (.ifCond .eq 7, 3) := by decide +kernel
theorem dX12_of_95 : decode cX12_of 95 = .ok (.iconst 1, 1) := by decide +kernel
theorem dX12_of_96 : decode cX12_of 96 = .ok (.goto 4, 3) := by decide +kernel
theorem dX12_of_99 : decode cX12_of 99 = .ok (.iconst 0, 1) := by decide +kernel
theorem dX12_of_100 : decode cX12_of 100 = .ok (.ireturn, 1) := by decide +kernel
theorem dX12_of_101 : decode cX12_of 101 = .ok (.aload_n 0, 1) := by decide +kernel
theorem dX12_of_102 : decode cX12_of 102 = .ok (.iload_n 1, 1) := by decide +kernel
theorem dX12_of_103 : decode cX12_of 103 = .ok (.invokevirtual 119, 3) := by decide +kernel
theorem dX12_of_106 : decode cX12_of 106 = .ok (.ireturn, 1) := by decide +kernel
theorem dX12_of_107 : decode cX12_of 107 = .ok (.iconst (-1), 1) := by decide +kernel
theorem dX12_of_108 : decode cX12_of 108 = .ok (.ireturn, 1) := by decide +kernel
theorem dX12_joy_0 : decode cX12_joy 0 = .ok (.aload_n 0, 1) := by decide +kernel
theorem dX12_joy_1 : decode cX12_joy 1 = .ok (.iload_n 1, 1) := by decide +kernel
theorem dX12_joy_2 : decode cX12_joy 2 = .ok (.invokevirtual 112, 3) := by decide +kernel
theorem dX12_joy_5 : decode cX12_joy 5 = .ok (.ifCond .ne 7, 3) := by decide +kernel
theorem dX12_joy_8 : decode cX12_joy 8 = .ok (.sipush (-10001), 3) := by decide +kernel
theorem dX12_joy_11 : decode cX12_joy 11 = .ok (.ireturn, 1) := by decide +kernel
theorem dX12_joy_12 : decode cX12_joy 12 = .ok (.iload_n 2, 1) := by decide +kernel
theorem dX12_joy_13 : decode cX12_joy 13 = .ok (.invokestatic 123, 3) := by decide +kernel
theorem dX12_joy_16 : decode cX12_joy 16 = .ok (.ifCond .eq 12, 3) := by decide +kernel
theorem dX12_joy_19 : decode cX12_joy 19 = .ok (.aload_n 0, 1) := by decide +kernel
theorem dX12_joy_20 : decode cX12_joy 20 = .ok (.iload_n 1, 1) := by decide +kernel
theorem dX12_joy_21 : decode cX12_joy 21 = .ok (.iload_n 2, 1) := by decide +kernel
theorem dX12_joy_22 : decode cX12_joy 22 = .ok (.invokevirtual 126, 3) := by decide +kernel
theorem dX12_joy_25 : decode cX12_joy 25 = .ok (.goto 6, 3) := by decide +kernel
theorem dX12_joy_28 : decode cX12_joy 28 = .ok (.sipush (-10002), 3) := by decide +kernel
theorem dX12_joy_31 : decode cX12_joy 31 = .ok (.ireturn, 1) := by decide +kernel
theorem dX12_letter_0 : decode cX12_letter 0 = .ok (.aload_n 0, 1) := by decide +kernel
theorem dX12_letter_1 : decode cX12_letter 1 = .ok (.iload_n 1, 1) := by decide +kernel
theorem dX12_letter_2 : decode cX12_letter 2 = .ok (.invokevirtual 112, 3) := by decide +kernel
theorem dX12_letter_5 : decode cX12_letter 5 = .ok (.ifCond .ne 5, 3) := by decide +kernel
theorem dX12_letter_8 : decode cX12_letter 8 = .ok (.iconst (-1), 1) := by decide +kernel
theorem dX12_letter_9 : decode cX12_letter 9 = .ok (.ireturn, 1) := by decide +kernel
theorem dX12_letter_10 : decode cX12_letter 10 = .ok (.iload_n 2, 1) := by decide +kernel
theorem dX12_letter_11 : decode cX12_letter 11 = .ok (.invokestatic 123, 3) := by decide +kernel
theorem dX12_letter_14 : decode cX12_letter 14 = .ok (.ifCond .ne 6, 3) := by decide +kernel
theorem dX12_letter_17 : decode cX12_letter 17 = .ok (.bipush (-2), 2) := by decide +kernel
theorem dX12_letter_19 : decode cX12_letter 19 = .ok (.ireturn, 1) := by decide +kernel
theorem dX12_letter_20 : decode cX12_letter 20 = .ok (.aload_n 0, 1) := by decide +kernel
theorem dX12_letter_21 : decode cX12_letter 21 = .ok (.getfield 24, 3) := by decide +kernel
theorem dX12_letter_24 : decode cX12_letter 24 = .ok (.iload_n 1, 1) := by decide +kernel
theorem dX12_letter_25 : decode cX12_letter 25 = .ok (.iaload, 1) := by decide +kernel
theorem dX12_letter_26 : decode cX12_letter 26 = .ok (.istore_n 3, 1) := by decide +kernel
theorem dX12_letter_27 : decode cX12_letter 27 = .ok (.aload_n 0, 1) := by decide +kernel
theorem dX12_letter_28 : decode cX12_letter 28 = .ok (.getfield 24, 3) := by decide +kernel
theorem dX12_letter_31 : decode cX12_letter 31 = .ok (.iload_n 1, 1) := by decide +kernel
theorem dX12_letter_32 : decode cX12_letter 32 = .ok (.iload_n 2, 1) := by decide +kernel
theorem dX12_letter_33 : decode cX12_letter 33 = .ok (.iastore, 1) := by decide +kernel
theorem dX12_letter_34 : decode cX12_letter 34 = .ok (.iload_n 3, 1) := by decide +kernel
theorem dX12_letter_35 : decode cX12_letter 35 = .ok (.ireturn, 1) := by decide +kernel
theorem dX12_tire_0 : decode cX12_tire 0 = .ok (.aload_n 0, 1) := by decide +kernel
theorem dX12_tire_1 : decode cX12_tire 1 = .ok (.iload_n 1, 1) := by decide +kernel
theorem dX12_tire_2 : decode cX12_tire 2 = .ok (.invokevirtual 112, 3) := by decide +kernel
theorem dX12_tire_5 : decode cX12_tire 5 = .ok (.ifCond .ne 5, 3) := by decide +kernel
theorem dX12_tire_8 : decode cX12_tire 8 = .ok (.iconst (-1), 1) := by decide +kernel
theorem dX12_tire_9 : decode cX12_tire 9 = .ok (.ireturn, 1) := by decide +kernel
theorem dX12_tire_10 : decode cX12_tire 10 = .ok (.iload_n 2, 1) := by decide +kernel
theorem dX12_tire_11 : decode cX12_tire 11 = .ok (.iconst 0, 1) := by decide +kernel
theorem dX12_tire_12 : decode cX12_tire 12 = .ok (.bipush 9, 2) := by decide +kernel
theorem dX12_tire_14 : decode cX12_tire 14 = .ok (.invokestatic 108, 3) := by decide +kernel
theorem dX12_tire_17 : decode cX12_tire 17 = .ok (.ifCond .ne 6, 3) := by decide +kernel
theorem dX12_tire_20 : decode cX12_tire 20 = .ok (.bipush (-2), 2) := by decide +kernel
theorem dX12_tire_22 : decode cX12_tire 22 = .ok (.ireturn, 1) := by decide +kernel
theorem dX12_tire_23 : decode cX12_tire 23 = .ok (.aload_n 0, 1) := by decide +kernel
theorem dX12_tire_24 : decode cX12_tire 24 = .ok (.getfield 27, 3) := by decide +kernel
theorem dX12_tire_27 : decode cX12_tire 27 = .ok (.iload_n 1, 1) := by decide +kernel
theorem dX12_tire_28 : decode cX12_tire 28 = .ok (.iaload, 1) := by decide +kernel
theorem dX12_tire_29 : decode cX12_tire 29 = .ok (.istore_n 3, 1) := by decide +kernel
theorem dX12_tire_30 : decode cX12_tire 30 = .ok (.aload_n 0, 1) := by decide +kernel
theorem dX12_tire_31 : decode cX12_tire 31 = .ok (.getfield 27, 3) := by decide +kernel
theorem dX12_tire_34 : decode cX12_tire 34 = .ok (.iload_n 1, 1) := by decide +kernel
theorem dX12_tire_35 : decode cX12_tire 35 = .ok (.iload_n 2, 1) := by decide +kernel
theorem dX12_tire_36 : decode cX12_tire 36 = .ok (.iastore, 1) := by decide +kernel
theorem dX12_tire_37 : decode cX12_tire 37 = .ok (.iload_n 3, 1) := by decide +kernel
theorem dX12_tire_38 : decode cX12_tire 38 = .ok (.ireturn, 1) := by decide +kernel
theorem dX12_phrase_0 : decode cX12_phrase 0 = .ok (.iload_n 1, 1) := by decide +kernel
theorem dX12_phrase_1 : decode cX12_phrase 1 = .ok (.invokestatic 130, 3) := by decide +kernel
theorem dX12_phrase_4 : decode cX12_phrase 4 = .ok (.ifCond .eq 12, 3) := by decide +kernel
theorem dX12_phrase_7 : decode cX12_phrase 7 = .ok (.iload_n 2, 1) := by decide +kernel
theorem dX12_phrase_8 : decode cX12_phrase 8 = .ok (.iconst 0, 1) := by decide +kernel
theorem dX12_phrase_9 : decode cX12_phrase 9 = .ok (.iconst 1, 1) := by decide +kernel
theorem dX12_phrase_10 : decode cX12_phrase 10 = .ok (.invokestatic 108, 3) := by decide +kernel
theorem dX12_phrase_13 : decode cX12_phrase 13 = .ok (.ifCond .ne 5, 3) := by decide +kernel
theorem dX12_phrase_16 : decode cX12_phrase 16 = .ok (.iconst (-1), 1) := by decide +kernel
theorem dX12_phrase_17 : decode cX12_phrase 17 = .ok (.ireturn, 1) := by decide +kernel
theorem dX12_phrase_18 : decode cX12_phrase 18 = .ok (.iload_n 3, 1) := by decide +kernel
theorem dX12_phrase_19 : decode cX12_phrase 19 = .ok (.iconst 0, 1) := by decide +kernel
theorem dX12_phrase_20 : decode cX12_phrase 20 = .ok (.iload_n 2, 1) := by decide +kernel
theorem dX12_phrase_21 : decode cX12_phrase 21 = .ok (.ifCond .ne 8, 3) := by decide +kernel
theorem dX12_phrase_24 : decode cX12_phrase 24 = .ok (.bipush 9, 2) := by decide +kernel
theorem dX12_phrase_26 : decode cX12_phrase 26 = .ok (.goto 6, 3) := by decide +kernel
theorem dX12_phrase_29 : decode cX12_phrase 29 = .ok (.sipush 255, 3) := by decide +kernel
theorem dX12_phrase_32 : decode cX12_phrase 32 = .ok (.invokestatic 108, 3) := by decide +kernel
theorem dX12_phrase_35 : decode cX12_phrase 35 = .ok (.ifCond .ne 6, 3) := by decide +kernel
theorem dX12_phrase_38 : decode cX12_phrase 38 = .ok (.bipush (-2), 2) := by decide +kernel
theorem dX12_phrase_40 : decode cX12_phrase 40 = .ok (.ireturn, 1) := by decide +kernel
theorem dX12_phrase_41 : decode cX12_phrase 41 = .ok (.iload_n 2, 1) := by decide +kernel
theorem dX12_phrase_42 : decode cX12_phrase 42 = .ok (.ifCond .ne 12, 3) := by decide +kernel
theorem dX12_phrase_45 : decode cX12_phrase 45 = .ok (.aload_n 0, 1) := by decide +kernel
theorem dX12_phrase_46 : decode cX12_phrase 46 = .ok (.getfield 9, 3) := by decide +kernel
theorem dX12_phrase_49 : decode cX12_phrase 49 = .ok (.iload_n 1, 1) := by decide +kernel
theorem dX12_phrase_50 : decode cX12_phrase 50 = .ok (.iaload, 1) := by decide +kernel
theorem dX12_phrase_51 : decode cX12_phrase 51 = .ok (.goto 9, 3) := by decide +kernel
theorem dX12_phrase_54 : decode cX12_phrase 54 = .ok (.aload_n 0, 1) := by decide +kernel
theorem dX12_phrase_55 : decode cX12_phrase 55 = .ok (.getfield 15, 3) := by decide +kernel
theorem dX12_phrase_58 : decode cX12_phrase 58 = .ok (.iload_n 1, 1) := by decide +kernel
theorem dX12_phrase_59 : decode cX12_phrase 59 = .ok (.iaload, 1) := by decide +kernel
theorem dX12_phrase_60 : decode cX12_phrase 60 = .ok (.istore 4, 2) := by decide +kernel
theorem dX12_phrase_62 : decode cX12_phrase 62 = .ok (.iload_n 2, 1) := by decide +kernel
theorem dX12_phrase_63 : decode cX12_phrase 63 = .ok (.ifCond .ne 13, 3) := by decide +kernel
theorem dX12_phrase_66 : decode cX12_phrase 66 = .ok (.aload_n 0, 1) := by decide +kernel
theorem dX12_phrase_67 : decode cX12_phrase 67 = .ok (.getfield 9, 3) := by decide +kernel
theorem dX12_phrase_70 : decode cX12_phrase 70 = .ok (.iload_n 1, 1) := by decide +kernel
theorem dX12_phrase_71 : decode cX12_phrase 71 = .ok (.iload_n 3, 1) := by decide +kernel
theorem dX12_phrase_72 : decode cX12_phrase 72 = .ok (.iastore, 1) := by decide +kernel
theorem dX12_phrase_73 : decode cX12_phrase 73 = .ok (.goto 10, 3) := by decide +kernel
theorem dX12_phrase_76 : decode cX12_phrase 76 = .ok (.aload_n 0, 1) := by decide +kernel
theorem dX12_phrase_77 : decode cX12_phrase 77 = .ok (.getfield 15, 3) := by decide +kernel
theorem dX12_phrase_80 : decode cX12_phrase 80 = .ok (.iload_n 1, 1) := by decide +kernel
theorem dX12_phrase_81 : decode cX12_phrase 81 = .ok (.iload_n 3, 1) := by decide +kernel
theorem dX12_phrase_82 : decode cX12_phrase 82 = .ok (.iastore, 1) := by decide +kernel
theorem dX12_phrase_83 : decode cX12_phrase 83 = .ok (.iload 4, 2) := by decide +kernel
theorem dX12_phrase_85 : decode cX12_phrase 85 = .ok (.ireturn, 1) := by decide +kernel
theorem dX12_row_0 : decode cX12_row 0 = .ok (.aload_n 0, 1) := by decide +kernel
theorem dX12_row_1 : decode cX12_row 1 = .ok (.iload_n 1, 1) := by decide +kernel
theorem dX12_row_2 : decode cX12_row 2 = .ok (.invokevirtual 112, 3) := by decide +kernel
theorem dX12_row_5 : decode cX12_row 5 = .ok (.ifCond .eq 12, 3) := by decide +kernel
theorem dX12_row_8 : decode cX12_row 8 = .ok (.iload_n 2, 1) := by decide +kernel
theorem dX12_row_9 : decode cX12_row 9 = .ok (.iconst 0, 1) := by decide +kernel
theorem dX12_row_10 : decode cX12_row 10 = .ok (.iconst 3, 1) := by decide +kernel
theorem dX12_row_11 : decode cX12_row 11 = .ok (.invokestatic 108, 3) := by decide +kernel
theorem dX12_row_14 : decode cX12_row 14 = .ok (.ifCond .ne 5, 3) := by decide +kernel
theorem dX12_row_17 : decode cX12_row 17 = .ok (.iconst (-1), 1) := by decide +kernel
theorem dX12_row_18 : decode cX12_row 18 = .ok (.ireturn, 1) := by decide +kernel
theorem dX12_row_19 : decode cX12_row 19 = .ok (.iload_n 3, 1) := by decide +kernel
theorem dX12_row_20 : decode cX12_row 20 = .ok (.iconst 0, 1) := by decide +kernel
theorem dX12_row_21 : decode cX12_row 21 = .ok (.bipush 9, 2) := by decide +kernel
theorem dX12_row_23 : decode cX12_row 23 = .ok (.invokestatic 108, 3) := by decide +kernel
theorem dX12_row_26 : decode cX12_row 26 = .ok (.ifCond .ne 6, 3) := by decide +kernel
theorem dX12_row_29 : decode cX12_row 29 = .ok (.bipush (-2), 2) := by decide +kernel
theorem dX12_row_31 : decode cX12_row 31 = .ok (.ireturn, 1) := by decide +kernel
theorem dX12_row_32 : decode cX12_row 32 = .ok (.aload_n 0, 1) := by decide +kernel
theorem dX12_row_33 : decode cX12_row 33 = .ok (.getfield 18, 3) := by decide +kernel
theorem dX12_row_36 : decode cX12_row 36 = .ok (.iload_n 1, 1) := by decide +kernel
theorem dX12_row_37 : decode cX12_row 37 = .ok (.iaload, 1) := by decide +kernel
theorem dX12_row_38 : decode cX12_row 38 = .ok (.bipush 6, 2) := by decide +kernel
theorem dX12_row_40 : decode cX12_row 40 = .ok (.if_icmp .eq 6, 3) := by decide +kernel
theorem dX12_row_43 : decode cX12_row 43 = .ok (.bipush (-3), 2) := by decide +kernel
theorem dX12_row_45 : decode cX12_row 45 = .ok (.ireturn, 1) := by decide +kernel
theorem dX12_row_46 : decode cX12_row 46 = .ok (.aload_n 0, 1) := by decide +kernel
theorem dX12_row_47 : decode cX12_row 47 = .ok (.getfield 33, 3) := by decide +kernel
theorem dX12_row_50 : decode cX12_row 50 = .ok (.iconst 4, 1) := by decide +kernel
theorem dX12_row_51 : decode cX12_row 51 = .ok (.iload_n 1, 1) := by decide +kernel
theorem dX12_row_52 : decode cX12_row 52 = .ok (.imul, 1) := by decide +kernel
theorem dX12_row_53 : decode cX12_row 53 = .ok (.iload_n 2, 1) := by decide +kernel
theorem dX12_row_54 : decode cX12_row 54 = .ok (.iadd, 1) := by decide +kernel
theorem dX12_row_55 : decode cX12_row 55 = .ok (.iaload, 1) := by decide +kernel
theorem dX12_row_56 : decode cX12_row 56 = .ok (.istore 4, 2) := by decide +kernel
theorem dX12_row_58 : decode cX12_row 58 = .ok (.aload_n 0, 1) := by decide +kernel
theorem dX12_row_59 : decode cX12_row 59 = .ok (.getfield 33, 3) := by decide +kernel
theorem dX12_row_62 : decode cX12_row 62 = .ok (.iconst 4, 1) := by decide +kernel
theorem dX12_row_63 : decode cX12_row 63 = .ok (.iload_n 1, 1) := by decide +kernel
theorem dX12_row_64 : decode cX12_row 64 = .ok (.imul, 1) := by decide +kernel
theorem dX12_row_65 : decode cX12_row 65 = .ok (.iload_n 2, 1) := by decide +kernel
theorem dX12_row_66 : decode cX12_row 66 = .ok (.iadd, 1) := by decide +kernel
theorem dX12_row_67 : decode cX12_row 67 = .ok (.iload_n 3, 1) := by decide +kernel
theorem dX12_row_68 : decode cX12_row 68 = .ok (.iastore, 1) := by decide +kernel
theorem dX12_row_69 : decode cX12_row 69 = .ok (.iload 4, 2) := by decide +kernel
theorem dX12_row_71 : decode cX12_row 71 = .ok (.ireturn, 1) := by decide +kernel
theorem dX12_feed_0 : decode cX12_feed 0 = .ok (.iload_n 1, 1) := by decide +kernel
theorem dX12_feed_1 : decode cX12_feed 1 = .ok (.iconst 0, 1) := by decide +kernel
theorem dX12_feed_2 : decode cX12_feed 2 = .ok (.bipush 127, 2) := by decide +kernel
theorem dX12_feed_4 : decode cX12_feed 4 = .ok (.invokestatic 108, 3) := by decide +kernel
theorem dX12_feed_7 : decode cX12_feed 7 = .ok (.ifCond .ne 6, 3) := by decide +kernel
theorem dX12_feed_10 : decode cX12_feed 10 = .ok (.bipush (-2), 2) := by decide +kernel
theorem dX12_feed_12 : decode cX12_feed 12 = .ok (.ireturn, 1) := by decide +kernel
theorem dX12_feed_13 : decode cX12_feed 13 = .ok (.aload_n 0, 1) := by decide +kernel
theorem dX12_feed_14 : decode cX12_feed 14 = .ok (.getfield 133, 3) := by decide +kernel
theorem dX12_feed_17 : decode cX12_feed 17 = .ok (.bipush 100, 2) := by decide +kernel
theorem dX12_feed_19 : decode cX12_feed 19 = .ok (.if_icmp .ne 6, 3) := by decide +kernel
theorem dX12_feed_22 : decode cX12_feed 22 = .ok (.bipush (-4), 2) := by decide +kernel
theorem dX12_feed_24 : decode cX12_feed 24 = .ok (.ireturn, 1) := by decide +kernel
theorem dX12_feed_25 : decode cX12_feed 25 = .ok (.aload_n 0, 1) := by decide +kernel
theorem dX12_feed_26 : decode cX12_feed 26 = .ok (.getfield 36, 3) := by decide +kernel
theorem dX12_feed_29 : decode cX12_feed 29 = .ok (.aload_n 0, 1) := by decide +kernel
theorem dX12_feed_30 : decode cX12_feed 30 = .ok (.dup, 1) := by decide +kernel
theorem dX12_feed_31 : decode cX12_feed 31 = .ok (.getfield 133, 3) := by decide +kernel
theorem dX12_feed_34 : decode cX12_feed 34 = .ok (.dup_x1, 1) := by decide +kernel
theorem dX12_feed_35 : decode cX12_feed 35 = .ok (.iconst 1, 1) := by decide +kernel
theorem dX12_feed_36 : decode cX12_feed 36 = .ok (.iadd, 1) := by decide +kernel
theorem dX12_feed_37 : decode cX12_feed 37 = .ok (.putfield 133, 3) := by decide +kernel
theorem dX12_feed_40 : decode cX12_feed 40 = .ok (.iload_n 1, 1) := by decide +kernel
theorem dX12_feed_41 : decode cX12_feed 41 = .ok (.iastore, 1) := by decide +kernel
theorem dX12_feed_42 : decode cX12_feed 42 = .ok (.aload_n 0, 1) := by decide +kernel
theorem dX12_feed_43 : decode cX12_feed 43 = .ok (.getfield 133, 3) := by decide +kernel
theorem dX12_feed_46 : decode cX12_feed 46 = .ok (.ireturn, 1) := by decide +kernel
theorem dX12_is_0 : decode cX12_is 0 = .ok (.aload_n 0, 1) := by decide +kernel
theorem dX12_is_1 : decode cX12_is 1 = .ok (.getfield 136, 3) := by decide +kernel
theorem dX12_is_4 : decode cX12_is 4 = .ok (.aload_n 0, 1) := by decide +kernel
theorem dX12_is_5 : decode cX12_is 5 = .ok (.getfield 133, 3) := by decide +kernel
theorem dX12_is_8 : decode cX12_is 8 = .ok (.if_icmp .eq 16, 3) := by decide +kernel
theorem dX12_is_11 : decode cX12_is 11 = .ok (.aload_n 0, 1) := by decide +kernel
theorem dX12_is_12 : decode cX12_is 12 = .ok (.getfield 36, 3) := by decide +kernel
theorem dX12_is_15 : decode cX12_is 15 = .ok (.aload_n 0, 1) := by decide +kernel
theorem dX12_is_16 : decode cX12_is 16 = .ok (.getfield 136, 3) := by decide +kernel
theorem dX12_is_19 : decode cX12_is 19 = .ok (.iaload, 1) := by decide +kernel
theorem dX12_is_20 : decode cX12_is 20 = .ok (.iload_n 1, 1) := by decide +kernel
theorem dX12_is_21 : decode cX12_is 21 = .ok (.if_icmp .eq 5, 3) := by decide +kernel
theorem dX12_is_24 : decode cX12_is 24 = .ok (.iconst 0, 1) := by decide +kernel
theorem dX12_is_25 : decode cX12_is 25 = .ok (.ireturn, 1) := by decide +kernel
theorem dX12_is_26 : decode cX12_is 26 = .ok (.aload_n 0, 1) := by decide +kernel
theorem dX12_is_27 : decode cX12_is 27 = .ok (.dup, 1) := by decide +kernel
theorem dX12_is_28 : decode cX12_is 28 = .ok (.getfield 136, 3) := by decide +kernel
theorem dX12_is_31 : decode cX12_is 31 = .ok (.iconst 1, 1) := by decide +kernel
theorem dX12_is_32 : decode cX12_is 32 = .ok (.iadd, 1) := by decide +kernel
theorem dX12_is_33 : decode cX12_is 33 = .ok (.putfield 136, 3) := by decide +kernel
theorem dX12_is_36 : decode cX12_is 36 = .ok (.iconst 1, 1) := by decide +kernel
theorem dX12_is_37 : decode cX12_is 37 = .ok (.ireturn, 1) := by decide +kernel
theorem dX12_isDigit_0 : decode cX12_isDigit 0 = .ok (.aload_n 0, 1) := by decide +kernel
theorem dX12_isDigit_1 : decode cX12_isDigit 1 = .ok (.getfield 136, 3) := by decide +kernel
theorem dX12_isDigit_4 : decode cX12_isDigit 4 = .ok (.aload_n 0, 1) := by decide +kernel
theorem dX12_isDigit_5 : decode cX12_isDigit 5 = .ok (.getfield 133, 3) := by decide +kernel
theorem dX12_isDigit_8 : decode cX12_isDigit 8 = .ok (.if_icmp .ge 35, 3) := by decide +kernel
theorem dX12_isDigit_11 : decode cX12_isDigit 11 = .ok (.aload_n 0, 1) := by decide +kernel
theorem dX12_isDigit_12 : decode cX12_isDigit 12 = .ok (.getfield 36, 3) := by decide +kernel
theorem dX12_isDigit_15 : decode cX12_isDigit 15 = .ok (.aload_n 0, 1) := by decide +kernel
theorem dX12_isDigit_16 : decode cX12_isDigit 16 = .ok (.getfield 136, 3) := by decide +kernel
theorem dX12_isDigit_19 : decode cX12_isDigit 19 = .ok (.iaload, 1) := by decide +kernel
theorem dX12_isDigit_20 : decode cX12_isDigit 20 = .ok (.bipush 48, 2) := by decide +kernel
theorem dX12_isDigit_22 : decode cX12_isDigit 22 = .ok (.if_icmp .lt 21, 3) := by decide +kernel
theorem dX12_isDigit_25 : decode cX12_isDigit 25 = .ok (.aload_n 0, 1) := by decide +kernel
theorem dX12_isDigit_26 : decode cX12_isDigit 26 = .ok (.getfield 36, 3) := by decide +kernel
theorem dX12_isDigit_29 : decode cX12_isDigit 29 = .ok (.aload_n 0, 1) := by decide +kernel
theorem dX12_isDigit_30 : decode cX12_isDigit 30 = .ok (.getfield 136, 3) := by decide +kernel
theorem dX12_isDigit_33 : decode cX12_isDigit 33 = .ok (.iaload, 1) := by decide +kernel
theorem dX12_isDigit_34 : decode cX12_isDigit 34 = .ok (.bipush 57, 2) := by decide +kernel
theorem dX12_isDigit_36 : decode cX12_isDigit 36 = .ok (.if_icmp .gt 7, 3) := by decide +kernel
theorem dX12_isDigit_39 : decode cX12_isDigit 39 = .ok (.iconst 1, 1) := by decide +kernel
theorem dX12_isDigit_40 : decode cX12_isDigit 40 = .ok (.goto 4, 3) := by decide +kernel
theorem dX12_isDigit_43 : decode cX12_isDigit 43 = .ok (.iconst 0, 1) := by decide +kernel
theorem dX12_isDigit_44 : decode cX12_isDigit 44 = .ok (.ireturn, 1) := by decide +kernel
theorem dX12_isNumber_0 : decode cX12_isNumber 0 = .ok (.aload_n 0, 1) := by decide +kernel
theorem dX12_isNumber_1 : decode cX12_isNumber 1 = .ok (.iconst 0, 1) := by decide +kernel
theorem dX12_isNumber_2 : decode cX12_isNumber 2 = .ok (.putfield 139, 3) := by decide +kernel
theorem dX12_isNumber_5 : decode cX12_isNumber 5 = .ok (.aload_n 0, 1) := by decide +kernel
theorem dX12_isNumber_6 : decode cX12_isNumber 6 = .ok (.iconst 0, 1) := by decide +kernel
theorem dX12_isNumber_7 : decode cX12_isNumber 7 = .ok (.putfield 142, 3) := by decide +kernel
theorem dX12_isNumber_10 : decode cX12_isNumber 10 = .ok (.aload_n 0, 1) := by decide +kernel
theorem dX12_isNumber_11 : decode cX12_isNumber 11 = .ok (.getfield 142, 3) := by decide +kernel
theorem dX12_isNumber_14 : decode cX12_isNumber 14 = .ok (.iconst 2, 1) := by decide +kernel
theorem dX12_isNumber_15 : decode cX12_isNumber 15 = .ok (.if_icmp .ge 57, 3) := by decide +kernel
theorem dX12_isNumber_18 : decode cX12_isNumber 18 = .ok (.aload_n 0, 1) := by decide +kernel
theorem dX12_isNumber_19 : decode cX12_isNumber 19 = .ok (.invokevirtual 145, 3) := by decide +kernel
theorem dX12_isNumber_22 : decode cX12_isNumber 22 = .ok (.ifCond .eq 50, 3) := by decide +kernel
theorem dX12_isNumber_25 : decode cX12_isNumber 25 = .ok (.aload_n 0, 1) := by decide +kernel
theorem dX12_isNumber_26 : decode cX12_isNumber 26 = .ok (.bipush 10, 2) := by decide +kernel
theorem dX12_isNumber_28 : decode cX12_isNumber 28 = .ok (.aload_n 0, 1) := by decide +kernel
theorem dX12_isNumber_29 : decode cX12_isNumber 29 = .ok (.getfield 139, 3) := by decide +kernel
theorem dX12_isNumber_32 : decode cX12_isNumber 32 = .ok (.imul, 1) := by decide +kernel
theorem dX12_isNumber_33 : decode cX12_isNumber 33 = .ok (.aload_n 0, 1) := by decide +kernel
theorem dX12_isNumber_34 : decode cX12_isNumber 34 = .ok (.getfield 36, 3) := by decide +kernel
theorem dX12_isNumber_37 : decode cX12_isNumber 37 = .ok (.aload_n 0, 1) := by decide +kernel
theorem dX12_isNumber_38 : decode cX12_isNumber 38 = .ok (.getfield 136, 3) := by decide +kernel
theorem dX12_isNumber_41 : decode cX12_isNumber 41 = .ok (.iaload, 1) := by decide +kernel
theorem dX12_isNumber_42 : decode cX12_isNumber 42 = .ok (.iadd, 1) := by decide +kernel
theorem dX12_isNumber_43 : decode cX12_isNumber 43 = .ok (.bipush 48, 2) := by decide +kernel
theorem dX12_isNumber_45 : decode cX12_isNumber 45 = .ok (.isub, 1) := by decide +kernel
theorem dX12_isNumber_46 : decode cX12_isNumber 46 = .ok (.putfield 139, 3) := by decide +kernel
theorem dX12_isNumber_49 : decode cX12_isNumber 49 = .ok (.aload_n 0, 1) := by decide +kernel
theorem dX12_isNumber_50 : decode cX12_isNumber 50 = .ok (.dup, 1) := by decide +kernel
theorem dX12_isNumber_51 : decode cX12_isNumber 51 = .ok (.getfield 136, 3) := by decide +kernel
theorem dX12_isNumber_54 : decode cX12_isNumber 54 = .ok (.iconst 1, 1) := by decide +kernel
theorem dX12_isNumber_55 : decode cX12_isNumber 55 = .ok (.iadd, 1) := by decide +kernel
theorem dX12_isNumber_56 : decode cX12_isNumber 56 = .ok (.putfield 136, 3) := by decide +kernel
theorem dX12_isNumber_59 : decode cX12_isNumber 59 = .ok (.aload_n 0, 1) := by decide +kernel
theorem dX12_isNumber_60 : decode cX12_isNumber 60 = .ok (.dup, 1) := by decide +kernel
theorem dX12_isNumber_61 : decode cX12_isNumber 61 = .ok (.getfield 142, 3) := by decide +kernel
theorem dX12_isNumber_64 : decode cX12_isNumber 64 = .ok (.iconst 1, 1) := by decide +kernel
theorem dX12_isNumber_65 : decode cX12_isNumber 65 = .ok (.iadd, 1) := by decide +kernel
theorem dX12_isNumber_66 : decode cX12_isNumber 66 = .ok (.putfield 142, 3) := by decide +kernel
theorem dX12_isNumber_69 : decode cX12_isNumber 69 = .ok (.goto (-59), 3) := by decide +kernel
theorem dX12_isNumber_72 : decode cX12_isNumber 72 = .ok (.aload_n 0, 1) := by decide +kernel
theorem dX12_isNumber_73 : decode cX12_isNumber 73 = .ok (.getfield 142, 3) := by decide +kernel
theorem dX12_isNumber_76 : decode cX12_isNumber 76 = .ok (.ifCond .le 7, 3) := by decide +kernel
theorem dX12_isNumber_79 : decode cX12_isNumber 79 = .ok (.iconst 1, 1) := by decide +kernel
theorem dX12_isNumber_80 : decode cX12_isNumber 80 = .ok (.goto 4, 3) := by decide +kernel
theorem dX12_isNumber_83 : decode cX12_isNumber 83 = .ok (.iconst 0, 1) := by decide +kernel
theorem dX12_isNumber_84 : decode cX12_isNumber 84 = .ok (.ireturn, 1) := by decide +kernel
theorem dX12_isAll_0 : decode cX12_isAll 0 = .ok (.iconst 0, 1) := by decide +kernel
theorem dX12_isAll_1 : decode cX12_isAll 1 = .ok (.istore_n 2, 1) := by decide +kernel
theorem dX12_isAll_2 : decode cX12_isAll 2 = .ok (.iload_n 2, 1) := by decide +kernel
theorem dX12_isAll_3 : decode cX12_isAll 3 = .ok (.aload_n 1, 1) := by decide +kernel
theorem dX12_isAll_4 : decode cX12_isAll 4 = .ok (.invokevirtual 149, 3) := by decide +kernel
theorem dX12_isAll_7 : decode cX12_isAll 7 = .ok (.if_icmp .ge 23, 3) := by decide +kernel
theorem dX12_isAll_10 : decode cX12_isAll 10 = .ok (.aload_n 0, 1) := by decide +kernel
theorem dX12_isAll_11 : decode cX12_isAll 11 = .ok (.aload_n 1, 1) := by decide +kernel
theorem dX12_isAll_12 : decode cX12_isAll 12 = .ok (.iload_n 2, 1) := by decide +kernel
theorem dX12_isAll_13 : decode cX12_isAll 13 = .ok (.invokevirtual 154, 3) := by decide +kernel
theorem dX12_isAll_16 : decode cX12_isAll 16 = .ok (.invokevirtual 158, 3) := by decide +kernel
theorem dX12_isAll_19 : decode cX12_isAll 19 = .ok (.ifCond .ne 5, 3) := by decide +kernel
theorem dX12_isAll_22 : decode cX12_isAll 22 = .ok (.iconst 0, 1) := by decide +kernel
theorem dX12_isAll_23 : decode cX12_isAll 23 = .ok (.ireturn, 1) := by decide +kernel
theorem dX12_isAll_24 : decode cX12_isAll 24 = .ok (.iinc 2 1, 3) := by decide +kernel
theorem dX12_isAll_27 : decode cX12_isAll 27 = .ok (.goto (-25), 3) := by decide +kernel
theorem dX12_isAll_30 : decode cX12_isAll 30 = .ok (.iconst 1, 1) := by decide +kernel
theorem dX12_isAll_31 : decode cX12_isAll 31 = .ok (.ireturn, 1) := by decide +kernel
theorem dX12_codes_0 : decode cX12_codes 0 = .ok (.aload_n 0, 1) := by decide +kernel
theorem dX12_codes_1 : decode cX12_codes 1 = .ok (.getfield 54, 3) := by decide +kernel
theorem dX12_codes_4 : decode cX12_codes 4 = .ok (.aload_n 0, 1) := by decide +kernel
theorem dX12_codes_5 : decode cX12_codes 5 = .ok (.dup, 1) := by decide +kernel
theorem dX12_codes_6 : decode cX12_codes 6 = .ok (.getfield 161, 3) := by decide +kernel
theorem dX12_codes_9 : decode cX12_codes 9 = .ok (.dup_x1, 1) := by decide +kernel
theorem dX12_codes_10 : decode cX12_codes 10 = .ok (.iconst 1, 1) := by decide +kernel
theorem dX12_codes_11 : decode cX12_codes 11 = .ok (.iadd, 1) := by decide +kernel
theorem dX12_codes_12 : decode cX12_codes 12 = .ok (.putfield 161, 3) := by decide +kernel
theorem dX12_codes_15 : decode cX12_codes 15 = .ok (.iload_n 1, 1) := by decide +kernel
theorem dX12_codes_16 : decode cX12_codes 16 = .ok (.iastore, 1) := by decide +kernel
theorem dX12_codes_17 : decode cX12_codes 17 = .ok (.iconst 1, 1) := by decide +kernel
theorem dX12_codes_18 : decode cX12_codes 18 = .ok (.ireturn, 1) := by decide +kernel
theorem dX12_isTest_0 : decode cX12_isTest 0 = .ok (.aload_n 0, 1) := by decide +kernel
theorem dX12_isTest_1 : decode cX12_isTest 1 = .ok (.getfield 136, 3) := by decide +kernel
theorem dX12_isTest_4 : decode cX12_isTest 4 = .ok (.aload_n 0, 1) := by decide +kernel
theorem dX12_isTest_5 : decode cX12_isTest 5 = .ok (.getfield 133, 3) := by decide +kernel
theorem dX12_isTest_8 : decode cX12_isTest 8 = .ok (.if_icmp .ge 32, 3) := by decide +kernel
theorem dX12_isTest_11 : decode cX12_isTest 11 = .ok (.aload_n 0, 1) := by decide +kernel
theorem dX12_isTest_12 : decode cX12_isTest 12 = .ok (.getfield 36, 3) := by decide +kernel
theorem dX12_isTest_15 : decode cX12_isTest 15 = .ok (.aload_n 0, 1) := by decide +kernel
theorem dX12_isTest_16 : decode cX12_isTest 16 = .ok (.getfield 136, 3) := by decide +kernel
theorem dX12_isTest_19 : decode cX12_isTest 19 = .ok (.iaload, 1) := by decide +kernel
theorem dX12_isTest_20 : decode cX12_isTest 20 = .ok (.ifCond .le 20, 3) := by decide +kernel
theorem dX12_isTest_23 : decode cX12_isTest 23 = .ok (.ldc 164, 2) := by decide +kernel
theorem dX12_isTest_25 : decode cX12_isTest 25 = .ok (.aload_n 0, 1) := by decide +kernel
theorem dX12_isTest_26 : decode cX12_isTest 26 = .ok (.getfield 36, 3) := by decide +kernel
theorem dX12_isTest_29 : decode cX12_isTest 29 = .ok (.aload_n 0, 1) := by decide +kernel
theorem dX12_isTest_30 : decode cX12_isTest 30 = .ok (.getfield 136, 3) := by decide +kernel
theorem dX12_isTest_33 : decode cX12_isTest 33 = .ok (.iaload, 1) := by decide +kernel
theorem dX12_isTest_34 : decode cX12_isTest 34 = .ok (.invokevirtual 166, 3) := by decide +kernel
theorem dX12_isTest_37 : decode cX12_isTest 37 = .ok (.goto 4, 3) := by decide +kernel
theorem dX12_isTest_40 : decode cX12_isTest 40 = .ok (.iconst (-1), 1) := by decide +kernel
theorem dX12_isTest_41 : decode cX12_isTest 41 = .ok (.istore_n 1, 1) := by decide +kernel
theorem dX12_isTest_42 : decode cX12_isTest 42 = .ok (.iload_n 1, 1) := by decide +kernel
theorem dX12_isTest_43 : decode cX12_isTest 43 = .ok (.ifCond .ge 5, 3) := by decide +kernel
theorem dX12_isTest_46 : decode cX12_isTest 46 = .ok (.iconst 0, 1) := by decide +kernel
theorem dX12_isTest_47 : decode cX12_isTest 47 = .ok (.ireturn, 1) := by decide +kernel
theorem dX12_isTest_48 : decode cX12_isTest 48 = .ok (.aload_n 0, 1) := by decide +kernel
theorem dX12_isTest_49 : decode cX12_isTest 49 = .ok (.dup, 1) := by decide +kernel
theorem dX12_isTest_50 : decode cX12_isTest 50 = .ok (.getfield 136, 3) := by decide +kernel
theorem dX12_isTest_53 : decode cX12_isTest 53 = .ok (.iconst 1, 1) := by decide +kernel
theorem dX12_isTest_54 : decode cX12_isTest 54 = .ok (.iadd, 1) := by decide +kernel
theorem dX12_isTest_55 : decode cX12_isTest 55 = .ok (.putfield 136, 3) := by decide +kernel
theorem dX12_isTest_58 : decode cX12_isTest 58 = .ok (.aload_n 0, 1) := by decide +kernel
theorem dX12_isTest_59 : decode cX12_isTest 59 = .ok (.getfield 136, 3) := by decide +kernel
theorem dX12_isTest_62 : decode cX12_isTest 62 = .ok (.aload_n 0, 1) := by decide +kernel
theorem dX12_isTest_63 : decode cX12_isTest 63 = .ok (.getfield 133, 3) := by decide +kernel
theorem dX12_isTest_66 : decode cX12_isTest 66 = .ok (.if_icmp .ge 32, 3) := by decide +kernel
theorem dX12_isTest_69 : decode cX12_isTest 69 = .ok (.aload_n 0, 1) := by decide +kernel
theorem dX12_isTest_70 : decode cX12_isTest 70 = .ok (.getfield 36, 3) := by decide +kernel
theorem dX12_isTest_73 : decode cX12_isTest 73 = .ok (.aload_n 0, 1) := by decide +kernel
theorem dX12_isTest_74 : decode cX12_isTest 74 = .ok (.getfield 136, 3) := by decide +kernel
theorem dX12_isTest_77 : decode cX12_isTest 77 = .ok (.iaload, 1) := by decide +kernel
theorem dX12_isTest_78 : decode cX12_isTest 78 = .ok (.ifCond .le 20, 3) := by decide +kernel
theorem dX12_isTest_81 : decode cX12_isTest 81 = .ok (.ldc 169, 2) := by decide +kernel
theorem dX12_isTest_83 : decode cX12_isTest 83 = .ok (.aload_n 0, 1) := by decide +kernel
theorem dX12_isTest_84 : decode cX12_isTest 84 = .ok (.getfield 36, 3) := by decide +kernel
theorem dX12_isTest_87 : decode cX12_isTest 87 = .ok (.aload_n 0, 1) := by decide +kernel
theorem dX12_isTest_88 : decode cX12_isTest 88 = .ok (.getfield 136, 3) := by decide +kernel
theorem dX12_isTest_91 : decode cX12_isTest 91 = .ok (.iaload, 1) := by decide +kernel
theorem dX12_isTest_92 : decode cX12_isTest 92 = .ok (.invokevirtual 166, 3) := by decide +kernel
theorem dX12_isTest_95 : decode cX12_isTest 95 = .ok (.goto 4, 3) := by decide +kernel
theorem dX12_isTest_98 : decode cX12_isTest 98 = .ok (.iconst (-1), 1) := by decide +kernel
theorem dX12_isTest_99 : decode cX12_isTest 99 = .ok (.istore_n 2, 1) := by decide +kernel
theorem dX12_isTest_100 : decode cX12_isTest 100 = .ok (.iload_n 2, 1) := by decide +kernel
theorem dX12_isTest_101 : decode cX12_isTest 101 = .ok (.ifCond .ge 5, 3) := by decide +kernel
theorem dX12_isTest_104 : decode cX12_isTest 104 = .ok (.iconst 0, 1) := by decide +kernel
theorem dX12_isTest_105 : decode cX12_isTest 105 = .ok (.ireturn, 1) := by decide +kernel
theorem dX12_isTest_106 : decode cX12_isTest 106 = .ok (.aload_n 0, 1) := by decide +kernel
theorem dX12_isTest_107 : decode cX12_isTest 107 = .ok (.dup, 1) := by decide +kernel
theorem dX12_isTest_108 : decode cX12_isTest 108 = .ok (.getfield 136, 3) := by decide +kernel
theorem dX12_isTest_111 : decode cX12_isTest 111 = .ok (.iconst 1, 1) := by decide +kernel
theorem dX12_isTest_112 : decode cX12_isTest 112 = .ok (.iadd, 1) := by decide +kernel
theorem dX12_isTest_113 : decode cX12_isTest 113 = .ok (.putfield 136, 3) := by decide +kernel
theorem dX12_isTest_116 : decode cX12_isTest 116 = .ok (.aload_n 0, 1) := by decide +kernel
theorem dX12_isTest_117 : decode cX12_isTest 117 = .ok (.invokevirtual 171, 3) := by decide +kernel
theorem dX12_isTest_120 : decode cX12_isTest 120 = .ok (.ifCond .eq 31, 3) := by decide +kernel
theorem dX12_isTest_123 : decode cX12_isTest 123 = .ok (.aload_n 0, 1) := by decide +kernel
theorem dX12_isTest_124 : decode cX12_isTest 124 = .ok (.iconst 3, 1) := by decide +kernel
theorem dX12_isTest_125 : decode cX12_isTest 125 = .ok (.sipush 300, 3) := by decide +kernel
theorem dX12_isTest_128 : decode cX12_isTest 128 = .ok (.iload_n 1, 1) := by decide +kernel
theorem dX12_isTest_129 : decode cX12_isTest 129 = .ok (.imul, 1) := by decide +kernel
theorem dX12_isTest_130 : decode cX12_isTest 130 = .ok (.iadd, 1) := by decide +kernel
theorem dX12_isTest_131 : decode cX12_isTest 131 = .ok (.bipush 100, 2) := by decide +kernel
theorem dX12_isTest_133 : decode cX12_isTest 133 = .ok (.iload_n 2, 1) := by decide +kernel
theorem dX12_isTest_134 : decode cX12_isTest 134 = .ok (.imul, 1) := by decide +kernel
theorem dX12_isTest_135 : decode cX12_isTest 135 = .ok (.iadd, 1) := by decide +kernel
theorem dX12_isTest_136 : decode cX12_isTest 136 = .ok (.aload_n 0, 1) := by decide +kernel
theorem dX12_isTest_137 : decode cX12_isTest 137 = .ok (.getfield 139, 3) := by decide +kernel
theorem dX12_isTest_140 : decode cX12_isTest 140 = .ok (.iadd, 1) := by decide +kernel
theorem dX12_isTest_141 : decode cX12_isTest 141 = .ok (.invokevirtual 174, 3) := by decide +kernel
theorem dX12_isTest_144 : decode cX12_isTest 144 = .ok (.ifCond .eq 7, 3) := by decide +kernel
theorem dX12_isTest_147 : decode cX12_isTest 147 = .ok (.iconst 1, 1) := by decide +kernel
theorem dX12_isTest_148 : decode cX12_isTest 148 = .ok (.goto 4, 3) := by decide +kernel
theorem dX12_isTest_151 : decode cX12_isTest 151 = .ok (.iconst 0, 1) := by decide +kernel
theorem dX12_isTest_152 : decode cX12_isTest 152 = .ok (.ireturn, 1) := by decide +kernel
theorem dX12_isOpened_0 : decode cX12_isOpened 0 = .ok (.aload_n 0, 1) := by decide +kernel
theorem dX12_isOpened_1 : decode cX12_isOpened 1 = .ok (.getfield 177, 3) := by decide +kernel
theorem dX12_isOpened_4 : decode cX12_isOpened 4 = .ok (.iconst 4, 1) := by decide +kernel
theorem dX12_isOpened_5 : decode cX12_isOpened 5 = .ok (.if_icmp .eq 11, 3) := by decide +kernel
theorem dX12_isOpened_8 : decode cX12_isOpened 8 = .ok (.aload_n 0, 1) := by decide +kernel
theorem dX12_isOpened_9 : decode cX12_isOpened 9 = .ok (.iload_n 1, 1) := by decide +kernel
theorem dX12_isOpened_10 : decode cX12_isOpened 10 = .ok (.invokevirtual 158, 3) := by decide +kernel
theorem dX12_isOpened_13 : decode cX12_isOpened 13 = .ok (.ifCond .ne 5, 3) := by decide +kernel
theorem dX12_isOpened_16 : decode cX12_isOpened 16 = .ok (.iconst 0, 1) := by decide +kernel
theorem dX12_isOpened_17 : decode cX12_isOpened 17 = .ok (.ireturn, 1) := by decide +kernel
theorem dX12_isOpened_18 : decode cX12_isOpened 18 = .ok (.aload_n 0, 1) := by decide +kernel
theorem dX12_isOpened_19 : decode cX12_isOpened 19 = .ok (.dup, 1) := by decide +kernel
theorem dX12_isOpened_20 : decode cX12_isOpened 20 = .ok (.getfield 177, 3) := by decide +kernel
theorem dX12_isOpened_23 : decode cX12_isOpened 23 = .ok (.iconst 1, 1) := by decide +kernel
theorem dX12_isOpened_24 : decode cX12_isOpened 24 = .ok (.iadd, 1) := by decide +kernel
theorem dX12_isOpened_25 : decode cX12_isOpened 25 = .ok (.putfield 177, 3) := by decide +kernel
theorem dX12_isOpened_28 : decode cX12_isOpened 28 = .ok (.iconst 1, 1) := by decide +kernel
theorem dX12_isOpened_29 : decode cX12_isOpened 29 = .ok (.ireturn, 1) := by decide +kernel
theorem dX12_isF_0 : decode cX12_isF 0 = .ok (.aload_n 0, 1) := by decide +kernel
theorem dX12_isF_1 : decode cX12_isF 1 = .ok (.bipush 33, 2) := by decide +kernel
theorem dX12_isF_3 : decode cX12_isF 3 = .ok (.invokevirtual 180, 3) := by decide +kernel
theorem dX12_isF_6 : decode cX12_isF 6 = .ok (.ifCond .eq 27, 3) := by decide +kernel
theorem dX12_isF_9 : decode cX12_isF 9 = .ok (.aload_n 0, 1) := by decide +kernel
theorem dX12_isF_10 : decode cX12_isF 10 = .ok (.invokevirtual 183, 3) := by decide +kernel
theorem dX12_isF_13 : decode cX12_isF 13 = .ok (.ifCond .eq 15, 3) := by decide +kernel
theorem dX12_isF_16 : decode cX12_isF 16 = .ok (.aload_n 0, 1) := by decide +kernel
theorem dX12_isF_17 : decode cX12_isF 17 = .ok (.iconst 0, 1) := by decide +kernel
theorem dX12_isF_18 : decode cX12_isF 18 = .ok (.invokevirtual 174, 3) := by decide +kernel
theorem dX12_isF_21 : decode cX12_isF 21 = .ok (.ifCond .eq 7, 3) := by decide +kernel
theorem dX12_isF_24 : decode cX12_isF 24 = .ok (.iconst 1, 1) := by decide +kernel
theorem dX12_isF_25 : decode cX12_isF 25 = .ok (.goto 4, 3) := by decide +kernel
theorem dX12_isF_28 : decode cX12_isF 28 = .ok (.iconst 0, 1) := by decide +kernel
theorem dX12_isF_29 : decode cX12_isF 29 = .ok (.istore_n 1, 1) := by decide +kernel
theorem dX12_isF_30 : decode cX12_isF 30 = .ok (.goto 42, 3) := by decide +kernel
theorem dX12_isF_33 : decode cX12_isF 33 = .ok (.aload_n 0, 1) := by decide +kernel
theorem dX12_isF_34 : decode cX12_isF 34 = .ok (.bipush 40, 2) := by decide +kernel
theorem dX12_isF_36 : decode cX12_isF 36 = .ok (.invokevirtual 180, 3) := by decide +kernel
theorem dX12_isF_39 : decode cX12_isF 39 = .ok (.ifCond .eq 28, 3) := by decide +kernel
theorem dX12_isF_42 : decode cX12_isF 42 = .ok (.aload_n 0, 1) := by decide +kernel
theorem dX12_isF_43 : decode cX12_isF 43 = .ok (.invokevirtual 186, 3) := by decide +kernel
theorem dX12_isF_46 : decode cX12_isF 46 = .ok (.ifCond .eq 16, 3) := by decide +kernel
theorem dX12_isF_49 : decode cX12_isF 49 = .ok (.aload_n 0, 1) := by decide +kernel
theorem dX12_isF_50 : decode cX12_isF 50 = .ok (.bipush 41, 2) := by decide +kernel
theorem dX12_isF_52 : decode cX12_isF 52 = .ok (.invokevirtual 158, 3) := by decide +kernel
theorem dX12_isF_55 : decode cX12_isF 55 = .ok (.ifCond .eq 7, 3) := by decide +kernel
theorem dX12_isF_58 : decode cX12_isF 58 = .ok (.iconst 1, 1) := by decide +kernel
theorem dX12_isF_59 : decode cX12_isF 59 = .ok (.goto 4, 3) := by decide +kernel
theorem dX12_isF_62 : decode cX12_isF 62 = .ok (.iconst 0, 1) := by decide +kernel
theorem dX12_isF_63 : decode cX12_isF 63 = .ok (.istore_n 1, 1) := by decide +kernel
theorem dX12_isF_64 : decode cX12_isF 64 = .ok (.goto 8, 3) := by decide +kernel
theorem dX12_isF_67 : decode cX12_isF 67 = .ok (.aload_n 0, 1) := by decide +kernel
theorem dX12_isF_68 : decode cX12_isF 68 = .ok (.invokevirtual 189, 3) := by decide +kernel
theorem dX12_isF_71 : decode cX12_isF 71 = .ok (.ireturn, 1) := by decide +kernel
theorem dX12_isF_72 : decode cX12_isF 72 = .ok (.aload_n 0, 1) := by decide +kernel
theorem dX12_isF_73 : decode cX12_isF 73 = .ok (.dup, 1) := by decide +kernel
theorem dX12_isF_74 : decode cX12_isF 74 = .ok (.getfield 177, 3) := by decide +kernel
theorem dX12_isF_77 : decode cX12_isF 77 = .ok (.iconst 1, 1) := by decide +kernel
theorem dX12_isF_78 : decode cX12_isF 78 = .ok (.isub, 1) := by decide +kernel
theorem dX12_isF_79 : decode cX12_isF 79 = .ok (.putfield 177, 3) := by decide +kernel
theorem dX12_isF_82 : decode cX12_isF 82 = .ok (.iload_n 1, 1) := by decide +kernel
theorem dX12_isF_83 : decode cX12_isF 83 = .ok (.ireturn, 1) := by decide +kernel
theorem dX12_isT_0 : decode cX12_isT 0 = .ok (.aload_n 0, 1) := by decide +kernel
theorem dX12_isT_1 : decode cX12_isT 1 = .ok (.invokevirtual 183, 3) := by decide +kernel
theorem dX12_isT_4 : decode cX12_isT 4 = .ok (.ifCond .ne 5, 3) := by decide +kernel
theorem dX12_isT_7 : decode cX12_isT 7 = .ok (.iconst 0, 1) := by decide +kernel
theorem dX12_isT_8 : decode cX12_isT 8 = .ok (.ireturn, 1) := by decide +kernel
theorem dX12_isT_9 : decode cX12_isT 9 = .ok (.aload_n 0, 1) := by decide +kernel
theorem dX12_isT_10 : decode cX12_isT 10 = .ok (.bipush 38, 2) := by decide +kernel
theorem dX12_isT_12 : decode cX12_isT 12 = .ok (.invokevirtual 158, 3) := by decide +kernel
theorem dX12_isT_15 : decode cX12_isT 15 = .ok (.ifCond .eq 20, 3) := by decide +kernel
theorem dX12_isT_18 : decode cX12_isT 18 = .ok (.aload_n 0, 1) := by decide +kernel
theorem dX12_isT_19 : decode cX12_isT 19 = .ok (.invokevirtual 183, 3) := by decide +kernel
theorem dX12_isT_22 : decode cX12_isT 22 = .ok (.ifCond .eq 11, 3) := by decide +kernel
theorem dX12_isT_25 : decode cX12_isT 25 = .ok (.aload_n 0, 1) := by decide +kernel
theorem dX12_isT_26 : decode cX12_isT 26 = .ok (.iconst 1, 1) := by decide +kernel
theorem dX12_isT_27 : decode cX12_isT 27 = .ok (.invokevirtual 174, 3) := by decide +kernel
theorem dX12_isT_30 : decode cX12_isT 30 = .ok (.ifCond .ne (-21), 3) := by decide +kernel
theorem dX12_isT_33 : decode cX12_isT 33 = .ok (.iconst 0, 1) := by decide +kernel
theorem dX12_isT_34 : decode cX12_isT 34 = .ok (.ireturn, 1) := by decide +kernel
theorem dX12_isT_35 : decode cX12_isT 35 = .ok (.iconst 1, 1) := by decide +kernel
theorem dX12_isT_36 : decode cX12_isT 36 = .ok (.ireturn, 1) := by decide +kernel
theorem dX12_isE_0 : decode cX12_isE 0 = .ok (.aload_n 0, 1) := by decide +kernel
theorem dX12_isE_1 : decode cX12_isE 1 = .ok (.invokevirtual 192, 3) := by decide +kernel
theorem dX12_isE_4 : decode cX12_isE 4 = .ok (.ifCond .ne 5, 3) := by decide +kernel
theorem dX12_isE_7 : decode cX12_isE 7 = .ok (.iconst 0, 1) := by decide +kernel
theorem dX12_isE_8 : decode cX12_isE 8 = .ok (.ireturn, 1) := by decide +kernel
theorem dX12_isE_9 : decode cX12_isE 9 = .ok (.aload_n 0, 1) := by decide +kernel
theorem dX12_isE_10 : decode cX12_isE 10 = .ok (.bipush 124, 2) := by decide +kernel
theorem dX12_isE_12 : decode cX12_isE 12 = .ok (.invokevirtual 158, 3) := by decide +kernel
theorem dX12_isE_15 : decode cX12_isE 15 = .ok (.ifCond .eq 20, 3) := by decide +kernel
theorem dX12_isE_18 : decode cX12_isE 18 = .ok (.aload_n 0, 1) := by decide +kernel
theorem dX12_isE_19 : decode cX12_isE 19 = .ok (.invokevirtual 192, 3) := by decide +kernel
theorem dX12_isE_22 : decode cX12_isE 22 = .ok (.ifCond .eq 11, 3) := by decide +kernel
theorem dX12_isE_25 : decode cX12_isE 25 = .ok (.aload_n 0, 1) := by decide +kernel
theorem dX12_isE_26 : decode cX12_isE 26 = .ok (.iconst 2, 1) := by decide +kernel
theorem dX12_isE_27 : decode cX12_isE 27 = .ok (.invokevirtual 174, 3) := by decide +kernel
theorem dX12_isE_30 : decode cX12_isE 30 = .ok (.ifCond .ne (-21), 3) := by decide +kernel
theorem dX12_isE_33 : decode cX12_isE 33 = .ok (.iconst 0, 1) := by decide +kernel
theorem dX12_isE_34 : decode cX12_isE 34 = .ok (.ireturn, 1) := by decide +kernel
theorem dX12_isE_35 : decode cX12_isE 35 = .ok (.iconst 1, 1) := by decide +kernel
theorem dX12_isE_36 : decode cX12_isE 36 = .ok (.ireturn, 1) := by decide +kernel
theorem dX12_isClause_0 : decode cX12_isClause 0 = .ok (.iconst (-1), 1) := by decide +kernel
theorem dX12_isClause_1 : decode cX12_isClause 1 = .ok (.istore_n 2, 1) := by decide +kernel
theorem dX12_isClause_2 : decode cX12_isClause 2 = .ok (.aload_n 0, 1) := by decide +kernel
theorem dX12_isClause_3 : decode cX12_isClause 3 = .ok (.getfield 136, 3) := by decide +kernel
theorem dX12_isClause_6 : decode cX12_isClause 6 = .ok (.aload_n 0, 1) := by decide +kernel
theorem dX12_isClause_7 : decode cX12_isClause 7 = .ok (.getfield 133, 3) := by decide +kernel
theorem dX12_isClause_10 : decode cX12_isClause 10 = .ok (.if_icmp .ge 41, 3) := by decide +kernel
theorem dX12_isClause_13 : decode cX12_isClause 13 = .ok (.aload_n 0, 1) := by decide +kernel
theorem dX12_isClause_14 : decode cX12_isClause 14 = .ok (.getfield 36, 3) := by decide +kernel
theorem dX12_isClause_17 : decode cX12_isClause 17 = .ok (.aload_n 0, 1) := by decide +kernel
theorem dX12_isClause_18 : decode cX12_isClause 18 = .ok (.getfield 136, 3) := by decide +kernel
theorem dX12_isClause_21 : decode cX12_isClause 21 = .ok (.iaload, 1) := by decide +kernel
theorem dX12_isClause_22 : decode cX12_isClause 22 = .ok (.bipush 103, 2) := by decide +kernel
theorem dX12_isClause_24 : decode cX12_isClause 24 = .ok (.if_icmp .ne 7, 3) := by decide +kernel
theorem dX12_isClause_27 : decode cX12_isClause 27 = .ok (.iconst 0, 1) := by decide +kernel
theorem dX12_isClause_28 : decode cX12_isClause 28 = .ok (.goto 22, 3) := by decide +kernel
theorem dX12_isClause_31 : decode cX12_isClause 31 = .ok (.aload_n 0, 1) := by decide +kernel
theorem dX12_isClause_32 : decode cX12_isClause 32 = .ok (.getfield 36, 3) := by decide +kernel
theorem dX12_isClause_35 : decode cX12_isClause 35 = .ok (.aload_n 0, 1) := by decide +kernel
theorem dX12_isClause_36 : decode cX12_isClause 36 = .ok (.getfield 136, 3) := by decide +kernel
theorem dX12_isClause_39 : decode cX12_isClause 39 = .ok (.iaload, 1) := by decide +kernel
theorem dX12_isClause_40 : decode cX12_isClause 40 = .ok (.bipush 114, 2) := by decide +kernel
theorem dX12_isClause_42 : decode cX12_isClause 42 = .ok (.if_icmp .ne 7, 3) := by decide +kernel
theorem dX12_isClause_45 : decode cX12_isClause 45 = .ok (.iconst 2, 1) := by decide +kernel
theorem dX12_isClause_46 : decode cX12_isClause 46 = .ok (.goto 4, 3) := by decide +kernel
theorem dX12_isClause_49 : decode cX12_isClause 49 = .ok (.iconst (-1), 1) := by decide +kernel
theorem dX12_isClause_50 : decode cX12_isClause 50 = .ok (.istore_n 2, 1) := by decide +kernel
theorem dX12_isClause_51 : decode cX12_isClause 51 = .ok (.iload_n 2, 1) := by decide +kernel
theorem dX12_isClause_52 : decode cX12_isClause 52 = .ok (.ifCond .ne 34, 3) := by decide +kernel
theorem dX12_isClause_55 : decode cX12_isClause 55 = .ok (.aload_n 0, 1) := by decide +kernel
theorem dX12_isClause_56 : decode cX12_isClause 56 = .ok (.getfield 136, 3) := by decide +kernel
theorem dX12_isClause_59 : decode cX12_isClause 59 = .ok (.iconst 1, 1) := by decide +kernel
theorem dX12_isClause_60 : decode cX12_isClause 60 = .ok (.iadd, 1) := by decide +kernel
theorem dX12_isClause_61 : decode cX12_isClause 61 = .ok (.aload_n 0, 1) := by decide +kernel
theorem dX12_isClause_62 : decode cX12_isClause 62 = .ok (.getfield 133, 3) := by decide +kernel
theorem dX12_isClause_65 : decode cX12_isClause 65 = .ok (.if_icmp .ge 21, 3) := by decide +kernel
theorem dX12_isClause_68 : decode cX12_isClause 68 = .ok (.aload_n 0, 1) := by decide +kernel
theorem dX12_isClause_69 : decode cX12_isClause 69 = .ok (.getfield 36, 3) := by decide +kernel
theorem dX12_isClause_72 : decode cX12_isClause 72 = .ok (.aload_n 0, 1) := by decide +kernel
theorem dX12_isClause_73 : decode cX12_isClause 73 = .ok (.getfield 136, 3) := by decide +kernel
theorem dX12_isClause_76 : decode cX12_isClause 76 = .ok (.iconst 1, 1) := by decide +kernel
theorem dX12_isClause_77 : decode cX12_isClause 77 = .ok (.iadd, 1) := by decide +kernel
theorem dX12_isClause_78 : decode cX12_isClause 78 = .ok (.iaload, 1) := by decide +kernel
theorem dX12_isClause_79 : decode cX12_isClause 79 = .ok (.bipush 114, 2) := by decide +kernel
theorem dX12_isClause_81 : decode cX12_isClause 81 = .ok (.if_icmp .ne 5, 3) := by decide +kernel
theorem dX12_isClause_84 : decode cX12_isClause 84 = .ok (.iconst 1, 1) := by decide +kernel
theorem dX12_isClause_85 : decode cX12_isClause 85 = .ok (.istore_n 2, 1) := by decide +kernel
theorem dX12_isClause_86 : decode cX12_isClause 86 = .ok (.iload_n 2, 1) := by decide +kernel
theorem dX12_isClause_87 : decode cX12_isClause 87 = .ok (.ifCond .ne 12, 3) := by decide +kernel
theorem dX12_isClause_90 : decode cX12_isClause 90 = .ok (.aload_n 0, 1) := by decide +kernel
theorem dX12_isClause_91 : decode cX12_isClause 91 = .ok (.ldc 195, 2) := by decide +kernel
theorem dX12_isClause_93 : decode cX12_isClause 93 = .ok (.invokevirtual 197, 3) := by decide +kernel
theorem dX12_isClause_96 : decode cX12_isClause 96 = .ok (.goto 36, 3) := by decide +kernel
theorem dX12_isClause_99 : decode cX12_isClause 99 = .ok (.iload_n 2, 1) := by decide +kernel
theorem dX12_isClause_100 : decode cX12_isClause 100 = .ok (.iconst 1, 1) := by decide +kernel
theorem dX12_isClause_101 : decode cX12_isClause 101 = .ok (.if_icmp .ne 12, 3) := by decide +kernel
theorem dX12_isClause_104 : decode cX12_isClause 104 = .ok (.aload_n 0, 1) := by decide +kernel
theorem dX12_isClause_105 : decode cX12_isClause 105 = .ok (.ldc 201, 2) := by decide +kernel
theorem dX12_isClause_107 : decode cX12_isClause 107 = .ok (.invokevirtual 197, 3) := by decide +kernel
theorem dX12_isClause_110 : decode cX12_isClause 110 = .ok (.goto 22, 3) := by decide +kernel
theorem dX12_isClause_113 : decode cX12_isClause 113 = .ok (.iload_n 2, 1) := by decide +kernel
theorem dX12_isClause_114 : decode cX12_isClause 114 = .ok (.iconst 2, 1) := by decide +kernel
theorem dX12_isClause_115 : decode cX12_isClause 115 = .ok (.if_icmp .ne 16, 3) := by decide +kernel
theorem dX12_isClause_118 : decode cX12_isClause 118 = .ok (.aload_n 0, 1) := by decide +kernel
theorem dX12_isClause_119 : decode cX12_isClause 119 = .ok (.ldc 203, 2) := by decide +kernel
theorem dX12_isClause_121 : decode cX12_isClause 121 = .ok (.invokevirtual 197, 3) := by decide +kernel
theorem dX12_isClause_124 : decode cX12_isClause 124 = .ok (.ifCond .eq 7, 3) := by decide +kernel
theorem dX12_isClause_127 : decode cX12_isClause 127 = .ok (.iconst 1, 1) := by decide +kernel
theorem dX12_isClause_128 : decode cX12_isClause 128 = .ok (.goto 4, 3) := by decide +kernel
theorem dX12_isClause_131 : decode cX12_isClause 131 = .ok (.iconst 0, 1) := by decide +kernel
theorem dX12_isClause_132 : decode cX12_isClause 132 = .ok (.istore_n 3, 1) := by decide +kernel
theorem dX12_isClause_133 : decode cX12_isClause 133 = .ok (.iload_n 3, 1) := by decide +kernel
theorem dX12_isClause_134 : decode cX12_isClause 134 = .ok (.ifCond .eq 10, 3) := by decide +kernel
theorem dX12_isClause_137 : decode cX12_isClause 137 = .ok (.aload_n 0, 1) := by decide +kernel
theorem dX12_isClause_138 : decode cX12_isClause 138 = .ok (.invokevirtual 171, 3) := by decide +kernel
theorem dX12_isClause_141 : decode cX12_isClause 141 = .ok (.ifCond .ne 5, 3) := by decide +kernel
theorem dX12_isClause_144 : decode cX12_isClause 144 = .ok (.iconst 0, 1) := by decide +kernel
theorem dX12_isClause_145 : decode cX12_isClause 145 = .ok (.ireturn, 1) := by decide +kernel
theorem dX12_isClause_146 : decode cX12_isClause 146 = .ok (.aload_n 0, 1) := by decide +kernel
theorem dX12_isClause_147 : decode cX12_isClause 147 = .ok (.getfield 42, 3) := by decide +kernel
theorem dX12_isClause_150 : decode cX12_isClause 150 = .ok (.iload_n 1, 1) := by decide +kernel
theorem dX12_isClause_151 : decode cX12_isClause 151 = .ok (.iload_n 2, 1) := by decide +kernel
theorem dX12_isClause_152 : decode cX12_isClause 152 = .ok (.iastore, 1) := by decide +kernel
theorem dX12_isClause_153 : decode cX12_isClause 153 = .ok (.aload_n 0, 1) := by decide +kernel
theorem dX12_isClause_154 : decode cX12_isClause 154 = .ok (.getfield 45, 3) := by decide +kernel
theorem dX12_isClause_157 : decode cX12_isClause 157 = .ok (.iload_n 1, 1) := by decide +kernel
theorem dX12_isClause_158 : decode cX12_isClause 158 = .ok (.aload_n 0, 1) := by decide +kernel
theorem dX12_isClause_159 : decode cX12_isClause 159 = .ok (.getfield 139, 3) := by decide +kernel
theorem dX12_isClause_162 : decode cX12_isClause 162 = .ok (.iastore, 1) := by decide +kernel
theorem dX12_isClause_163 : decode cX12_isClause 163 = .ok (.aload_n 0, 1) := by decide +kernel
theorem dX12_isClause_164 : decode cX12_isClause 164 = .ok (.getfield 48, 3) := by decide +kernel
theorem dX12_isClause_167 : decode cX12_isClause 167 = .ok (.iload_n 1, 1) := by decide +kernel
theorem dX12_isClause_168 : decode cX12_isClause 168 = .ok (.aload_n 0, 1) := by decide +kernel
theorem dX12_isClause_169 : decode cX12_isClause 169 = .ok (.getfield 161, 3) := by decide +kernel
theorem dX12_isClause_172 : decode cX12_isClause 172 = .ok (.iastore, 1) := by decide +kernel
theorem dX12_isClause_173 : decode cX12_isClause 173 = .ok (.aload_n 0, 1) := by decide +kernel
theorem dX12_isClause_174 : decode cX12_isClause 174 = .ok (.iconst 0, 1) := by decide +kernel
theorem dX12_isClause_175 : decode cX12_isClause 175 = .ok (.putfield 177, 3) := by decide +kernel
theorem dX12_isClause_178 : decode cX12_isClause 178 = .ok (.iload_n 2, 1) := by decide +kernel
theorem dX12_isClause_179 : decode cX12_isClause 179 = .ok (.iconst 2, 1) := by decide +kernel
theorem dX12_isClause_180 : decode cX12_isClause 180 = .ok (.if_icmp .ge 21, 3) := by decide +kernel
theorem dX12_isClause_183 : decode cX12_isClause 183 = .ok (.aload_n 0, 1) := by decide +kernel
theorem dX12_isClause_184 : decode cX12_isClause 184 = .ok (.bipush 32, 2) := by decide +kernel
theorem dX12_isClause_186 : decode cX12_isClause 186 = .ok (.invokevirtual 158, 3) := by decide +kernel
theorem dX12_isClause_189 : decode cX12_isClause 189 = .ok (.ifCond .eq 10, 3) := by decide +kernel
theorem dX12_isClause_192 : decode cX12_isClause 192 = .ok (.aload_n 0, 1) := by decide +kernel
theorem dX12_isClause_193 : decode cX12_isClause 193 = .ok (.invokevirtual 186, 3) := by decide +kernel
theorem dX12_isClause_196 : decode cX12_isClause 196 = .ok (.ifCond .ne 5, 3) := by decide +kernel
theorem dX12_isClause_199 : decode cX12_isClause 199 = .ok (.iconst 0, 1) := by decide +kernel
theorem dX12_isClause_200 : decode cX12_isClause 200 = .ok (.ireturn, 1) := by decide +kernel
theorem dX12_isClause_201 : decode cX12_isClause 201 = .ok (.aload_n 0, 1) := by decide +kernel
theorem dX12_isClause_202 : decode cX12_isClause 202 = .ok (.getfield 51, 3) := by decide +kernel
theorem dX12_isClause_205 : decode cX12_isClause 205 = .ok (.iload_n 1, 1) := by decide +kernel
theorem dX12_isClause_206 : decode cX12_isClause 206 = .ok (.aload_n 0, 1) := by decide +kernel
theorem dX12_isClause_207 : decode cX12_isClause 207 = .ok (.getfield 161, 3) := by decide +kernel
theorem dX12_isClause_210 : decode cX12_isClause 210 = .ok (.aload_n 0, 1) := by decide +kernel
theorem dX12_isClause_211 : decode cX12_isClause 211 = .ok (.getfield 48, 3) := by decide +kernel
theorem dX12_isClause_214 : decode cX12_isClause 214 = .ok (.iload_n 1, 1) := by decide +kernel
theorem dX12_isClause_215 : decode cX12_isClause 215 = .ok (.iaload, 1) := by decide +kernel
theorem dX12_isClause_216 : decode cX12_isClause 216 = .ok (.isub, 1) := by decide +kernel
theorem dX12_isClause_217 : decode cX12_isClause 217 = .ok (.iastore, 1) := by decide +kernel
theorem dX12_isClause_218 : decode cX12_isClause 218 = .ok (.iconst 1, 1) := by decide +kernel
theorem dX12_isClause_219 : decode cX12_isClause 219 = .ok (.ireturn, 1) := by decide +kernel
theorem dX12_loft_0 : decode cX12_loft 0 = .ok (.aload_n 0, 1) := by decide +kernel
theorem dX12_loft_1 : decode cX12_loft 1 = .ok (.getfield 205, 3) := by decide +kernel
theorem dX12_loft_4 : decode cX12_loft 4 = .ok (.bipush 6, 2) := by decide +kernel
theorem dX12_loft_6 : decode cX12_loft 6 = .ok (.if_icmp .ne 6, 3) := by decide +kernel
theorem dX12_loft_9 : decode cX12_loft 9 = .ok (.bipush (-4), 2) := by decide +kernel
theorem dX12_loft_11 : decode cX12_loft 11 = .ok (.ireturn, 1) := by decide +kernel
theorem dX12_loft_12 : decode cX12_loft 12 = .ok (.aload_n 0, 1) := by decide +kernel
theorem dX12_loft_13 : decode cX12_loft 13 = .ok (.getfield 161, 3) := by decide +kernel
theorem dX12_loft_16 : decode cX12_loft 16 = .ok (.istore_n 1, 1) := by decide +kernel
theorem dX12_loft_17 : decode cX12_loft 17 = .ok (.aload_n 0, 1) := by decide +kernel
theorem dX12_loft_18 : decode cX12_loft 18 = .ok (.iconst 0, 1) := by decide +kernel
theorem dX12_loft_19 : decode cX12_loft 19 = .ok (.putfield 136, 3) := by decide +kernel
theorem dX12_loft_22 : decode cX12_loft 22 = .ok (.iconst 0, 1) := by decide +kernel
theorem dX12_loft_23 : decode cX12_loft 23 = .ok (.istore_n 2, 1) := by decide +kernel
theorem dX12_loft_24 : decode cX12_loft 24 = .ok (.iconst 1, 1) := by decide +kernel
theorem dX12_loft_25 : decode cX12_loft 25 = .ok (.istore_n 3, 1) := by decide +kernel
theorem dX12_loft_26 : decode cX12_loft 26 = .ok (.iconst 0, 1) := by decide +kernel
theorem dX12_loft_27 : decode cX12_loft 27 = .ok (.istore 4, 2) := by decide +kernel
theorem dX12_loft_29 : decode cX12_loft 29 = .ok (.iload_n 3, 1) := by decide +kernel
theorem dX12_loft_30 : decode cX12_loft 30 = .ok (.ifCond .eq 93, 3) := by decide +kernel
theorem dX12_loft_33 : decode cX12_loft 33 = .ok (.iload 4, 2) := by decide +kernel
theorem dX12_loft_35 : decode cX12_loft 35 = .ok (.ifCond .ne 88, 3) := by decide +kernel
theorem dX12_loft_38 : decode cX12_loft 38 = .ok (.iload_n 2, 1) := by decide +kernel
theorem dX12_loft_39 : decode cX12_loft 39 = .ok (.bipush 10, 2) := by decide +kernel
theorem dX12_loft_41 : decode cX12_loft 41 = .ok (.if_icmp .ge 23, 3) := by decide +kernel
theorem dX12_loft_44 : decode cX12_loft 44 = .ok (.aload_n 0, 1) := by decide +kernel
theorem dX12_loft_45 : decode cX12_loft 45 = .ok (.bipush 10, 2) := by decide +kernel
theorem dX12_loft_47 : decode cX12_loft 47 = .ok (.aload_n 0, 1) := by decide +kernel
theorem dX12_loft_48 : decode cX12_loft 48 = .ok (.getfield 205, 3) := by decide +kernel
theorem dX12_loft_51 : decode cX12_loft 51 = .ok (.imul, 1) := by decide +kernel
theorem dX12_loft_52 : decode cX12_loft 52 = .ok (.iload_n 2, 1) := by decide +kernel
theorem dX12_loft_53 : decode cX12_loft 53 = .ok (.iadd, 1) := by decide +kernel
theorem dX12_loft_54 : decode cX12_loft 54 = .ok (.invokevirtual 208, 3) := by decide +kernel
theorem dX12_loft_57 : decode cX12_loft 57 = .ok (.ifCond .eq 7, 3) := by decide +kernel
theorem dX12_loft_60 : decode cX12_loft 60 = .ok (.iconst 1, 1) := by decide +kernel
theorem dX12_loft_61 : decode cX12_loft 61 = .ok (.goto 4, 3) := by decide +kernel
theorem dX12_loft_64 : decode cX12_loft 64 = .ok (.iconst 0, 1) := by decide +kernel
theorem dX12_loft_65 : decode cX12_loft 65 = .ok (.istore_n 3, 1) := by decide +kernel
theorem dX12_loft_66 : decode cX12_loft 66 = .ok (.iload_n 3, 1) := by decide +kernel
theorem dX12_loft_67 : decode cX12_loft 67 = .ok (.ifCond .ne 6, 3) := by decide +kernel
theorem dX12_loft_70 : decode cX12_loft 70 = .ok (.goto (-41), 3) := by decide +kernel
theorem dX12_loft_73 : decode cX12_loft 73 = .ok (.iinc 2 1, 3) := by decide +kernel
theorem dX12_loft_76 : decode cX12_loft 76 = .ok (.aload_n 0, 1) := by decide +kernel
theorem dX12_loft_77 : decode cX12_loft 77 = .ok (.getfield 136, 3) := by decide +kernel
theorem dX12_loft_80 : decode cX12_loft 80 = .ok (.aload_n 0, 1) := by decide +kernel
theorem dX12_loft_81 : decode cX12_loft 81 = .ok (.getfield 133, 3) := by decide +kernel
theorem dX12_loft_84 : decode cX12_loft 84 = .ok (.if_icmp .ne 7, 3) := by decide +kernel
theorem dX12_loft_87 : decode cX12_loft 87 = .ok (.iconst 1, 1) := by decide +kernel
theorem dX12_loft_88 : decode cX12_loft 88 = .ok (.goto 4, 3) := by decide +kernel
theorem dX12_loft_91 : decode cX12_loft 91 = .ok (.iconst 0, 1) := by decide +kernel
theorem dX12_loft_92 : decode cX12_loft 92 = .ok (.istore 4, 2) := by decide +kernel
theorem dX12_loft_94 : decode cX12_loft 94 = .ok (.iload 4, 2) := by decide +kernel
theorem dX12_loft_96 : decode cX12_loft 96 = .ok (.ifCond .ne 18, 3) := by decide +kernel
theorem dX12_loft_99 : decode cX12_loft 99 = .ok (.iload_n 2, 1) := by decide +kernel
theorem dX12_loft_100 : decode cX12_loft 100 = .ok (.bipush 10, 2) := by decide +kernel
theorem dX12_loft_102 : decode cX12_loft 102 = .ok (.if_icmp .ge 16, 3) := by decide +kernel
theorem dX12_loft_105 : decode cX12_loft 105 = .ok (.aload_n 0, 1) := by decide +kernel
theorem dX12_loft_106 : decode cX12_loft 106 = .ok (.bipush 59, 2) := by decide +kernel
theorem dX12_loft_108 : decode cX12_loft 108 = .ok (.invokevirtual 158, 3) := by decide +kernel
theorem dX12_loft_111 : decode cX12_loft 111 = .ok (.ifCond .eq 7, 3) := by decide +kernel
theorem dX12_loft_114 : decode cX12_loft 114 = .ok (.iconst 1, 1) := by decide +kernel
theorem dX12_loft_115 : decode cX12_loft 115 = .ok (.goto 4, 3) := by decide +kernel
theorem dX12_loft_118 : decode cX12_loft 118 = .ok (.iconst 0, 1) := by decide +kernel
theorem dX12_loft_119 : decode cX12_loft 119 = .ok (.istore_n 3, 1) := by decide +kernel
theorem dX12_loft_120 : decode cX12_loft 120 = .ok (.goto (-91), 3) := by decide +kernel
theorem dX12_loft_123 : decode cX12_loft 123 = .ok (.aload_n 0, 1) := by decide +kernel
theorem dX12_loft_124 : decode cX12_loft 124 = .ok (.iconst 0, 1) := by decide +kernel
theorem dX12_loft_125 : decode cX12_loft 125 = .ok (.putfield 133, 3) := by decide +kernel
theorem dX12_loft_128 : decode cX12_loft 128 = .ok (.iload 4, 2) := by decide +kernel
theorem dX12_loft_130 : decode cX12_loft 130 = .ok (.ifCond .ne 16, 3) := by decide +kernel
theorem dX12_loft_133 : decode cX12_loft 133 = .ok (.aload_n 0, 1) := by decide +kernel
theorem dX12_loft_134 : decode cX12_loft 134 = .ok (.iload_n 1, 1) := by decide +kernel
theorem dX12_loft_135 : decode cX12_loft 135 = .ok (.putfield 161, 3) := by decide +kernel
theorem dX12_loft_138 : decode cX12_loft 138 = .ok (.bipush (-10), 2) := by decide +kernel
theorem dX12_loft_140 : decode cX12_loft 140 = .ok (.aload_n 0, 1) := by decide +kernel
theorem dX12_loft_141 : decode cX12_loft 141 = .ok (.getfield 136, 3) := by decide +kernel
theorem dX12_loft_144 : decode cX12_loft 144 = .ok (.isub, 1) := by decide +kernel
theorem dX12_loft_145 : decode cX12_loft 145 = .ok (.ireturn, 1) := by decide +kernel
theorem dX12_loft_146 : decode cX12_loft 146 = .ok (.aload_n 0, 1) := by decide +kernel
theorem dX12_loft_147 : decode cX12_loft 147 = .ok (.getfield 39, 3) := by decide +kernel
theorem dX12_loft_150 : decode cX12_loft 150 = .ok (.aload_n 0, 1) := by decide +kernel
theorem dX12_loft_151 : decode cX12_loft 151 = .ok (.getfield 205, 3) := by decide +kernel
theorem dX12_loft_154 : decode cX12_loft 154 = .ok (.iload_n 2, 1) := by decide +kernel
theorem dX12_loft_155 : decode cX12_loft 155 = .ok (.iastore, 1) := by decide +kernel
theorem dX12_loft_156 : decode cX12_loft 156 = .ok (.aload_n 0, 1) := by decide +kernel
theorem dX12_loft_157 : decode cX12_loft 157 = .ok (.aload_n 0, 1) := by decide +kernel
theorem dX12_loft_158 : decode cX12_loft 158 = .ok (.getfield 205, 3) := by decide +kernel
theorem dX12_loft_161 : decode cX12_loft 161 = .ok (.putfield 101, 3) := by decide +kernel
theorem dX12_loft_164 : decode cX12_loft 164 = .ok (.aload_n 0, 1) := by decide +kernel
theorem dX12_loft_165 : decode cX12_loft 165 = .ok (.dup, 1) := by decide +kernel
theorem dX12_loft_166 : decode cX12_loft 166 = .ok (.getfield 205, 3) := by decide +kernel
theorem dX12_loft_169 : decode cX12_loft 169 = .ok (.dup_x1, 1) := by decide +kernel
theorem dX12_loft_170 : decode cX12_loft 170 = .ok (.iconst 1, 1) := by decide +kernel
theorem dX12_loft_171 : decode cX12_loft 171 = .ok (.iadd, 1) := by decide +kernel
theorem dX12_loft_172 : decode cX12_loft 172 = .ok (.putfield 205, 3) := by decide +kernel
theorem dX12_loft_175 : decode cX12_loft 175 = .ok (.ireturn, 1) := by decide +kernel
theorem dX12_letterOf_0 : decode cX12_letterOf 0 = .ok (.iload_n 3, 1) := by decide +kernel
theorem dX12_letterOf_1 : decode cX12_letterOf 1 = .ok (.tableswitch 63 0 4 #[35, 37, 44, 51, 58], 35) := by decide +kernel
theorem dX12_letterOf_36 : decode cX12_letterOf 36 = .ok (.iload_n 1, 1) := by decide +kernel
theorem dX12_letterOf_37 : decode cX12_letterOf 37 = .ok (.ireturn, 1) := by decide +kernel
theorem dX12_letterOf_38 : decode cX12_letterOf 38 = .ok (.aload_n 0, 1) := by decide +kernel
theorem dX12_letterOf_39 : decode cX12_letterOf 39 = .ok (.getfield 18, 3) := by decide +kernel
theorem dX12_letterOf_42 : decode cX12_letterOf 42 = .ok (.iload_n 1, 1) := by decide +kernel
theorem dX12_letterOf_43 : decode cX12_letterOf 43 = .ok (.iaload, 1) := by decide +kernel
theorem dX12_letterOf_44 : decode cX12_letterOf 44 = .ok (.ireturn, 1) := by decide +kernel
theorem dX12_letterOf_45 : decode cX12_letterOf 45 = .ok (.aload_n 0, 1) := by decide +kernel
theorem dX12_letterOf_46 : decode cX12_letterOf 46 = .ok (.getfield 21, 3) := by decide +kernel
theorem dX12_letterOf_49 : decode cX12_letterOf 49 = .ok (.iload_n 1, 1) := by decide +kernel
theorem dX12_letterOf_50 : decode cX12_letterOf 50 = .ok (.iaload, 1) := by decide +kernel
theorem dX12_letterOf_51 : decode cX12_letterOf 51 = .ok (.ireturn, 1) := by decide +kernel
theorem dX12_letterOf_52 : decode cX12_letterOf 52 = .ok (.aload_n 0, 1) := by decide +kernel
theorem dX12_letterOf_53 : decode cX12_letterOf 53 = .ok (.getfield 27, 3) := by decide +kernel
theorem dX12_letterOf_56 : decode cX12_letterOf 56 = .ok (.iload_n 1, 1) := by decide +kernel
theorem dX12_letterOf_57 : decode cX12_letterOf 57 = .ok (.iaload, 1) := by decide +kernel
theorem dX12_letterOf_58 : decode cX12_letterOf 58 = .ok (.ireturn, 1) := by decide +kernel
theorem dX12_letterOf_59 : decode cX12_letterOf 59 = .ok (.iload_n 2, 1) := by decide +kernel
theorem dX12_letterOf_60 : decode cX12_letterOf 60 = .ok (.invokestatic 211, 3) := by decide +kernel
theorem dX12_letterOf_63 : decode cX12_letterOf 63 = .ok (.ireturn, 1) := by decide +kernel
theorem dX12_letterOf_64 : decode cX12_letterOf 64 = .ok (.aload_n 0, 1) := by decide +kernel
theorem dX12_letterOf_65 : decode cX12_letterOf 65 = .ok (.getfield 216, 3) := by decide +kernel
theorem dX12_letterOf_68 : decode cX12_letterOf 68 = .ok (.bipush 10, 2) := by decide +kernel
theorem dX12_letterOf_70 : decode cX12_letterOf 70 = .ok (.irem, 1) := by decide +kernel
theorem dX12_letterOf_71 : decode cX12_letterOf 71 = .ok (.ireturn, 1) := by decide +kernel
theorem dX12_isTrue_0 : decode cX12_isTrue 0 = .ok (.iconst 0, 1) := by decide +kernel
theorem dX12_isTrue_1 : decode cX12_isTrue 1 = .ok (.istore 4, 2) := by decide +kernel
theorem dX12_isTrue_3 : decode cX12_isTrue 3 = .ok (.aload_n 0, 1) := by decide +kernel
theorem dX12_isTrue_4 : decode cX12_isTrue 4 = .ok (.getfield 48, 3) := by decide +kernel
theorem dX12_isTrue_7 : decode cX12_isTrue 7 = .ok (.iload_n 3, 1) := by decide +kernel
theorem dX12_isTrue_8 : decode cX12_isTrue 8 = .ok (.iaload, 1) := by decide +kernel
theorem dX12_isTrue_9 : decode cX12_isTrue 9 = .ok (.istore 5, 2) := by decide +kernel
theorem dX12_isTrue_11 : decode cX12_isTrue 11 = .ok (.iload 5, 2) := by decide +kernel
theorem dX12_isTrue_13 : decode cX12_isTrue 13 = .ok (.aload_n 0, 1) := by decide +kernel
theorem dX12_isTrue_14 : decode cX12_isTrue 14 = .ok (.getfield 48, 3) := by decide +kernel
theorem dX12_isTrue_17 : decode cX12_isTrue 17 = .ok (.iload_n 3, 1) := by decide +kernel
theorem dX12_isTrue_18 : decode cX12_isTrue 18 = .ok (.iaload, 1) := by decide +kernel
theorem dX12_isTrue_19 : decode cX12_isTrue 19 = .ok (.aload_n 0, 1) := by decide +kernel
theorem dX12_isTrue_20 : decode cX12_isTrue 20 = .ok (.getfield 51, 3) := by decide +kernel
theorem dX12_isTrue_23 : decode cX12_isTrue 23 = .ok (.iload_n 3, 1) := by decide +kernel
theorem dX12_isTrue_24 : decode cX12_isTrue 24 = .ok (.iaload, 1) := by decide +kernel
theorem dX12_isTrue_25 : decode cX12_isTrue 25 = .ok (.iadd, 1) := by decide +kernel
theorem dX12_isTrue_26 : decode cX12_isTrue 26 = .ok (.if_icmp .ge 235, 3) := by decide +kernel
theorem dX12_isTrue_29 : decode cX12_isTrue 29 = .ok (.aload_n 0, 1) := by decide +kernel
theorem dX12_isTrue_30 : decode cX12_isTrue 30 = .ok (.getfield 54, 3) := by decide +kernel
theorem dX12_isTrue_33 : decode cX12_isTrue 33 = .ok (.iload 5, 2) := by decide +kernel
theorem dX12_isTrue_35 : decode cX12_isTrue 35 = .ok (.iaload, 1) := by decide +kernel
theorem dX12_isTrue_36 : decode cX12_isTrue 36 = .ok (.istore 6, 2) := by decide +kernel
theorem dX12_isTrue_38 : decode cX12_isTrue 38 = .ok (.iload 6, 2) := by decide +kernel
theorem dX12_isTrue_40 : decode cX12_isTrue 40 = .ok (.iconst 3, 1) := by decide +kernel
theorem dX12_isTrue_41 : decode cX12_isTrue 41 = .ok (.if_icmp .lt 105, 3) := by decide +kernel
theorem dX12_isTrue_44 : decode cX12_isTrue 44 = .ok (.aload_n 0, 1) := by decide +kernel
theorem dX12_isTrue_45 : decode cX12_isTrue 45 = .ok (.iload_n 1, 1) := by decide +kernel
theorem dX12_isTrue_46 : decode cX12_isTrue 46 = .ok (.iload_n 2, 1) := by decide +kernel
theorem dX12_isTrue_47 : decode cX12_isTrue 47 = .ok (.iload 6, 2) := by decide +kernel
theorem dX12_isTrue_49 : decode cX12_isTrue 49 = .ok (.iconst 3, 1) := by decide +kernel
theorem dX12_isTrue_50 : decode cX12_isTrue 50 = .ok (.isub, 1) := by decide +kernel
theorem dX12_isTrue_51 : decode cX12_isTrue 51 = .ok (.sipush 300, 3) := by decide +kernel
theorem dX12_isTrue_54 : decode cX12_isTrue 54 = .ok (.idiv, 1) := by decide +kernel
theorem dX12_isTrue_55 : decode cX12_isTrue 55 = .ok (.invokevirtual 219, 3) := by decide +kernel
theorem dX12_isTrue_58 : decode cX12_isTrue 58 = .ok (.istore 7, 2) := by decide +kernel
theorem dX12_isTrue_60 : decode cX12_isTrue 60 = .ok (.iload 6, 2) := by decide +kernel
theorem dX12_isTrue_62 : decode cX12_isTrue 62 = .ok (.iconst 3, 1) := by decide +kernel
theorem dX12_isTrue_63 : decode cX12_isTrue 63 = .ok (.isub, 1) := by decide +kernel
theorem dX12_isTrue_64 : decode cX12_isTrue 64 = .ok (.bipush 100, 2) := by decide +kernel
theorem dX12_isTrue_66 : decode cX12_isTrue 66 = .ok (.irem, 1) := by decide +kernel
theorem dX12_isTrue_67 : decode cX12_isTrue 67 = .ok (.istore 8, 2) := by decide +kernel
theorem dX12_isTrue_69 : decode cX12_isTrue 69 = .ok (.iload 6, 2) := by decide +kernel
theorem dX12_isTrue_71 : decode cX12_isTrue 71 = .ok (.iconst 3, 1) := by decide +kernel
theorem dX12_isTrue_72 : decode cX12_isTrue 72 = .ok (.isub, 1) := by decide +kernel
theorem dX12_isTrue_73 : decode cX12_isTrue 73 = .ok (.bipush 100, 2) := by decide +kernel
theorem dX12_isTrue_75 : decode cX12_isTrue 75 = .ok (.idiv, 1) := by decide +kernel
theorem dX12_isTrue_76 : decode cX12_isTrue 76 = .ok (.iconst 3, 1) := by decide +kernel
theorem dX12_isTrue_77 : decode cX12_isTrue 77 = .ok (.irem, 1) := by decide +kernel
theorem dX12_isTrue_78 : decode cX12_isTrue 78 = .ok (.istore 9, 2) := by decide +kernel
theorem dX12_isTrue_80 : decode cX12_isTrue 80 = .ok (.aload_n 0, 1) := by decide +kernel
theorem dX12_isTrue_81 : decode cX12_isTrue 81 = .ok (.getfield 57, 3) := by decide +kernel
theorem dX12_isTrue_84 : decode cX12_isTrue 84 = .ok (.iload 4, 2) := by decide +kernel
theorem dX12_isTrue_86 : decode cX12_isTrue 86 = .ok (.iinc 4 1, 3) := by decide +kernel
theorem dX12_isTrue_89 : decode cX12_isTrue 89 = .ok (.iload 9, 2) := by decide +kernel
theorem dX12_isTrue_91 : decode cX12_isTrue 91 = .ok (.ifCond .ne 18, 3) := by decide +kernel
theorem dX12_isTrue_94 : decode cX12_isTrue 94 = .ok (.iload 7, 2) := by decide +kernel
theorem dX12_isTrue_96 : decode cX12_isTrue 96 = .ok (.iload 8, 2) := by decide +kernel
theorem dX12_isTrue_98 : decode cX12_isTrue 98 = .ok (.if_icmp .ge 7, 3) := by decide +kernel
theorem dX12_isTrue_101 : decode cX12_isTrue 101 = .ok (.iconst 1, 1) := by decide +kernel
theorem dX12_isTrue_102 : decode cX12_isTrue 102 = .ok (.goto 40, 3) := by decide +kernel
theorem dX12_isTrue_105 : decode cX12_isTrue 105 = .ok (.iconst 0, 1) := by decide +kernel
theorem dX12_isTrue_106 : decode cX12_isTrue 106 = .ok (.goto 36, 3) := by decide +kernel
theorem dX12_isTrue_109 : decode cX12_isTrue 109 = .ok (.iload 9, 2) := by decide +kernel
theorem dX12_isTrue_111 : decode cX12_isTrue 111 = .ok (.iconst 1, 1) := by decide +kernel
theorem dX12_isTrue_112 : decode cX12_isTrue 112 = .ok (.if_icmp .ne 18, 3) := by decide +kernel
theorem dX12_isTrue_115 : decode cX12_isTrue 115 = .ok (.iload 7, 2) := by decide +kernel
theorem dX12_isTrue_117 : decode cX12_isTrue 117 = .ok (.iload 8, 2) := by decide +kernel
theorem dX12_isTrue_119 : decode cX12_isTrue 119 = .ok (.if_icmp .ne 7, 3) := by decide +kernel
theorem dX12_isTrue_122 : decode cX12_isTrue 122 = .ok (.iconst 1, 1) := by decide +kernel
theorem dX12_isTrue_123 : decode cX12_isTrue 123 = .ok (.goto 19, 3) := by decide +kernel
theorem dX12_isTrue_126 : decode cX12_isTrue 126 = .ok (.iconst 0, 1) := by decide +kernel
theorem dX12_isTrue_127 : decode cX12_isTrue 127 = .ok (.goto 15, 3) := by decide +kernel
theorem dX12_isTrue_130 : decode cX12_isTrue 130 = .ok (.iload 7, 2) := by decide +kernel
theorem dX12_isTrue_132 : decode cX12_isTrue 132 = .ok (.iload 8, 2) := by decide +kernel
theorem dX12_isTrue_134 : decode cX12_isTrue 134 = .ok (.if_icmp .le 7, 3) := by decide +kernel
theorem dX12_isTrue_137 : decode cX12_isTrue 137 = .ok (.iconst 1, 1) := by decide +kernel
theorem dX12_isTrue_138 : decode cX12_isTrue 138 = .ok (.goto 4, 3) := by decide +kernel
theorem dX12_isTrue_141 : decode cX12_isTrue 141 = .ok (.iconst 0, 1) := by decide +kernel
theorem dX12_isTrue_142 : decode cX12_isTrue 142 = .ok (.bastore, 1) := by decide +kernel
theorem dX12_isTrue_143 : decode cX12_isTrue 143 = .ok (.goto 112, 3) := by decide +kernel
theorem dX12_isTrue_146 : decode cX12_isTrue 146 = .ok (.iload 6, 2) := by decide +kernel
theorem dX12_isTrue_148 : decode cX12_isTrue 148 = .ok (.ifCond .ne 32, 3) := by decide +kernel
theorem dX12_isTrue_151 : decode cX12_isTrue 151 = .ok (.aload_n 0, 1) := by decide +kernel
theorem dX12_isTrue_152 : decode cX12_isTrue 152 = .ok (.getfield 57, 3) := by decide +kernel
theorem dX12_isTrue_155 : decode cX12_isTrue 155 = .ok (.iload 4, 2) := by decide +kernel
theorem dX12_isTrue_157 : decode cX12_isTrue 157 = .ok (.iconst 1, 1) := by decide +kernel
theorem dX12_isTrue_158 : decode cX12_isTrue 158 = .ok (.isub, 1) := by decide +kernel
theorem dX12_isTrue_159 : decode cX12_isTrue 159 = .ok (.aload_n 0, 1) := by decide +kernel
theorem dX12_isTrue_160 : decode cX12_isTrue 160 = .ok (.getfield 57, 3) := by decide +kernel
theorem dX12_isTrue_163 : decode cX12_isTrue 163 = .ok (.iload 4, 2) := by decide +kernel
theorem dX12_isTrue_165 : decode cX12_isTrue 165 = .ok (.iconst 1, 1) := by decide +kernel
theorem dX12_isTrue_166 : decode cX12_isTrue 166 = .ok (.isub, 1) := by decide +kernel
theorem dX12_isTrue_167 : decode cX12_isTrue 167 = .ok (.baload, 1) := by decide +kernel
theorem dX12_isTrue_168 : decode cX12_isTrue 168 = .ok (.ifCond .ne 7, 3) := by decide +kernel
theorem dX12_isTrue_171 : decode cX12_isTrue 171 = .ok (.iconst 1, 1) := by decide +kernel
theorem dX12_isTrue_172 : decode cX12_isTrue 172 = .ok (.goto 4, 3) := by decide +kernel
theorem dX12_isTrue_175 : decode cX12_isTrue 175 = .ok (.iconst 0, 1) := by decide +kernel
theorem dX12_isTrue_176 : decode cX12_isTrue 176 = .ok (.bastore, 1) := by decide +kernel
theorem dX12_isTrue_177 : decode cX12_isTrue 177 = .ok (.goto 78, 3) := by decide +kernel
theorem dX12_isTrue_180 : decode cX12_isTrue 180 = .ok (.iinc 4 (-1), 3) := by decide +kernel
theorem dX12_isTrue_183 : decode cX12_isTrue 183 = .ok (.aload_n 0, 1) := by decide +kernel
theorem dX12_isTrue_184 : decode cX12_isTrue 184 = .ok (.getfield 57, 3) := by decide +kernel
theorem dX12_isTrue_187 : decode cX12_isTrue 187 = .ok (.iload 4, 2) := by decide +kernel
theorem dX12_isTrue_189 : decode cX12_isTrue 189 = .ok (.iconst 1, 1) := by decide +kernel
theorem dX12_isTrue_190 : decode cX12_isTrue 190 = .ok (.isub, 1) := by decide +kernel
theorem dX12_isTrue_191 : decode cX12_isTrue 191 = .ok (.iload 6, 2) := by decide +kernel
theorem dX12_isTrue_193 : decode cX12_isTrue 193 = .ok (.iconst 1, 1) := by decide +kernel
theorem dX12_isTrue_194 : decode cX12_isTrue 194 = .ok (.if_icmp .ne 33, 3) := by decide +kernel
theorem dX12_isTrue_197 : decode cX12_isTrue 197 = .ok (.aload_n 0, 1) := by decide +kernel
theorem dX12_isTrue_198 : decode cX12_isTrue 198 = .ok (.getfield 57, 3) := by decide +kernel
theorem dX12_isTrue_201 : decode cX12_isTrue 201 = .ok (.iload 4, 2) := by decide +kernel
theorem dX12_isTrue_203 : decode cX12_isTrue 203 = .ok (.iconst 1, 1) := by decide +kernel
theorem dX12_isTrue_204 : decode cX12_isTrue 204 = .ok (.isub, 1) := by decide +kernel
theorem dX12_isTrue_205 : decode cX12_isTrue 205 = .ok (.baload, 1) := by decide +kernel
theorem dX12_isTrue_206 : decode cX12_isTrue 206 = .ok (.ifCond .eq 17, 3) := by decide +kernel
theorem dX12_isTrue_209 : decode cX12_isTrue 209 = .ok (.aload_n 0, 1) := by decide +kernel
theorem dX12_isTrue_210 : decode cX12_isTrue 210 = .ok (.getfield 57, 3) := by decide +kernel
theorem dX12_isTrue_213 : decode cX12_isTrue 213 = .ok (.iload 4, 2) := by decide +kernel
theorem dX12_isTrue_215 : decode cX12_isTrue 215 = .ok (.baload, 1) := by decide +kernel
theorem dX12_isTrue_216 : decode cX12_isTrue 216 = .ok (.ifCond .eq 7, 3) := by decide +kernel
theorem dX12_isTrue_219 : decode cX12_isTrue 219 = .ok (.iconst 1, 1) := by decide +kernel
theorem dX12_isTrue_220 : decode cX12_isTrue 220 = .ok (.goto 34, 3) := by decide +kernel
theorem dX12_isTrue_223 : decode cX12_isTrue 223 = .ok (.iconst 0, 1) := by decide +kernel
theorem dX12_isTrue_224 : decode cX12_isTrue 224 = .ok (.goto 30, 3) := by decide +kernel
theorem dX12_isTrue_227 : decode cX12_isTrue 227 = .ok (.aload_n 0, 1) := by decide +kernel
theorem dX12_isTrue_228 : decode cX12_isTrue 228 = .ok (.getfield 57, 3) := by decide +kernel
theorem dX12_isTrue_231 : decode cX12_isTrue 231 = .ok (.iload 4, 2) := by decide +kernel
theorem dX12_isTrue_233 : decode cX12_isTrue 233 = .ok (.iconst 1, 1) := by decide +kernel
theorem dX12_isTrue_234 : decode cX12_isTrue 234 = .ok (.isub, 1) := by decide +kernel
theorem dX12_isTrue_235 : decode cX12_isTrue 235 = .ok (.baload, 1) := by decide +kernel
theorem dX12_isTrue_236 : decode cX12_isTrue 236 = .ok (.ifCond .ne 13, 3) := by decide +kernel
theorem dX12_isTrue_239 : decode cX12_isTrue 239 = .ok (.aload_n 0, 1) := by decide +kernel
theorem dX12_isTrue_240 : decode cX12_isTrue 240 = .ok (.getfield 57, 3) := by decide +kernel
theorem dX12_isTrue_243 : decode cX12_isTrue 243 = .ok (.iload 4, 2) := by decide +kernel
theorem dX12_isTrue_245 : decode cX12_isTrue 245 = .ok (.baload, 1) := by decide +kernel
theorem dX12_isTrue_246 : decode cX12_isTrue 246 = .ok (.ifCond .eq 7, 3) := by decide +kernel
theorem dX12_isTrue_249 : decode cX12_isTrue 249 = .ok (.iconst 1, 1) := by decide +kernel
theorem dX12_isTrue_250 : decode cX12_isTrue 250 = .ok (.goto 4, 3) := by decide +kernel
theorem dX12_isTrue_253 : decode cX12_isTrue 253 = .ok (.iconst 0, 1) := by decide +kernel
theorem dX12_isTrue_254 : decode cX12_isTrue 254 = .ok (.bastore, 1) := by decide +kernel
theorem dX12_isTrue_255 : decode cX12_isTrue 255 = .ok (.iinc 5 1, 3) := by decide +kernel
theorem dX12_isTrue_258 : decode cX12_isTrue 258 = .ok (.goto (-247), 3) := by decide +kernel
theorem dX12_isTrue_261 : decode cX12_isTrue 261 = .ok (.aload_n 0, 1) := by decide +kernel
theorem dX12_isTrue_262 : decode cX12_isTrue 262 = .ok (.getfield 57, 3) := by decide +kernel
theorem dX12_isTrue_265 : decode cX12_isTrue 265 = .ok (.iconst 0, 1) := by decide +kernel
theorem dX12_isTrue_266 : decode cX12_isTrue 266 = .ok (.baload, 1) := by decide +kernel
theorem dX12_isTrue_267 : decode cX12_isTrue 267 = .ok (.ireturn, 1) := by decide +kernel
theorem dX12_sum_0 : decode cX12_sum 0 = .ok (.aload_n 0, 1) := by decide +kernel
theorem dX12_sum_1 : decode cX12_sum 1 = .ok (.getfield 27, 3) := by decide +kernel
theorem dX12_sum_4 : decode cX12_sum 4 = .ok (.iload_n 1, 1) := by decide +kernel
theorem dX12_sum_5 : decode cX12_sum 5 = .ok (.iaload, 1) := by decide +kernel
theorem dX12_sum_6 : decode cX12_sum 6 = .ok (.ineg, 1) := by decide +kernel
theorem dX12_sum_7 : decode cX12_sum 7 = .ok (.istore_n 3, 1) := by decide +kernel
theorem dX12_sum_8 : decode cX12_sum 8 = .ok (.iconst 0, 1) := by decide +kernel
theorem dX12_sum_9 : decode cX12_sum 9 = .ok (.istore 4, 2) := by decide +kernel
theorem dX12_sum_11 : decode cX12_sum 11 = .ok (.iload 4, 2) := by decide +kernel
theorem dX12_sum_13 : decode cX12_sum 13 = .ok (.bipush 12, 2) := by decide +kernel
theorem dX12_sum_15 : decode cX12_sum 15 = .ok (.if_icmp .ge 30, 3) := by decide +kernel
theorem dX12_sum_18 : decode cX12_sum 18 = .ok (.iload_n 2, 1) := by decide +kernel
theorem dX12_sum_19 : decode cX12_sum 19 = .ok (.iload 4, 2) := by decide +kernel
theorem dX12_sum_21 : decode cX12_sum 21 = .ok (.invokestatic 223, 3) := by decide +kernel
theorem dX12_sum_24 : decode cX12_sum 24 = .ok (.ifCond .eq 15, 3) := by decide +kernel
theorem dX12_sum_27 : decode cX12_sum 27 = .ok (.iload_n 3, 1) := by decide +kernel
theorem dX12_sum_28 : decode cX12_sum 28 = .ok (.aload_n 0, 1) := by decide +kernel
theorem dX12_sum_29 : decode cX12_sum 29 = .ok (.getfield 9, 3) := by decide +kernel
theorem dX12_sum_32 : decode cX12_sum 32 = .ok (.iload 4, 2) := by decide +kernel
theorem dX12_sum_34 : decode cX12_sum 34 = .ok (.iaload, 1) := by decide +kernel
theorem dX12_sum_35 : decode cX12_sum 35 = .ok (.iconst 4, 1) := by decide +kernel
theorem dX12_sum_36 : decode cX12_sum 36 = .ok (.isub, 1) := by decide +kernel
theorem dX12_sum_37 : decode cX12_sum 37 = .ok (.iadd, 1) := by decide +kernel
theorem dX12_sum_38 : decode cX12_sum 38 = .ok (.istore_n 3, 1) := by decide +kernel
theorem dX12_sum_39 : decode cX12_sum 39 = .ok (.iinc 4 1, 3) := by decide +kernel
theorem dX12_sum_42 : decode cX12_sum 42 = .ok (.goto (-31), 3) := by decide +kernel
theorem dX12_sum_45 : decode cX12_sum 45 = .ok (.iconst 0, 1) := by decide +kernel
theorem dX12_sum_46 : decode cX12_sum 46 = .ok (.istore 4, 2) := by decide +kernel
theorem dX12_sum_48 : decode cX12_sum 48 = .ok (.aload_n 0, 1) := by decide +kernel
theorem dX12_sum_49 : decode cX12_sum 49 = .ok (.getfield 101, 3) := by decide +kernel
theorem dX12_sum_52 : decode cX12_sum 52 = .ok (.iconst (-1), 1) := by decide +kernel
theorem dX12_sum_53 : decode cX12_sum 53 = .ok (.if_icmp .eq 88, 3) := by decide +kernel
theorem dX12_sum_56 : decode cX12_sum 56 = .ok (.iload 4, 2) := by decide +kernel
theorem dX12_sum_58 : decode cX12_sum 58 = .ok (.aload_n 0, 1) := by decide +kernel
theorem dX12_sum_59 : decode cX12_sum 59 = .ok (.getfield 39, 3) := by decide +kernel
theorem dX12_sum_62 : decode cX12_sum 62 = .ok (.aload_n 0, 1) := by decide +kernel
theorem dX12_sum_63 : decode cX12_sum 63 = .ok (.getfield 101, 3) := by decide +kernel
theorem dX12_sum_66 : decode cX12_sum 66 = .ok (.iaload, 1) := by decide +kernel
theorem dX12_sum_67 : decode cX12_sum 67 = .ok (.if_icmp .ge 74, 3) := by decide +kernel
theorem dX12_sum_70 : decode cX12_sum 70 = .ok (.bipush 10, 2) := by decide +kernel
theorem dX12_sum_72 : decode cX12_sum 72 = .ok (.aload_n 0, 1) := by decide +kernel
theorem dX12_sum_73 : decode cX12_sum 73 = .ok (.getfield 101, 3) := by decide +kernel
theorem dX12_sum_76 : decode cX12_sum 76 = .ok (.imul, 1) := by decide +kernel
theorem dX12_sum_77 : decode cX12_sum 77 = .ok (.iload 4, 2) := by decide +kernel
theorem dX12_sum_79 : decode cX12_sum 79 = .ok (.iadd, 1) := by decide +kernel
theorem dX12_sum_80 : decode cX12_sum 80 = .ok (.istore 5, 2) := by decide +kernel
theorem dX12_sum_82 : decode cX12_sum 82 = .ok (.aload_n 0, 1) := by decide +kernel
theorem dX12_sum_83 : decode cX12_sum 83 = .ok (.getfield 42, 3) := by decide +kernel
theorem dX12_sum_86 : decode cX12_sum 86 = .ok (.iload 5, 2) := by decide +kernel
theorem dX12_sum_88 : decode cX12_sum 88 = .ok (.iaload, 1) := by decide +kernel
theorem dX12_sum_89 : decode cX12_sum 89 = .ok (.iconst 2, 1) := by decide +kernel
theorem dX12_sum_90 : decode cX12_sum 90 = .ok (.if_icmp .ge 45, 3) := by decide +kernel
theorem dX12_sum_93 : decode cX12_sum 93 = .ok (.aload_n 0, 1) := by decide +kernel
theorem dX12_sum_94 : decode cX12_sum 94 = .ok (.iload_n 1, 1) := by decide +kernel
theorem dX12_sum_95 : decode cX12_sum 95 = .ok (.iload_n 2, 1) := by decide +kernel
theorem dX12_sum_96 : decode cX12_sum 96 = .ok (.iload 5, 2) := by decide +kernel
theorem dX12_sum_98 : decode cX12_sum 98 = .ok (.invokevirtual 227, 3) := by decide +kernel
theorem dX12_sum_101 : decode cX12_sum 101 = .ok (.ifCond .eq 34, 3) := by decide +kernel
theorem dX12_sum_104 : decode cX12_sum 104 = .ok (.iload_n 3, 1) := by decide +kernel
theorem dX12_sum_105 : decode cX12_sum 105 = .ok (.aload_n 0, 1) := by decide +kernel
theorem dX12_sum_106 : decode cX12_sum 106 = .ok (.getfield 42, 3) := by decide +kernel
theorem dX12_sum_109 : decode cX12_sum 109 = .ok (.iload 5, 2) := by decide +kernel
theorem dX12_sum_111 : decode cX12_sum 111 = .ok (.iaload, 1) := by decide +kernel
theorem dX12_sum_112 : decode cX12_sum 112 = .ok (.ifCond .ne 13, 3) := by decide +kernel
theorem dX12_sum_115 : decode cX12_sum 115 = .ok (.aload_n 0, 1) := by decide +kernel
theorem dX12_sum_116 : decode cX12_sum 116 = .ok (.getfield 45, 3) := by decide +kernel
theorem dX12_sum_119 : decode cX12_sum 119 = .ok (.iload 5, 2) := by decide +kernel
theorem dX12_sum_121 : decode cX12_sum 121 = .ok (.iaload, 1) := by decide +kernel
theorem dX12_sum_122 : decode cX12_sum 122 = .ok (.goto 11, 3) := by decide +kernel
theorem dX12_sum_125 : decode cX12_sum 125 = .ok (.aload_n 0, 1) := by decide +kernel
theorem dX12_sum_126 : decode cX12_sum 126 = .ok (.getfield 45, 3) := by decide +kernel
theorem dX12_sum_129 : decode cX12_sum 129 = .ok (.iload 5, 2) := by decide +kernel
theorem dX12_sum_131 : decode cX12_sum 131 = .ok (.iaload, 1) := by decide +kernel
theorem dX12_sum_132 : decode cX12_sum 132 = .ok (.ineg, 1) := by decide +kernel
theorem dX12_sum_133 : decode cX12_sum 133 = .ok (.iadd, 1) := by decide +kernel
theorem dX12_sum_134 : decode cX12_sum 134 = .ok (.istore_n 3, 1) := by decide +kernel
theorem dX12_sum_135 : decode cX12_sum 135 = .ok (.iinc 4 1, 3) := by decide +kernel
theorem dX12_sum_138 : decode cX12_sum 138 = .ok (.goto (-90), 3) := by decide +kernel
theorem dX12_sum_141 : decode cX12_sum 141 = .ok (.iload_n 3, 1) := by decide +kernel
theorem dX12_sum_142 : decode cX12_sum 142 = .ok (.ireturn, 1) := by decide +kernel
theorem dX12_restBy_0 : decode cX12_restBy 0 = .ok (.iconst 1, 1) := by decide +kernel
theorem dX12_restBy_1 : decode cX12_restBy 1 = .ok (.istore_n 1, 1) := by decide +kernel
theorem dX12_restBy_2 : decode cX12_restBy 2 = .ok (.iconst 0, 1) := by decide +kernel
theorem dX12_restBy_3 : decode cX12_restBy 3 = .ok (.istore_n 2, 1) := by decide +kernel
theorem dX12_restBy_4 : decode cX12_restBy 4 = .ok (.aload_n 0, 1) := by decide +kernel
theorem dX12_restBy_5 : decode cX12_restBy 5 = .ok (.getfield 101, 3) := by decide +kernel
theorem dX12_restBy_8 : decode cX12_restBy 8 = .ok (.iconst (-1), 1) := by decide +kernel
theorem dX12_restBy_9 : decode cX12_restBy 9 = .ok (.if_icmp .eq 55, 3) := by decide +kernel
theorem dX12_restBy_12 : decode cX12_restBy 12 = .ok (.iload_n 2, 1) := by decide +kernel
theorem dX12_restBy_13 : decode cX12_restBy 13 = .ok (.aload_n 0, 1) := by decide +kernel
theorem dX12_restBy_14 : decode cX12_restBy 14 = .ok (.getfield 39, 3) := by decide +kernel
theorem dX12_restBy_17 : decode cX12_restBy 17 = .ok (.aload_n 0, 1) := by decide +kernel
theorem dX12_restBy_18 : decode cX12_restBy 18 = .ok (.getfield 101, 3) := by decide +kernel
theorem dX12_restBy_21 : decode cX12_restBy 21 = .ok (.iaload, 1) := by decide +kernel
theorem dX12_restBy_22 : decode cX12_restBy 22 = .ok (.if_icmp .ge 42, 3) := by decide +kernel
theorem dX12_restBy_25 : decode cX12_restBy 25 = .ok (.aload_n 0, 1) := by decide +kernel
theorem dX12_restBy_26 : decode cX12_restBy 26 = .ok (.getfield 42, 3) := by decide +kernel
theorem dX12_restBy_29 : decode cX12_restBy 29 = .ok (.bipush 10, 2) := by decide +kernel
theorem dX12_restBy_31 : decode cX12_restBy 31 = .ok (.aload_n 0, 1) := by decide +kernel
theorem dX12_restBy_32 : decode cX12_restBy 32 = .ok (.getfield 101, 3) := by decide +kernel
theorem dX12_restBy_35 : decode cX12_restBy 35 = .ok (.imul, 1) := by decide +kernel
theorem dX12_restBy_36 : decode cX12_restBy 36 = .ok (.iload_n 2, 1) := by decide +kernel
theorem dX12_restBy_37 : decode cX12_restBy 37 = .ok (.iadd, 1) := by decide +kernel
theorem dX12_restBy_38 : decode cX12_restBy 38 = .ok (.iaload, 1) := by decide +kernel
theorem dX12_restBy_39 : decode cX12_restBy 39 = .ok (.iconst 2, 1) := by decide +kernel
theorem dX12_restBy_40 : decode cX12_restBy 40 = .ok (.if_icmp .ne 18, 3) := by decide +kernel
theorem dX12_restBy_43 : decode cX12_restBy 43 = .ok (.aload_n 0, 1) := by decide +kernel
theorem dX12_restBy_44 : decode cX12_restBy 44 = .ok (.getfield 45, 3) := by decide +kernel
theorem dX12_restBy_47 : decode cX12_restBy 47 = .ok (.bipush 10, 2) := by decide +kernel
theorem dX12_restBy_49 : decode cX12_restBy 49 = .ok (.aload_n 0, 1) := by decide +kernel
theorem dX12_restBy_50 : decode cX12_restBy 50 = .ok (.getfield 101, 3) := by decide +kernel
theorem dX12_restBy_53 : decode cX12_restBy 53 = .ok (.imul, 1) := by decide +kernel
theorem dX12_restBy_54 : decode cX12_restBy 54 = .ok (.iload_n 2, 1) := by decide +kernel
theorem dX12_restBy_55 : decode cX12_restBy 55 = .ok (.iadd, 1) := by decide +kernel
theorem dX12_restBy_56 : decode cX12_restBy 56 = .ok (.iaload, 1) := by decide +kernel
theorem dX12_restBy_57 : decode cX12_restBy 57 = .ok (.istore_n 1, 1) := by decide +kernel
theorem dX12_restBy_58 : decode cX12_restBy 58 = .ok (.iinc 2 1, 3) := by decide +kernel
theorem dX12_restBy_61 : decode cX12_restBy 61 = .ok (.goto (-57), 3) := by decide +kernel
theorem dX12_restBy_64 : decode cX12_restBy 64 = .ok (.iload_n 1, 1) := by decide +kernel
theorem dX12_restBy_65 : decode cX12_restBy 65 = .ok (.ireturn, 1) := by decide +kernel
theorem dX12_grimmest_0 : decode cX12_grimmest 0 = .ok (.bipush 9, 2) := by decide +kernel
theorem dX12_grimmest_2 : decode cX12_grimmest 2 = .ok (.istore_n 2, 1) := by decide +kernel
theorem dX12_grimmest_3 : decode cX12_grimmest 3 = .ok (.iconst 0, 1) := by decide +kernel
theorem dX12_grimmest_4 : decode cX12_grimmest 4 = .ok (.istore_n 3, 1) := by decide +kernel
theorem dX12_grimmest_5 : decode cX12_grimmest 5 = .ok (.iload_n 3, 1) := by decide +kernel
theorem dX12_grimmest_6 : decode cX12_grimmest 6 = .ok (.bipush 12, 2) := by decide +kernel
theorem dX12_grimmest_8 : decode cX12_grimmest 8 = .ok (.if_icmp .ge 28, 3) := by decide +kernel
theorem dX12_grimmest_11 : decode cX12_grimmest 11 = .ok (.iload_n 1, 1) := by decide +kernel
theorem dX12_grimmest_12 : decode cX12_grimmest 12 = .ok (.iload_n 3, 1) := by decide +kernel
theorem dX12_grimmest_13 : decode cX12_grimmest 13 = .ok (.invokestatic 223, 3) := by decide +kernel
theorem dX12_grimmest_16 : decode cX12_grimmest 16 = .ok (.ifCond .eq 14, 3) := by decide +kernel
theorem dX12_grimmest_19 : decode cX12_grimmest 19 = .ok (.iload_n 2, 1) := by decide +kernel
theorem dX12_grimmest_20 : decode cX12_grimmest 20 = .ok (.aload_n 0, 1) := by decide +kernel
theorem dX12_grimmest_21 : decode cX12_grimmest 21 = .ok (.getfield 9, 3) := by decide +kernel
theorem dX12_grimmest_24 : decode cX12_grimmest 24 = .ok (.iload_n 3, 1) := by decide +kernel
theorem dX12_grimmest_25 : decode cX12_grimmest 25 = .ok (.iaload, 1) := by decide +kernel
theorem dX12_grimmest_26 : decode cX12_grimmest 26 = .ok (.invokestatic 230, 3) := by decide +kernel
theorem dX12_grimmest_29 : decode cX12_grimmest 29 = .ok (.istore_n 2, 1) := by decide +kernel
theorem dX12_grimmest_30 : decode cX12_grimmest 30 = .ok (.iinc 3 1, 3) := by decide +kernel
theorem dX12_grimmest_33 : decode cX12_grimmest 33 = .ok (.goto (-28), 3) := by decide +kernel
theorem dX12_grimmest_36 : decode cX12_grimmest 36 = .ok (.iload_n 1, 1) := by decide +kernel
theorem dX12_grimmest_37 : decode cX12_grimmest 37 = .ok (.ifCond .ne 7, 3) := by decide +kernel
theorem dX12_grimmest_40 : decode cX12_grimmest 40 = .ok (.iconst 0, 1) := by decide +kernel
theorem dX12_grimmest_41 : decode cX12_grimmest 41 = .ok (.goto 4, 3) := by decide +kernel
theorem dX12_grimmest_44 : decode cX12_grimmest 44 = .ok (.iload_n 2, 1) := by decide +kernel
theorem dX12_grimmest_45 : decode cX12_grimmest 45 = .ok (.ireturn, 1) := by decide +kernel
theorem dX12_joyOf_0 : decode cX12_joyOf 0 = .ok (.aload_n 0, 1) := by decide +kernel
theorem dX12_joyOf_1 : decode cX12_joyOf 1 = .ok (.iload_n 1, 1) := by decide +kernel
theorem dX12_joyOf_2 : decode cX12_joyOf 2 = .ok (.iload_n 2, 1) := by decide +kernel
theorem dX12_joyOf_3 : decode cX12_joyOf 3 = .ok (.invokevirtual 235, 3) := by decide +kernel
theorem dX12_joyOf_6 : decode cX12_joyOf 6 = .ok (.istore_n 3, 1) := by decide +kernel
theorem dX12_joyOf_7 : decode cX12_joyOf 7 = .ok (.iload_n 3, 1) := by decide +kernel
theorem dX12_joyOf_8 : decode cX12_joyOf 8 = .ok (.aload_n 0, 1) := by decide +kernel
theorem dX12_joyOf_9 : decode cX12_joyOf 9 = .ok (.iload_n 2, 1) := by decide +kernel
theorem dX12_joyOf_10 : decode cX12_joyOf 10 = .ok (.invokevirtual 238, 3) := by decide +kernel
theorem dX12_joyOf_13 : decode cX12_joyOf 13 = .ok (.isub, 1) := by decide +kernel
theorem dX12_joyOf_14 : decode cX12_joyOf 14 = .ok (.istore 4, 2) := by decide +kernel
theorem dX12_joyOf_16 : decode cX12_joyOf 16 = .ok (.aload_n 0, 1) := by decide +kernel
theorem dX12_joyOf_17 : decode cX12_joyOf 17 = .ok (.getfield 18, 3) := by decide +kernel
theorem dX12_joyOf_20 : decode cX12_joyOf 20 = .ok (.iload_n 1, 1) := by decide +kernel
theorem dX12_joyOf_21 : decode cX12_joyOf 21 = .ok (.iaload, 1) := by decide +kernel
theorem dX12_joyOf_22 : decode cX12_joyOf 22 = .ok (.tableswitch 103 1 6 #[38, 47, 51, 54, 72, 84], 38) := by decide +kernel
theorem dX12_joyOf_60 : decode cX12_joyOf 60 = .ok (.iload_n 3, 1) := by decide +kernel
theorem dX12_joyOf_61 : decode cX12_joyOf 61 = .ok (.aload_n 0, 1) := by decide +kernel
theorem dX12_joyOf_62 : decode cX12_joyOf 62 = .ok (.getfield 21, 3) := by decide +kernel
theorem dX12_joyOf_65 : decode cX12_joyOf 65 = .ok (.iload_n 1, 1) := by decide +kernel
theorem dX12_joyOf_66 : decode cX12_joyOf 66 = .ok (.iaload, 1) := by decide +kernel
theorem dX12_joyOf_67 : decode cX12_joyOf 67 = .ok (.iadd, 1) := by decide +kernel
theorem dX12_joyOf_68 : decode cX12_joyOf 68 = .ok (.ireturn, 1) := by decide +kernel
theorem dX12_joyOf_69 : decode cX12_joyOf 69 = .ok (.iload_n 3, 1) := by decide +kernel
theorem dX12_joyOf_70 : decode cX12_joyOf 70 = .ok (.iconst 2, 1) := by decide +kernel
theorem dX12_joyOf_71 : decode cX12_joyOf 71 = .ok (.idiv, 1) := by decide +kernel
theorem dX12_joyOf_72 : decode cX12_joyOf 72 = .ok (.ireturn, 1) := by decide +kernel
theorem dX12_joyOf_73 : decode cX12_joyOf 73 = .ok (.iload 4, 2) := by decide +kernel
theorem dX12_joyOf_75 : decode cX12_joyOf 75 = .ok (.ireturn, 1) := by decide +kernel
theorem dX12_joyOf_76 : decode cX12_joyOf 76 = .ok (.iload_n 3, 1) := by decide +kernel
theorem dX12_joyOf_77 : decode cX12_joyOf 77 = .ok (.aload_n 0, 1) := by decide +kernel
theorem dX12_joyOf_78 : decode cX12_joyOf 78 = .ok (.getfield 21, 3) := by decide +kernel
theorem dX12_joyOf_81 : decode cX12_joyOf 81 = .ok (.iload_n 1, 1) := by decide +kernel
theorem dX12_joyOf_82 : decode cX12_joyOf 82 = .ok (.iaload, 1) := by decide +kernel
theorem dX12_joyOf_83 : decode cX12_joyOf 83 = .ok (.iadd, 1) := by decide +kernel
theorem dX12_joyOf_84 : decode cX12_joyOf 84 = .ok (.iconst 2, 1) := by decide +kernel
theorem dX12_joyOf_85 : decode cX12_joyOf 85 = .ok (.aload_n 0, 1) := by decide +kernel
theorem dX12_joyOf_86 : decode cX12_joyOf 86 = .ok (.getfield 27, 3) := by decide +kernel
theorem dX12_joyOf_89 : decode cX12_joyOf 89 = .ok (.iload_n 1, 1) := by decide +kernel
theorem dX12_joyOf_90 : decode cX12_joyOf 90 = .ok (.iaload, 1) := by decide +kernel
theorem dX12_joyOf_91 : decode cX12_joyOf 91 = .ok (.imul, 1) := by decide +kernel
theorem dX12_joyOf_92 : decode cX12_joyOf 92 = .ok (.isub, 1) := by decide +kernel
theorem dX12_joyOf_93 : decode cX12_joyOf 93 = .ok (.ireturn, 1) := by decide +kernel
theorem dX12_joyOf_94 : decode cX12_joyOf 94 = .ok (.iload_n 3, 1) := by decide +kernel
theorem dX12_joyOf_95 : decode cX12_joyOf 95 = .ok (.iconst 2, 1) := by decide +kernel
theorem dX12_joyOf_96 : decode cX12_joyOf 96 = .ok (.idiv, 1) := by decide +kernel
theorem dX12_joyOf_97 : decode cX12_joyOf 97 = .ok (.aload_n 0, 1) := by decide +kernel
theorem dX12_joyOf_98 : decode cX12_joyOf 98 = .ok (.getfield 241, 3) := by decide +kernel
theorem dX12_joyOf_101 : decode cX12_joyOf 101 = .ok (.invokestatic 211, 3) := by decide +kernel
theorem dX12_joyOf_104 : decode cX12_joyOf 104 = .ok (.iadd, 1) := by decide +kernel
theorem dX12_joyOf_105 : decode cX12_joyOf 105 = .ok (.ireturn, 1) := by decide +kernel
theorem dX12_joyOf_106 : decode cX12_joyOf 106 = .ok (.iload 4, 2) := by decide +kernel
theorem dX12_joyOf_108 : decode cX12_joyOf 108 = .ok (.aload_n 0, 1) := by decide +kernel
theorem dX12_joyOf_109 : decode cX12_joyOf 109 = .ok (.getfield 33, 3) := by decide +kernel
theorem dX12_joyOf_112 : decode cX12_joyOf 112 = .ok (.iconst 4, 1) := by decide +kernel
theorem dX12_joyOf_113 : decode cX12_joyOf 113 = .ok (.iload_n 1, 1) := by decide +kernel
theorem dX12_joyOf_114 : decode cX12_joyOf 114 = .ok (.imul, 1) := by decide +kernel
theorem dX12_joyOf_115 : decode cX12_joyOf 115 = .ok (.iload_n 2, 1) := by decide +kernel
theorem dX12_joyOf_116 : decode cX12_joyOf 116 = .ok (.invokestatic 211, 3) := by decide +kernel
theorem dX12_joyOf_119 : decode cX12_joyOf 119 = .ok (.iconst 4, 1) := by decide +kernel
theorem dX12_joyOf_120 : decode cX12_joyOf 120 = .ok (.irem, 1) := by decide +kernel
theorem dX12_joyOf_121 : decode cX12_joyOf 121 = .ok (.iadd, 1) := by decide +kernel
theorem dX12_joyOf_122 : decode cX12_joyOf 122 = .ok (.iaload, 1) := by decide +kernel
theorem dX12_joyOf_123 : decode cX12_joyOf 123 = .ok (.iadd, 1) := by decide +kernel
theorem dX12_joyOf_124 : decode cX12_joyOf 124 = .ok (.ireturn, 1) := by decide +kernel
theorem dX12_joyOf_125 : decode cX12_joyOf 125 = .ok (.iload_n 3, 1) := by decide +kernel
theorem dX12_joyOf_126 : decode cX12_joyOf 126 = .ok (.ireturn, 1) := by decide +kernel
theorem dX12_mayFly_0 : decode cX12_mayFly 0 = .ok (.aload_n 0, 1) := by decide +kernel
theorem dX12_mayFly_1 : decode cX12_mayFly 1 = .ok (.getfield 24, 3) := by decide +kernel
theorem dX12_mayFly_4 : decode cX12_mayFly 4 = .ok (.iload_n 1, 1) := by decide +kernel
theorem dX12_mayFly_5 : decode cX12_mayFly 5 = .ok (.iaload, 1) := by decide +kernel
theorem dX12_mayFly_6 : decode cX12_mayFly 6 = .ok (.ifCond .eq 21, 3) := by decide +kernel
theorem dX12_mayFly_9 : decode cX12_mayFly 9 = .ok (.aload_n 0, 1) := by decide +kernel
theorem dX12_mayFly_10 : decode cX12_mayFly 10 = .ok (.iload_n 1, 1) := by decide +kernel
theorem dX12_mayFly_11 : decode cX12_mayFly 11 = .ok (.aload_n 0, 1) := by decide +kernel
theorem dX12_mayFly_12 : decode cX12_mayFly 12 = .ok (.getfield 24, 3) := by decide +kernel
theorem dX12_mayFly_15 : decode cX12_mayFly 15 = .ok (.iload_n 1, 1) := by decide +kernel
theorem dX12_mayFly_16 : decode cX12_mayFly 16 = .ok (.iaload, 1) := by decide +kernel
theorem dX12_mayFly_17 : decode cX12_mayFly 17 = .ok (.invokevirtual 126, 3) := by decide +kernel
theorem dX12_mayFly_20 : decode cX12_mayFly 20 = .ok (.ifCond .le 7, 3) := by decide +kernel
theorem dX12_mayFly_23 : decode cX12_mayFly 23 = .ok (.iconst 1, 1) := by decide +kernel
theorem dX12_mayFly_24 : decode cX12_mayFly 24 = .ok (.goto 4, 3) := by decide +kernel
theorem dX12_mayFly_27 : decode cX12_mayFly 27 = .ok (.iconst 0, 1) := by decide +kernel
theorem dX12_mayFly_28 : decode cX12_mayFly 28 = .ok (.ireturn, 1) := by decide +kernel
theorem dX12_meant_0 : decode cX12_meant 0 = .ok (.iconst 0, 1) := by decide +kernel
theorem dX12_meant_1 : decode cX12_meant 1 = .ok (.istore_n 2, 1) := by decide +kernel
theorem dX12_meant_2 : decode cX12_meant 2 = .ok (.iconst 0, 1) := by decide +kernel
theorem dX12_meant_3 : decode cX12_meant 3 = .ok (.istore_n 3, 1) := by decide +kernel
theorem dX12_meant_4 : decode cX12_meant 4 = .ok (.iload_n 3, 1) := by decide +kernel
theorem dX12_meant_5 : decode cX12_meant 5 = .ok (.bipush 12, 2) := by decide +kernel
theorem dX12_meant_7 : decode cX12_meant 7 = .ok (.if_icmp .ge 26, 3) := by decide +kernel
theorem dX12_meant_10 : decode cX12_meant 10 = .ok (.iload_n 1, 1) := by decide +kernel
theorem dX12_meant_11 : decode cX12_meant 11 = .ok (.iload_n 3, 1) := by decide +kernel
theorem dX12_meant_12 : decode cX12_meant 12 = .ok (.invokestatic 223, 3) := by decide +kernel
theorem dX12_meant_15 : decode cX12_meant 15 = .ok (.ifCond .eq 12, 3) := by decide +kernel
theorem dX12_meant_18 : decode cX12_meant 18 = .ok (.iload_n 2, 1) := by decide +kernel
theorem dX12_meant_19 : decode cX12_meant 19 = .ok (.aload_n 0, 1) := by decide +kernel
theorem dX12_meant_20 : decode cX12_meant 20 = .ok (.getfield 15, 3) := by decide +kernel
theorem dX12_meant_23 : decode cX12_meant 23 = .ok (.iload_n 3, 1) := by decide +kernel
theorem dX12_meant_24 : decode cX12_meant 24 = .ok (.iaload, 1) := by decide +kernel
theorem dX12_meant_25 : decode cX12_meant 25 = .ok (.ior, 1) := by decide +kernel
theorem dX12_meant_26 : decode cX12_meant 26 = .ok (.istore_n 2, 1) := by decide +kernel
theorem dX12_meant_27 : decode cX12_meant 27 = .ok (.iinc 3 1, 3) := by decide +kernel
theorem dX12_meant_30 : decode cX12_meant 30 = .ok (.goto (-26), 3) := by decide +kernel
theorem dX12_meant_33 : decode cX12_meant 33 = .ok (.iload_n 2, 1) := by decide +kernel
theorem dX12_meant_34 : decode cX12_meant 34 = .ok (.ireturn, 1) := by decide +kernel
theorem dX12_goesDay_0 : decode cX12_goesDay 0 = .ok (.aload_n 0, 1) := by decide +kernel
theorem dX12_goesDay_1 : decode cX12_goesDay 1 = .ok (.invokevirtual 244, 3) := by decide +kernel
theorem dX12_goesDay_4 : decode cX12_goesDay 4 = .ok (.istore_n 1, 1) := by decide +kernel
theorem dX12_goesDay_5 : decode cX12_goesDay 5 = .ok (.iconst 0, 1) := by decide +kernel
theorem dX12_goesDay_6 : decode cX12_goesDay 6 = .ok (.istore_n 2, 1) := by decide +kernel
theorem dX12_goesDay_7 : decode cX12_goesDay 7 = .ok (.iload_n 2, 1) := by decide +kernel
theorem dX12_goesDay_8 : decode cX12_goesDay 8 = .ok (.aload_n 0, 1) := by decide +kernel
theorem dX12_goesDay_9 : decode cX12_goesDay 9 = .ok (.getfield 105, 3) := by decide +kernel
theorem dX12_goesDay_12 : decode cX12_goesDay 12 = .ok (.if_icmp .ge 93, 3) := by decide +kernel
theorem dX12_goesDay_15 : decode cX12_goesDay 15 = .ok (.aload_n 0, 1) := by decide +kernel
theorem dX12_goesDay_16 : decode cX12_goesDay 16 = .ok (.iload_n 2, 1) := by decide +kernel
theorem dX12_goesDay_17 : decode cX12_goesDay 17 = .ok (.invokevirtual 116, 3) := by decide +kernel
theorem dX12_goesDay_20 : decode cX12_goesDay 20 = .ok (.ifCond .ne 24, 3) := by decide +kernel
theorem dX12_goesDay_23 : decode cX12_goesDay 23 = .ok (.aload_n 0, 1) := by decide +kernel
theorem dX12_goesDay_24 : decode cX12_goesDay 24 = .ok (.getfield 27, 3) := by decide +kernel
theorem dX12_goesDay_27 : decode cX12_goesDay 27 = .ok (.iload_n 2, 1) := by decide +kernel
theorem dX12_goesDay_28 : decode cX12_goesDay 28 = .ok (.iconst 0, 1) := by decide +kernel
theorem dX12_goesDay_29 : decode cX12_goesDay 29 = .ok (.aload_n 0, 1) := by decide +kernel
theorem dX12_goesDay_30 : decode cX12_goesDay 30 = .ok (.getfield 27, 3) := by decide +kernel
theorem dX12_goesDay_33 : decode cX12_goesDay 33 = .ok (.iload_n 2, 1) := by decide +kernel
theorem dX12_goesDay_34 : decode cX12_goesDay 34 = .ok (.iaload, 1) := by decide +kernel
theorem dX12_goesDay_35 : decode cX12_goesDay 35 = .ok (.iload_n 1, 1) := by decide +kernel
theorem dX12_goesDay_36 : decode cX12_goesDay 36 = .ok (.isub, 1) := by decide +kernel
theorem dX12_goesDay_37 : decode cX12_goesDay 37 = .ok (.invokestatic 247, 3) := by decide +kernel
theorem dX12_goesDay_40 : decode cX12_goesDay 40 = .ok (.iastore, 1) := by decide +kernel
theorem dX12_goesDay_41 : decode cX12_goesDay 41 = .ok (.goto 58, 3) := by decide +kernel
theorem dX12_goesDay_44 : decode cX12_goesDay 44 = .ok (.aload_n 0, 1) := by decide +kernel
theorem dX12_goesDay_45 : decode cX12_goesDay 45 = .ok (.dup, 1) := by decide +kernel
theorem dX12_goesDay_46 : decode cX12_goesDay 46 = .ok (.getfield 241, 3) := by decide +kernel
theorem dX12_goesDay_49 : decode cX12_goesDay 49 = .ok (.aload_n 0, 1) := by decide +kernel
theorem dX12_goesDay_50 : decode cX12_goesDay 50 = .ok (.aload_n 0, 1) := by decide +kernel
theorem dX12_goesDay_51 : decode cX12_goesDay 51 = .ok (.getfield 24, 3) := by decide +kernel
theorem dX12_goesDay_54 : decode cX12_goesDay 54 = .ok (.iload_n 2, 1) := by decide +kernel
theorem dX12_goesDay_55 : decode cX12_goesDay 55 = .ok (.iaload, 1) := by decide +kernel
theorem dX12_goesDay_56 : decode cX12_goesDay 56 = .ok (.invokevirtual 250, 3) := by decide +kernel
theorem dX12_goesDay_59 : decode cX12_goesDay 59 = .ok (.ior, 1) := by decide +kernel
theorem dX12_goesDay_60 : decode cX12_goesDay 60 = .ok (.putfield 241, 3) := by decide +kernel
theorem dX12_goesDay_63 : decode cX12_goesDay 63 = .ok (.aload_n 0, 1) := by decide +kernel
theorem dX12_goesDay_64 : decode cX12_goesDay 64 = .ok (.getfield 24, 3) := by decide +kernel
theorem dX12_goesDay_67 : decode cX12_goesDay 67 = .ok (.iload_n 2, 1) := by decide +kernel
theorem dX12_goesDay_68 : decode cX12_goesDay 68 = .ok (.iconst 0, 1) := by decide +kernel
theorem dX12_goesDay_69 : decode cX12_goesDay 69 = .ok (.iastore, 1) := by decide +kernel
theorem dX12_goesDay_70 : decode cX12_goesDay 70 = .ok (.aload_n 0, 1) := by decide +kernel
theorem dX12_goesDay_71 : decode cX12_goesDay 71 = .ok (.getfield 27, 3) := by decide +kernel
theorem dX12_goesDay_74 : decode cX12_goesDay 74 = .ok (.iload_n 2, 1) := by decide +kernel
theorem dX12_goesDay_75 : decode cX12_goesDay 75 = .ok (.bipush 9, 2) := by decide +kernel
theorem dX12_goesDay_77 : decode cX12_goesDay 77 = .ok (.aload_n 0, 1) := by decide +kernel
theorem dX12_goesDay_78 : decode cX12_goesDay 78 = .ok (.getfield 27, 3) := by decide +kernel
theorem dX12_goesDay_81 : decode cX12_goesDay 81 = .ok (.iload_n 2, 1) := by decide +kernel
theorem dX12_goesDay_82 : decode cX12_goesDay 82 = .ok (.iaload, 1) := by decide +kernel
theorem dX12_goesDay_83 : decode cX12_goesDay 83 = .ok (.iconst 2, 1) := by decide +kernel
theorem dX12_goesDay_84 : decode cX12_goesDay 84 = .ok (.iadd, 1) := by decide +kernel
theorem dX12_goesDay_85 : decode cX12_goesDay 85 = .ok (.invokestatic 230, 3) := by decide +kernel
theorem dX12_goesDay_88 : decode cX12_goesDay 88 = .ok (.iastore, 1) := by decide +kernel
theorem dX12_goesDay_89 : decode cX12_goesDay 89 = .ok (.aload_n 0, 1) := by decide +kernel
theorem dX12_goesDay_90 : decode cX12_goesDay 90 = .ok (.getfield 30, 3) := by decide +kernel
theorem dX12_goesDay_93 : decode cX12_goesDay 93 = .ok (.iload_n 2, 1) := by decide +kernel
theorem dX12_goesDay_94 : decode cX12_goesDay 94 = .ok (.dup2, 1) := by decide +kernel
theorem dX12_goesDay_95 : decode cX12_goesDay 95 = .ok (.iaload, 1) := by decide +kernel
theorem dX12_goesDay_96 : decode cX12_goesDay 96 = .ok (.iconst 1, 1) := by decide +kernel
theorem dX12_goesDay_97 : decode cX12_goesDay 97 = .ok (.iadd, 1) := by decide +kernel
theorem dX12_goesDay_98 : decode cX12_goesDay 98 = .ok (.iastore, 1) := by decide +kernel
theorem dX12_goesDay_99 : decode cX12_goesDay 99 = .ok (.iinc 2 1, 3) := by decide +kernel
theorem dX12_goesDay_102 : decode cX12_goesDay 102 = .ok (.goto (-95), 3) := by decide +kernel
theorem dX12_goesDay_105 : decode cX12_goesDay 105 = .ok (.aload_n 0, 1) := by decide +kernel
theorem dX12_goesDay_106 : decode cX12_goesDay 106 = .ok (.dup, 1) := by decide +kernel
theorem dX12_goesDay_107 : decode cX12_goesDay 107 = .ok (.getfield 216, 3) := by decide +kernel
theorem dX12_goesDay_110 : decode cX12_goesDay 110 = .ok (.iconst 1, 1) := by decide +kernel
theorem dX12_goesDay_111 : decode cX12_goesDay 111 = .ok (.iadd, 1) := by decide +kernel
theorem dX12_goesDay_112 : decode cX12_goesDay 112 = .ok (.putfield 216, 3) := by decide +kernel
theorem dX12_goesDay_115 : decode cX12_goesDay 115 = .ok (.return_, 1) := by decide +kernel
theorem dX12_ready_0 : decode cX12_ready 0 = .ok (.iconst 0, 1) := by decide +kernel
theorem dX12_ready_1 : decode cX12_ready 1 = .ok (.istore_n 1, 1) := by decide +kernel
theorem dX12_ready_2 : decode cX12_ready 2 = .ok (.iconst 0, 1) := by decide +kernel
theorem dX12_ready_3 : decode cX12_ready 3 = .ok (.istore_n 2, 1) := by decide +kernel
theorem dX12_ready_4 : decode cX12_ready 4 = .ok (.iload_n 2, 1) := by decide +kernel
theorem dX12_ready_5 : decode cX12_ready 5 = .ok (.aload_n 0, 1) := by decide +kernel
theorem dX12_ready_6 : decode cX12_ready 6 = .ok (.getfield 105, 3) := by decide +kernel
theorem dX12_ready_9 : decode cX12_ready 9 = .ok (.if_icmp .ge 23, 3) := by decide +kernel
theorem dX12_ready_12 : decode cX12_ready 12 = .ok (.aload_n 0, 1) := by decide +kernel
theorem dX12_ready_13 : decode cX12_ready 13 = .ok (.iload_n 2, 1) := by decide +kernel
theorem dX12_ready_14 : decode cX12_ready 14 = .ok (.invokevirtual 116, 3) := by decide +kernel
theorem dX12_ready_17 : decode cX12_ready 17 = .ok (.ifCond .eq 9, 3) := by decide +kernel
theorem dX12_ready_20 : decode cX12_ready 20 = .ok (.iload_n 1, 1) := by decide +kernel
theorem dX12_ready_21 : decode cX12_ready 21 = .ok (.iconst 1, 1) := by decide +kernel
theorem dX12_ready_22 : decode cX12_ready 22 = .ok (.iload_n 2, 1) := by decide +kernel
theorem dX12_ready_23 : decode cX12_ready 23 = .ok (.ishl, 1) := by decide +kernel
theorem dX12_ready_24 : decode cX12_ready 24 = .ok (.ior, 1) := by decide +kernel
theorem dX12_ready_25 : decode cX12_ready 25 = .ok (.istore_n 1, 1) := by decide +kernel
theorem dX12_ready_26 : decode cX12_ready 26 = .ok (.iinc 2 1, 3) := by decide +kernel
theorem dX12_ready_29 : decode cX12_ready 29 = .ok (.goto (-25), 3) := by decide +kernel
theorem dX12_ready_32 : decode cX12_ready 32 = .ok (.iload_n 1, 1) := by decide +kernel
theorem dX12_ready_33 : decode cX12_ready 33 = .ok (.ireturn, 1) := by decide +kernel
theorem dX12_allFlown_0 : decode cX12_allFlown 0 = .ok (.iconst 0, 1) := by decide +kernel
theorem dX12_allFlown_1 : decode cX12_allFlown 1 = .ok (.istore_n 1, 1) := by decide +kernel
theorem dX12_allFlown_2 : decode cX12_allFlown 2 = .ok (.iconst 0, 1) := by decide +kernel
theorem dX12_allFlown_3 : decode cX12_allFlown 3 = .ok (.istore_n 2, 1) := by decide +kernel
theorem dX12_allFlown_4 : decode cX12_allFlown 4 = .ok (.iload_n 2, 1) := by decide +kernel
theorem dX12_allFlown_5 : decode cX12_allFlown 5 = .ok (.aload_n 0, 1) := by decide +kernel
theorem dX12_allFlown_6 : decode cX12_allFlown 6 = .ok (.getfield 105, 3) := by decide +kernel
theorem dX12_allFlown_9 : decode cX12_allFlown 9 = .ok (.if_icmp .ge 18, 3) := by decide +kernel
theorem dX12_allFlown_12 : decode cX12_allFlown 12 = .ok (.iload_n 1, 1) := by decide +kernel
theorem dX12_allFlown_13 : decode cX12_allFlown 13 = .ok (.aload_n 0, 1) := by decide +kernel
theorem dX12_allFlown_14 : decode cX12_allFlown 14 = .ok (.getfield 30, 3) := by decide +kernel
theorem dX12_allFlown_17 : decode cX12_allFlown 17 = .ok (.iload_n 2, 1) := by decide +kernel
theorem dX12_allFlown_18 : decode cX12_allFlown 18 = .ok (.iaload, 1) := by decide +kernel
theorem dX12_allFlown_19 : decode cX12_allFlown 19 = .ok (.iadd, 1) := by decide +kernel
theorem dX12_allFlown_20 : decode cX12_allFlown 20 = .ok (.istore_n 1, 1) := by decide +kernel
theorem dX12_allFlown_21 : decode cX12_allFlown 21 = .ok (.iinc 2 1, 3) := by decide +kernel
theorem dX12_allFlown_24 : decode cX12_allFlown 24 = .ok (.goto (-20), 3) := by decide +kernel
theorem dX12_allFlown_27 : decode cX12_allFlown 27 = .ok (.iload_n 1, 1) := by decide +kernel
theorem dX12_allFlown_28 : decode cX12_allFlown 28 = .ok (.ireturn, 1) := by decide +kernel
theorem dX12_told_0 : decode cX12_told 0 = .ok (.iload_n 1, 1) := by decide +kernel
theorem dX12_told_1 : decode cX12_told 1 = .ok (.bipush 10, 2) := by decide +kernel
theorem dX12_told_3 : decode cX12_told 3 = .ok (.isub, 1) := by decide +kernel
theorem dX12_told_4 : decode cX12_told 4 = .ok (.invokestatic 130, 3) := by decide +kernel
theorem dX12_told_7 : decode cX12_told 7 = .ok (.ifCond .eq 13, 3) := by decide +kernel
theorem dX12_told_10 : decode cX12_told 10 = .ok (.aload_n 0, 1) := by decide +kernel
theorem dX12_told_11 : decode cX12_told 11 = .ok (.getfield 9, 3) := by decide +kernel
theorem dX12_told_14 : decode cX12_told 14 = .ok (.iload_n 1, 1) := by decide +kernel
theorem dX12_told_15 : decode cX12_told 15 = .ok (.bipush 10, 2) := by decide +kernel
theorem dX12_told_17 : decode cX12_told 17 = .ok (.isub, 1) := by decide +kernel
theorem dX12_told_18 : decode cX12_told 18 = .ok (.iaload, 1) := by decide +kernel
theorem dX12_told_19 : decode cX12_told 19 = .ok (.ireturn, 1) := by decide +kernel
theorem dX12_told_20 : decode cX12_told 20 = .ok (.iload_n 1, 1) := by decide +kernel
theorem dX12_told_21 : decode cX12_told 21 = .ok (.bipush 30, 2) := by decide +kernel
theorem dX12_told_23 : decode cX12_told 23 = .ok (.isub, 1) := by decide +kernel
theorem dX12_told_24 : decode cX12_told 24 = .ok (.invokestatic 130, 3) := by decide +kernel
theorem dX12_told_27 : decode cX12_told 27 = .ok (.ifCond .eq 13, 3) := by decide +kernel
theorem dX12_told_30 : decode cX12_told 30 = .ok (.aload_n 0, 1) := by decide +kernel
theorem dX12_told_31 : decode cX12_told 31 = .ok (.getfield 15, 3) := by decide +kernel
theorem dX12_told_34 : decode cX12_told 34 = .ok (.iload_n 1, 1) := by decide +kernel
theorem dX12_told_35 : decode cX12_told 35 = .ok (.bipush 30, 2) := by decide +kernel
theorem dX12_told_37 : decode cX12_told 37 = .ok (.isub, 1) := by decide +kernel
theorem dX12_told_38 : decode cX12_told 38 = .ok (.iaload, 1) := by decide +kernel
theorem dX12_told_39 : decode cX12_told 39 = .ok (.ireturn, 1) := by decide +kernel
theorem dX12_told_40 : decode cX12_told 40 = .ok (.iload_n 1, 1) := by decide +kernel
theorem dX12_told_41 : decode cX12_told 41 = .ok (.bipush 50, 2) := by decide +kernel
theorem dX12_told_43 : decode cX12_told 43 = .ok (.bipush 57, 2) := by decide +kernel
theorem dX12_told_45 : decode cX12_told 45 = .ok (.invokestatic 108, 3) := by decide +kernel
theorem dX12_told_48 : decode cX12_told 48 = .ok (.ifCond .eq 12, 3) := by decide +kernel
theorem dX12_told_51 : decode cX12_told 51 = .ok (.aload_n 0, 1) := by decide +kernel
theorem dX12_told_52 : decode cX12_told 52 = .ok (.iload_n 1, 1) := by decide +kernel
theorem dX12_told_53 : decode cX12_told 53 = .ok (.bipush 50, 2) := by decide +kernel
theorem dX12_told_55 : decode cX12_told 55 = .ok (.isub, 1) := by decide +kernel
theorem dX12_told_56 : decode cX12_told 56 = .ok (.invokevirtual 253, 3) := by decide +kernel
theorem dX12_told_59 : decode cX12_told 59 = .ok (.ireturn, 1) := by decide +kernel
theorem dX12_told_60 : decode cX12_told 60 = .ok (.iload_n 1, 1) := by decide +kernel
theorem dX12_told_61 : decode cX12_told 61 = .ok (.bipush 60, 2) := by decide +kernel
theorem dX12_told_63 : decode cX12_told 63 = .ok (.isub, 1) := by decide +kernel
theorem dX12_told_64 : decode cX12_told 64 = .ok (.invokestatic 130, 3) := by decide +kernel
theorem dX12_told_67 : decode cX12_told 67 = .ok (.ifCond .eq 12, 3) := by decide +kernel
theorem dX12_told_70 : decode cX12_told 70 = .ok (.aload_n 0, 1) := by decide +kernel
theorem dX12_told_71 : decode cX12_told 71 = .ok (.iload_n 1, 1) := by decide +kernel
theorem dX12_told_72 : decode cX12_told 72 = .ok (.bipush 60, 2) := by decide +kernel
theorem dX12_told_74 : decode cX12_told 74 = .ok (.isub, 1) := by decide +kernel
theorem dX12_told_75 : decode cX12_told 75 = .ok (.invokevirtual 256, 3) := by decide +kernel
theorem dX12_told_78 : decode cX12_told 78 = .ok (.ireturn, 1) := by decide +kernel
theorem dX12_told_79 : decode cX12_told 79 = .ok (.iload_n 1, 1) := by decide +kernel
theorem dX12_told_80 : decode cX12_told 80 = .ok (.tableswitch 52 0 3 #[32, 37, 42, 47], 32) := by decide +kernel
theorem dX12_told_112 : decode cX12_told 112 = .ok (.aload_n 0, 1) := by decide +kernel
theorem dX12_told_113 : decode cX12_told 113 = .ok (.getfield 216, 3) := by decide +kernel
theorem dX12_told_116 : decode cX12_told 116 = .ok (.ireturn, 1) := by decide +kernel
theorem dX12_told_117 : decode cX12_told 117 = .ok (.aload_n 0, 1) := by decide +kernel
theorem dX12_told_118 : decode cX12_told 118 = .ok (.invokevirtual 244, 3) := by decide +kernel
theorem dX12_told_121 : decode cX12_told 121 = .ok (.ireturn, 1) := by decide +kernel
theorem dX12_told_122 : decode cX12_told 122 = .ok (.aload_n 0, 1) := by decide +kernel
theorem dX12_told_123 : decode cX12_told 123 = .ok (.getfield 241, 3) := by decide +kernel
theorem dX12_told_126 : decode cX12_told 126 = .ok (.ireturn, 1) := by decide +kernel
theorem dX12_told_127 : decode cX12_told 127 = .ok (.aload_n 0, 1) := by decide +kernel
theorem dX12_told_128 : decode cX12_told 128 = .ok (.invokevirtual 259, 3) := by decide +kernel
theorem dX12_told_131 : decode cX12_told 131 = .ok (.ireturn, 1) := by decide +kernel
theorem dX12_told_132 : decode cX12_told 132 = .ok (.iconst (-1), 1) := by decide +kernel
theorem dX12_told_133 : decode cX12_told 133 = .ok (.ireturn, 1) := by decide +kernel
theorem dX12_pass_0 : decode cX12_pass 0 = .ok (.iload_n 1, 1) := by decide +kernel
theorem dX12_pass_1 : decode cX12_pass 1 = .ok (.iconst 0, 1) := by decide +kernel
theorem dX12_pass_2 : decode cX12_pass 2 = .ok (.bipush 60, 2) := by decide +kernel
theorem dX12_pass_4 : decode cX12_pass 4 = .ok (.invokestatic 108, 3) := by decide +kernel
theorem dX12_pass_7 : decode cX12_pass 7 = .ok (.ifCond .ne 6, 3) := by decide +kernel
theorem dX12_pass_10 : decode cX12_pass 10 = .ok (.bipush (-2), 2) := by decide +kernel
theorem dX12_pass_12 : decode cX12_pass 12 = .ok (.ireturn, 1) := by decide +kernel
theorem dX12_pass_13 : decode cX12_pass 13 = .ok (.aload_n 0, 1) := by decide +kernel
theorem dX12_pass_14 : decode cX12_pass 14 = .ok (.getfield 216, 3) := by decide +kernel
theorem dX12_pass_17 : decode cX12_pass 17 = .ok (.iload_n 1, 1) := by decide +kernel
theorem dX12_pass_18 : decode cX12_pass 18 = .ok (.iadd, 1) := by decide +kernel
theorem dX12_pass_19 : decode cX12_pass 19 = .ok (.sipush 9999, 3) := by decide +kernel
theorem dX12_pass_22 : decode cX12_pass 22 = .ok (.if_icmp .le 6, 3) := by decide +kernel
theorem dX12_pass_25 : decode cX12_pass 25 = .ok (.bipush (-3), 2) := by decide +kernel
theorem dX12_pass_27 : decode cX12_pass 27 = .ok (.ireturn, 1) := by decide +kernel
theorem dX12_pass_28 : decode cX12_pass 28 = .ok (.iconst 0, 1) := by decide +kernel
theorem dX12_pass_29 : decode cX12_pass 29 = .ok (.istore_n 2, 1) := by decide +kernel
theorem dX12_pass_30 : decode cX12_pass 30 = .ok (.iload_n 2, 1) := by decide +kernel
theorem dX12_pass_31 : decode cX12_pass 31 = .ok (.iload_n 1, 1) := by decide +kernel
theorem dX12_pass_32 : decode cX12_pass 32 = .ok (.if_icmp .ge 47, 3) := by decide +kernel
theorem dX12_pass_35 : decode cX12_pass 35 = .ok (.aload_n 0, 1) := by decide +kernel
theorem dX12_pass_36 : decode cX12_pass 36 = .ok (.invokevirtual 262, 3) := by decide +kernel
theorem dX12_pass_39 : decode cX12_pass 39 = .ok (.iconst 0, 1) := by decide +kernel
theorem dX12_pass_40 : decode cX12_pass 40 = .ok (.istore_n 3, 1) := by decide +kernel
theorem dX12_pass_41 : decode cX12_pass 41 = .ok (.iload_n 3, 1) := by decide +kernel
theorem dX12_pass_42 : decode cX12_pass 42 = .ok (.aload_n 0, 1) := by decide +kernel
theorem dX12_pass_43 : decode cX12_pass 43 = .ok (.getfield 105, 3) := by decide +kernel
theorem dX12_pass_46 : decode cX12_pass 46 = .ok (.if_icmp .ge 27, 3) := by decide +kernel
theorem dX12_pass_49 : decode cX12_pass 49 = .ok (.aload_n 0, 1) := by decide +kernel
theorem dX12_pass_50 : decode cX12_pass 50 = .ok (.getfield 30, 3) := by decide +kernel
theorem dX12_pass_53 : decode cX12_pass 53 = .ok (.iload_n 3, 1) := by decide +kernel
theorem dX12_pass_54 : decode cX12_pass 54 = .ok (.sipush 9999, 3) := by decide +kernel
theorem dX12_pass_57 : decode cX12_pass 57 = .ok (.aload_n 0, 1) := by decide +kernel
theorem dX12_pass_58 : decode cX12_pass 58 = .ok (.getfield 30, 3) := by decide +kernel
theorem dX12_pass_61 : decode cX12_pass 61 = .ok (.iload_n 3, 1) := by decide +kernel
theorem dX12_pass_62 : decode cX12_pass 62 = .ok (.iaload, 1) := by decide +kernel
theorem dX12_pass_63 : decode cX12_pass 63 = .ok (.invokestatic 230, 3) := by decide +kernel
theorem dX12_pass_66 : decode cX12_pass 66 = .ok (.iastore, 1) := by decide +kernel
theorem dX12_pass_67 : decode cX12_pass 67 = .ok (.iinc 3 1, 3) := by decide +kernel
theorem dX12_pass_70 : decode cX12_pass 70 = .ok (.goto (-29), 3) := by decide +kernel
theorem dX12_pass_73 : decode cX12_pass 73 = .ok (.iinc 2 1, 3) := by decide +kernel
theorem dX12_pass_76 : decode cX12_pass 76 = .ok (.goto (-46), 3) := by decide +kernel
theorem dX12_pass_79 : decode cX12_pass 79 = .ok (.aload_n 0, 1) := by decide +kernel
theorem dX12_pass_80 : decode cX12_pass 80 = .ok (.getfield 216, 3) := by decide +kernel
theorem dX12_pass_83 : decode cX12_pass 83 = .ok (.ireturn, 1) := by decide +kernel
theorem dX12_on_0 : decode cX12_on 0 = .ok (.iload_n 2, 1) := by decide +kernel
theorem dX12_on_1 : decode cX12_on 1 = .ok (.ifCond .eq 27, 3) := by decide +kernel
theorem dX12_on_4 : decode cX12_on 4 = .ok (.aload_n 0, 1) := by decide +kernel
theorem dX12_on_5 : decode cX12_on 5 = .ok (.iload_n 2, 1) := by decide +kernel
theorem dX12_on_6 : decode cX12_on 6 = .ok (.bipush 10, 2) := by decide +kernel
theorem dX12_on_8 : decode cX12_on 8 = .ok (.isub, 1) := by decide +kernel
theorem dX12_on_9 : decode cX12_on 9 = .ok (.invokevirtual 112, 3) := by decide +kernel
theorem dX12_on_12 : decode cX12_on 12 = .ok (.ifCond .ne 16, 3) := by decide +kernel
theorem dX12_on_15 : decode cX12_on 15 = .ok (.aload_n 0, 1) := by decide +kernel
theorem dX12_on_16 : decode cX12_on 16 = .ok (.iload_n 2, 1) := by decide +kernel
theorem dX12_on_17 : decode cX12_on 17 = .ok (.bipush 20, 2) := by decide +kernel
theorem dX12_on_19 : decode cX12_on 19 = .ok (.isub, 1) := by decide +kernel
theorem dX12_on_20 : decode cX12_on 20 = .ok (.invokevirtual 112, 3) := by decide +kernel
theorem dX12_on_23 : decode cX12_on 23 = .ok (.ifCond .ne 5, 3) := by decide +kernel
theorem dX12_on_26 : decode cX12_on 26 = .ok (.iconst (-1), 1) := by decide +kernel
theorem dX12_on_27 : decode cX12_on 27 = .ok (.ireturn, 1) := by decide +kernel
theorem dX12_on_28 : decode cX12_on 28 = .ok (.iload_n 1, 1) := by decide +kernel
theorem dX12_on_29 : decode cX12_on 29 = .ok (.iconst 0, 1) := by decide +kernel
theorem dX12_on_30 : decode cX12_on 30 = .ok (.bipush 60, 2) := by decide +kernel
theorem dX12_on_32 : decode cX12_on 32 = .ok (.invokestatic 108, 3) := by decide +kernel
theorem dX12_on_35 : decode cX12_on 35 = .ok (.ifCond .ne 6, 3) := by decide +kernel
theorem dX12_on_38 : decode cX12_on 38 = .ok (.bipush (-2), 2) := by decide +kernel
theorem dX12_on_40 : decode cX12_on 40 = .ok (.ireturn, 1) := by decide +kernel
theorem dX12_on_41 : decode cX12_on 41 = .ok (.aload_n 0, 1) := by decide +kernel
theorem dX12_on_42 : decode cX12_on 42 = .ok (.aload_n 0, 1) := by decide +kernel
theorem dX12_on_43 : decode cX12_on 43 = .ok (.getfield 88, 3) := by decide +kernel
theorem dX12_on_46 : decode cX12_on 46 = .ok (.invokevirtual 265, 3) := by decide +kernel
theorem dX12_on_49 : decode cX12_on 49 = .ok (.iconst 0, 1) := by decide +kernel
theorem dX12_on_50 : decode cX12_on 50 = .ok (.istore_n 3, 1) := by decide +kernel
theorem dX12_on_51 : decode cX12_on 51 = .ok (.iload_n 3, 1) := by decide +kernel
theorem dX12_on_52 : decode cX12_on 52 = .ok (.iload_n 1, 1) := by decide +kernel
theorem dX12_on_53 : decode cX12_on 53 = .ok (.if_icmp .ge 13, 3) := by decide +kernel
theorem dX12_on_56 : decode cX12_on 56 = .ok (.aload_n 0, 1) := by decide +kernel
theorem dX12_on_57 : decode cX12_on 57 = .ok (.invokevirtual 262, 3) := by decide +kernel
theorem dX12_on_60 : decode cX12_on 60 = .ok (.iinc 3 1, 3) := by decide +kernel
theorem dX12_on_63 : decode cX12_on 63 = .ok (.goto (-12), 3) := by decide +kernel
theorem dX12_on_66 : decode cX12_on 66 = .ok (.iload_n 2, 1) := by decide +kernel
theorem dX12_on_67 : decode cX12_on 67 = .ok (.ifCond .ne 10, 3) := by decide +kernel
theorem dX12_on_70 : decode cX12_on 70 = .ok (.aload_n 0, 1) := by decide +kernel
theorem dX12_on_71 : decode cX12_on 71 = .ok (.getfield 241, 3) := by decide +kernel
theorem dX12_on_74 : decode cX12_on 74 = .ok (.goto 30, 3) := by decide +kernel
theorem dX12_on_77 : decode cX12_on 77 = .ok (.iload_n 2, 1) := by decide +kernel
theorem dX12_on_78 : decode cX12_on 78 = .ok (.bipush 20, 2) := by decide +kernel
theorem dX12_on_80 : decode cX12_on 80 = .ok (.if_icmp .ge 15, 3) := by decide +kernel
theorem dX12_on_83 : decode cX12_on 83 = .ok (.aload_n 0, 1) := by decide +kernel
theorem dX12_on_84 : decode cX12_on 84 = .ok (.getfield 27, 3) := by decide +kernel
theorem dX12_on_87 : decode cX12_on 87 = .ok (.iload_n 2, 1) := by decide +kernel
theorem dX12_on_88 : decode cX12_on 88 = .ok (.bipush 10, 2) := by decide +kernel
theorem dX12_on_90 : decode cX12_on 90 = .ok (.isub, 1) := by decide +kernel
theorem dX12_on_91 : decode cX12_on 91 = .ok (.iaload, 1) := by decide +kernel
theorem dX12_on_92 : decode cX12_on 92 = .ok (.goto 12, 3) := by decide +kernel
theorem dX12_on_95 : decode cX12_on 95 = .ok (.aload_n 0, 1) := by decide +kernel
theorem dX12_on_96 : decode cX12_on 96 = .ok (.getfield 24, 3) := by decide +kernel
theorem dX12_on_99 : decode cX12_on 99 = .ok (.iload_n 2, 1) := by decide +kernel
theorem dX12_on_100 : decode cX12_on 100 = .ok (.bipush 20, 2) := by decide +kernel
theorem dX12_on_102 : decode cX12_on 102 = .ok (.isub, 1) := by decide +kernel
theorem dX12_on_103 : decode cX12_on 103 = .ok (.iaload, 1) := by decide +kernel
theorem dX12_on_104 : decode cX12_on 104 = .ok (.istore_n 3, 1) := by decide +kernel
theorem dX12_on_105 : decode cX12_on 105 = .ok (.aload_n 0, 1) := by decide +kernel
theorem dX12_on_106 : decode cX12_on 106 = .ok (.aload_n 0, 1) := by decide +kernel
theorem dX12_on_107 : decode cX12_on 107 = .ok (.getfield 88, 3) := by decide +kernel
theorem dX12_on_110 : decode cX12_on 110 = .ok (.invokevirtual 269, 3) := by decide +kernel
theorem dX12_on_113 : decode cX12_on 113 = .ok (.iload_n 3, 1) := by decide +kernel
theorem dX12_on_114 : decode cX12_on 114 = .ok (.ireturn, 1) := by decide +kernel
theorem dX12_comes_0 : decode cX12_comes 0 = .ok (.aload_n 0, 1) := by decide +kernel
theorem dX12_comes_1 : decode cX12_comes 1 = .ok (.aload_n 0, 1) := by decide +kernel
theorem dX12_comes_2 : decode cX12_comes 2 = .ok (.getfield 88, 3) := by decide +kernel
theorem dX12_comes_5 : decode cX12_comes 5 = .ok (.invokevirtual 265, 3) := by decide +kernel
theorem dX12_comes_8 : decode cX12_comes 8 = .ok (.bipush (-5), 2) := by decide +kernel
theorem dX12_comes_10 : decode cX12_comes 10 = .ok (.istore_n 2, 1) := by decide +kernel
theorem dX12_comes_11 : decode cX12_comes 11 = .ok (.iconst 0, 1) := by decide +kernel
theorem dX12_comes_12 : decode cX12_comes 12 = .ok (.istore_n 3, 1) := by decide +kernel
theorem dX12_comes_13 : decode cX12_comes 13 = .ok (.iload_n 3, 1) := by decide +kernel
theorem dX12_comes_14 : decode cX12_comes 14 = .ok (.bipush 61, 2) := by decide +kernel
theorem dX12_comes_16 : decode cX12_comes 16 = .ok (.if_icmp .ge 36, 3) := by decide +kernel
theorem dX12_comes_19 : decode cX12_comes 19 = .ok (.iload_n 2, 1) := by decide +kernel
theorem dX12_comes_20 : decode cX12_comes 20 = .ok (.bipush (-5), 2) := by decide +kernel
theorem dX12_comes_22 : decode cX12_comes 22 = .ok (.if_icmp .ne 30, 3) := by decide +kernel
theorem dX12_comes_25 : decode cX12_comes 25 = .ok (.iload_n 3, 1) := by decide +kernel
theorem dX12_comes_26 : decode cX12_comes 26 = .ok (.ifCond .le 7, 3) := by decide +kernel
theorem dX12_comes_29 : decode cX12_comes 29 = .ok (.aload_n 0, 1) := by decide +kernel
theorem dX12_comes_30 : decode cX12_comes 30 = .ok (.invokevirtual 262, 3) := by decide +kernel
theorem dX12_comes_33 : decode cX12_comes 33 = .ok (.aload_n 0, 1) := by decide +kernel
theorem dX12_comes_34 : decode cX12_comes 34 = .ok (.getfield 241, 3) := by decide +kernel
theorem dX12_comes_37 : decode cX12_comes 37 = .ok (.iload_n 1, 1) := by decide +kernel
theorem dX12_comes_38 : decode cX12_comes 38 = .ok (.invokestatic 223, 3) := by decide +kernel
theorem dX12_comes_41 : decode cX12_comes 41 = .ok (.ifCond .eq 5, 3) := by decide +kernel
theorem dX12_comes_44 : decode cX12_comes 44 = .ok (.iload_n 3, 1) := by decide +kernel
theorem dX12_comes_45 : decode cX12_comes 45 = .ok (.istore_n 2, 1) := by decide +kernel
theorem dX12_comes_46 : decode cX12_comes 46 = .ok (.iinc 3 1, 3) := by decide +kernel
theorem dX12_comes_49 : decode cX12_comes 49 = .ok (.goto (-36), 3) := by decide +kernel
theorem dX12_comes_52 : decode cX12_comes 52 = .ok (.aload_n 0, 1) := by decide +kernel
theorem dX12_comes_53 : decode cX12_comes 53 = .ok (.aload_n 0, 1) := by decide +kernel
theorem dX12_comes_54 : decode cX12_comes 54 = .ok (.getfield 88, 3) := by decide +kernel
theorem dX12_comes_57 : decode cX12_comes 57 = .ok (.invokevirtual 269, 3) := by decide +kernel
theorem dX12_comes_60 : decode cX12_comes 60 = .ok (.iload_n 2, 1) := by decide +kernel
theorem dX12_comes_61 : decode cX12_comes 61 = .ok (.ireturn, 1) := by decide +kernel
theorem dX12_wording_0 : decode cX12_wording 0 = .ok (.aload_n 0, 1) := by decide +kernel
theorem dX12_wording_1 : decode cX12_wording 1 = .ok (.iload_n 1, 1) := by decide +kernel
theorem dX12_wording_2 : decode cX12_wording 2 = .ok (.invokevirtual 112, 3) := by decide +kernel
theorem dX12_wording_5 : decode cX12_wording 5 = .ok (.ifCond .ne 5, 3) := by decide +kernel
theorem dX12_wording_8 : decode cX12_wording 8 = .ok (.iconst (-1), 1) := by decide +kernel
theorem dX12_wording_9 : decode cX12_wording 9 = .ok (.ireturn, 1) := by decide +kernel
theorem dX12_wording_10 : decode cX12_wording 10 = .ok (.iload_n 2, 1) := by decide +kernel
theorem dX12_wording_11 : decode cX12_wording 11 = .ok (.iconst 0, 1) := by decide +kernel
theorem dX12_wording_12 : decode cX12_wording 12 = .ok (.sipush 255, 3) := by decide +kernel
theorem dX12_wording_15 : decode cX12_wording 15 = .ok (.invokestatic 108, 3) := by decide +kernel
theorem dX12_wording_18 : decode cX12_wording 18 = .ok (.ifCond .ne 6, 3) := by decide +kernel
theorem dX12_wording_21 : decode cX12_wording 21 = .ok (.bipush (-2), 2) := by decide +kernel
theorem dX12_wording_23 : decode cX12_wording 23 = .ok (.ireturn, 1) := by decide +kernel
theorem dX12_wording_24 : decode cX12_wording 24 = .ok (.bipush (-5), 2) := by decide +kernel
theorem dX12_wording_26 : decode cX12_wording 26 = .ok (.istore_n 3, 1) := by decide +kernel
theorem dX12_wording_27 : decode cX12_wording 27 = .ok (.iconst 0, 1) := by decide +kernel
theorem dX12_wording_28 : decode cX12_wording 28 = .ok (.istore 4, 2) := by decide +kernel
theorem dX12_wording_30 : decode cX12_wording 30 = .ok (.iload 4, 2) := by decide +kernel
theorem dX12_wording_32 : decode cX12_wording 32 = .ok (.sipush 4096, 3) := by decide +kernel
theorem dX12_wording_35 : decode cX12_wording 35 = .ok (.if_icmp .ge 56, 3) := by decide +kernel
theorem dX12_wording_38 : decode cX12_wording 38 = .ok (.iload_n 3, 1) := by decide +kernel
theorem dX12_wording_39 : decode cX12_wording 39 = .ok (.bipush (-5), 2) := by decide +kernel
theorem dX12_wording_41 : decode cX12_wording 41 = .ok (.if_icmp .eq 15, 3) := by decide +kernel
theorem dX12_wording_44 : decode cX12_wording 44 = .ok (.iload 4, 2) := by decide +kernel
theorem dX12_wording_46 : decode cX12_wording 46 = .ok (.invokestatic 211, 3) := by decide +kernel
theorem dX12_wording_49 : decode cX12_wording 49 = .ok (.iload_n 3, 1) := by decide +kernel
theorem dX12_wording_50 : decode cX12_wording 50 = .ok (.invokestatic 211, 3) := by decide +kernel
theorem dX12_wording_53 : decode cX12_wording 53 = .ok (.if_icmp .ge 32, 3) := by decide +kernel
theorem dX12_wording_56 : decode cX12_wording 56 = .ok (.iload_n 2, 1) := by decide +kernel
theorem dX12_wording_57 : decode cX12_wording 57 = .ok (.aload_n 0, 1) := by decide +kernel
theorem dX12_wording_58 : decode cX12_wording 58 = .ok (.iload 4, 2) := by decide +kernel
theorem dX12_wording_60 : decode cX12_wording 60 = .ok (.invokevirtual 250, 3) := by decide +kernel
theorem dX12_wording_63 : decode cX12_wording 63 = .ok (.iconst (-1), 1) := by decide +kernel
theorem dX12_wording_64 : decode cX12_wording 64 = .ok (.ixor, 1) := by decide +kernel
theorem dX12_wording_65 : decode cX12_wording 65 = .ok (.iand, 1) := by decide +kernel
theorem dX12_wording_66 : decode cX12_wording 66 = .ok (.ifCond .eq 6, 3) := by decide +kernel
theorem dX12_wording_69 : decode cX12_wording 69 = .ok (.goto 16, 3) := by decide +kernel
theorem dX12_wording_72 : decode cX12_wording 72 = .ok (.aload_n 0, 1) := by decide +kernel
theorem dX12_wording_73 : decode cX12_wording 73 = .ok (.iload_n 1, 1) := by decide +kernel
theorem dX12_wording_74 : decode cX12_wording 74 = .ok (.iload 4, 2) := by decide +kernel
theorem dX12_wording_76 : decode cX12_wording 76 = .ok (.invokevirtual 126, 3) := by decide +kernel
theorem dX12_wording_79 : decode cX12_wording 79 = .ok (.ifCond .le 6, 3) := by decide +kernel
theorem dX12_wording_82 : decode cX12_wording 82 = .ok (.iload 4, 2) := by decide +kernel
theorem dX12_wording_84 : decode cX12_wording 84 = .ok (.istore_n 3, 1) := by decide +kernel
theorem dX12_wording_85 : decode cX12_wording 85 = .ok (.iinc 4 1, 3) := by decide +kernel
theorem dX12_wording_88 : decode cX12_wording 88 = .ok (.goto (-58), 3) := by decide +kernel
theorem dX12_wording_91 : decode cX12_wording 91 = .ok (.iload_n 3, 1) := by decide +kernel
theorem dX12_wording_92 : decode cX12_wording 92 = .ok (.ireturn, 1) := by decide +kernel
theorem dX12_birds_0 : decode cX12_birds 0 = .ok (.iload_n 1, 1) := by decide +kernel
theorem dX12_birds_1 : decode cX12_birds 1 = .ok (.iconst 0, 1) := by decide +kernel
theorem dX12_birds_2 : decode cX12_birds 2 = .ok (.sipush 255, 3) := by decide +kernel
theorem dX12_birds_5 : decode cX12_birds 5 = .ok (.invokestatic 108, 3) := by decide +kernel
theorem dX12_birds_8 : decode cX12_birds 8 = .ok (.ifCond .ne 6, 3) := by decide +kernel
theorem dX12_birds_11 : decode cX12_birds 11 = .ok (.bipush (-2), 2) := by decide +kernel
theorem dX12_birds_13 : decode cX12_birds 13 = .ok (.ireturn, 1) := by decide +kernel
theorem dX12_birds_14 : decode cX12_birds 14 = .ok (.aload_n 0, 1) := by decide +kernel
theorem dX12_birds_15 : decode cX12_birds 15 = .ok (.invokevirtual 259, 3) := by decide +kernel
theorem dX12_birds_18 : decode cX12_birds 18 = .ok (.istore_n 2, 1) := by decide +kernel
theorem dX12_birds_19 : decode cX12_birds 19 = .ok (.bipush (-5), 2) := by decide +kernel
theorem dX12_birds_21 : decode cX12_birds 21 = .ok (.istore_n 3, 1) := by decide +kernel
theorem dX12_birds_22 : decode cX12_birds 22 = .ok (.iconst 0, 1) := by decide +kernel
theorem dX12_birds_23 : decode cX12_birds 23 = .ok (.istore 4, 2) := by decide +kernel
theorem dX12_birds_25 : decode cX12_birds 25 = .ok (.iload 4, 2) := by decide +kernel
theorem dX12_birds_27 : decode cX12_birds 27 = .ok (.iconst 1, 1) := by decide +kernel
theorem dX12_birds_28 : decode cX12_birds 28 = .ok (.aload_n 0, 1) := by decide +kernel
theorem dX12_birds_29 : decode cX12_birds 29 = .ok (.getfield 105, 3) := by decide +kernel
theorem dX12_birds_32 : decode cX12_birds 32 = .ok (.ishl, 1) := by decide +kernel
theorem dX12_birds_33 : decode cX12_birds 33 = .ok (.if_icmp .ge 101, 3) := by decide +kernel
theorem dX12_birds_36 : decode cX12_birds 36 = .ok (.iload 4, 2) := by decide +kernel
theorem dX12_birds_38 : decode cX12_birds 38 = .ok (.iload_n 2, 1) := by decide +kernel
theorem dX12_birds_39 : decode cX12_birds 39 = .ok (.iconst (-1), 1) := by decide +kernel
theorem dX12_birds_40 : decode cX12_birds 40 = .ok (.ixor, 1) := by decide +kernel
theorem dX12_birds_41 : decode cX12_birds 41 = .ok (.iand, 1) := by decide +kernel
theorem dX12_birds_42 : decode cX12_birds 42 = .ok (.ifCond .ne 86, 3) := by decide +kernel
theorem dX12_birds_45 : decode cX12_birds 45 = .ok (.iload_n 3, 1) := by decide +kernel
theorem dX12_birds_46 : decode cX12_birds 46 = .ok (.bipush (-5), 2) := by decide +kernel
theorem dX12_birds_48 : decode cX12_birds 48 = .ok (.if_icmp .eq 18, 3) := by decide +kernel
theorem dX12_birds_51 : decode cX12_birds 51 = .ok (.iload 4, 2) := by decide +kernel
theorem dX12_birds_53 : decode cX12_birds 53 = .ok (.invokestatic 211, 3) := by decide +kernel
theorem dX12_birds_56 : decode cX12_birds 56 = .ok (.iload_n 3, 1) := by decide +kernel
theorem dX12_birds_57 : decode cX12_birds 57 = .ok (.invokestatic 211, 3) := by decide +kernel
theorem dX12_birds_60 : decode cX12_birds 60 = .ok (.if_icmp .lt 6, 3) := by decide +kernel
theorem dX12_birds_63 : decode cX12_birds 63 = .ok (.goto 65, 3) := by decide +kernel
theorem dX12_birds_66 : decode cX12_birds 66 = .ok (.aload_n 0, 1) := by decide +kernel
theorem dX12_birds_67 : decode cX12_birds 67 = .ok (.getfield 241, 3) := by decide +kernel
theorem dX12_birds_70 : decode cX12_birds 70 = .ok (.istore 5, 2) := by decide +kernel
theorem dX12_birds_72 : decode cX12_birds 72 = .ok (.iconst 0, 1) := by decide +kernel
theorem dX12_birds_73 : decode cX12_birds 73 = .ok (.istore 6, 2) := by decide +kernel
theorem dX12_birds_75 : decode cX12_birds 75 = .ok (.iload 6, 2) := by decide +kernel
theorem dX12_birds_77 : decode cX12_birds 77 = .ok (.aload_n 0, 1) := by decide +kernel
theorem dX12_birds_78 : decode cX12_birds 78 = .ok (.getfield 105, 3) := by decide +kernel
theorem dX12_birds_81 : decode cX12_birds 81 = .ok (.if_icmp .ge 35, 3) := by decide +kernel
theorem dX12_birds_84 : decode cX12_birds 84 = .ok (.iload 4, 2) := by decide +kernel
theorem dX12_birds_86 : decode cX12_birds 86 = .ok (.iload 6, 2) := by decide +kernel
theorem dX12_birds_88 : decode cX12_birds 88 = .ok (.invokestatic 223, 3) := by decide +kernel
theorem dX12_birds_91 : decode cX12_birds 91 = .ok (.ifCond .eq 19, 3) := by decide +kernel
theorem dX12_birds_94 : decode cX12_birds 94 = .ok (.iload 5, 2) := by decide +kernel
theorem dX12_birds_96 : decode cX12_birds 96 = .ok (.aload_n 0, 1) := by decide +kernel
theorem dX12_birds_97 : decode cX12_birds 97 = .ok (.aload_n 0, 1) := by decide +kernel
theorem dX12_birds_98 : decode cX12_birds 98 = .ok (.getfield 24, 3) := by decide +kernel
theorem dX12_birds_101 : decode cX12_birds 101 = .ok (.iload 6, 2) := by decide +kernel
theorem dX12_birds_103 : decode cX12_birds 103 = .ok (.iaload, 1) := by decide +kernel
theorem dX12_birds_104 : decode cX12_birds 104 = .ok (.invokevirtual 250, 3) := by decide +kernel
theorem dX12_birds_107 : decode cX12_birds 107 = .ok (.ior, 1) := by decide +kernel
theorem dX12_birds_108 : decode cX12_birds 108 = .ok (.istore 5, 2) := by decide +kernel
theorem dX12_birds_110 : decode cX12_birds 110 = .ok (.iinc 6 1, 3) := by decide +kernel
theorem dX12_birds_113 : decode cX12_birds 113 = .ok (.goto (-38), 3) := by decide +kernel
theorem dX12_birds_116 : decode cX12_birds 116 = .ok (.iload_n 1, 1) := by decide +kernel
theorem dX12_birds_117 : decode cX12_birds 117 = .ok (.iload 5, 2) := by decide +kernel
theorem dX12_birds_119 : decode cX12_birds 119 = .ok (.iconst (-1), 1) := by decide +kernel
theorem dX12_birds_120 : decode cX12_birds 120 = .ok (.ixor, 1) := by decide +kernel
theorem dX12_birds_121 : decode cX12_birds 121 = .ok (.iand, 1) := by decide +kernel
theorem dX12_birds_122 : decode cX12_birds 122 = .ok (.ifCond .ne 6, 3) := by decide +kernel
theorem dX12_birds_125 : decode cX12_birds 125 = .ok (.iload 4, 2) := by decide +kernel
theorem dX12_birds_127 : decode cX12_birds 127 = .ok (.istore_n 3, 1) := by decide +kernel
theorem dX12_birds_128 : decode cX12_birds 128 = .ok (.iinc 4 1, 3) := by decide +kernel
theorem dX12_birds_131 : decode cX12_birds 131 = .ok (.goto (-106), 3) := by decide +kernel
theorem dX12_birds_134 : decode cX12_birds 134 = .ok (.iload_n 3, 1) := by decide +kernel
theorem dX12_birds_135 : decode cX12_birds 135 = .ok (.ireturn, 1) := by decide +kernel
theorem dX12_spare_0 : decode cX12_spare 0 = .ok (.bipush (-5), 2) := by decide +kernel
theorem dX12_spare_2 : decode cX12_spare 2 = .ok (.istore_n 2, 1) := by decide +kernel
theorem dX12_spare_3 : decode cX12_spare 3 = .ok (.aload_n 0, 1) := by decide +kernel
theorem dX12_spare_4 : decode cX12_spare 4 = .ok (.iload_n 1, 1) := by decide +kernel
theorem dX12_spare_5 : decode cX12_spare 5 = .ok (.aload_n 0, 1) := by decide +kernel
theorem dX12_spare_6 : decode cX12_spare 6 = .ok (.getfield 24, 3) := by decide +kernel
theorem dX12_spare_9 : decode cX12_spare 9 = .ok (.iload_n 1, 1) := by decide +kernel
theorem dX12_spare_10 : decode cX12_spare 10 = .ok (.iaload, 1) := by decide +kernel
theorem dX12_spare_11 : decode cX12_spare 11 = .ok (.invokevirtual 126, 3) := by decide +kernel
theorem dX12_spare_14 : decode cX12_spare 14 = .ok (.istore_n 3, 1) := by decide +kernel
theorem dX12_spare_15 : decode cX12_spare 15 = .ok (.iconst 0, 1) := by decide +kernel
theorem dX12_spare_16 : decode cX12_spare 16 = .ok (.istore 4, 2) := by decide +kernel
theorem dX12_spare_18 : decode cX12_spare 18 = .ok (.iload 4, 2) := by decide +kernel
theorem dX12_spare_20 : decode cX12_spare 20 = .ok (.bipush 12, 2) := by decide +kernel
theorem dX12_spare_22 : decode cX12_spare 22 = .ok (.if_icmp .ge 61, 3) := by decide +kernel
theorem dX12_spare_25 : decode cX12_spare 25 = .ok (.aload_n 0, 1) := by decide +kernel
theorem dX12_spare_26 : decode cX12_spare 26 = .ok (.getfield 24, 3) := by decide +kernel
theorem dX12_spare_29 : decode cX12_spare 29 = .ok (.iload_n 1, 1) := by decide +kernel
theorem dX12_spare_30 : decode cX12_spare 30 = .ok (.iaload, 1) := by decide +kernel
theorem dX12_spare_31 : decode cX12_spare 31 = .ok (.iload 4, 2) := by decide +kernel
theorem dX12_spare_33 : decode cX12_spare 33 = .ok (.invokestatic 223, 3) := by decide +kernel
theorem dX12_spare_36 : decode cX12_spare 36 = .ok (.ifCond .ne 6, 3) := by decide +kernel
theorem dX12_spare_39 : decode cX12_spare 39 = .ok (.goto 38, 3) := by decide +kernel
theorem dX12_spare_42 : decode cX12_spare 42 = .ok (.aload_n 0, 1) := by decide +kernel
theorem dX12_spare_43 : decode cX12_spare 43 = .ok (.iload_n 1, 1) := by decide +kernel
theorem dX12_spare_44 : decode cX12_spare 44 = .ok (.aload_n 0, 1) := by decide +kernel
theorem dX12_spare_45 : decode cX12_spare 45 = .ok (.getfield 24, 3) := by decide +kernel
theorem dX12_spare_48 : decode cX12_spare 48 = .ok (.iload_n 1, 1) := by decide +kernel
theorem dX12_spare_49 : decode cX12_spare 49 = .ok (.iaload, 1) := by decide +kernel
theorem dX12_spare_50 : decode cX12_spare 50 = .ok (.iconst 1, 1) := by decide +kernel
theorem dX12_spare_51 : decode cX12_spare 51 = .ok (.iload 4, 2) := by decide +kernel
theorem dX12_spare_53 : decode cX12_spare 53 = .ok (.ishl, 1) := by decide +kernel
theorem dX12_spare_54 : decode cX12_spare 54 = .ok (.iconst (-1), 1) := by decide +kernel
theorem dX12_spare_55 : decode cX12_spare 55 = .ok (.ixor, 1) := by decide +kernel
theorem dX12_spare_56 : decode cX12_spare 56 = .ok (.iand, 1) := by decide +kernel
theorem dX12_spare_57 : decode cX12_spare 57 = .ok (.invokevirtual 126, 3) := by decide +kernel
theorem dX12_spare_60 : decode cX12_spare 60 = .ok (.istore 5, 2) := by decide +kernel
theorem dX12_spare_62 : decode cX12_spare 62 = .ok (.iload 5, 2) := by decide +kernel
theorem dX12_spare_64 : decode cX12_spare 64 = .ok (.iload_n 3, 1) := by decide +kernel
theorem dX12_spare_65 : decode cX12_spare 65 = .ok (.if_icmp .gt 6, 3) := by decide +kernel
theorem dX12_spare_68 : decode cX12_spare 68 = .ok (.goto 9, 3) := by decide +kernel
theorem dX12_spare_71 : decode cX12_spare 71 = .ok (.iload 5, 2) := by decide +kernel
theorem dX12_spare_73 : decode cX12_spare 73 = .ok (.istore_n 3, 1) := by decide +kernel
theorem dX12_spare_74 : decode cX12_spare 74 = .ok (.iload 4, 2) := by decide +kernel
theorem dX12_spare_76 : decode cX12_spare 76 = .ok (.istore_n 2, 1) := by decide +kernel
theorem dX12_spare_77 : decode cX12_spare 77 = .ok (.iinc 4 1, 3) := by decide +kernel
theorem dX12_spare_80 : decode cX12_spare 80 = .ok (.goto (-62), 3) := by decide +kernel
theorem dX12_spare_83 : decode cX12_spare 83 = .ok (.iload_n 2, 1) := by decide +kernel
theorem dX12_spare_84 : decode cX12_spare 84 = .ok (.ireturn, 1) := by decide +kernel
theorem dX12_see_0 : decode cX12_see 0 = .ok (.iload_n 1, 1) := by decide +kernel
theorem dX12_see_1 : decode cX12_see 1 = .ok (.iconst (-1), 1) := by decide +kernel
theorem dX12_see_2 : decode cX12_see 2 = .ok (.if_icmp .ne 10, 3) := by decide +kernel
theorem dX12_see_5 : decode cX12_see 5 = .ok (.aload_n 0, 1) := by decide +kernel
theorem dX12_see_6 : decode cX12_see 6 = .ok (.iconst 0, 1) := by decide +kernel
theorem dX12_see_7 : decode cX12_see 7 = .ok (.putfield 272, 3) := by decide +kernel
theorem dX12_see_10 : decode cX12_see 10 = .ok (.iconst 0, 1) := by decide +kernel
theorem dX12_see_11 : decode cX12_see 11 = .ok (.ireturn, 1) := by decide +kernel
theorem dX12_see_12 : decode cX12_see 12 = .ok (.aload_n 0, 1) := by decide +kernel
theorem dX12_see_13 : decode cX12_see 13 = .ok (.iload_n 1, 1) := by decide +kernel
theorem dX12_see_14 : decode cX12_see 14 = .ok (.invokevirtual 112, 3) := by decide +kernel
theorem dX12_see_17 : decode cX12_see 17 = .ok (.ifCond .ne 5, 3) := by decide +kernel
theorem dX12_see_20 : decode cX12_see 20 = .ok (.iconst (-1), 1) := by decide +kernel
theorem dX12_see_21 : decode cX12_see 21 = .ok (.ireturn, 1) := by decide +kernel
theorem dX12_see_22 : decode cX12_see 22 = .ok (.iload_n 2, 1) := by decide +kernel
theorem dX12_see_23 : decode cX12_see 23 = .ok (.invokestatic 123, 3) := by decide +kernel
theorem dX12_see_26 : decode cX12_see 26 = .ok (.ifCond .ne 6, 3) := by decide +kernel
theorem dX12_see_29 : decode cX12_see 29 = .ok (.bipush (-2), 2) := by decide +kernel
theorem dX12_see_31 : decode cX12_see 31 = .ok (.ireturn, 1) := by decide +kernel
theorem dX12_see_32 : decode cX12_see 32 = .ok (.aload_n 0, 1) := by decide +kernel
theorem dX12_see_33 : decode cX12_see 33 = .ok (.getfield 272, 3) := by decide +kernel
theorem dX12_see_36 : decode cX12_see 36 = .ok (.iconst 5, 1) := by decide +kernel
theorem dX12_see_37 : decode cX12_see 37 = .ok (.if_icmp .ne 6, 3) := by decide +kernel
theorem dX12_see_40 : decode cX12_see 40 = .ok (.bipush (-4), 2) := by decide +kernel
theorem dX12_see_42 : decode cX12_see 42 = .ok (.ireturn, 1) := by decide +kernel
theorem dX12_see_43 : decode cX12_see 43 = .ok (.aload_n 0, 1) := by decide +kernel
theorem dX12_see_44 : decode cX12_see 44 = .ok (.getfield 61, 3) := by decide +kernel
theorem dX12_see_47 : decode cX12_see 47 = .ok (.aload_n 0, 1) := by decide +kernel
theorem dX12_see_48 : decode cX12_see 48 = .ok (.getfield 272, 3) := by decide +kernel
theorem dX12_see_51 : decode cX12_see 51 = .ok (.iload_n 1, 1) := by decide +kernel
theorem dX12_see_52 : decode cX12_see 52 = .ok (.iastore, 1) := by decide +kernel
theorem dX12_see_53 : decode cX12_see 53 = .ok (.aload_n 0, 1) := by decide +kernel
theorem dX12_see_54 : decode cX12_see 54 = .ok (.getfield 64, 3) := by decide +kernel
theorem dX12_see_57 : decode cX12_see 57 = .ok (.aload_n 0, 1) := by decide +kernel
theorem dX12_see_58 : decode cX12_see 58 = .ok (.getfield 272, 3) := by decide +kernel
theorem dX12_see_61 : decode cX12_see 61 = .ok (.iload_n 2, 1) := by decide +kernel
theorem dX12_see_62 : decode cX12_see 62 = .ok (.iastore, 1) := by decide +kernel
theorem dX12_see_63 : decode cX12_see 63 = .ok (.aload_n 0, 1) := by decide +kernel
theorem dX12_see_64 : decode cX12_see 64 = .ok (.getfield 67, 3) := by decide +kernel
theorem dX12_see_67 : decode cX12_see 67 = .ok (.aload_n 0, 1) := by decide +kernel
theorem dX12_see_68 : decode cX12_see 68 = .ok (.dup, 1) := by decide +kernel
theorem dX12_see_69 : decode cX12_see 69 = .ok (.getfield 272, 3) := by decide +kernel
theorem dX12_see_72 : decode cX12_see 72 = .ok (.dup_x1, 1) := by decide +kernel
theorem dX12_see_73 : decode cX12_see 73 = .ok (.iconst 1, 1) := by decide +kernel
theorem dX12_see_74 : decode cX12_see 74 = .ok (.iadd, 1) := by decide +kernel
theorem dX12_see_75 : decode cX12_see 75 = .ok (.putfield 272, 3) := by decide +kernel
theorem dX12_see_78 : decode cX12_see 78 = .ok (.iload_n 3, 1) := by decide +kernel
theorem dX12_see_79 : decode cX12_see 79 = .ok (.ifCond .eq 7, 3) := by decide +kernel
theorem dX12_see_82 : decode cX12_see 82 = .ok (.iconst 1, 1) := by decide +kernel
theorem dX12_see_83 : decode cX12_see 83 = .ok (.goto 4, 3) := by decide +kernel
theorem dX12_see_86 : decode cX12_see 86 = .ok (.iconst 0, 1) := by decide +kernel
theorem dX12_see_87 : decode cX12_see 87 = .ok (.iastore, 1) := by decide +kernel
theorem dX12_see_88 : decode cX12_see 88 = .ok (.aload_n 0, 1) := by decide +kernel
theorem dX12_see_89 : decode cX12_see 89 = .ok (.getfield 272, 3) := by decide +kernel
theorem dX12_see_92 : decode cX12_see 92 = .ok (.ireturn, 1) := by decide +kernel
theorem dX12_isSeen_0 : decode cX12_isSeen 0 = .ok (.iconst 0, 1) := by decide +kernel
theorem dX12_isSeen_1 : decode cX12_isSeen 1 = .ok (.istore_n 1, 1) := by decide +kernel
theorem dX12_isSeen_2 : decode cX12_isSeen 2 = .ok (.iload_n 1, 1) := by decide +kernel
theorem dX12_isSeen_3 : decode cX12_isSeen 3 = .ok (.aload_n 0, 1) := by decide +kernel
theorem dX12_isSeen_4 : decode cX12_isSeen 4 = .ok (.getfield 272, 3) := by decide +kernel
theorem dX12_isSeen_7 : decode cX12_isSeen 7 = .ok (.if_icmp .ge 53, 3) := by decide +kernel
theorem dX12_isSeen_10 : decode cX12_isSeen 10 = .ok (.aload_n 0, 1) := by decide +kernel
theorem dX12_isSeen_11 : decode cX12_isSeen 11 = .ok (.aload_n 0, 1) := by decide +kernel
theorem dX12_isSeen_12 : decode cX12_isSeen 12 = .ok (.getfield 61, 3) := by decide +kernel
theorem dX12_isSeen_15 : decode cX12_isSeen 15 = .ok (.iload_n 1, 1) := by decide +kernel
theorem dX12_isSeen_16 : decode cX12_isSeen 16 = .ok (.iaload, 1) := by decide +kernel
theorem dX12_isSeen_17 : decode cX12_isSeen 17 = .ok (.aload_n 0, 1) := by decide +kernel
theorem dX12_isSeen_18 : decode cX12_isSeen 18 = .ok (.getfield 64, 3) := by decide +kernel
theorem dX12_isSeen_21 : decode cX12_isSeen 21 = .ok (.iload_n 1, 1) := by decide +kernel
theorem dX12_isSeen_22 : decode cX12_isSeen 22 = .ok (.iaload, 1) := by decide +kernel
theorem dX12_isSeen_23 : decode cX12_isSeen 23 = .ok (.invokevirtual 126, 3) := by decide +kernel
theorem dX12_isSeen_26 : decode cX12_isSeen 26 = .ok (.ifCond .le 7, 3) := by decide +kernel
theorem dX12_isSeen_29 : decode cX12_isSeen 29 = .ok (.iconst 1, 1) := by decide +kernel
theorem dX12_isSeen_30 : decode cX12_isSeen 30 = .ok (.goto 4, 3) := by decide +kernel
theorem dX12_isSeen_33 : decode cX12_isSeen 33 = .ok (.iconst 0, 1) := by decide +kernel
theorem dX12_isSeen_34 : decode cX12_isSeen 34 = .ok (.aload_n 0, 1) := by decide +kernel
theorem dX12_isSeen_35 : decode cX12_isSeen 35 = .ok (.getfield 67, 3) := by decide +kernel
theorem dX12_isSeen_38 : decode cX12_isSeen 38 = .ok (.iload_n 1, 1) := by decide +kernel
theorem dX12_isSeen_39 : decode cX12_isSeen 39 = .ok (.iaload, 1) := by decide +kernel
theorem dX12_isSeen_40 : decode cX12_isSeen 40 = .ok (.iconst 1, 1) := by decide +kernel
theorem dX12_isSeen_41 : decode cX12_isSeen 41 = .ok (.if_icmp .ne 7, 3) := by decide +kernel
theorem dX12_isSeen_44 : decode cX12_isSeen 44 = .ok (.iconst 1, 1) := by decide +kernel
theorem dX12_isSeen_45 : decode cX12_isSeen 45 = .ok (.goto 4, 3) := by decide +kernel
theorem dX12_isSeen_48 : decode cX12_isSeen 48 = .ok (.iconst 0, 1) := by decide +kernel
theorem dX12_isSeen_49 : decode cX12_isSeen 49 = .ok (.if_icmp .eq 5, 3) := by decide +kernel
theorem dX12_isSeen_52 : decode cX12_isSeen 52 = .ok (.iconst 0, 1) := by decide +kernel
theorem dX12_isSeen_53 : decode cX12_isSeen 53 = .ok (.ireturn, 1) := by decide +kernel
theorem dX12_isSeen_54 : decode cX12_isSeen 54 = .ok (.iinc 1 1, 3) := by decide +kernel
theorem dX12_isSeen_57 : decode cX12_isSeen 57 = .ok (.goto (-55), 3) := by decide +kernel
theorem dX12_isSeen_60 : decode cX12_isSeen 60 = .ok (.iconst 1, 1) := by decide +kernel
theorem dX12_isSeen_61 : decode cX12_isSeen 61 = .ok (.ireturn, 1) := by decide +kernel
theorem dX12_cheers_0 : decode cX12_cheers 0 = .ok (.aload_n 0, 1) := by decide +kernel
theorem dX12_cheers_1 : decode cX12_cheers 1 = .ok (.getfield 9, 3) := by decide +kernel
theorem dX12_cheers_4 : decode cX12_cheers 4 = .ok (.iload_n 1, 1) := by decide +kernel
theorem dX12_cheers_5 : decode cX12_cheers 5 = .ok (.iaload, 1) := by decide +kernel
theorem dX12_cheers_6 : decode cX12_cheers 6 = .ok (.istore_n 2, 1) := by decide +kernel
theorem dX12_cheers_7 : decode cX12_cheers 7 = .ok (.iconst 0, 1) := by decide +kernel
theorem dX12_cheers_8 : decode cX12_cheers 8 = .ok (.istore_n 3, 1) := by decide +kernel
theorem dX12_cheers_9 : decode cX12_cheers 9 = .ok (.iconst 0, 1) := by decide +kernel
theorem dX12_cheers_10 : decode cX12_cheers 10 = .ok (.istore 4, 2) := by decide +kernel
theorem dX12_cheers_12 : decode cX12_cheers 12 = .ok (.iload 4, 2) := by decide +kernel
theorem dX12_cheers_14 : decode cX12_cheers 14 = .ok (.bipush 10, 2) := by decide +kernel
theorem dX12_cheers_16 : decode cX12_cheers 16 = .ok (.if_icmp .ge 31, 3) := by decide +kernel
theorem dX12_cheers_19 : decode cX12_cheers 19 = .ok (.aload_n 0, 1) := by decide +kernel
theorem dX12_cheers_20 : decode cX12_cheers 20 = .ok (.getfield 9, 3) := by decide +kernel
theorem dX12_cheers_23 : decode cX12_cheers 23 = .ok (.iload_n 1, 1) := by decide +kernel
theorem dX12_cheers_24 : decode cX12_cheers 24 = .ok (.iload 4, 2) := by decide +kernel
theorem dX12_cheers_26 : decode cX12_cheers 26 = .ok (.iastore, 1) := by decide +kernel
theorem dX12_cheers_27 : decode cX12_cheers 27 = .ok (.aload_n 0, 1) := by decide +kernel
theorem dX12_cheers_28 : decode cX12_cheers 28 = .ok (.invokevirtual 275, 3) := by decide +kernel
theorem dX12_cheers_31 : decode cX12_cheers 31 = .ok (.ifCond .eq 10, 3) := by decide +kernel
theorem dX12_cheers_34 : decode cX12_cheers 34 = .ok (.iload_n 3, 1) := by decide +kernel
theorem dX12_cheers_35 : decode cX12_cheers 35 = .ok (.iconst 1, 1) := by decide +kernel
theorem dX12_cheers_36 : decode cX12_cheers 36 = .ok (.iload 4, 2) := by decide +kernel
theorem dX12_cheers_38 : decode cX12_cheers 38 = .ok (.ishl, 1) := by decide +kernel
theorem dX12_cheers_39 : decode cX12_cheers 39 = .ok (.ior, 1) := by decide +kernel
theorem dX12_cheers_40 : decode cX12_cheers 40 = .ok (.istore_n 3, 1) := by decide +kernel
theorem dX12_cheers_41 : decode cX12_cheers 41 = .ok (.iinc 4 1, 3) := by decide +kernel
theorem dX12_cheers_44 : decode cX12_cheers 44 = .ok (.goto (-32), 3) := by decide +kernel
theorem dX12_cheers_47 : decode cX12_cheers 47 = .ok (.aload_n 0, 1) := by decide +kernel
theorem dX12_cheers_48 : decode cX12_cheers 48 = .ok (.getfield 9, 3) := by decide +kernel
theorem dX12_cheers_51 : decode cX12_cheers 51 = .ok (.iload_n 1, 1) := by decide +kernel
theorem dX12_cheers_52 : decode cX12_cheers 52 = .ok (.iload_n 2, 1) := by decide +kernel
theorem dX12_cheers_53 : decode cX12_cheers 53 = .ok (.iastore, 1) := by decide +kernel
theorem dX12_cheers_54 : decode cX12_cheers 54 = .ok (.iload_n 3, 1) := by decide +kernel
theorem dX12_cheers_55 : decode cX12_cheers 55 = .ok (.ireturn, 1) := by decide +kernel
theorem dX12_can_0 : decode cX12_can 0 = .ok (.aload_n 0, 1) := by decide +kernel
theorem dX12_can_1 : decode cX12_can 1 = .ok (.iload_n 1, 1) := by decide +kernel
theorem dX12_can_2 : decode cX12_can 2 = .ok (.invokevirtual 112, 3) := by decide +kernel
theorem dX12_can_5 : decode cX12_can 5 = .ok (.ifCond .eq 12, 3) := by decide +kernel
theorem dX12_can_8 : decode cX12_can 8 = .ok (.iload_n 2, 1) := by decide +kernel
theorem dX12_can_9 : decode cX12_can 9 = .ok (.iconst 0, 1) := by decide +kernel
theorem dX12_can_10 : decode cX12_can 10 = .ok (.iconst 1, 1) := by decide +kernel
theorem dX12_can_11 : decode cX12_can 11 = .ok (.invokestatic 108, 3) := by decide +kernel
theorem dX12_can_14 : decode cX12_can 14 = .ok (.ifCond .ne 5, 3) := by decide +kernel
theorem dX12_can_17 : decode cX12_can 17 = .ok (.iconst (-1), 1) := by decide +kernel
theorem dX12_can_18 : decode cX12_can 18 = .ok (.ireturn, 1) := by decide +kernel
theorem dX12_can_19 : decode cX12_can 19 = .ok (.aload_n 0, 1) := by decide +kernel
theorem dX12_can_20 : decode cX12_can 20 = .ok (.getfield 21, 3) := by decide +kernel
theorem dX12_can_23 : decode cX12_can 23 = .ok (.iload_n 1, 1) := by decide +kernel
theorem dX12_can_24 : decode cX12_can 24 = .ok (.iaload, 1) := by decide +kernel
theorem dX12_can_25 : decode cX12_can 25 = .ok (.istore_n 3, 1) := by decide +kernel
theorem dX12_can_26 : decode cX12_can 26 = .ok (.iconst 0, 1) := by decide +kernel
theorem dX12_can_27 : decode cX12_can 27 = .ok (.istore 4, 2) := by decide +kernel
theorem dX12_can_29 : decode cX12_can 29 = .ok (.bipush (-5), 2) := by decide +kernel
theorem dX12_can_31 : decode cX12_can 31 = .ok (.istore 5, 2) := by decide +kernel
theorem dX12_can_33 : decode cX12_can 33 = .ok (.bipush 9, 2) := by decide +kernel
theorem dX12_can_35 : decode cX12_can 35 = .ok (.istore 6, 2) := by decide +kernel
theorem dX12_can_37 : decode cX12_can 37 = .ok (.iload 6, 2) := by decide +kernel
theorem dX12_can_39 : decode cX12_can 39 = .ok (.ifCond .lt 34, 3) := by decide +kernel
theorem dX12_can_42 : decode cX12_can 42 = .ok (.aload_n 0, 1) := by decide +kernel
theorem dX12_can_43 : decode cX12_can 43 = .ok (.getfield 21, 3) := by decide +kernel
theorem dX12_can_46 : decode cX12_can 46 = .ok (.iload_n 1, 1) := by decide +kernel
theorem dX12_can_47 : decode cX12_can 47 = .ok (.iload 6, 2) := by decide +kernel
theorem dX12_can_49 : decode cX12_can 49 = .ok (.iastore, 1) := by decide +kernel
theorem dX12_can_50 : decode cX12_can 50 = .ok (.aload_n 0, 1) := by decide +kernel
theorem dX12_can_51 : decode cX12_can 51 = .ok (.invokevirtual 275, 3) := by decide +kernel
theorem dX12_can_54 : decode cX12_can 54 = .ok (.ifCond .ne 6, 3) := by decide +kernel
theorem dX12_can_57 : decode cX12_can 57 = .ok (.goto 10, 3) := by decide +kernel
theorem dX12_can_60 : decode cX12_can 60 = .ok (.iinc 4 1, 3) := by decide +kernel
theorem dX12_can_63 : decode cX12_can 63 = .ok (.iload 6, 2) := by decide +kernel
theorem dX12_can_65 : decode cX12_can 65 = .ok (.istore 5, 2) := by decide +kernel
theorem dX12_can_67 : decode cX12_can 67 = .ok (.iinc 6 (-1), 3) := by decide +kernel
theorem dX12_can_70 : decode cX12_can 70 = .ok (.goto (-33), 3) := by decide +kernel
theorem dX12_can_73 : decode cX12_can 73 = .ok (.aload_n 0, 1) := by decide +kernel
theorem dX12_can_74 : decode cX12_can 74 = .ok (.getfield 21, 3) := by decide +kernel
theorem dX12_can_77 : decode cX12_can 77 = .ok (.iload_n 1, 1) := by decide +kernel
theorem dX12_can_78 : decode cX12_can 78 = .ok (.iload_n 3, 1) := by decide +kernel
theorem dX12_can_79 : decode cX12_can 79 = .ok (.iastore, 1) := by decide +kernel
theorem dX12_can_80 : decode cX12_can 80 = .ok (.iload_n 2, 1) := by decide +kernel
theorem dX12_can_81 : decode cX12_can 81 = .ok (.ifCond .ne 8, 3) := by decide +kernel
theorem dX12_can_84 : decode cX12_can 84 = .ok (.iload 4, 2) := by decide +kernel
theorem dX12_can_86 : decode cX12_can 86 = .ok (.goto 5, 3) := by decide +kernel
theorem dX12_can_89 : decode cX12_can 89 = .ok (.iload 5, 2) := by decide +kernel
theorem dX12_can_91 : decode cX12_can 91 = .ok (.ireturn, 1) := by decide +kernel
theorem dX12_part_0 : decode cX12_part 0 = .ok (.lload_n 0, 1) := by decide +kernel
theorem dX12_part_1 : decode cX12_part 1 = .ok (.invokestatic 278, 3) := by decide +kernel
theorem dX12_part_4 : decode cX12_part 4 = .ok (.lstore 5, 2) := by decide +kernel
theorem dX12_part_6 : decode cX12_part 6 = .ok (.lload_n 2, 1) := by decide +kernel
theorem dX12_part_7 : decode cX12_part 7 = .ok (.lstore 7, 2) := by decide +kernel
theorem dX12_part_9 : decode cX12_part 9 = .ok (.lload 7, 2) := by decide +kernel
theorem dX12_part_11 : decode cX12_part 11 = .ok (.lconst 0, 1) := by decide +kernel
theorem dX12_part_12 : decode cX12_part 12 = .ok (.lcmp, 1) := by decide +kernel
theorem dX12_part_13 : decode cX12_part 13 = .ok (.ifCond .eq 21, 3) := by decide +kernel
theorem dX12_part_16 : decode cX12_part 16 = .ok (.lload 5, 2) := by decide +kernel
theorem dX12_part_18 : decode cX12_part 18 = .ok (.lload 7, 2) := by decide +kernel
theorem dX12_part_20 : decode cX12_part 20 = .ok (.lrem, 1) := by decide +kernel
theorem dX12_part_21 : decode cX12_part 21 = .ok (.lstore 9, 2) := by decide +kernel
theorem dX12_part_23 : decode cX12_part 23 = .ok (.lload 7, 2) := by decide +kernel
theorem dX12_part_25 : decode cX12_part 25 = .ok (.lstore 5, 2) := by decide +kernel
theorem dX12_part_27 : decode cX12_part 27 = .ok (.lload 9, 2) := by decide +kernel
theorem dX12_part_29 : decode cX12_part 29 = .ok (.lstore 7, 2) := by decide +kernel
theorem dX12_part_31 : decode cX12_part 31 = .ok (.goto (-22), 3) := by decide +kernel
theorem dX12_part_34 : decode cX12_part 34 = .ok (.iload 4, 2) := by decide +kernel
theorem dX12_part_36 : decode cX12_part 36 = .ok (.ifCond .ne 7, 3) := by decide +kernel
theorem dX12_part_39 : decode cX12_part 39 = .ok (.lload_n 0, 1) := by decide +kernel
theorem dX12_part_40 : decode cX12_part 40 = .ok (.goto 4, 3) := by decide +kernel
theorem dX12_part_43 : decode cX12_part 43 = .ok (.lload_n 2, 1) := by decide +kernel
theorem dX12_part_44 : decode cX12_part 44 = .ok (.lload 5, 2) := by decide +kernel
theorem dX12_part_46 : decode cX12_part 46 = .ok (.ldiv, 1) := by decide +kernel
theorem dX12_part_47 : decode cX12_part 47 = .ok (.lreturn, 1) := by decide +kernel
theorem dX12_odds_0 : decode cX12_odds 0 = .ok (.aload_n 0, 1) := by decide +kernel
theorem dX12_odds_1 : decode cX12_odds 1 = .ok (.iload_n 1, 1) := by decide +kernel
theorem dX12_odds_2 : decode cX12_odds 2 = .ok (.invokevirtual 112, 3) := by decide +kernel
theorem dX12_odds_5 : decode cX12_odds 5 = .ok (.ifCond .eq 12, 3) := by decide +kernel
theorem dX12_odds_8 : decode cX12_odds 8 = .ok (.iload_n 2, 1) := by decide +kernel
theorem dX12_odds_9 : decode cX12_odds 9 = .ok (.iconst 0, 1) := by decide +kernel
theorem dX12_odds_10 : decode cX12_odds 10 = .ok (.iconst 1, 1) := by decide +kernel
theorem dX12_odds_11 : decode cX12_odds 11 = .ok (.invokestatic 108, 3) := by decide +kernel
theorem dX12_odds_14 : decode cX12_odds 14 = .ok (.ifCond .ne 7, 3) := by decide +kernel
theorem dX12_odds_17 : decode cX12_odds 17 = .ok (.ldc2_w 282, 3) := by decide +kernel
theorem dX12_odds_20 : decode cX12_odds 20 = .ok (.lreturn, 1) := by decide +kernel
theorem dX12_odds_21 : decode cX12_odds 21 = .ok (.iconst 0, 1) := by decide +kernel
theorem dX12_odds_22 : decode cX12_odds 22 = .ok (.istore_n 3, 1) := by decide +kernel
theorem dX12_odds_23 : decode cX12_odds 23 = .ok (.iconst 0, 1) := by decide +kernel
theorem dX12_odds_24 : decode cX12_odds 24 = .ok (.istore 4, 2) := by decide +kernel
theorem dX12_odds_26 : decode cX12_odds 26 = .ok (.iload 4, 2) := by decide +kernel
theorem dX12_odds_28 : decode cX12_odds 28 = .ok (.bipush 12, 2) := by decide +kernel
theorem dX12_odds_30 : decode cX12_odds 30 = .ok (.if_icmp .ge 31, 3) := by decide +kernel
theorem dX12_odds_33 : decode cX12_odds 33 = .ok (.aload_n 0, 1) := by decide +kernel
theorem dX12_odds_34 : decode cX12_odds 34 = .ok (.iload_n 1, 1) := by decide +kernel
theorem dX12_odds_35 : decode cX12_odds 35 = .ok (.aload_n 0, 1) := by decide +kernel
theorem dX12_odds_36 : decode cX12_odds 36 = .ok (.getfield 24, 3) := by decide +kernel
theorem dX12_odds_39 : decode cX12_odds 39 = .ok (.iload_n 1, 1) := by decide +kernel
theorem dX12_odds_40 : decode cX12_odds 40 = .ok (.iaload, 1) := by decide +kernel
theorem dX12_odds_41 : decode cX12_odds 41 = .ok (.iconst 1, 1) := by decide +kernel
theorem dX12_odds_42 : decode cX12_odds 42 = .ok (.iload 4, 2) := by decide +kernel
theorem dX12_odds_44 : decode cX12_odds 44 = .ok (.ishl, 1) := by decide +kernel
theorem dX12_odds_45 : decode cX12_odds 45 = .ok (.ior, 1) := by decide +kernel
theorem dX12_odds_46 : decode cX12_odds 46 = .ok (.invokevirtual 126, 3) := by decide +kernel
theorem dX12_odds_49 : decode cX12_odds 49 = .ok (.ifCond .le 6, 3) := by decide +kernel
theorem dX12_odds_52 : decode cX12_odds 52 = .ok (.iinc 3 1, 3) := by decide +kernel
theorem dX12_odds_55 : decode cX12_odds 55 = .ok (.iinc 4 1, 3) := by decide +kernel
theorem dX12_odds_58 : decode cX12_odds 58 = .ok (.goto (-32), 3) := by decide +kernel
theorem dX12_odds_61 : decode cX12_odds 61 = .ok (.iload_n 3, 1) := by decide +kernel
theorem dX12_odds_62 : decode cX12_odds 62 = .ok (.i2l, 1) := by decide +kernel
theorem dX12_odds_63 : decode cX12_odds 63 = .ok (.ldc2_w 284, 3) := by decide +kernel
theorem dX12_odds_66 : decode cX12_odds 66 = .ok (.iload_n 2, 1) := by decide +kernel
theorem dX12_odds_67 : decode cX12_odds 67 = .ok (.invokestatic 286, 3) := by decide +kernel
theorem dX12_odds_70 : decode cX12_odds 70 = .ok (.lreturn, 1) := by decide +kernel
theorem dX12_mean_0 : decode cX12_mean 0 = .ok (.iconst 0, 1) := by decide +kernel
theorem dX12_mean_1 : decode cX12_mean 1 = .ok (.istore_n 2, 1) := by decide +kernel
theorem dX12_mean_2 : decode cX12_mean 2 = .ok (.iconst 0, 1) := by decide +kernel
theorem dX12_mean_3 : decode cX12_mean 3 = .ok (.istore_n 3, 1) := by decide +kernel
theorem dX12_mean_4 : decode cX12_mean 4 = .ok (.iconst 0, 1) := by decide +kernel
theorem dX12_mean_5 : decode cX12_mean 5 = .ok (.istore 4, 2) := by decide +kernel
theorem dX12_mean_7 : decode cX12_mean 7 = .ok (.iload 4, 2) := by decide +kernel
theorem dX12_mean_9 : decode cX12_mean 9 = .ok (.aload_n 0, 1) := by decide +kernel
theorem dX12_mean_10 : decode cX12_mean 10 = .ok (.getfield 105, 3) := by decide +kernel
theorem dX12_mean_13 : decode cX12_mean 13 = .ok (.if_icmp .ge 41, 3) := by decide +kernel
theorem dX12_mean_16 : decode cX12_mean 16 = .ok (.aload_n 0, 1) := by decide +kernel
theorem dX12_mean_17 : decode cX12_mean 17 = .ok (.getfield 24, 3) := by decide +kernel
theorem dX12_mean_20 : decode cX12_mean 20 = .ok (.iload 4, 2) := by decide +kernel
theorem dX12_mean_22 : decode cX12_mean 22 = .ok (.iaload, 1) := by decide +kernel
theorem dX12_mean_23 : decode cX12_mean 23 = .ok (.ifCond .ne 6, 3) := by decide +kernel
theorem dX12_mean_26 : decode cX12_mean 26 = .ok (.goto 22, 3) := by decide +kernel
theorem dX12_mean_29 : decode cX12_mean 29 = .ok (.iinc 2 1, 3) := by decide +kernel
theorem dX12_mean_32 : decode cX12_mean 32 = .ok (.iload_n 3, 1) := by decide +kernel
theorem dX12_mean_33 : decode cX12_mean 33 = .ok (.aload_n 0, 1) := by decide +kernel
theorem dX12_mean_34 : decode cX12_mean 34 = .ok (.iload 4, 2) := by decide +kernel
theorem dX12_mean_36 : decode cX12_mean 36 = .ok (.aload_n 0, 1) := by decide +kernel
theorem dX12_mean_37 : decode cX12_mean 37 = .ok (.getfield 24, 3) := by decide +kernel
theorem dX12_mean_40 : decode cX12_mean 40 = .ok (.iload 4, 2) := by decide +kernel
theorem dX12_mean_42 : decode cX12_mean 42 = .ok (.iaload, 1) := by decide +kernel
theorem dX12_mean_43 : decode cX12_mean 43 = .ok (.invokevirtual 126, 3) := by decide +kernel
theorem dX12_mean_46 : decode cX12_mean 46 = .ok (.iadd, 1) := by decide +kernel
theorem dX12_mean_47 : decode cX12_mean 47 = .ok (.istore_n 3, 1) := by decide +kernel
theorem dX12_mean_48 : decode cX12_mean 48 = .ok (.iinc 4 1, 3) := by decide +kernel
theorem dX12_mean_51 : decode cX12_mean 51 = .ok (.goto (-44), 3) := by decide +kernel
theorem dX12_mean_54 : decode cX12_mean 54 = .ok (.iload_n 1, 1) := by decide +kernel
theorem dX12_mean_55 : decode cX12_mean 55 = .ok (.iconst 0, 1) := by decide +kernel
theorem dX12_mean_56 : decode cX12_mean 56 = .ok (.iconst 1, 1) := by decide +kernel
theorem dX12_mean_57 : decode cX12_mean 57 = .ok (.invokestatic 108, 3) := by decide +kernel
theorem dX12_mean_60 : decode cX12_mean 60 = .ok (.ifCond .eq 7, 3) := by decide +kernel
theorem dX12_mean_63 : decode cX12_mean 63 = .ok (.iload_n 2, 1) := by decide +kernel
theorem dX12_mean_64 : decode cX12_mean 64 = .ok (.ifCond .ne 9, 3) := by decide +kernel
theorem dX12_mean_67 : decode cX12_mean 67 = .ok (.ldc2_w 282, 3) := by decide +kernel
theorem dX12_mean_70 : decode cX12_mean 70 = .ok (.goto 11, 3) := by decide +kernel
theorem dX12_mean_73 : decode cX12_mean 73 = .ok (.iload_n 3, 1) := by decide +kernel
theorem dX12_mean_74 : decode cX12_mean 74 = .ok (.i2l, 1) := by decide +kernel
theorem dX12_mean_75 : decode cX12_mean 75 = .ok (.iload_n 2, 1) := by decide +kernel
theorem dX12_mean_76 : decode cX12_mean 76 = .ok (.i2l, 1) := by decide +kernel
theorem dX12_mean_77 : decode cX12_mean 77 = .ok (.iload_n 1, 1) := by decide +kernel
theorem dX12_mean_78 : decode cX12_mean 78 = .ok (.invokestatic 286, 3) := by decide +kernel
theorem dX12_mean_81 : decode cX12_mean 81 = .ok (.lreturn, 1) := by decide +kernel
theorem dX12_plan_0 : decode cX12_plan 0 = .ok (.iload_n 1, 1) := by decide +kernel
theorem dX12_plan_1 : decode cX12_plan 1 = .ok (.iconst (-1), 1) := by decide +kernel
theorem dX12_plan_2 : decode cX12_plan 2 = .ok (.if_icmp .ne 10, 3) := by decide +kernel
theorem dX12_plan_5 : decode cX12_plan 5 = .ok (.aload_n 0, 1) := by decide +kernel
theorem dX12_plan_6 : decode cX12_plan 6 = .ok (.iconst 0, 1) := by decide +kernel
theorem dX12_plan_7 : decode cX12_plan 7 = .ok (.putfield 290, 3) := by decide +kernel
theorem dX12_plan_10 : decode cX12_plan 10 = .ok (.iconst 0, 1) := by decide +kernel
theorem dX12_plan_11 : decode cX12_plan 11 = .ok (.ireturn, 1) := by decide +kernel
theorem dX12_plan_12 : decode cX12_plan 12 = .ok (.iload_n 1, 1) := by decide +kernel
theorem dX12_plan_13 : decode cX12_plan 13 = .ok (.iconst 0, 1) := by decide +kernel
theorem dX12_plan_14 : decode cX12_plan 14 = .ok (.iconst 3, 1) := by decide +kernel
theorem dX12_plan_15 : decode cX12_plan 15 = .ok (.invokestatic 108, 3) := by decide +kernel
theorem dX12_plan_18 : decode cX12_plan 18 = .ok (.ifCond .eq 32, 3) := by decide +kernel
theorem dX12_plan_21 : decode cX12_plan 21 = .ok (.iload_n 1, 1) := by decide +kernel
theorem dX12_plan_22 : decode cX12_plan 22 = .ok (.iconst 1, 1) := by decide +kernel
theorem dX12_plan_23 : decode cX12_plan 23 = .ok (.iconst 2, 1) := by decide +kernel
theorem dX12_plan_24 : decode cX12_plan 24 = .ok (.invokestatic 108, 3) := by decide +kernel
theorem dX12_plan_27 : decode cX12_plan 27 = .ok (.ifCond .eq 11, 3) := by decide +kernel
theorem dX12_plan_30 : decode cX12_plan 30 = .ok (.aload_n 0, 1) := by decide +kernel
theorem dX12_plan_31 : decode cX12_plan 31 = .ok (.iload_n 2, 1) := by decide +kernel
theorem dX12_plan_32 : decode cX12_plan 32 = .ok (.invokevirtual 112, 3) := by decide +kernel
theorem dX12_plan_35 : decode cX12_plan 35 = .ok (.ifCond .eq 15, 3) := by decide +kernel
theorem dX12_plan_38 : decode cX12_plan 38 = .ok (.iload_n 1, 1) := by decide +kernel
theorem dX12_plan_39 : decode cX12_plan 39 = .ok (.iconst 3, 1) := by decide +kernel
theorem dX12_plan_40 : decode cX12_plan 40 = .ok (.if_icmp .ne 12, 3) := by decide +kernel
theorem dX12_plan_43 : decode cX12_plan 43 = .ok (.iload_n 2, 1) := by decide +kernel
theorem dX12_plan_44 : decode cX12_plan 44 = .ok (.invokestatic 130, 3) := by decide +kernel
theorem dX12_plan_47 : decode cX12_plan 47 = .ok (.ifCond .ne 5, 3) := by decide +kernel
theorem dX12_plan_50 : decode cX12_plan 50 = .ok (.iconst (-1), 1) := by decide +kernel
theorem dX12_plan_51 : decode cX12_plan 51 = .ok (.ireturn, 1) := by decide +kernel
theorem dX12_plan_52 : decode cX12_plan 52 = .ok (.aload_n 0, 1) := by decide +kernel
theorem dX12_plan_53 : decode cX12_plan 53 = .ok (.getfield 290, 3) := by decide +kernel
theorem dX12_plan_56 : decode cX12_plan 56 = .ok (.bipush 10, 2) := by decide +kernel
theorem dX12_plan_58 : decode cX12_plan 58 = .ok (.if_icmp .ne 6, 3) := by decide +kernel
theorem dX12_plan_61 : decode cX12_plan 61 = .ok (.bipush (-4), 2) := by decide +kernel
theorem dX12_plan_63 : decode cX12_plan 63 = .ok (.ireturn, 1) := by decide +kernel
theorem dX12_plan_64 : decode cX12_plan 64 = .ok (.aload_n 0, 1) := by decide +kernel
theorem dX12_plan_65 : decode cX12_plan 65 = .ok (.getfield 70, 3) := by decide +kernel
theorem dX12_plan_68 : decode cX12_plan 68 = .ok (.aload_n 0, 1) := by decide +kernel
theorem dX12_plan_69 : decode cX12_plan 69 = .ok (.getfield 290, 3) := by decide +kernel
theorem dX12_plan_72 : decode cX12_plan 72 = .ok (.iload_n 1, 1) := by decide +kernel
theorem dX12_plan_73 : decode cX12_plan 73 = .ok (.iastore, 1) := by decide +kernel
theorem dX12_plan_74 : decode cX12_plan 74 = .ok (.aload_n 0, 1) := by decide +kernel
theorem dX12_plan_75 : decode cX12_plan 75 = .ok (.getfield 73, 3) := by decide +kernel
theorem dX12_plan_78 : decode cX12_plan 78 = .ok (.aload_n 0, 1) := by decide +kernel
theorem dX12_plan_79 : decode cX12_plan 79 = .ok (.dup, 1) := by decide +kernel
theorem dX12_plan_80 : decode cX12_plan 80 = .ok (.getfield 290, 3) := by decide +kernel
theorem dX12_plan_83 : decode cX12_plan 83 = .ok (.dup_x1, 1) := by decide +kernel
theorem dX12_plan_84 : decode cX12_plan 84 = .ok (.iconst 1, 1) := by decide +kernel
theorem dX12_plan_85 : decode cX12_plan 85 = .ok (.iadd, 1) := by decide +kernel
theorem dX12_plan_86 : decode cX12_plan 86 = .ok (.putfield 290, 3) := by decide +kernel
theorem dX12_plan_89 : decode cX12_plan 89 = .ok (.iload_n 1, 1) := by decide +kernel
theorem dX12_plan_90 : decode cX12_plan 90 = .ok (.ifCond .ne 7, 3) := by decide +kernel
theorem dX12_plan_93 : decode cX12_plan 93 = .ok (.iconst 0, 1) := by decide +kernel
theorem dX12_plan_94 : decode cX12_plan 94 = .ok (.goto 4, 3) := by decide +kernel
theorem dX12_plan_97 : decode cX12_plan 97 = .ok (.iload_n 2, 1) := by decide +kernel
theorem dX12_plan_98 : decode cX12_plan 98 = .ok (.iastore, 1) := by decide +kernel
theorem dX12_plan_99 : decode cX12_plan 99 = .ok (.aload_n 0, 1) := by decide +kernel
theorem dX12_plan_100 : decode cX12_plan 100 = .ok (.getfield 290, 3) := by decide +kernel
theorem dX12_plan_103 : decode cX12_plan 103 = .ok (.ireturn, 1) := by decide +kernel
theorem dX12_ends_0 : decode cX12_ends 0 = .ok (.iload_n 1, 1) := by decide +kernel
theorem dX12_ends_1 : decode cX12_ends 1 = .ok (.iconst 0, 1) := by decide +kernel
theorem dX12_ends_2 : decode cX12_ends 2 = .ok (.iconst 1, 1) := by decide +kernel
theorem dX12_ends_3 : decode cX12_ends 3 = .ok (.invokestatic 108, 3) := by decide +kernel
theorem dX12_ends_6 : decode cX12_ends 6 = .ok (.ifCond .ne 5, 3) := by decide +kernel
theorem dX12_ends_9 : decode cX12_ends 9 = .ok (.iconst (-1), 1) := by decide +kernel
theorem dX12_ends_10 : decode cX12_ends 10 = .ok (.ireturn, 1) := by decide +kernel
theorem dX12_ends_11 : decode cX12_ends 11 = .ok (.aload_n 0, 1) := by decide +kernel
theorem dX12_ends_12 : decode cX12_ends 12 = .ok (.aload_n 0, 1) := by decide +kernel
theorem dX12_ends_13 : decode cX12_ends 13 = .ok (.getfield 88, 3) := by decide +kernel
theorem dX12_ends_16 : decode cX12_ends 16 = .ok (.invokevirtual 265, 3) := by decide +kernel
theorem dX12_ends_19 : decode cX12_ends 19 = .ok (.iconst 0, 1) := by decide +kernel
theorem dX12_ends_20 : decode cX12_ends 20 = .ok (.istore_n 2, 1) := by decide +kernel
theorem dX12_ends_21 : decode cX12_ends 21 = .ok (.iload_n 2, 1) := by decide +kernel
theorem dX12_ends_22 : decode cX12_ends 22 = .ok (.aload_n 0, 1) := by decide +kernel
theorem dX12_ends_23 : decode cX12_ends 23 = .ok (.getfield 290, 3) := by decide +kernel
theorem dX12_ends_26 : decode cX12_ends 26 = .ok (.if_icmp .ge 80, 3) := by decide +kernel
theorem dX12_ends_29 : decode cX12_ends 29 = .ok (.aload_n 0, 1) := by decide +kernel
theorem dX12_ends_30 : decode cX12_ends 30 = .ok (.getfield 73, 3) := by decide +kernel
theorem dX12_ends_33 : decode cX12_ends 33 = .ok (.iload_n 2, 1) := by decide +kernel
theorem dX12_ends_34 : decode cX12_ends 34 = .ok (.iaload, 1) := by decide +kernel
theorem dX12_ends_35 : decode cX12_ends 35 = .ok (.istore_n 3, 1) := by decide +kernel
theorem dX12_ends_36 : decode cX12_ends 36 = .ok (.aload_n 0, 1) := by decide +kernel
theorem dX12_ends_37 : decode cX12_ends 37 = .ok (.getfield 70, 3) := by decide +kernel
theorem dX12_ends_40 : decode cX12_ends 40 = .ok (.iload_n 2, 1) := by decide +kernel
theorem dX12_ends_41 : decode cX12_ends 41 = .ok (.iaload, 1) := by decide +kernel
theorem dX12_ends_42 : decode cX12_ends 42 = .ok (.ifCond .ne 10, 3) := by decide +kernel
theorem dX12_ends_45 : decode cX12_ends 45 = .ok (.aload_n 0, 1) := by decide +kernel
theorem dX12_ends_46 : decode cX12_ends 46 = .ok (.invokevirtual 262, 3) := by decide +kernel
theorem dX12_ends_49 : decode cX12_ends 49 = .ok (.goto 51, 3) := by decide +kernel
theorem dX12_ends_52 : decode cX12_ends 52 = .ok (.aload_n 0, 1) := by decide +kernel
theorem dX12_ends_53 : decode cX12_ends 53 = .ok (.getfield 70, 3) := by decide +kernel
theorem dX12_ends_56 : decode cX12_ends 56 = .ok (.iload_n 2, 1) := by decide +kernel
theorem dX12_ends_57 : decode cX12_ends 57 = .ok (.iaload, 1) := by decide +kernel
theorem dX12_ends_58 : decode cX12_ends 58 = .ok (.iconst 1, 1) := by decide +kernel
theorem dX12_ends_59 : decode cX12_ends 59 = .ok (.if_icmp .ne 13, 3) := by decide +kernel
theorem dX12_ends_62 : decode cX12_ends 62 = .ok (.aload_n 0, 1) := by decide +kernel
theorem dX12_ends_63 : decode cX12_ends 63 = .ok (.getfield 24, 3) := by decide +kernel
theorem dX12_ends_66 : decode cX12_ends 66 = .ok (.iload_n 3, 1) := by decide +kernel
theorem dX12_ends_67 : decode cX12_ends 67 = .ok (.iconst 0, 1) := by decide +kernel
theorem dX12_ends_68 : decode cX12_ends 68 = .ok (.iastore, 1) := by decide +kernel
theorem dX12_ends_69 : decode cX12_ends 69 = .ok (.goto 31, 3) := by decide +kernel
theorem dX12_ends_72 : decode cX12_ends 72 = .ok (.aload_n 0, 1) := by decide +kernel
theorem dX12_ends_73 : decode cX12_ends 73 = .ok (.getfield 70, 3) := by decide +kernel
theorem dX12_ends_76 : decode cX12_ends 76 = .ok (.iload_n 2, 1) := by decide +kernel
theorem dX12_ends_77 : decode cX12_ends 77 = .ok (.iaload, 1) := by decide +kernel
theorem dX12_ends_78 : decode cX12_ends 78 = .ok (.iconst 2, 1) := by decide +kernel
theorem dX12_ends_79 : decode cX12_ends 79 = .ok (.if_icmp .ne 13, 3) := by decide +kernel
theorem dX12_ends_82 : decode cX12_ends 82 = .ok (.aload_n 0, 1) := by decide +kernel
theorem dX12_ends_83 : decode cX12_ends 83 = .ok (.getfield 27, 3) := by decide +kernel
theorem dX12_ends_86 : decode cX12_ends 86 = .ok (.iload_n 3, 1) := by decide +kernel
theorem dX12_ends_87 : decode cX12_ends 87 = .ok (.iconst 0, 1) := by decide +kernel
theorem dX12_ends_88 : decode cX12_ends 88 = .ok (.iastore, 1) := by decide +kernel
theorem dX12_ends_89 : decode cX12_ends 89 = .ok (.goto 11, 3) := by decide +kernel
theorem dX12_ends_92 : decode cX12_ends 92 = .ok (.aload_n 0, 1) := by decide +kernel
theorem dX12_ends_93 : decode cX12_ends 93 = .ok (.getfield 9, 3) := by decide +kernel
theorem dX12_ends_96 : decode cX12_ends 96 = .ok (.iload_n 3, 1) := by decide +kernel
theorem dX12_ends_97 : decode cX12_ends 97 = .ok (.bipush 9, 2) := by decide +kernel
theorem dX12_ends_99 : decode cX12_ends 99 = .ok (.iastore, 1) := by decide +kernel
theorem dX12_ends_100 : decode cX12_ends 100 = .ok (.iinc 2 1, 3) := by decide +kernel
theorem dX12_ends_103 : decode cX12_ends 103 = .ok (.goto (-82), 3) := by decide +kernel
theorem dX12_ends_106 : decode cX12_ends 106 = .ok (.iload_n 1, 1) := by decide +kernel
theorem dX12_ends_107 : decode cX12_ends 107 = .ok (.ifCond .ne 10, 3) := by decide +kernel
theorem dX12_ends_110 : decode cX12_ends 110 = .ok (.aload_n 0, 1) := by decide +kernel
theorem dX12_ends_111 : decode cX12_ends 111 = .ok (.getfield 241, 3) := by decide +kernel
theorem dX12_ends_114 : decode cX12_ends 114 = .ok (.goto 7, 3) := by decide +kernel
theorem dX12_ends_117 : decode cX12_ends 117 = .ok (.aload_n 0, 1) := by decide +kernel
theorem dX12_ends_118 : decode cX12_ends 118 = .ok (.invokevirtual 293, 3) := by decide +kernel
theorem dX12_ends_121 : decode cX12_ends 121 = .ok (.istore_n 2, 1) := by decide +kernel
theorem dX12_ends_122 : decode cX12_ends 122 = .ok (.aload_n 0, 1) := by decide +kernel
theorem dX12_ends_123 : decode cX12_ends 123 = .ok (.aload_n 0, 1) := by decide +kernel
theorem dX12_ends_124 : decode cX12_ends 124 = .ok (.getfield 88, 3) := by decide +kernel
theorem dX12_ends_127 : decode cX12_ends 127 = .ok (.invokevirtual 269, 3) := by decide +kernel
theorem dX12_ends_130 : decode cX12_ends 130 = .ok (.iload_n 2, 1) := by decide +kernel
theorem dX12_ends_131 : decode cX12_ends 131 = .ok (.ireturn, 1) := by decide +kernel
theorem dX12_book_0 : decode cX12_book 0 = .ok (.iload_n 1, 1) := by decide +kernel
theorem dX12_book_1 : decode cX12_book 1 = .ok (.iconst (-1), 1) := by decide +kernel
theorem dX12_book_2 : decode cX12_book 2 = .ok (.if_icmp .ne 10, 3) := by decide +kernel
theorem dX12_book_5 : decode cX12_book 5 = .ok (.aload_n 0, 1) := by decide +kernel
theorem dX12_book_6 : decode cX12_book 6 = .ok (.iconst 0, 1) := by decide +kernel
theorem dX12_book_7 : decode cX12_book 7 = .ok (.putfield 296, 3) := by decide +kernel
theorem dX12_book_10 : decode cX12_book 10 = .ok (.iconst 0, 1) := by decide +kernel
theorem dX12_book_11 : decode cX12_book 11 = .ok (.ireturn, 1) := by decide +kernel
theorem dX12_book_12 : decode cX12_book 12 = .ok (.iload_n 1, 1) := by decide +kernel
theorem dX12_book_13 : decode cX12_book 13 = .ok (.invokestatic 130, 3) := by decide +kernel
theorem dX12_book_16 : decode cX12_book 16 = .ok (.ifCond .ne 5, 3) := by decide +kernel
theorem dX12_book_19 : decode cX12_book 19 = .ok (.iconst (-1), 1) := by decide +kernel
theorem dX12_book_20 : decode cX12_book 20 = .ok (.ireturn, 1) := by decide +kernel
theorem dX12_book_21 : decode cX12_book 21 = .ok (.iload_n 2, 1) := by decide +kernel
theorem dX12_book_22 : decode cX12_book 22 = .ok (.iconst 0, 1) := by decide +kernel
theorem dX12_book_23 : decode cX12_book 23 = .ok (.bipush 9, 2) := by decide +kernel
theorem dX12_book_25 : decode cX12_book 25 = .ok (.invokestatic 108, 3) := by decide +kernel
theorem dX12_book_28 : decode cX12_book 28 = .ok (.ifCond .ne 6, 3) := by decide +kernel
theorem dX12_book_31 : decode cX12_book 31 = .ok (.bipush (-2), 2) := by decide +kernel
theorem dX12_book_33 : decode cX12_book 33 = .ok (.ireturn, 1) := by decide +kernel
theorem dX12_book_34 : decode cX12_book 34 = .ok (.aload_n 0, 1) := by decide +kernel
theorem dX12_book_35 : decode cX12_book 35 = .ok (.getfield 296, 3) := by decide +kernel
theorem dX12_book_38 : decode cX12_book 38 = .ok (.bipush 8, 2) := by decide +kernel
theorem dX12_book_40 : decode cX12_book 40 = .ok (.if_icmp .ne 6, 3) := by decide +kernel
theorem dX12_book_43 : decode cX12_book 43 = .ok (.bipush (-4), 2) := by decide +kernel
theorem dX12_book_45 : decode cX12_book 45 = .ok (.ireturn, 1) := by decide +kernel
theorem dX12_book_46 : decode cX12_book 46 = .ok (.aload_n 0, 1) := by decide +kernel
theorem dX12_book_47 : decode cX12_book 47 = .ok (.getfield 76, 3) := by decide +kernel
theorem dX12_book_50 : decode cX12_book 50 = .ok (.aload_n 0, 1) := by decide +kernel
theorem dX12_book_51 : decode cX12_book 51 = .ok (.getfield 296, 3) := by decide +kernel
theorem dX12_book_54 : decode cX12_book 54 = .ok (.iload_n 1, 1) := by decide +kernel
theorem dX12_book_55 : decode cX12_book 55 = .ok (.iastore, 1) := by decide +kernel
theorem dX12_book_56 : decode cX12_book 56 = .ok (.aload_n 0, 1) := by decide +kernel
theorem dX12_book_57 : decode cX12_book 57 = .ok (.getfield 79, 3) := by decide +kernel
theorem dX12_book_60 : decode cX12_book 60 = .ok (.aload_n 0, 1) := by decide +kernel
theorem dX12_book_61 : decode cX12_book 61 = .ok (.dup, 1) := by decide +kernel
theorem dX12_book_62 : decode cX12_book 62 = .ok (.getfield 296, 3) := by decide +kernel
theorem dX12_book_65 : decode cX12_book 65 = .ok (.dup_x1, 1) := by decide +kernel
theorem dX12_book_66 : decode cX12_book 66 = .ok (.iconst 1, 1) := by decide +kernel
theorem dX12_book_67 : decode cX12_book 67 = .ok (.iadd, 1) := by decide +kernel
theorem dX12_book_68 : decode cX12_book 68 = .ok (.putfield 296, 3) := by decide +kernel
theorem dX12_book_71 : decode cX12_book 71 = .ok (.iload_n 2, 1) := by decide +kernel
theorem dX12_book_72 : decode cX12_book 72 = .ok (.iastore, 1) := by decide +kernel
theorem dX12_book_73 : decode cX12_book 73 = .ok (.aload_n 0, 1) := by decide +kernel
theorem dX12_book_74 : decode cX12_book 74 = .ok (.getfield 296, 3) := by decide +kernel
theorem dX12_book_77 : decode cX12_book 77 = .ok (.ireturn, 1) := by decide +kernel
theorem dX12_looked_0 : decode cX12_looked 0 = .ok (.iconst 0, 1) := by decide +kernel
theorem dX12_looked_1 : decode cX12_looked 1 = .ok (.istore_n 1, 1) := by decide +kernel
theorem dX12_looked_2 : decode cX12_looked 2 = .ok (.iload_n 1, 1) := by decide +kernel
theorem dX12_looked_3 : decode cX12_looked 3 = .ok (.aload_n 0, 1) := by decide +kernel
theorem dX12_looked_4 : decode cX12_looked 4 = .ok (.getfield 296, 3) := by decide +kernel
theorem dX12_looked_7 : decode cX12_looked 7 = .ok (.if_icmp .ge 31, 3) := by decide +kernel
theorem dX12_looked_10 : decode cX12_looked 10 = .ok (.aload_n 0, 1) := by decide +kernel
theorem dX12_looked_11 : decode cX12_looked 11 = .ok (.getfield 9, 3) := by decide +kernel
theorem dX12_looked_14 : decode cX12_looked 14 = .ok (.aload_n 0, 1) := by decide +kernel
theorem dX12_looked_15 : decode cX12_looked 15 = .ok (.getfield 76, 3) := by decide +kernel
theorem dX12_looked_18 : decode cX12_looked 18 = .ok (.iload_n 1, 1) := by decide +kernel
theorem dX12_looked_19 : decode cX12_looked 19 = .ok (.iaload, 1) := by decide +kernel
theorem dX12_looked_20 : decode cX12_looked 20 = .ok (.iaload, 1) := by decide +kernel
theorem dX12_looked_21 : decode cX12_looked 21 = .ok (.aload_n 0, 1) := by decide +kernel
theorem dX12_looked_22 : decode cX12_looked 22 = .ok (.getfield 79, 3) := by decide +kernel
theorem dX12_looked_25 : decode cX12_looked 25 = .ok (.iload_n 1, 1) := by decide +kernel
theorem dX12_looked_26 : decode cX12_looked 26 = .ok (.iaload, 1) := by decide +kernel
theorem dX12_looked_27 : decode cX12_looked 27 = .ok (.if_icmp .eq 5, 3) := by decide +kernel
theorem dX12_looked_30 : decode cX12_looked 30 = .ok (.iload_n 1, 1) := by decide +kernel
theorem dX12_looked_31 : decode cX12_looked 31 = .ok (.ireturn, 1) := by decide +kernel
theorem dX12_looked_32 : decode cX12_looked 32 = .ok (.iinc 1 1, 3) := by decide +kernel
theorem dX12_looked_35 : decode cX12_looked 35 = .ok (.goto (-33), 3) := by decide +kernel
theorem dX12_looked_38 : decode cX12_looked 38 = .ok (.bipush (-5), 2) := by decide +kernel
theorem dX12_looked_40 : decode cX12_looked 40 = .ok (.ireturn, 1) := by decide +kernel
theorem dX12_judge_0 : decode cX12_judge 0 = .ok (.iload_n 1, 1) := by decide +kernel
theorem dX12_judge_1 : decode cX12_judge 1 = .ok (.iconst 0, 1) := by decide +kernel
theorem dX12_judge_2 : decode cX12_judge 2 = .ok (.iconst 5, 1) := by decide +kernel
theorem dX12_judge_3 : decode cX12_judge 3 = .ok (.invokestatic 108, 3) := by decide +kernel
theorem dX12_judge_6 : decode cX12_judge 6 = .ok (.ifCond .ne 5, 3) := by decide +kernel
theorem dX12_judge_9 : decode cX12_judge 9 = .ok (.iconst (-1), 1) := by decide +kernel
theorem dX12_judge_10 : decode cX12_judge 10 = .ok (.ireturn, 1) := by decide +kernel
theorem dX12_judge_11 : decode cX12_judge 11 = .ok (.aload_n 0, 1) := by decide +kernel
theorem dX12_judge_12 : decode cX12_judge 12 = .ok (.getfield 91, 3) := by decide +kernel
theorem dX12_judge_15 : decode cX12_judge 15 = .ok (.iload_n 1, 1) := by decide +kernel
theorem dX12_judge_16 : decode cX12_judge 16 = .ok (.iaload, 1) := by decide +kernel
theorem dX12_judge_17 : decode cX12_judge 17 = .ok (.iconst (-1), 1) := by decide +kernel
theorem dX12_judge_18 : decode cX12_judge 18 = .ok (.if_icmp .eq 16, 3) := by decide +kernel
theorem dX12_judge_21 : decode cX12_judge 21 = .ok (.aload_n 0, 1) := by decide +kernel
theorem dX12_judge_22 : decode cX12_judge 22 = .ok (.getfield 91, 3) := by decide +kernel
theorem dX12_judge_25 : decode cX12_judge 25 = .ok (.iload_n 1, 1) := by decide +kernel
theorem dX12_judge_26 : decode cX12_judge 26 = .ok (.iaload, 1) := by decide +kernel
theorem dX12_judge_27 : decode cX12_judge 27 = .ok (.iconst 2, 1) := by decide +kernel
theorem dX12_judge_28 : decode cX12_judge 28 = .ok (.if_icmp .eq 6, 3) := by decide +kernel
theorem dX12_judge_31 : decode cX12_judge 31 = .ok (.bipush (-12), 2) := by decide +kernel
theorem dX12_judge_33 : decode cX12_judge 33 = .ok (.ireturn, 1) := by decide +kernel
theorem dX12_judge_34 : decode cX12_judge 34 = .ok (.iconst 0, 1) := by decide +kernel
theorem dX12_judge_35 : decode cX12_judge 35 = .ok (.istore_n 3, 1) := by decide +kernel
theorem dX12_judge_36 : decode cX12_judge 36 = .ok (.iload_n 3, 1) := by decide +kernel
theorem dX12_judge_37 : decode cX12_judge 37 = .ok (.bipush 12, 2) := by decide +kernel
theorem dX12_judge_39 : decode cX12_judge 39 = .ok (.if_icmp .ge 70, 3) := by decide +kernel
theorem dX12_judge_42 : decode cX12_judge 42 = .ok (.aload_n 0, 1) := by decide +kernel
theorem dX12_judge_43 : decode cX12_judge 43 = .ok (.getfield 91, 3) := by decide +kernel
theorem dX12_judge_46 : decode cX12_judge 46 = .ok (.iload_n 1, 1) := by decide +kernel
theorem dX12_judge_47 : decode cX12_judge 47 = .ok (.iaload, 1) := by decide +kernel
theorem dX12_judge_48 : decode cX12_judge 48 = .ok (.iconst (-1), 1) := by decide +kernel
theorem dX12_judge_49 : decode cX12_judge 49 = .ok (.if_icmp .eq 23, 3) := by decide +kernel
theorem dX12_judge_52 : decode cX12_judge 52 = .ok (.iload_n 2, 1) := by decide +kernel
theorem dX12_judge_53 : decode cX12_judge 53 = .ok (.ifCond .lt 19, 3) := by decide +kernel
theorem dX12_judge_56 : decode cX12_judge 56 = .ok (.iload_n 2, 1) := by decide +kernel
theorem dX12_judge_57 : decode cX12_judge 57 = .ok (.i2l, 1) := by decide +kernel
theorem dX12_judge_58 : decode cX12_judge 58 = .ok (.iload_n 3, 1) := by decide +kernel
theorem dX12_judge_59 : decode cX12_judge 59 = .ok (.i2l, 1) := by decide +kernel
theorem dX12_judge_60 : decode cX12_judge 60 = .ok (.ladd, 1) := by decide +kernel
theorem dX12_judge_61 : decode cX12_judge 61 = .ok (.aload_n 0, 1) := by decide +kernel
theorem dX12_judge_62 : decode cX12_judge 62 = .ok (.getfield 94, 3) := by decide +kernel
theorem dX12_judge_65 : decode cX12_judge 65 = .ok (.iload_n 1, 1) := by decide +kernel
theorem dX12_judge_66 : decode cX12_judge 66 = .ok (.iaload, 1) := by decide +kernel
theorem dX12_judge_67 : decode cX12_judge 67 = .ok (.i2l, 1) := by decide +kernel
theorem dX12_judge_68 : decode cX12_judge 68 = .ok (.lcmp, 1) := by decide +kernel
theorem dX12_judge_69 : decode cX12_judge 69 = .ok (.ifCond .lt 8, 3) := by decide +kernel
theorem dX12_judge_72 : decode cX12_judge 72 = .ok (.bipush 100, 2) := by decide +kernel
theorem dX12_judge_74 : decode cX12_judge 74 = .ok (.iload_n 3, 1) := by decide +kernel
theorem dX12_judge_75 : decode cX12_judge 75 = .ok (.iadd, 1) := by decide +kernel
theorem dX12_judge_76 : decode cX12_judge 76 = .ok (.ireturn, 1) := by decide +kernel
theorem dX12_judge_77 : decode cX12_judge 77 = .ok (.aload_n 0, 1) := by decide +kernel
theorem dX12_judge_78 : decode cX12_judge 78 = .ok (.getfield 97, 3) := by decide +kernel
theorem dX12_judge_81 : decode cX12_judge 81 = .ok (.bipush 60, 2) := by decide +kernel
theorem dX12_judge_83 : decode cX12_judge 83 = .ok (.iload_n 1, 1) := by decide +kernel
theorem dX12_judge_84 : decode cX12_judge 84 = .ok (.imul, 1) := by decide +kernel
theorem dX12_judge_85 : decode cX12_judge 85 = .ok (.iload_n 2, 1) := by decide +kernel
theorem dX12_judge_86 : decode cX12_judge 86 = .ok (.iadd, 1) := by decide +kernel
theorem dX12_judge_87 : decode cX12_judge 87 = .ok (.iload_n 3, 1) := by decide +kernel
theorem dX12_judge_88 : decode cX12_judge 88 = .ok (.iadd, 1) := by decide +kernel
theorem dX12_judge_89 : decode cX12_judge 89 = .ok (.laload, 1) := by decide +kernel
theorem dX12_judge_90 : decode cX12_judge 90 = .ok (.aload_n 0, 1) := by decide +kernel
theorem dX12_judge_91 : decode cX12_judge 91 = .ok (.getfield 9, 3) := by decide +kernel
theorem dX12_judge_94 : decode cX12_judge 94 = .ok (.iload_n 3, 1) := by decide +kernel
theorem dX12_judge_95 : decode cX12_judge 95 = .ok (.iaload, 1) := by decide +kernel
theorem dX12_judge_96 : decode cX12_judge 96 = .ok (.i2l, 1) := by decide +kernel
theorem dX12_judge_97 : decode cX12_judge 97 = .ok (.lcmp, 1) := by decide +kernel
theorem dX12_judge_98 : decode cX12_judge 98 = .ok (.ifCond .eq 5, 3) := by decide +kernel
theorem dX12_judge_101 : decode cX12_judge 101 = .ok (.iload_n 3, 1) := by decide +kernel
theorem dX12_judge_102 : decode cX12_judge 102 = .ok (.ireturn, 1) := by decide +kernel
theorem dX12_judge_103 : decode cX12_judge 103 = .ok (.iinc 3 1, 3) := by decide +kernel
theorem dX12_judge_106 : decode cX12_judge 106 = .ok (.goto (-70), 3) := by decide +kernel
theorem dX12_judge_109 : decode cX12_judge 109 = .ok (.bipush (-5), 2) := by decide +kernel
theorem dX12_judge_111 : decode cX12_judge 111 = .ok (.ireturn, 1) := by decide +kernel
theorem dX12_keep_0 : decode cX12_keep 0 = .ok (.iconst 0, 1) := by decide +kernel
theorem dX12_keep_1 : decode cX12_keep 1 = .ok (.istore_n 2, 1) := by decide +kernel
theorem dX12_keep_2 : decode cX12_keep 2 = .ok (.iload_n 2, 1) := by decide +kernel
theorem dX12_keep_3 : decode cX12_keep 3 = .ok (.bipush 12, 2) := by decide +kernel
theorem dX12_keep_5 : decode cX12_keep 5 = .ok (.if_icmp .ge 30, 3) := by decide +kernel
theorem dX12_keep_8 : decode cX12_keep 8 = .ok (.aload_n 1, 1) := by decide +kernel
theorem dX12_keep_9 : decode cX12_keep 9 = .ok (.iload_n 2, 1) := by decide +kernel
theorem dX12_keep_10 : decode cX12_keep 10 = .ok (.aload_n 0, 1) := by decide +kernel
theorem dX12_keep_11 : decode cX12_keep 11 = .ok (.getfield 9, 3) := by decide +kernel
theorem dX12_keep_14 : decode cX12_keep 14 = .ok (.iload_n 2, 1) := by decide +kernel
theorem dX12_keep_15 : decode cX12_keep 15 = .ok (.iaload, 1) := by decide +kernel
theorem dX12_keep_16 : decode cX12_keep 16 = .ok (.iastore, 1) := by decide +kernel
theorem dX12_keep_17 : decode cX12_keep 17 = .ok (.aload_n 1, 1) := by decide +kernel
theorem dX12_keep_18 : decode cX12_keep 18 = .ok (.bipush 12, 2) := by decide +kernel
theorem dX12_keep_20 : decode cX12_keep 20 = .ok (.iload_n 2, 1) := by decide +kernel
theorem dX12_keep_21 : decode cX12_keep 21 = .ok (.iadd, 1) := by decide +kernel
theorem dX12_keep_22 : decode cX12_keep 22 = .ok (.aload_n 0, 1) := by decide +kernel
theorem dX12_keep_23 : decode cX12_keep 23 = .ok (.getfield 15, 3) := by decide +kernel
theorem dX12_keep_26 : decode cX12_keep 26 = .ok (.iload_n 2, 1) := by decide +kernel
theorem dX12_keep_27 : decode cX12_keep 27 = .ok (.iaload, 1) := by decide +kernel
theorem dX12_keep_28 : decode cX12_keep 28 = .ok (.iastore, 1) := by decide +kernel
theorem dX12_keep_29 : decode cX12_keep 29 = .ok (.iinc 2 1, 3) := by decide +kernel
theorem dX12_keep_32 : decode cX12_keep 32 = .ok (.goto (-30), 3) := by decide +kernel
theorem dX12_keep_35 : decode cX12_keep 35 = .ok (.iconst 0, 1) := by decide +kernel
theorem dX12_keep_36 : decode cX12_keep 36 = .ok (.istore_n 2, 1) := by decide +kernel
theorem dX12_keep_37 : decode cX12_keep 37 = .ok (.iload_n 2, 1) := by decide +kernel
theorem dX12_keep_38 : decode cX12_keep 38 = .ok (.bipush 6, 2) := by decide +kernel
theorem dX12_keep_40 : decode cX12_keep 40 = .ok (.if_icmp .ge 69, 3) := by decide +kernel
theorem dX12_keep_43 : decode cX12_keep 43 = .ok (.aload_n 1, 1) := by decide +kernel
theorem dX12_keep_44 : decode cX12_keep 44 = .ok (.bipush 24, 2) := by decide +kernel
theorem dX12_keep_46 : decode cX12_keep 46 = .ok (.iload_n 2, 1) := by decide +kernel
theorem dX12_keep_47 : decode cX12_keep 47 = .ok (.iadd, 1) := by decide +kernel
theorem dX12_keep_48 : decode cX12_keep 48 = .ok (.aload_n 0, 1) := by decide +kernel
theorem dX12_keep_49 : decode cX12_keep 49 = .ok (.getfield 18, 3) := by decide +kernel
theorem dX12_keep_52 : decode cX12_keep 52 = .ok (.iload_n 2, 1) := by decide +kernel
theorem dX12_keep_53 : decode cX12_keep 53 = .ok (.iaload, 1) := by decide +kernel
theorem dX12_keep_54 : decode cX12_keep 54 = .ok (.iastore, 1) := by decide +kernel
theorem dX12_keep_55 : decode cX12_keep 55 = .ok (.aload_n 1, 1) := by decide +kernel
theorem dX12_keep_56 : decode cX12_keep 56 = .ok (.bipush 30, 2) := by decide +kernel
theorem dX12_keep_58 : decode cX12_keep 58 = .ok (.iload_n 2, 1) := by decide +kernel
theorem dX12_keep_59 : decode cX12_keep 59 = .ok (.iadd, 1) := by decide +kernel
theorem dX12_keep_60 : decode cX12_keep 60 = .ok (.aload_n 0, 1) := by decide +kernel
theorem dX12_keep_61 : decode cX12_keep 61 = .ok (.getfield 21, 3) := by decide +kernel
theorem dX12_keep_64 : decode cX12_keep 64 = .ok (.iload_n 2, 1) := by decide +kernel
theorem dX12_keep_65 : decode cX12_keep 65 = .ok (.iaload, 1) := by decide +kernel
theorem dX12_keep_66 : decode cX12_keep 66 = .ok (.iastore, 1) := by decide +kernel
theorem dX12_keep_67 : decode cX12_keep 67 = .ok (.aload_n 1, 1) := by decide +kernel
theorem dX12_keep_68 : decode cX12_keep 68 = .ok (.bipush 36, 2) := by decide +kernel
theorem dX12_keep_70 : decode cX12_keep 70 = .ok (.iload_n 2, 1) := by decide +kernel
theorem dX12_keep_71 : decode cX12_keep 71 = .ok (.iadd, 1) := by decide +kernel
theorem dX12_keep_72 : decode cX12_keep 72 = .ok (.aload_n 0, 1) := by decide +kernel
theorem dX12_keep_73 : decode cX12_keep 73 = .ok (.getfield 24, 3) := by decide +kernel
theorem dX12_keep_76 : decode cX12_keep 76 = .ok (.iload_n 2, 1) := by decide +kernel
theorem dX12_keep_77 : decode cX12_keep 77 = .ok (.iaload, 1) := by decide +kernel
theorem dX12_keep_78 : decode cX12_keep 78 = .ok (.iastore, 1) := by decide +kernel
theorem dX12_keep_79 : decode cX12_keep 79 = .ok (.aload_n 1, 1) := by decide +kernel
theorem dX12_keep_80 : decode cX12_keep 80 = .ok (.bipush 42, 2) := by decide +kernel
theorem dX12_keep_82 : decode cX12_keep 82 = .ok (.iload_n 2, 1) := by decide +kernel
theorem dX12_keep_83 : decode cX12_keep 83 = .ok (.iadd, 1) := by decide +kernel
theorem dX12_keep_84 : decode cX12_keep 84 = .ok (.aload_n 0, 1) := by decide +kernel
theorem dX12_keep_85 : decode cX12_keep 85 = .ok (.getfield 27, 3) := by decide +kernel
theorem dX12_keep_88 : decode cX12_keep 88 = .ok (.iload_n 2, 1) := by decide +kernel
theorem dX12_keep_89 : decode cX12_keep 89 = .ok (.iaload, 1) := by decide +kernel
theorem dX12_keep_90 : decode cX12_keep 90 = .ok (.iastore, 1) := by decide +kernel
theorem dX12_keep_91 : decode cX12_keep 91 = .ok (.aload_n 1, 1) := by decide +kernel
theorem dX12_keep_92 : decode cX12_keep 92 = .ok (.bipush 48, 2) := by decide +kernel
theorem dX12_keep_94 : decode cX12_keep 94 = .ok (.iload_n 2, 1) := by decide +kernel
theorem dX12_keep_95 : decode cX12_keep 95 = .ok (.iadd, 1) := by decide +kernel
theorem dX12_keep_96 : decode cX12_keep 96 = .ok (.aload_n 0, 1) := by decide +kernel
theorem dX12_keep_97 : decode cX12_keep 97 = .ok (.getfield 30, 3) := by decide +kernel
theorem dX12_keep_100 : decode cX12_keep 100 = .ok (.iload_n 2, 1) := by decide +kernel
theorem dX12_keep_101 : decode cX12_keep 101 = .ok (.iaload, 1) := by decide +kernel
theorem dX12_keep_102 : decode cX12_keep 102 = .ok (.iastore, 1) := by decide +kernel
theorem dX12_keep_103 : decode cX12_keep 103 = .ok (.iinc 2 1, 3) := by decide +kernel
theorem dX12_keep_106 : decode cX12_keep 106 = .ok (.goto (-69), 3) := by decide +kernel
theorem dX12_keep_109 : decode cX12_keep 109 = .ok (.iconst 0, 1) := by decide +kernel
theorem dX12_keep_110 : decode cX12_keep 110 = .ok (.istore_n 2, 1) := by decide +kernel
theorem dX12_keep_111 : decode cX12_keep 111 = .ok (.iload_n 2, 1) := by decide +kernel
theorem dX12_keep_112 : decode cX12_keep 112 = .ok (.bipush 24, 2) := by decide +kernel
theorem dX12_keep_114 : decode cX12_keep 114 = .ok (.if_icmp .ge 21, 3) := by decide +kernel
theorem dX12_keep_117 : decode cX12_keep 117 = .ok (.aload_n 1, 1) := by decide +kernel
theorem dX12_keep_118 : decode cX12_keep 118 = .ok (.bipush 54, 2) := by decide +kernel
theorem dX12_keep_120 : decode cX12_keep 120 = .ok (.iload_n 2, 1) := by decide +kernel
theorem dX12_keep_121 : decode cX12_keep 121 = .ok (.iadd, 1) := by decide +kernel
theorem dX12_keep_122 : decode cX12_keep 122 = .ok (.aload_n 0, 1) := by decide +kernel
theorem dX12_keep_123 : decode cX12_keep 123 = .ok (.getfield 33, 3) := by decide +kernel
theorem dX12_keep_126 : decode cX12_keep 126 = .ok (.iload_n 2, 1) := by decide +kernel
theorem dX12_keep_127 : decode cX12_keep 127 = .ok (.iaload, 1) := by decide +kernel
theorem dX12_keep_128 : decode cX12_keep 128 = .ok (.iastore, 1) := by decide +kernel
theorem dX12_keep_129 : decode cX12_keep 129 = .ok (.iinc 2 1, 3) := by decide +kernel
theorem dX12_keep_132 : decode cX12_keep 132 = .ok (.goto (-21), 3) := by decide +kernel
theorem dX12_keep_135 : decode cX12_keep 135 = .ok (.iconst 0, 1) := by decide +kernel
theorem dX12_keep_136 : decode cX12_keep 136 = .ok (.istore_n 2, 1) := by decide +kernel
theorem dX12_keep_137 : decode cX12_keep 137 = .ok (.iload_n 2, 1) := by decide +kernel
theorem dX12_keep_138 : decode cX12_keep 138 = .ok (.iconst 5, 1) := by decide +kernel
theorem dX12_keep_139 : decode cX12_keep 139 = .ok (.if_icmp .ge 45, 3) := by decide +kernel
theorem dX12_keep_142 : decode cX12_keep 142 = .ok (.aload_n 1, 1) := by decide +kernel
theorem dX12_keep_143 : decode cX12_keep 143 = .ok (.bipush 78, 2) := by decide +kernel
theorem dX12_keep_145 : decode cX12_keep 145 = .ok (.iload_n 2, 1) := by decide +kernel
theorem dX12_keep_146 : decode cX12_keep 146 = .ok (.iadd, 1) := by decide +kernel
theorem dX12_keep_147 : decode cX12_keep 147 = .ok (.aload_n 0, 1) := by decide +kernel
theorem dX12_keep_148 : decode cX12_keep 148 = .ok (.getfield 61, 3) := by decide +kernel
theorem dX12_keep_151 : decode cX12_keep 151 = .ok (.iload_n 2, 1) := by decide +kernel
theorem dX12_keep_152 : decode cX12_keep 152 = .ok (.iaload, 1) := by decide +kernel
theorem dX12_keep_153 : decode cX12_keep 153 = .ok (.iastore, 1) := by decide +kernel
theorem dX12_keep_154 : decode cX12_keep 154 = .ok (.aload_n 1, 1) := by decide +kernel
theorem dX12_keep_155 : decode cX12_keep 155 = .ok (.bipush 83, 2) := by decide +kernel
theorem dX12_keep_157 : decode cX12_keep 157 = .ok (.iload_n 2, 1) := by decide +kernel
theorem dX12_keep_158 : decode cX12_keep 158 = .ok (.iadd, 1) := by decide +kernel
theorem dX12_keep_159 : decode cX12_keep 159 = .ok (.aload_n 0, 1) := by decide +kernel
theorem dX12_keep_160 : decode cX12_keep 160 = .ok (.getfield 64, 3) := by decide +kernel
theorem dX12_keep_163 : decode cX12_keep 163 = .ok (.iload_n 2, 1) := by decide +kernel
theorem dX12_keep_164 : decode cX12_keep 164 = .ok (.iaload, 1) := by decide +kernel
theorem dX12_keep_165 : decode cX12_keep 165 = .ok (.iastore, 1) := by decide +kernel
theorem dX12_keep_166 : decode cX12_keep 166 = .ok (.aload_n 1, 1) := by decide +kernel
theorem dX12_keep_167 : decode cX12_keep 167 = .ok (.bipush 88, 2) := by decide +kernel
theorem dX12_keep_169 : decode cX12_keep 169 = .ok (.iload_n 2, 1) := by decide +kernel
theorem dX12_keep_170 : decode cX12_keep 170 = .ok (.iadd, 1) := by decide +kernel
theorem dX12_keep_171 : decode cX12_keep 171 = .ok (.aload_n 0, 1) := by decide +kernel
theorem dX12_keep_172 : decode cX12_keep 172 = .ok (.getfield 67, 3) := by decide +kernel
theorem dX12_keep_175 : decode cX12_keep 175 = .ok (.iload_n 2, 1) := by decide +kernel
theorem dX12_keep_176 : decode cX12_keep 176 = .ok (.iaload, 1) := by decide +kernel
theorem dX12_keep_177 : decode cX12_keep 177 = .ok (.iastore, 1) := by decide +kernel
theorem dX12_keep_178 : decode cX12_keep 178 = .ok (.iinc 2 1, 3) := by decide +kernel
theorem dX12_keep_181 : decode cX12_keep 181 = .ok (.goto (-44), 3) := by decide +kernel
theorem dX12_keep_184 : decode cX12_keep 184 = .ok (.iconst 0, 1) := by decide +kernel
theorem dX12_keep_185 : decode cX12_keep 185 = .ok (.istore_n 2, 1) := by decide +kernel
theorem dX12_keep_186 : decode cX12_keep 186 = .ok (.iload_n 2, 1) := by decide +kernel
theorem dX12_keep_187 : decode cX12_keep 187 = .ok (.bipush 10, 2) := by decide +kernel
theorem dX12_keep_189 : decode cX12_keep 189 = .ok (.if_icmp .ge 33, 3) := by decide +kernel
theorem dX12_keep_192 : decode cX12_keep 192 = .ok (.aload_n 1, 1) := by decide +kernel
theorem dX12_keep_193 : decode cX12_keep 193 = .ok (.bipush 93, 2) := by decide +kernel
theorem dX12_keep_195 : decode cX12_keep 195 = .ok (.iload_n 2, 1) := by decide +kernel
theorem dX12_keep_196 : decode cX12_keep 196 = .ok (.iadd, 1) := by decide +kernel
theorem dX12_keep_197 : decode cX12_keep 197 = .ok (.aload_n 0, 1) := by decide +kernel
theorem dX12_keep_198 : decode cX12_keep 198 = .ok (.getfield 70, 3) := by decide +kernel
theorem dX12_keep_201 : decode cX12_keep 201 = .ok (.iload_n 2, 1) := by decide +kernel
theorem dX12_keep_202 : decode cX12_keep 202 = .ok (.iaload, 1) := by decide +kernel
theorem dX12_keep_203 : decode cX12_keep 203 = .ok (.iastore, 1) := by decide +kernel
theorem dX12_keep_204 : decode cX12_keep 204 = .ok (.aload_n 1, 1) := by decide +kernel
theorem dX12_keep_205 : decode cX12_keep 205 = .ok (.bipush 103, 2) := by decide +kernel
theorem dX12_keep_207 : decode cX12_keep 207 = .ok (.iload_n 2, 1) := by decide +kernel
theorem dX12_keep_208 : decode cX12_keep 208 = .ok (.iadd, 1) := by decide +kernel
theorem dX12_keep_209 : decode cX12_keep 209 = .ok (.aload_n 0, 1) := by decide +kernel
theorem dX12_keep_210 : decode cX12_keep 210 = .ok (.getfield 73, 3) := by decide +kernel
theorem dX12_keep_213 : decode cX12_keep 213 = .ok (.iload_n 2, 1) := by decide +kernel
theorem dX12_keep_214 : decode cX12_keep 214 = .ok (.iaload, 1) := by decide +kernel
theorem dX12_keep_215 : decode cX12_keep 215 = .ok (.iastore, 1) := by decide +kernel
theorem dX12_keep_216 : decode cX12_keep 216 = .ok (.iinc 2 1, 3) := by decide +kernel
theorem dX12_keep_219 : decode cX12_keep 219 = .ok (.goto (-33), 3) := by decide +kernel
theorem dX12_keep_222 : decode cX12_keep 222 = .ok (.iconst 0, 1) := by decide +kernel
theorem dX12_keep_223 : decode cX12_keep 223 = .ok (.istore_n 2, 1) := by decide +kernel
theorem dX12_keep_224 : decode cX12_keep 224 = .ok (.iload_n 2, 1) := by decide +kernel
theorem dX12_keep_225 : decode cX12_keep 225 = .ok (.bipush 8, 2) := by decide +kernel
theorem dX12_keep_227 : decode cX12_keep 227 = .ok (.if_icmp .ge 33, 3) := by decide +kernel
theorem dX12_keep_230 : decode cX12_keep 230 = .ok (.aload_n 1, 1) := by decide +kernel
theorem dX12_keep_231 : decode cX12_keep 231 = .ok (.bipush 113, 2) := by decide +kernel
theorem dX12_keep_233 : decode cX12_keep 233 = .ok (.iload_n 2, 1) := by decide +kernel
theorem dX12_keep_234 : decode cX12_keep 234 = .ok (.iadd, 1) := by decide +kernel
theorem dX12_keep_235 : decode cX12_keep 235 = .ok (.aload_n 0, 1) := by decide +kernel
theorem dX12_keep_236 : decode cX12_keep 236 = .ok (.getfield 76, 3) := by decide +kernel
theorem dX12_keep_239 : decode cX12_keep 239 = .ok (.iload_n 2, 1) := by decide +kernel
theorem dX12_keep_240 : decode cX12_keep 240 = .ok (.iaload, 1) := by decide +kernel
theorem dX12_keep_241 : decode cX12_keep 241 = .ok (.iastore, 1) := by decide +kernel
theorem dX12_keep_242 : decode cX12_keep 242 = .ok (.aload_n 1, 1) := by decide +kernel
theorem dX12_keep_243 : decode cX12_keep 243 = .ok (.bipush 121, 2) := by decide +kernel
theorem dX12_keep_245 : decode cX12_keep 245 = .ok (.iload_n 2, 1) := by decide +kernel
theorem dX12_keep_246 : decode cX12_keep 246 = .ok (.iadd, 1) := by decide +kernel
theorem dX12_keep_247 : decode cX12_keep 247 = .ok (.aload_n 0, 1) := by decide +kernel
theorem dX12_keep_248 : decode cX12_keep 248 = .ok (.getfield 79, 3) := by decide +kernel
theorem dX12_keep_251 : decode cX12_keep 251 = .ok (.iload_n 2, 1) := by decide +kernel
theorem dX12_keep_252 : decode cX12_keep 252 = .ok (.iaload, 1) := by decide +kernel
theorem dX12_keep_253 : decode cX12_keep 253 = .ok (.iastore, 1) := by decide +kernel
theorem dX12_keep_254 : decode cX12_keep 254 = .ok (.iinc 2 1, 3) := by decide +kernel
theorem dX12_keep_257 : decode cX12_keep 257 = .ok (.goto (-33), 3) := by decide +kernel
theorem dX12_keep_260 : decode cX12_keep 260 = .ok (.aload_n 1, 1) := by decide +kernel
theorem dX12_keep_261 : decode cX12_keep 261 = .ok (.sipush 129, 3) := by decide +kernel
theorem dX12_keep_264 : decode cX12_keep 264 = .ok (.aload_n 0, 1) := by decide +kernel
theorem dX12_keep_265 : decode cX12_keep 265 = .ok (.getfield 105, 3) := by decide +kernel
theorem dX12_keep_268 : decode cX12_keep 268 = .ok (.iastore, 1) := by decide +kernel
theorem dX12_keep_269 : decode cX12_keep 269 = .ok (.aload_n 1, 1) := by decide +kernel
theorem dX12_keep_270 : decode cX12_keep 270 = .ok (.sipush 130, 3) := by decide +kernel
theorem dX12_keep_273 : decode cX12_keep 273 = .ok (.aload_n 0, 1) := by decide +kernel
theorem dX12_keep_274 : decode cX12_keep 274 = .ok (.getfield 241, 3) := by decide +kernel
theorem dX12_keep_277 : decode cX12_keep 277 = .ok (.iastore, 1) := by decide +kernel
theorem dX12_keep_278 : decode cX12_keep 278 = .ok (.aload_n 1, 1) := by decide +kernel
theorem dX12_keep_279 : decode cX12_keep 279 = .ok (.sipush 131, 3) := by decide +kernel
theorem dX12_keep_282 : decode cX12_keep 282 = .ok (.aload_n 0, 1) := by decide +kernel
theorem dX12_keep_283 : decode cX12_keep 283 = .ok (.getfield 216, 3) := by decide +kernel
theorem dX12_keep_286 : decode cX12_keep 286 = .ok (.iastore, 1) := by decide +kernel
theorem dX12_keep_287 : decode cX12_keep 287 = .ok (.aload_n 1, 1) := by decide +kernel
theorem dX12_keep_288 : decode cX12_keep 288 = .ok (.sipush 132, 3) := by decide +kernel
theorem dX12_keep_291 : decode cX12_keep 291 = .ok (.aload_n 0, 1) := by decide +kernel
theorem dX12_keep_292 : decode cX12_keep 292 = .ok (.getfield 272, 3) := by decide +kernel
theorem dX12_keep_295 : decode cX12_keep 295 = .ok (.iastore, 1) := by decide +kernel
theorem dX12_keep_296 : decode cX12_keep 296 = .ok (.aload_n 1, 1) := by decide +kernel
theorem dX12_keep_297 : decode cX12_keep 297 = .ok (.sipush 133, 3) := by decide +kernel
theorem dX12_keep_300 : decode cX12_keep 300 = .ok (.aload_n 0, 1) := by decide +kernel
theorem dX12_keep_301 : decode cX12_keep 301 = .ok (.getfield 290, 3) := by decide +kernel
theorem dX12_keep_304 : decode cX12_keep 304 = .ok (.iastore, 1) := by decide +kernel
theorem dX12_keep_305 : decode cX12_keep 305 = .ok (.aload_n 1, 1) := by decide +kernel
theorem dX12_keep_306 : decode cX12_keep 306 = .ok (.sipush 134, 3) := by decide +kernel
theorem dX12_keep_309 : decode cX12_keep 309 = .ok (.aload_n 0, 1) := by decide +kernel
theorem dX12_keep_310 : decode cX12_keep 310 = .ok (.getfield 296, 3) := by decide +kernel
theorem dX12_keep_313 : decode cX12_keep 313 = .ok (.iastore, 1) := by decide +kernel
theorem dX12_keep_314 : decode cX12_keep 314 = .ok (.aload_n 1, 1) := by decide +kernel
theorem dX12_keep_315 : decode cX12_keep 315 = .ok (.sipush 135, 3) := by decide +kernel
theorem dX12_keep_318 : decode cX12_keep 318 = .ok (.aload_n 0, 1) := by decide +kernel
theorem dX12_keep_319 : decode cX12_keep 319 = .ok (.getfield 101, 3) := by decide +kernel
theorem dX12_keep_322 : decode cX12_keep 322 = .ok (.iastore, 1) := by decide +kernel
theorem dX12_keep_323 : decode cX12_keep 323 = .ok (.return_, 1) := by decide +kernel
theorem dX12_again_0 : decode cX12_again 0 = .ok (.iconst 0, 1) := by decide +kernel
theorem dX12_again_1 : decode cX12_again 1 = .ok (.istore_n 2, 1) := by decide +kernel
theorem dX12_again_2 : decode cX12_again 2 = .ok (.iload_n 2, 1) := by decide +kernel
theorem dX12_again_3 : decode cX12_again 3 = .ok (.bipush 12, 2) := by decide +kernel
theorem dX12_again_5 : decode cX12_again 5 = .ok (.if_icmp .ge 30, 3) := by decide +kernel
theorem dX12_again_8 : decode cX12_again 8 = .ok (.aload_n 0, 1) := by decide +kernel
theorem dX12_again_9 : decode cX12_again 9 = .ok (.getfield 9, 3) := by decide +kernel
theorem dX12_again_12 : decode cX12_again 12 = .ok (.iload_n 2, 1) := by decide +kernel
theorem dX12_again_13 : decode cX12_again 13 = .ok (.aload_n 1, 1) := by decide +kernel
theorem dX12_again_14 : decode cX12_again 14 = .ok (.iload_n 2, 1) := by decide +kernel
theorem dX12_again_15 : decode cX12_again 15 = .ok (.iaload, 1) := by decide +kernel
theorem dX12_again_16 : decode cX12_again 16 = .ok (.iastore, 1) := by decide +kernel
theorem dX12_again_17 : decode cX12_again 17 = .ok (.aload_n 0, 1) := by decide +kernel
theorem dX12_again_18 : decode cX12_again 18 = .ok (.getfield 15, 3) := by decide +kernel
theorem dX12_again_21 : decode cX12_again 21 = .ok (.iload_n 2, 1) := by decide +kernel
theorem dX12_again_22 : decode cX12_again 22 = .ok (.aload_n 1, 1) := by decide +kernel
theorem dX12_again_23 : decode cX12_again 23 = .ok (.bipush 12, 2) := by decide +kernel
theorem dX12_again_25 : decode cX12_again 25 = .ok (.iload_n 2, 1) := by decide +kernel
theorem dX12_again_26 : decode cX12_again 26 = .ok (.iadd, 1) := by decide +kernel
theorem dX12_again_27 : decode cX12_again 27 = .ok (.iaload, 1) := by decide +kernel
theorem dX12_again_28 : decode cX12_again 28 = .ok (.iastore, 1) := by decide +kernel
theorem dX12_again_29 : decode cX12_again 29 = .ok (.iinc 2 1, 3) := by decide +kernel
theorem dX12_again_32 : decode cX12_again 32 = .ok (.goto (-30), 3) := by decide +kernel
theorem dX12_again_35 : decode cX12_again 35 = .ok (.iconst 0, 1) := by decide +kernel
theorem dX12_again_36 : decode cX12_again 36 = .ok (.istore_n 2, 1) := by decide +kernel
theorem dX12_again_37 : decode cX12_again 37 = .ok (.iload_n 2, 1) := by decide +kernel
theorem dX12_again_38 : decode cX12_again 38 = .ok (.bipush 6, 2) := by decide +kernel
theorem dX12_again_40 : decode cX12_again 40 = .ok (.if_icmp .ge 69, 3) := by decide +kernel
theorem dX12_again_43 : decode cX12_again 43 = .ok (.aload_n 0, 1) := by decide +kernel
theorem dX12_again_44 : decode cX12_again 44 = .ok (.getfield 18, 3) := by decide +kernel
theorem dX12_again_47 : decode cX12_again 47 = .ok (.iload_n 2, 1) := by decide +kernel
theorem dX12_again_48 : decode cX12_again 48 = .ok (.aload_n 1, 1) := by decide +kernel
theorem dX12_again_49 : decode cX12_again 49 = .ok (.bipush 24, 2) := by decide +kernel
theorem dX12_again_51 : decode cX12_again 51 = .ok (.iload_n 2, 1) := by decide +kernel
theorem dX12_again_52 : decode cX12_again 52 = .ok (.iadd, 1) := by decide +kernel
theorem dX12_again_53 : decode cX12_again 53 = .ok (.iaload, 1) := by decide +kernel
theorem dX12_again_54 : decode cX12_again 54 = .ok (.iastore, 1) := by decide +kernel
theorem dX12_again_55 : decode cX12_again 55 = .ok (.aload_n 0, 1) := by decide +kernel
theorem dX12_again_56 : decode cX12_again 56 = .ok (.getfield 21, 3) := by decide +kernel
theorem dX12_again_59 : decode cX12_again 59 = .ok (.iload_n 2, 1) := by decide +kernel
theorem dX12_again_60 : decode cX12_again 60 = .ok (.aload_n 1, 1) := by decide +kernel
theorem dX12_again_61 : decode cX12_again 61 = .ok (.bipush 30, 2) := by decide +kernel
theorem dX12_again_63 : decode cX12_again 63 = .ok (.iload_n 2, 1) := by decide +kernel
theorem dX12_again_64 : decode cX12_again 64 = .ok (.iadd, 1) := by decide +kernel
theorem dX12_again_65 : decode cX12_again 65 = .ok (.iaload, 1) := by decide +kernel
theorem dX12_again_66 : decode cX12_again 66 = .ok (.iastore, 1) := by decide +kernel
theorem dX12_again_67 : decode cX12_again 67 = .ok (.aload_n 0, 1) := by decide +kernel
theorem dX12_again_68 : decode cX12_again 68 = .ok (.getfield 24, 3) := by decide +kernel
theorem dX12_again_71 : decode cX12_again 71 = .ok (.iload_n 2, 1) := by decide +kernel
theorem dX12_again_72 : decode cX12_again 72 = .ok (.aload_n 1, 1) := by decide +kernel
theorem dX12_again_73 : decode cX12_again 73 = .ok (.bipush 36, 2) := by decide +kernel
theorem dX12_again_75 : decode cX12_again 75 = .ok (.iload_n 2, 1) := by decide +kernel
theorem dX12_again_76 : decode cX12_again 76 = .ok (.iadd, 1) := by decide +kernel
theorem dX12_again_77 : decode cX12_again 77 = .ok (.iaload, 1) := by decide +kernel
theorem dX12_again_78 : decode cX12_again 78 = .ok (.iastore, 1) := by decide +kernel
theorem dX12_again_79 : decode cX12_again 79 = .ok (.aload_n 0, 1) := by decide +kernel
theorem dX12_again_80 : decode cX12_again 80 = .ok (.getfield 27, 3) := by decide +kernel
theorem dX12_again_83 : decode cX12_again 83 = .ok (.iload_n 2, 1) := by decide +kernel
theorem dX12_again_84 : decode cX12_again 84 = .ok (.aload_n 1, 1) := by decide +kernel
theorem dX12_again_85 : decode cX12_again 85 = .ok (.bipush 42, 2) := by decide +kernel
theorem dX12_again_87 : decode cX12_again 87 = .ok (.iload_n 2, 1) := by decide +kernel
theorem dX12_again_88 : decode cX12_again 88 = .ok (.iadd, 1) := by decide +kernel
theorem dX12_again_89 : decode cX12_again 89 = .ok (.iaload, 1) := by decide +kernel
theorem dX12_again_90 : decode cX12_again 90 = .ok (.iastore, 1) := by decide +kernel
theorem dX12_again_91 : decode cX12_again 91 = .ok (.aload_n 0, 1) := by decide +kernel
theorem dX12_again_92 : decode cX12_again 92 = .ok (.getfield 30, 3) := by decide +kernel
theorem dX12_again_95 : decode cX12_again 95 = .ok (.iload_n 2, 1) := by decide +kernel
theorem dX12_again_96 : decode cX12_again 96 = .ok (.aload_n 1, 1) := by decide +kernel
theorem dX12_again_97 : decode cX12_again 97 = .ok (.bipush 48, 2) := by decide +kernel
theorem dX12_again_99 : decode cX12_again 99 = .ok (.iload_n 2, 1) := by decide +kernel
theorem dX12_again_100 : decode cX12_again 100 = .ok (.iadd, 1) := by decide +kernel
theorem dX12_again_101 : decode cX12_again 101 = .ok (.iaload, 1) := by decide +kernel
theorem dX12_again_102 : decode cX12_again 102 = .ok (.iastore, 1) := by decide +kernel
theorem dX12_again_103 : decode cX12_again 103 = .ok (.iinc 2 1, 3) := by decide +kernel
theorem dX12_again_106 : decode cX12_again 106 = .ok (.goto (-69), 3) := by decide +kernel
theorem dX12_again_109 : decode cX12_again 109 = .ok (.iconst 0, 1) := by decide +kernel
theorem dX12_again_110 : decode cX12_again 110 = .ok (.istore_n 2, 1) := by decide +kernel
theorem dX12_again_111 : decode cX12_again 111 = .ok (.iload_n 2, 1) := by decide +kernel
theorem dX12_again_112 : decode cX12_again 112 = .ok (.bipush 24, 2) := by decide +kernel
theorem dX12_again_114 : decode cX12_again 114 = .ok (.if_icmp .ge 21, 3) := by decide +kernel
theorem dX12_again_117 : decode cX12_again 117 = .ok (.aload_n 0, 1) := by decide +kernel
theorem dX12_again_118 : decode cX12_again 118 = .ok (.getfield 33, 3) := by decide +kernel
theorem dX12_again_121 : decode cX12_again 121 = .ok (.iload_n 2, 1) := by decide +kernel
theorem dX12_again_122 : decode cX12_again 122 = .ok (.aload_n 1, 1) := by decide +kernel
theorem dX12_again_123 : decode cX12_again 123 = .ok (.bipush 54, 2) := by decide +kernel
theorem dX12_again_125 : decode cX12_again 125 = .ok (.iload_n 2, 1) := by decide +kernel
theorem dX12_again_126 : decode cX12_again 126 = .ok (.iadd, 1) := by decide +kernel
theorem dX12_again_127 : decode cX12_again 127 = .ok (.iaload, 1) := by decide +kernel
theorem dX12_again_128 : decode cX12_again 128 = .ok (.iastore, 1) := by decide +kernel
theorem dX12_again_129 : decode cX12_again 129 = .ok (.iinc 2 1, 3) := by decide +kernel
theorem dX12_again_132 : decode cX12_again 132 = .ok (.goto (-21), 3) := by decide +kernel
theorem dX12_again_135 : decode cX12_again 135 = .ok (.iconst 0, 1) := by decide +kernel
theorem dX12_again_136 : decode cX12_again 136 = .ok (.istore_n 2, 1) := by decide +kernel
theorem dX12_again_137 : decode cX12_again 137 = .ok (.iload_n 2, 1) := by decide +kernel
theorem dX12_again_138 : decode cX12_again 138 = .ok (.iconst 5, 1) := by decide +kernel
theorem dX12_again_139 : decode cX12_again 139 = .ok (.if_icmp .ge 45, 3) := by decide +kernel
theorem dX12_again_142 : decode cX12_again 142 = .ok (.aload_n 0, 1) := by decide +kernel
theorem dX12_again_143 : decode cX12_again 143 = .ok (.getfield 61, 3) := by decide +kernel
theorem dX12_again_146 : decode cX12_again 146 = .ok (.iload_n 2, 1) := by decide +kernel
theorem dX12_again_147 : decode cX12_again 147 = .ok (.aload_n 1, 1) := by decide +kernel
theorem dX12_again_148 : decode cX12_again 148 = .ok (.bipush 78, 2) := by decide +kernel
theorem dX12_again_150 : decode cX12_again 150 = .ok (.iload_n 2, 1) := by decide +kernel
theorem dX12_again_151 : decode cX12_again 151 = .ok (.iadd, 1) := by decide +kernel
theorem dX12_again_152 : decode cX12_again 152 = .ok (.iaload, 1) := by decide +kernel
theorem dX12_again_153 : decode cX12_again 153 = .ok (.iastore, 1) := by decide +kernel
theorem dX12_again_154 : decode cX12_again 154 = .ok (.aload_n 0, 1) := by decide +kernel
theorem dX12_again_155 : decode cX12_again 155 = .ok (.getfield 64, 3) := by decide +kernel
theorem dX12_again_158 : decode cX12_again 158 = .ok (.iload_n 2, 1) := by decide +kernel
theorem dX12_again_159 : decode cX12_again 159 = .ok (.aload_n 1, 1) := by decide +kernel
theorem dX12_again_160 : decode cX12_again 160 = .ok (.bipush 83, 2) := by decide +kernel
theorem dX12_again_162 : decode cX12_again 162 = .ok (.iload_n 2, 1) := by decide +kernel
theorem dX12_again_163 : decode cX12_again 163 = .ok (.iadd, 1) := by decide +kernel
theorem dX12_again_164 : decode cX12_again 164 = .ok (.iaload, 1) := by decide +kernel
theorem dX12_again_165 : decode cX12_again 165 = .ok (.iastore, 1) := by decide +kernel
theorem dX12_again_166 : decode cX12_again 166 = .ok (.aload_n 0, 1) := by decide +kernel
theorem dX12_again_167 : decode cX12_again 167 = .ok (.getfield 67, 3) := by decide +kernel
theorem dX12_again_170 : decode cX12_again 170 = .ok (.iload_n 2, 1) := by decide +kernel
theorem dX12_again_171 : decode cX12_again 171 = .ok (.aload_n 1, 1) := by decide +kernel
theorem dX12_again_172 : decode cX12_again 172 = .ok (.bipush 88, 2) := by decide +kernel
theorem dX12_again_174 : decode cX12_again 174 = .ok (.iload_n 2, 1) := by decide +kernel
theorem dX12_again_175 : decode cX12_again 175 = .ok (.iadd, 1) := by decide +kernel
theorem dX12_again_176 : decode cX12_again 176 = .ok (.iaload, 1) := by decide +kernel
theorem dX12_again_177 : decode cX12_again 177 = .ok (.iastore, 1) := by decide +kernel
theorem dX12_again_178 : decode cX12_again 178 = .ok (.iinc 2 1, 3) := by decide +kernel
theorem dX12_again_181 : decode cX12_again 181 = .ok (.goto (-44), 3) := by decide +kernel
theorem dX12_again_184 : decode cX12_again 184 = .ok (.iconst 0, 1) := by decide +kernel
theorem dX12_again_185 : decode cX12_again 185 = .ok (.istore_n 2, 1) := by decide +kernel
theorem dX12_again_186 : decode cX12_again 186 = .ok (.iload_n 2, 1) := by decide +kernel
theorem dX12_again_187 : decode cX12_again 187 = .ok (.bipush 10, 2) := by decide +kernel
theorem dX12_again_189 : decode cX12_again 189 = .ok (.if_icmp .ge 33, 3) := by decide +kernel
theorem dX12_again_192 : decode cX12_again 192 = .ok (.aload_n 0, 1) := by decide +kernel
theorem dX12_again_193 : decode cX12_again 193 = .ok (.getfield 70, 3) := by decide +kernel
theorem dX12_again_196 : decode cX12_again 196 = .ok (.iload_n 2, 1) := by decide +kernel
theorem dX12_again_197 : decode cX12_again 197 = .ok (.aload_n 1, 1) := by decide +kernel
theorem dX12_again_198 : decode cX12_again 198 = .ok (.bipush 93, 2) := by decide +kernel
theorem dX12_again_200 : decode cX12_again 200 = .ok (.iload_n 2, 1) := by decide +kernel
theorem dX12_again_201 : decode cX12_again 201 = .ok (.iadd, 1) := by decide +kernel
theorem dX12_again_202 : decode cX12_again 202 = .ok (.iaload, 1) := by decide +kernel
theorem dX12_again_203 : decode cX12_again 203 = .ok (.iastore, 1) := by decide +kernel
theorem dX12_again_204 : decode cX12_again 204 = .ok (.aload_n 0, 1) := by decide +kernel
theorem dX12_again_205 : decode cX12_again 205 = .ok (.getfield 73, 3) := by decide +kernel
theorem dX12_again_208 : decode cX12_again 208 = .ok (.iload_n 2, 1) := by decide +kernel
theorem dX12_again_209 : decode cX12_again 209 = .ok (.aload_n 1, 1) := by decide +kernel
theorem dX12_again_210 : decode cX12_again 210 = .ok (.bipush 103, 2) := by decide +kernel
theorem dX12_again_212 : decode cX12_again 212 = .ok (.iload_n 2, 1) := by decide +kernel
theorem dX12_again_213 : decode cX12_again 213 = .ok (.iadd, 1) := by decide +kernel
theorem dX12_again_214 : decode cX12_again 214 = .ok (.iaload, 1) := by decide +kernel
theorem dX12_again_215 : decode cX12_again 215 = .ok (.iastore, 1) := by decide +kernel
theorem dX12_again_216 : decode cX12_again 216 = .ok (.iinc 2 1, 3) := by decide +kernel
theorem dX12_again_219 : decode cX12_again 219 = .ok (.goto (-33), 3) := by decide +kernel
theorem dX12_again_222 : decode cX12_again 222 = .ok (.iconst 0, 1) := by decide +kernel
theorem dX12_again_223 : decode cX12_again 223 = .ok (.istore_n 2, 1) := by decide +kernel
theorem dX12_again_224 : decode cX12_again 224 = .ok (.iload_n 2, 1) := by decide +kernel
theorem dX12_again_225 : decode cX12_again 225 = .ok (.bipush 8, 2) := by decide +kernel
theorem dX12_again_227 : decode cX12_again 227 = .ok (.if_icmp .ge 33, 3) := by decide +kernel
theorem dX12_again_230 : decode cX12_again 230 = .ok (.aload_n 0, 1) := by decide +kernel
theorem dX12_again_231 : decode cX12_again 231 = .ok (.getfield 76, 3) := by decide +kernel
theorem dX12_again_234 : decode cX12_again 234 = .ok (.iload_n 2, 1) := by decide +kernel
theorem dX12_again_235 : decode cX12_again 235 = .ok (.aload_n 1, 1) := by decide +kernel
theorem dX12_again_236 : decode cX12_again 236 = .ok (.bipush 113, 2) := by decide +kernel
theorem dX12_again_238 : decode cX12_again 238 = .ok (.iload_n 2, 1) := by decide +kernel
theorem dX12_again_239 : decode cX12_again 239 = .ok (.iadd, 1) := by decide +kernel
theorem dX12_again_240 : decode cX12_again 240 = .ok (.iaload, 1) := by decide +kernel
theorem dX12_again_241 : decode cX12_again 241 = .ok (.iastore, 1) := by decide +kernel
theorem dX12_again_242 : decode cX12_again 242 = .ok (.aload_n 0, 1) := by decide +kernel
theorem dX12_again_243 : decode cX12_again 243 = .ok (.getfield 79, 3) := by decide +kernel
theorem dX12_again_246 : decode cX12_again 246 = .ok (.iload_n 2, 1) := by decide +kernel
theorem dX12_again_247 : decode cX12_again 247 = .ok (.aload_n 1, 1) := by decide +kernel
theorem dX12_again_248 : decode cX12_again 248 = .ok (.bipush 121, 2) := by decide +kernel
theorem dX12_again_250 : decode cX12_again 250 = .ok (.iload_n 2, 1) := by decide +kernel
theorem dX12_again_251 : decode cX12_again 251 = .ok (.iadd, 1) := by decide +kernel
theorem dX12_again_252 : decode cX12_again 252 = .ok (.iaload, 1) := by decide +kernel
theorem dX12_again_253 : decode cX12_again 253 = .ok (.iastore, 1) := by decide +kernel
theorem dX12_again_254 : decode cX12_again 254 = .ok (.iinc 2 1, 3) := by decide +kernel
theorem dX12_again_257 : decode cX12_again 257 = .ok (.goto (-33), 3) := by decide +kernel
theorem dX12_again_260 : decode cX12_again 260 = .ok (.aload_n 0, 1) := by decide +kernel
theorem dX12_again_261 : decode cX12_again 261 = .ok (.aload_n 1, 1) := by decide +kernel
theorem dX12_again_262 : decode cX12_again 262 = .ok (.sipush 129, 3) := by decide +kernel
theorem dX12_again_265 : decode cX12_again 265 = .ok (.iaload, 1) := by decide +kernel
theorem dX12_again_266 : decode cX12_again 266 = .ok (.putfield 105, 3) := by decide +kernel
theorem dX12_again_269 : decode cX12_again 269 = .ok (.aload_n 0, 1) := by decide +kernel
theorem dX12_again_270 : decode cX12_again 270 = .ok (.aload_n 1, 1) := by decide +kernel
theorem dX12_again_271 : decode cX12_again 271 = .ok (.sipush 130, 3) := by decide +kernel
theorem dX12_again_274 : decode cX12_again 274 = .ok (.iaload, 1) := by decide +kernel
theorem dX12_again_275 : decode cX12_again 275 = .ok (.putfield 241, 3) := by decide +kernel
theorem dX12_again_278 : decode cX12_again 278 = .ok (.aload_n 0, 1) := by decide +kernel
theorem dX12_again_279 : decode cX12_again 279 = .ok (.aload_n 1, 1) := by decide +kernel
theorem dX12_again_280 : decode cX12_again 280 = .ok (.sipush 131, 3) := by decide +kernel
theorem dX12_again_283 : decode cX12_again 283 = .ok (.iaload, 1) := by decide +kernel
theorem dX12_again_284 : decode cX12_again 284 = .ok (.putfield 216, 3) := by decide +kernel
theorem dX12_again_287 : decode cX12_again 287 = .ok (.aload_n 0, 1) := by decide +kernel
theorem dX12_again_288 : decode cX12_again 288 = .ok (.aload_n 1, 1) := by decide +kernel
theorem dX12_again_289 : decode cX12_again 289 = .ok (.sipush 132, 3) := by decide +kernel
theorem dX12_again_292 : decode cX12_again 292 = .ok (.iaload, 1) := by decide +kernel
theorem dX12_again_293 : decode cX12_again 293 = .ok (.putfield 272, 3) := by decide +kernel
theorem dX12_again_296 : decode cX12_again 296 = .ok (.aload_n 0, 1) := by decide +kernel
theorem dX12_again_297 : decode cX12_again 297 = .ok (.aload_n 1, 1) := by decide +kernel
theorem dX12_again_298 : decode cX12_again 298 = .ok (.sipush 133, 3) := by decide +kernel
theorem dX12_again_301 : decode cX12_again 301 = .ok (.iaload, 1) := by decide +kernel
theorem dX12_again_302 : decode cX12_again 302 = .ok (.putfield 290, 3) := by decide +kernel
theorem dX12_again_305 : decode cX12_again 305 = .ok (.aload_n 0, 1) := by decide +kernel
theorem dX12_again_306 : decode cX12_again 306 = .ok (.aload_n 1, 1) := by decide +kernel
theorem dX12_again_307 : decode cX12_again 307 = .ok (.sipush 134, 3) := by decide +kernel
theorem dX12_again_310 : decode cX12_again 310 = .ok (.iaload, 1) := by decide +kernel
theorem dX12_again_311 : decode cX12_again 311 = .ok (.putfield 296, 3) := by decide +kernel
theorem dX12_again_314 : decode cX12_again 314 = .ok (.aload_n 0, 1) := by decide +kernel
theorem dX12_again_315 : decode cX12_again 315 = .ok (.aload_n 1, 1) := by decide +kernel
theorem dX12_again_316 : decode cX12_again 316 = .ok (.sipush 135, 3) := by decide +kernel
theorem dX12_again_319 : decode cX12_again 319 = .ok (.iaload, 1) := by decide +kernel
theorem dX12_again_320 : decode cX12_again 320 = .ok (.putfield 101, 3) := by decide +kernel
theorem dX12_again_323 : decode cX12_again 323 = .ok (.return_, 1) := by decide +kernel
theorem dX12_image_0 : decode cX12_image 0 = .ok (.aload_n 0, 1) := by decide +kernel
theorem dX12_image_1 : decode cX12_image 1 = .ok (.iconst 1, 1) := by decide +kernel
theorem dX12_image_2 : decode cX12_image 2 = .ok (.putfield 299, 3) := by decide +kernel
theorem dX12_image_5 : decode cX12_image 5 = .ok (.aload_n 0, 1) := by decide +kernel
theorem dX12_image_6 : decode cX12_image 6 = .ok (.aload_n 0, 1) := by decide +kernel
theorem dX12_image_7 : decode cX12_image 7 = .ok (.getfield 85, 3) := by decide +kernel
theorem dX12_image_10 : decode cX12_image 10 = .ok (.invokevirtual 265, 3) := by decide +kernel
theorem dX12_image_13 : decode cX12_image 13 = .ok (.aload_n 0, 1) := by decide +kernel
theorem dX12_image_14 : decode cX12_image 14 = .ok (.getfield 105, 3) := by decide +kernel
theorem dX12_image_17 : decode cX12_image 17 = .ok (.ireturn, 1) := by decide +kernel
theorem dX12_undo_0 : decode cX12_undo 0 = .ok (.aload_n 0, 1) := by decide +kernel
theorem dX12_undo_1 : decode cX12_undo 1 = .ok (.getfield 299, 3) := by decide +kernel
theorem dX12_undo_4 : decode cX12_undo 4 = .ok (.ifCond .ne 6, 3) := by decide +kernel
theorem dX12_undo_7 : decode cX12_undo 7 = .ok (.bipush (-3), 2) := by decide +kernel
theorem dX12_undo_9 : decode cX12_undo 9 = .ok (.ireturn, 1) := by decide +kernel
theorem dX12_undo_10 : decode cX12_undo 10 = .ok (.aload_n 0, 1) := by decide +kernel
theorem dX12_undo_11 : decode cX12_undo 11 = .ok (.aload_n 0, 1) := by decide +kernel
theorem dX12_undo_12 : decode cX12_undo 12 = .ok (.getfield 85, 3) := by decide +kernel
theorem dX12_undo_15 : decode cX12_undo 15 = .ok (.invokevirtual 269, 3) := by decide +kernel
theorem dX12_undo_18 : decode cX12_undo 18 = .ok (.aload_n 0, 1) := by decide +kernel
theorem dX12_undo_19 : decode cX12_undo 19 = .ok (.getfield 105, 3) := by decide +kernel
theorem dX12_undo_22 : decode cX12_undo 22 = .ok (.ireturn, 1) := by decide +kernel
theorem dX12_ran_0 : decode cX12_ran 0 = .ok (.aload_n 0, 1) := by decide +kernel
theorem dX12_ran_1 : decode cX12_ran 1 = .ok (.getfield 303, 3) := by decide +kernel
theorem dX12_ran_4 : decode cX12_ran 4 = .ok (.bipush 20, 2) := by decide +kernel
theorem dX12_ran_6 : decode cX12_ran 6 = .ok (.if_icmp .ge 13, 3) := by decide +kernel
theorem dX12_ran_9 : decode cX12_ran 9 = .ok (.aload_n 0, 1) := by decide +kernel
theorem dX12_ran_10 : decode cX12_ran 10 = .ok (.getfield 82, 3) := by decide +kernel
theorem dX12_ran_13 : decode cX12_ran 13 = .ok (.aload_n 0, 1) := by decide +kernel
theorem dX12_ran_14 : decode cX12_ran 14 = .ok (.getfield 303, 3) := by decide +kernel
theorem dX12_ran_17 : decode cX12_ran 17 = .ok (.iload_n 1, 1) := by decide +kernel
theorem dX12_ran_18 : decode cX12_ran 18 = .ok (.iastore, 1) := by decide +kernel
theorem dX12_ran_19 : decode cX12_ran 19 = .ok (.aload_n 0, 1) := by decide +kernel
theorem dX12_ran_20 : decode cX12_ran 20 = .ok (.dup, 1) := by decide +kernel
theorem dX12_ran_21 : decode cX12_ran 21 = .ok (.getfield 303, 3) := by decide +kernel
theorem dX12_ran_24 : decode cX12_ran 24 = .ok (.iconst 1, 1) := by decide +kernel
theorem dX12_ran_25 : decode cX12_ran 25 = .ok (.iadd, 1) := by decide +kernel
theorem dX12_ran_26 : decode cX12_ran 26 = .ok (.putfield 303, 3) := by decide +kernel
theorem dX12_ran_29 : decode cX12_ran 29 = .ok (.return_, 1) := by decide +kernel
theorem dX12_above_0 : decode cX12_above 0 = .ok (.iload_n 0, 1) := by decide +kernel
theorem dX12_above_1 : decode cX12_above 1 = .ok (.iconst 4, 1) := by decide +kernel
theorem dX12_above_2 : decode cX12_above 2 = .ok (.if_icmp .ne 7, 3) := by decide +kernel
theorem dX12_above_5 : decode cX12_above 5 = .ok (.iconst 1, 1) := by decide +kernel
theorem dX12_above_6 : decode cX12_above 6 = .ok (.goto 23, 3) := by decide +kernel
theorem dX12_above_9 : decode cX12_above 9 = .ok (.iload_n 0, 1) := by decide +kernel
theorem dX12_above_10 : decode cX12_above 10 = .ok (.iconst 5, 1) := by decide +kernel
theorem dX12_above_11 : decode cX12_above 11 = .ok (.if_icmp .ne 7, 3) := by decide +kernel
theorem dX12_above_14 : decode cX12_above 14 = .ok (.iconst 2, 1) := by decide +kernel
theorem dX12_above_15 : decode cX12_above 15 = .ok (.goto 14, 3) := by decide +kernel
theorem dX12_above_18 : decode cX12_above 18 = .ok (.iload_n 0, 1) := by decide +kernel
theorem dX12_above_19 : decode cX12_above 19 = .ok (.bipush 6, 2) := by decide +kernel
theorem dX12_above_21 : decode cX12_above 21 = .ok (.if_icmp .ne 7, 3) := by decide +kernel
theorem dX12_above_24 : decode cX12_above 24 = .ok (.iconst 3, 1) := by decide +kernel
theorem dX12_above_25 : decode cX12_above 25 = .ok (.goto 4, 3) := by decide +kernel
theorem dX12_above_28 : decode cX12_above 28 = .ok (.iconst 0, 1) := by decide +kernel
theorem dX12_above_29 : decode cX12_above 29 = .ok (.ireturn, 1) := by decide +kernel
theorem dX12_coos_0 : decode cX12_coos 0 = .ok (.iload_n 2, 1) := by decide +kernel
theorem dX12_coos_1 : decode cX12_coos 1 = .ok (.tableswitch 105 0 6 #[95, 105, 43, 105, 59, 105, 74], 43) := by decide +kernel
theorem dX12_coos_44 : decode cX12_coos 44 = .ok (.aload_n 0, 1) := by decide +kernel
theorem dX12_coos_45 : decode cX12_coos 45 = .ok (.bipush 30, 2) := by decide +kernel
theorem dX12_coos_47 : decode cX12_coos 47 = .ok (.invokevirtual 306, 3) := by decide +kernel
theorem dX12_coos_50 : decode cX12_coos 50 = .ok (.aload_n 0, 1) := by decide +kernel
theorem dX12_coos_51 : decode cX12_coos 51 = .ok (.iload_n 1, 1) := by decide +kernel
theorem dX12_coos_52 : decode cX12_coos 52 = .ok (.iconst 0, 1) := by decide +kernel
theorem dX12_coos_53 : decode cX12_coos 53 = .ok (.iload_n 3, 1) := by decide +kernel
theorem dX12_coos_54 : decode cX12_coos 54 = .ok (.iconst 3, 1) := by decide +kernel
theorem dX12_coos_55 : decode cX12_coos 55 = .ok (.imul, 1) := by decide +kernel
theorem dX12_coos_56 : decode cX12_coos 56 = .ok (.invokevirtual 310, 3) := by decide +kernel
theorem dX12_coos_59 : decode cX12_coos 59 = .ok (.ireturn, 1) := by decide +kernel
theorem dX12_coos_60 : decode cX12_coos 60 = .ok (.aload_n 0, 1) := by decide +kernel
theorem dX12_coos_61 : decode cX12_coos 61 = .ok (.bipush 50, 2) := by decide +kernel
theorem dX12_coos_63 : decode cX12_coos 63 = .ok (.invokevirtual 306, 3) := by decide +kernel
theorem dX12_coos_66 : decode cX12_coos 66 = .ok (.aload_n 0, 1) := by decide +kernel
theorem dX12_coos_67 : decode cX12_coos 67 = .ok (.iload_n 1, 1) := by decide +kernel
theorem dX12_coos_68 : decode cX12_coos 68 = .ok (.iconst 1, 1) := by decide +kernel
theorem dX12_coos_69 : decode cX12_coos 69 = .ok (.iload_n 3, 1) := by decide +kernel
theorem dX12_coos_70 : decode cX12_coos 70 = .ok (.invokevirtual 310, 3) := by decide +kernel
theorem dX12_coos_73 : decode cX12_coos 73 = .ok (.ineg, 1) := by decide +kernel
theorem dX12_coos_74 : decode cX12_coos 74 = .ok (.ireturn, 1) := by decide +kernel
theorem dX12_coos_75 : decode cX12_coos 75 = .ok (.aload_n 0, 1) := by decide +kernel
theorem dX12_coos_76 : decode cX12_coos 76 = .ok (.bipush 71, 2) := by decide +kernel
theorem dX12_coos_78 : decode cX12_coos 78 = .ok (.invokevirtual 306, 3) := by decide +kernel
theorem dX12_coos_81 : decode cX12_coos 81 = .ok (.aload_n 0, 1) := by decide +kernel
theorem dX12_coos_82 : decode cX12_coos 82 = .ok (.iload_n 1, 1) := by decide +kernel
theorem dX12_coos_83 : decode cX12_coos 83 = .ok (.iconst 3, 1) := by decide +kernel
theorem dX12_coos_84 : decode cX12_coos 84 = .ok (.iload_n 3, 1) := by decide +kernel
theorem dX12_coos_85 : decode cX12_coos 85 = .ok (.invokevirtual 310, 3) := by decide +kernel
theorem dX12_coos_88 : decode cX12_coos 88 = .ok (.aload_n 0, 1) := by decide +kernel
theorem dX12_coos_89 : decode cX12_coos 89 = .ok (.getfield 21, 3) := by decide +kernel
theorem dX12_coos_92 : decode cX12_coos 92 = .ok (.iload_n 1, 1) := by decide +kernel
theorem dX12_coos_93 : decode cX12_coos 93 = .ok (.iaload, 1) := by decide +kernel
theorem dX12_coos_94 : decode cX12_coos 94 = .ok (.ixor, 1) := by decide +kernel
theorem dX12_coos_95 : decode cX12_coos 95 = .ok (.ireturn, 1) := by decide +kernel
theorem dX12_coos_96 : decode cX12_coos 96 = .ok (.aload_n 0, 1) := by decide +kernel
theorem dX12_coos_97 : decode cX12_coos 97 = .ok (.bipush 10, 2) := by decide +kernel
theorem dX12_coos_99 : decode cX12_coos 99 = .ok (.invokevirtual 306, 3) := by decide +kernel
theorem dX12_coos_102 : decode cX12_coos 102 = .ok (.iload_n 3, 1) := by decide +kernel
theorem dX12_coos_103 : decode cX12_coos 103 = .ok (.iload_n 1, 1) := by decide +kernel
theorem dX12_coos_104 : decode cX12_coos 104 = .ok (.iadd, 1) := by decide +kernel
theorem dX12_coos_105 : decode cX12_coos 105 = .ok (.ireturn, 1) := by decide +kernel
theorem dX12_coos_106 : decode cX12_coos 106 = .ok (.aload_n 0, 1) := by decide +kernel
theorem dX12_coos_107 : decode cX12_coos 107 = .ok (.iload_n 1, 1) := by decide +kernel
theorem dX12_coos_108 : decode cX12_coos 108 = .ok (.iload_n 2, 1) := by decide +kernel
theorem dX12_coos_109 : decode cX12_coos 109 = .ok (.invokestatic 313, 3) := by decide +kernel
theorem dX12_coos_112 : decode cX12_coos 112 = .ok (.iload_n 3, 1) := by decide +kernel
theorem dX12_coos_113 : decode cX12_coos 113 = .ok (.invokevirtual 310, 3) := by decide +kernel
theorem dX12_coos_116 : decode cX12_coos 116 = .ok (.ireturn, 1) := by decide +kernel
theorem dX12_flies_0 : decode cX12_flies 0 = .ok (.iload_n 2, 1) := by decide +kernel
theorem dX12_flies_1 : decode cX12_flies 1 = .ok (.tableswitch 128 0 6 #[102, 43, 128, 128, 60, 128, 76], 43) := by decide +kernel
theorem dX12_flies_44 : decode cX12_flies 44 = .ok (.aload_n 0, 1) := by decide +kernel
theorem dX12_flies_45 : decode cX12_flies 45 = .ok (.bipush 20, 2) := by decide +kernel
theorem dX12_flies_47 : decode cX12_flies 47 = .ok (.invokevirtual 306, 3) := by decide +kernel
theorem dX12_flies_50 : decode cX12_flies 50 = .ok (.aload_n 0, 1) := by decide +kernel
theorem dX12_flies_51 : decode cX12_flies 51 = .ok (.iload_n 1, 1) := by decide +kernel
theorem dX12_flies_52 : decode cX12_flies 52 = .ok (.iconst 0, 1) := by decide +kernel
theorem dX12_flies_53 : decode cX12_flies 53 = .ok (.iload_n 3, 1) := by decide +kernel
theorem dX12_flies_54 : decode cX12_flies 54 = .ok (.invokevirtual 316, 3) := by decide +kernel
theorem dX12_flies_57 : decode cX12_flies 57 = .ok (.bipush 6, 2) := by decide +kernel
theorem dX12_flies_59 : decode cX12_flies 59 = .ok (.ixor, 1) := by decide +kernel
theorem dX12_flies_60 : decode cX12_flies 60 = .ok (.ireturn, 1) := by decide +kernel
theorem dX12_flies_61 : decode cX12_flies 61 = .ok (.aload_n 0, 1) := by decide +kernel
theorem dX12_flies_62 : decode cX12_flies 62 = .ok (.bipush 51, 2) := by decide +kernel
theorem dX12_flies_64 : decode cX12_flies 64 = .ok (.invokevirtual 306, 3) := by decide +kernel
theorem dX12_flies_67 : decode cX12_flies 67 = .ok (.aload_n 0, 1) := by decide +kernel
theorem dX12_flies_68 : decode cX12_flies 68 = .ok (.iload_n 1, 1) := by decide +kernel
theorem dX12_flies_69 : decode cX12_flies 69 = .ok (.iconst 1, 1) := by decide +kernel
theorem dX12_flies_70 : decode cX12_flies 70 = .ok (.iload_n 3, 1) := by decide +kernel
theorem dX12_flies_71 : decode cX12_flies 71 = .ok (.iconst 1, 1) := by decide +kernel
theorem dX12_flies_72 : decode cX12_flies 72 = .ok (.iadd, 1) := by decide +kernel
theorem dX12_flies_73 : decode cX12_flies 73 = .ok (.invokevirtual 316, 3) := by decide +kernel
theorem dX12_flies_76 : decode cX12_flies 76 = .ok (.ireturn, 1) := by decide +kernel
theorem dX12_flies_77 : decode cX12_flies 77 = .ok (.aload_n 0, 1) := by decide +kernel
theorem dX12_flies_78 : decode cX12_flies 78 = .ok (.bipush 70, 2) := by decide +kernel
theorem dX12_flies_80 : decode cX12_flies 80 = .ok (.invokevirtual 306, 3) := by decide +kernel
theorem dX12_flies_83 : decode cX12_flies 83 = .ok (.aload_n 0, 1) := by decide +kernel
theorem dX12_flies_84 : decode cX12_flies 84 = .ok (.iload_n 1, 1) := by decide +kernel
theorem dX12_flies_85 : decode cX12_flies 85 = .ok (.iconst 3, 1) := by decide +kernel
theorem dX12_flies_86 : decode cX12_flies 86 = .ok (.iload_n 3, 1) := by decide +kernel
theorem dX12_flies_87 : decode cX12_flies 87 = .ok (.invokevirtual 316, 3) := by decide +kernel
theorem dX12_flies_90 : decode cX12_flies 90 = .ok (.istore 4, 2) := by decide +kernel
theorem dX12_flies_92 : decode cX12_flies 92 = .ok (.iload 4, 2) := by decide +kernel
theorem dX12_flies_94 : decode cX12_flies 94 = .ok (.aload_n 0, 1) := by decide +kernel
theorem dX12_flies_95 : decode cX12_flies 95 = .ok (.iload_n 1, 1) := by decide +kernel
theorem dX12_flies_96 : decode cX12_flies 96 = .ok (.iconst 3, 1) := by decide +kernel
theorem dX12_flies_97 : decode cX12_flies 97 = .ok (.iconst 2, 1) := by decide +kernel
theorem dX12_flies_98 : decode cX12_flies 98 = .ok (.invokevirtual 310, 3) := by decide +kernel
theorem dX12_flies_101 : decode cX12_flies 101 = .ok (.iadd, 1) := by decide +kernel
theorem dX12_flies_102 : decode cX12_flies 102 = .ok (.ireturn, 1) := by decide +kernel
theorem dX12_flies_103 : decode cX12_flies 103 = .ok (.aload_n 0, 1) := by decide +kernel
theorem dX12_flies_104 : decode cX12_flies 104 = .ok (.bipush 11, 2) := by decide +kernel
theorem dX12_flies_106 : decode cX12_flies 106 = .ok (.invokevirtual 306, 3) := by decide +kernel
theorem dX12_flies_109 : decode cX12_flies 109 = .ok (.aload_n 0, 1) := by decide +kernel
theorem dX12_flies_110 : decode cX12_flies 110 = .ok (.iload_n 1, 1) := by decide +kernel
theorem dX12_flies_111 : decode cX12_flies 111 = .ok (.aload_n 0, 1) := by decide +kernel
theorem dX12_flies_112 : decode cX12_flies 112 = .ok (.getfield 18, 3) := by decide +kernel
theorem dX12_flies_115 : decode cX12_flies 115 = .ok (.iload_n 1, 1) := by decide +kernel
theorem dX12_flies_116 : decode cX12_flies 116 = .ok (.iaload, 1) := by decide +kernel
theorem dX12_flies_117 : decode cX12_flies 117 = .ok (.iload_n 3, 1) := by decide +kernel
theorem dX12_flies_118 : decode cX12_flies 118 = .ok (.invokevirtual 310, 3) := by decide +kernel
theorem dX12_flies_121 : decode cX12_flies 121 = .ok (.aload_n 0, 1) := by decide +kernel
theorem dX12_flies_122 : decode cX12_flies 122 = .ok (.getfield 21, 3) := by decide +kernel
theorem dX12_flies_125 : decode cX12_flies 125 = .ok (.iload_n 1, 1) := by decide +kernel
theorem dX12_flies_126 : decode cX12_flies 126 = .ok (.iaload, 1) := by decide +kernel
theorem dX12_flies_127 : decode cX12_flies 127 = .ok (.isub, 1) := by decide +kernel
theorem dX12_flies_128 : decode cX12_flies 128 = .ok (.ireturn, 1) := by decide +kernel
theorem dX12_flies_129 : decode cX12_flies 129 = .ok (.aload_n 0, 1) := by decide +kernel
theorem dX12_flies_130 : decode cX12_flies 130 = .ok (.iload_n 1, 1) := by decide +kernel
theorem dX12_flies_131 : decode cX12_flies 131 = .ok (.iload_n 2, 1) := by decide +kernel
theorem dX12_flies_132 : decode cX12_flies 132 = .ok (.invokestatic 313, 3) := by decide +kernel
theorem dX12_flies_135 : decode cX12_flies 135 = .ok (.iload_n 3, 1) := by decide +kernel
theorem dX12_flies_136 : decode cX12_flies 136 = .ok (.invokevirtual 316, 3) := by decide +kernel
theorem dX12_flies_139 : decode cX12_flies 139 = .ok (.ireturn, 1) := by decide +kernel
theorem dX12_tells_0 : decode cX12_tells 0 = .ok (.iload_n 2, 1) := by decide +kernel
theorem dX12_tells_1 : decode cX12_tells 1 = .ok (.lookupswitch 103 #[(0, 82), (3, 35), (5, 66)], 35) := by decide +kernel
theorem dX12_tells_36 : decode cX12_tells 36 = .ok (.aload_n 0, 1) := by decide +kernel
theorem dX12_tells_37 : decode cX12_tells 37 = .ok (.bipush 40, 2) := by decide +kernel
theorem dX12_tells_39 : decode cX12_tells 39 = .ok (.invokevirtual 306, 3) := by decide +kernel
theorem dX12_tells_42 : decode cX12_tells 42 = .ok (.aload_n 0, 1) := by decide +kernel
theorem dX12_tells_43 : decode cX12_tells 43 = .ok (.iload_n 1, 1) := by decide +kernel
theorem dX12_tells_44 : decode cX12_tells 44 = .ok (.iconst 0, 1) := by decide +kernel
theorem dX12_tells_45 : decode cX12_tells 45 = .ok (.iload_n 3, 1) := by decide +kernel
theorem dX12_tells_46 : decode cX12_tells 46 = .ok (.invokevirtual 319, 3) := by decide +kernel
theorem dX12_tells_49 : decode cX12_tells 49 = .ok (.istore 4, 2) := by decide +kernel
theorem dX12_tells_51 : decode cX12_tells 51 = .ok (.iload 4, 2) := by decide +kernel
theorem dX12_tells_53 : decode cX12_tells 53 = .ok (.aload_n 0, 1) := by decide +kernel
theorem dX12_tells_54 : decode cX12_tells 54 = .ok (.iload_n 1, 1) := by decide +kernel
theorem dX12_tells_55 : decode cX12_tells 55 = .ok (.aload_n 0, 1) := by decide +kernel
theorem dX12_tells_56 : decode cX12_tells 56 = .ok (.getfield 18, 3) := by decide +kernel
theorem dX12_tells_59 : decode cX12_tells 59 = .ok (.iload_n 1, 1) := by decide +kernel
theorem dX12_tells_60 : decode cX12_tells 60 = .ok (.iaload, 1) := by decide +kernel
theorem dX12_tells_61 : decode cX12_tells 61 = .ok (.iconst 1, 1) := by decide +kernel
theorem dX12_tells_62 : decode cX12_tells 62 = .ok (.invokevirtual 316, 3) := by decide +kernel
theorem dX12_tells_65 : decode cX12_tells 65 = .ok (.iadd, 1) := by decide +kernel
theorem dX12_tells_66 : decode cX12_tells 66 = .ok (.ireturn, 1) := by decide +kernel
theorem dX12_tells_67 : decode cX12_tells 67 = .ok (.aload_n 0, 1) := by decide +kernel
theorem dX12_tells_68 : decode cX12_tells 68 = .ok (.bipush 60, 2) := by decide +kernel
theorem dX12_tells_70 : decode cX12_tells 70 = .ok (.invokevirtual 306, 3) := by decide +kernel
theorem dX12_tells_73 : decode cX12_tells 73 = .ok (.aload_n 0, 1) := by decide +kernel
theorem dX12_tells_74 : decode cX12_tells 74 = .ok (.iload_n 1, 1) := by decide +kernel
theorem dX12_tells_75 : decode cX12_tells 75 = .ok (.iconst 2, 1) := by decide +kernel
theorem dX12_tells_76 : decode cX12_tells 76 = .ok (.iload_n 3, 1) := by decide +kernel
theorem dX12_tells_77 : decode cX12_tells 77 = .ok (.iload_n 1, 1) := by decide +kernel
theorem dX12_tells_78 : decode cX12_tells 78 = .ok (.isub, 1) := by decide +kernel
theorem dX12_tells_79 : decode cX12_tells 79 = .ok (.invokevirtual 319, 3) := by decide +kernel
theorem dX12_tells_82 : decode cX12_tells 82 = .ok (.ireturn, 1) := by decide +kernel
theorem dX12_tells_83 : decode cX12_tells 83 = .ok (.aload_n 0, 1) := by decide +kernel
theorem dX12_tells_84 : decode cX12_tells 84 = .ok (.bipush 12, 2) := by decide +kernel
theorem dX12_tells_86 : decode cX12_tells 86 = .ok (.invokevirtual 306, 3) := by decide +kernel
theorem dX12_tells_89 : decode cX12_tells 89 = .ok (.aload_n 0, 1) := by decide +kernel
theorem dX12_tells_90 : decode cX12_tells 90 = .ok (.iload_n 1, 1) := by decide +kernel
theorem dX12_tells_91 : decode cX12_tells 91 = .ok (.aload_n 0, 1) := by decide +kernel
theorem dX12_tells_92 : decode cX12_tells 92 = .ok (.getfield 18, 3) := by decide +kernel
theorem dX12_tells_95 : decode cX12_tells 95 = .ok (.iload_n 1, 1) := by decide +kernel
theorem dX12_tells_96 : decode cX12_tells 96 = .ok (.iaload, 1) := by decide +kernel
theorem dX12_tells_97 : decode cX12_tells 97 = .ok (.iload_n 3, 1) := by decide +kernel
theorem dX12_tells_98 : decode cX12_tells 98 = .ok (.invokevirtual 316, 3) := by decide +kernel
theorem dX12_tells_101 : decode cX12_tells 101 = .ok (.iconst 2, 1) := by decide +kernel
theorem dX12_tells_102 : decode cX12_tells 102 = .ok (.imul, 1) := by decide +kernel
theorem dX12_tells_103 : decode cX12_tells 103 = .ok (.ireturn, 1) := by decide +kernel
theorem dX12_tells_104 : decode cX12_tells 104 = .ok (.aload_n 0, 1) := by decide +kernel
theorem dX12_tells_105 : decode cX12_tells 105 = .ok (.iload_n 1, 1) := by decide +kernel
theorem dX12_tells_106 : decode cX12_tells 106 = .ok (.iload_n 2, 1) := by decide +kernel
theorem dX12_tells_107 : decode cX12_tells 107 = .ok (.invokestatic 313, 3) := by decide +kernel
theorem dX12_tells_110 : decode cX12_tells 110 = .ok (.iload_n 3, 1) := by decide +kernel
theorem dX12_tells_111 : decode cX12_tells 111 = .ok (.invokevirtual 319, 3) := by decide +kernel
theorem dX12_tells_114 : decode cX12_tells 114 = .ok (.ireturn, 1) := by decide +kernel
theorem dX12_act_0 : decode cX12_act 0 = .ok (.aload_n 0, 1) := by decide +kernel
theorem dX12_act_1 : decode cX12_act 1 = .ok (.iconst 0, 1) := by decide +kernel
theorem dX12_act_2 : decode cX12_act 2 = .ok (.putfield 303, 3) := by decide +kernel
theorem dX12_act_5 : decode cX12_act 5 = .ok (.aload_n 0, 1) := by decide +kernel
theorem dX12_act_6 : decode cX12_act 6 = .ok (.iload_n 1, 1) := by decide +kernel
theorem dX12_act_7 : decode cX12_act 7 = .ok (.invokevirtual 112, 3) := by decide +kernel
theorem dX12_act_10 : decode cX12_act 10 = .ok (.ifCond .eq 12, 3) := by decide +kernel
theorem dX12_act_13 : decode cX12_act 13 = .ok (.iload_n 2, 1) := by decide +kernel
theorem dX12_act_14 : decode cX12_act 14 = .ok (.iconst 0, 1) := by decide +kernel
theorem dX12_act_15 : decode cX12_act 15 = .ok (.iconst 2, 1) := by decide +kernel
theorem dX12_act_16 : decode cX12_act 16 = .ok (.invokestatic 108, 3) := by decide +kernel
theorem dX12_act_19 : decode cX12_act 19 = .ok (.ifCond .ne 5, 3) := by decide +kernel
theorem dX12_act_22 : decode cX12_act 22 = .ok (.iconst 0, 1) := by decide +kernel
theorem dX12_act_23 : decode cX12_act 23 = .ok (.ireturn, 1) := by decide +kernel
theorem dX12_act_24 : decode cX12_act 24 = .ok (.aload_n 0, 1) := by decide +kernel
theorem dX12_act_25 : decode cX12_act 25 = .ok (.getfield 18, 3) := by decide +kernel
theorem dX12_act_28 : decode cX12_act 28 = .ok (.iload_n 1, 1) := by decide +kernel
theorem dX12_act_29 : decode cX12_act 29 = .ok (.iaload, 1) := by decide +kernel
theorem dX12_act_30 : decode cX12_act 30 = .ok (.istore 4, 2) := by decide +kernel
theorem dX12_act_32 : decode cX12_act 32 = .ok (.iload_n 2, 1) := by decide +kernel
theorem dX12_act_33 : decode cX12_act 33 = .ok (.ifCond .ne 14, 3) := by decide +kernel
theorem dX12_act_36 : decode cX12_act 36 = .ok (.aload_n 0, 1) := by decide +kernel
theorem dX12_act_37 : decode cX12_act 37 = .ok (.iload_n 1, 1) := by decide +kernel
theorem dX12_act_38 : decode cX12_act 38 = .ok (.iload 4, 2) := by decide +kernel
theorem dX12_act_40 : decode cX12_act 40 = .ok (.iload_n 3, 1) := by decide +kernel
theorem dX12_act_41 : decode cX12_act 41 = .ok (.invokevirtual 310, 3) := by decide +kernel
theorem dX12_act_44 : decode cX12_act 44 = .ok (.goto 27, 3) := by decide +kernel
theorem dX12_act_47 : decode cX12_act 47 = .ok (.iload_n 2, 1) := by decide +kernel
theorem dX12_act_48 : decode cX12_act 48 = .ok (.iconst 1, 1) := by decide +kernel
theorem dX12_act_49 : decode cX12_act 49 = .ok (.if_icmp .ne 14, 3) := by decide +kernel
theorem dX12_act_52 : decode cX12_act 52 = .ok (.aload_n 0, 1) := by decide +kernel
theorem dX12_act_53 : decode cX12_act 53 = .ok (.iload_n 1, 1) := by decide +kernel
theorem dX12_act_54 : decode cX12_act 54 = .ok (.iload 4, 2) := by decide +kernel
theorem dX12_act_56 : decode cX12_act 56 = .ok (.iload_n 3, 1) := by decide +kernel
theorem dX12_act_57 : decode cX12_act 57 = .ok (.invokevirtual 316, 3) := by decide +kernel
theorem dX12_act_60 : decode cX12_act 60 = .ok (.goto 11, 3) := by decide +kernel
theorem dX12_act_63 : decode cX12_act 63 = .ok (.aload_n 0, 1) := by decide +kernel
theorem dX12_act_64 : decode cX12_act 64 = .ok (.iload_n 1, 1) := by decide +kernel
theorem dX12_act_65 : decode cX12_act 65 = .ok (.iload 4, 2) := by decide +kernel
theorem dX12_act_67 : decode cX12_act 67 = .ok (.iload_n 3, 1) := by decide +kernel
theorem dX12_act_68 : decode cX12_act 68 = .ok (.invokevirtual 319, 3) := by decide +kernel
theorem dX12_act_71 : decode cX12_act 71 = .ok (.ireturn, 1) := by decide +kernel
theorem dX12_trace_0 : decode cX12_trace 0 = .ok (.iload_n 1, 1) := by decide +kernel
theorem dX12_trace_1 : decode cX12_trace 1 = .ok (.iconst 0, 1) := by decide +kernel
theorem dX12_trace_2 : decode cX12_trace 2 = .ok (.bipush 20, 2) := by decide +kernel
theorem dX12_trace_4 : decode cX12_trace 4 = .ok (.aload_n 0, 1) := by decide +kernel
theorem dX12_trace_5 : decode cX12_trace 5 = .ok (.getfield 303, 3) := by decide +kernel
theorem dX12_trace_8 : decode cX12_trace 8 = .ok (.invokestatic 230, 3) := by decide +kernel
theorem dX12_trace_11 : decode cX12_trace 11 = .ok (.iconst 1, 1) := by decide +kernel
theorem dX12_trace_12 : decode cX12_trace 12 = .ok (.isub, 1) := by decide +kernel
theorem dX12_trace_13 : decode cX12_trace 13 = .ok (.invokestatic 108, 3) := by decide +kernel
theorem dX12_trace_16 : decode cX12_trace 16 = .ok (.ifCond .eq 12, 3) := by decide +kernel
theorem dX12_trace_19 : decode cX12_trace 19 = .ok (.aload_n 0, 1) := by decide +kernel
theorem dX12_trace_20 : decode cX12_trace 20 = .ok (.getfield 82, 3) := by decide +kernel
theorem dX12_trace_23 : decode cX12_trace 23 = .ok (.iload_n 1, 1) := by decide +kernel
theorem dX12_trace_24 : decode cX12_trace 24 = .ok (.iaload, 1) := by decide +kernel
theorem dX12_trace_25 : decode cX12_trace 25 = .ok (.goto 4, 3) := by decide +kernel
theorem dX12_trace_28 : decode cX12_trace 28 = .ok (.iconst (-1), 1) := by decide +kernel
theorem dX12_trace_29 : decode cX12_trace 29 = .ok (.ireturn, 1) := by decide +kernel
theorem dX12_taken_0 : decode cX12_taken 0 = .ok (.iload_n 2, 1) := by decide +kernel
theorem dX12_taken_1 : decode cX12_taken 1 = .ok (.iconst 0, 1) := by decide +kernel
theorem dX12_taken_2 : decode cX12_taken 2 = .ok (.bipush 6, 2) := by decide +kernel
theorem dX12_taken_4 : decode cX12_taken 4 = .ok (.invokestatic 108, 3) := by decide +kernel
theorem dX12_taken_7 : decode cX12_taken 7 = .ok (.ifCond .ne 6, 3) := by decide +kernel
theorem dX12_taken_10 : decode cX12_taken 10 = .ok (.bipush (-2), 2) := by decide +kernel
theorem dX12_taken_12 : decode cX12_taken 12 = .ok (.ireturn, 1) := by decide +kernel
theorem dX12_taken_13 : decode cX12_taken 13 = .ok (.aload_n 0, 1) := by decide +kernel
theorem dX12_taken_14 : decode cX12_taken 14 = .ok (.iload_n 1, 1) := by decide +kernel
theorem dX12_taken_15 : decode cX12_taken 15 = .ok (.invokevirtual 112, 3) := by decide +kernel
theorem dX12_taken_18 : decode cX12_taken 18 = .ok (.ifCond .ne 6, 3) := by decide +kernel
theorem dX12_taken_21 : decode cX12_taken 21 = .ok (.bipush (-11), 2) := by decide +kernel
theorem dX12_taken_23 : decode cX12_taken 23 = .ok (.ireturn, 1) := by decide +kernel
theorem dX12_taken_24 : decode cX12_taken 24 = .ok (.aload_n 0, 1) := by decide +kernel
theorem dX12_taken_25 : decode cX12_taken 25 = .ok (.getfield 18, 3) := by decide +kernel
theorem dX12_taken_28 : decode cX12_taken 28 = .ok (.iload_n 1, 1) := by decide +kernel
theorem dX12_taken_29 : decode cX12_taken 29 = .ok (.iaload, 1) := by decide +kernel
theorem dX12_taken_30 : decode cX12_taken 30 = .ok (.istore_n 3, 1) := by decide +kernel
theorem dX12_taken_31 : decode cX12_taken 31 = .ok (.iload_n 3, 1) := by decide +kernel
theorem dX12_taken_32 : decode cX12_taken 32 = .ok (.iload_n 2, 1) := by decide +kernel
theorem dX12_taken_33 : decode cX12_taken 33 = .ok (.if_icmp .eq 15, 3) := by decide +kernel
theorem dX12_taken_36 : decode cX12_taken 36 = .ok (.iload_n 3, 1) := by decide +kernel
theorem dX12_taken_37 : decode cX12_taken 37 = .ok (.ifCond .le 11, 3) := by decide +kernel
theorem dX12_taken_40 : decode cX12_taken 40 = .ok (.iload_n 3, 1) := by decide +kernel
theorem dX12_taken_41 : decode cX12_taken 41 = .ok (.invokestatic 313, 3) := by decide +kernel
theorem dX12_taken_44 : decode cX12_taken 44 = .ok (.istore_n 3, 1) := by decide +kernel
theorem dX12_taken_45 : decode cX12_taken 45 = .ok (.goto (-14), 3) := by decide +kernel
theorem dX12_taken_48 : decode cX12_taken 48 = .ok (.iload_n 3, 1) := by decide +kernel
theorem dX12_taken_49 : decode cX12_taken 49 = .ok (.iload_n 2, 1) := by decide +kernel
theorem dX12_taken_50 : decode cX12_taken 50 = .ok (.if_icmp .ne 12, 3) := by decide +kernel
theorem dX12_taken_53 : decode cX12_taken 53 = .ok (.aload_n 0, 1) := by decide +kernel
theorem dX12_taken_54 : decode cX12_taken 54 = .ok (.getfield 18, 3) := by decide +kernel
theorem dX12_taken_57 : decode cX12_taken 57 = .ok (.iload_n 1, 1) := by decide +kernel
theorem dX12_taken_58 : decode cX12_taken 58 = .ok (.iaload, 1) := by decide +kernel
theorem dX12_taken_59 : decode cX12_taken 59 = .ok (.goto 5, 3) := by decide +kernel
theorem dX12_taken_62 : decode cX12_taken 62 = .ok (.bipush (-12), 2) := by decide +kernel
theorem dX12_taken_64 : decode cX12_taken 64 = .ok (.ireturn, 1) := by decide +kernel
theorem dX12_count_0 : decode cX12_count 0 = .ok (.iload_n 1, 1) := by decide +kernel
theorem dX12_count_1 : decode cX12_count 1 = .ok (.tableswitch 78 0 6 #[43, 48, 53, 58, 63, 68, 73], 43) := by decide +kernel
theorem dX12_count_44 : decode cX12_count 44 = .ok (.aload_n 0, 1) := by decide +kernel
theorem dX12_count_45 : decode cX12_count 45 = .ok (.getfield 105, 3) := by decide +kernel
theorem dX12_count_48 : decode cX12_count 48 = .ok (.ireturn, 1) := by decide +kernel
theorem dX12_count_49 : decode cX12_count 49 = .ok (.aload_n 0, 1) := by decide +kernel
theorem dX12_count_50 : decode cX12_count 50 = .ok (.getfield 205, 3) := by decide +kernel
theorem dX12_count_53 : decode cX12_count 53 = .ok (.ireturn, 1) := by decide +kernel
theorem dX12_count_54 : decode cX12_count 54 = .ok (.aload_n 0, 1) := by decide +kernel
theorem dX12_count_55 : decode cX12_count 55 = .ok (.getfield 272, 3) := by decide +kernel
theorem dX12_count_58 : decode cX12_count 58 = .ok (.ireturn, 1) := by decide +kernel
theorem dX12_count_59 : decode cX12_count 59 = .ok (.aload_n 0, 1) := by decide +kernel
theorem dX12_count_60 : decode cX12_count 60 = .ok (.getfield 290, 3) := by decide +kernel
theorem dX12_count_63 : decode cX12_count 63 = .ok (.ireturn, 1) := by decide +kernel
theorem dX12_count_64 : decode cX12_count 64 = .ok (.aload_n 0, 1) := by decide +kernel
theorem dX12_count_65 : decode cX12_count 65 = .ok (.getfield 296, 3) := by decide +kernel
theorem dX12_count_68 : decode cX12_count 68 = .ok (.ireturn, 1) := by decide +kernel
theorem dX12_count_69 : decode cX12_count 69 = .ok (.aload_n 0, 1) := by decide +kernel
theorem dX12_count_70 : decode cX12_count 70 = .ok (.getfield 133, 3) := by decide +kernel
theorem dX12_count_73 : decode cX12_count 73 = .ok (.ireturn, 1) := by decide +kernel
theorem dX12_count_74 : decode cX12_count 74 = .ok (.aload_n 0, 1) := by decide +kernel
theorem dX12_count_75 : decode cX12_count 75 = .ok (.getfield 303, 3) := by decide +kernel
theorem dX12_count_78 : decode cX12_count 78 = .ok (.ireturn, 1) := by decide +kernel
theorem dX12_count_79 : decode cX12_count 79 = .ok (.bipush (-2), 2) := by decide +kernel
theorem dX12_count_81 : decode cX12_count 81 = .ok (.ireturn, 1) := by decide +kernel
theorem dX12_isTape_0 : decode cX12_isTape 0 = .ok (.iload_n 0, 1) := by decide +kernel
theorem dX12_isTape_1 : decode cX12_isTape 1 = .ok (.iconst 0, 1) := by decide +kernel
theorem dX12_isTape_2 : decode cX12_isTape 2 = .ok (.iconst 5, 1) := by decide +kernel
theorem dX12_isTape_3 : decode cX12_isTape 3 = .ok (.invokestatic 108, 3) := by decide +kernel
theorem dX12_isTape_6 : decode cX12_isTape 6 = .ok (.ireturn, 1) := by decide +kernel
theorem dX12_tape_0 : decode cX12_tape 0 = .ok (.iload_n 1, 1) := by decide +kernel
theorem dX12_tape_1 : decode cX12_tape 1 = .ok (.invokestatic 322, 3) := by decide +kernel
theorem dX12_tape_4 : decode cX12_tape 4 = .ok (.ifCond .ne 5, 3) := by decide +kernel
theorem dX12_tape_7 : decode cX12_tape 7 = .ok (.iconst (-1), 1) := by decide +kernel
theorem dX12_tape_8 : decode cX12_tape 8 = .ok (.ireturn, 1) := by decide +kernel
theorem dX12_tape_9 : decode cX12_tape 9 = .ok (.iload_n 2, 1) := by decide +kernel
theorem dX12_tape_10 : decode cX12_tape 10 = .ok (.iconst (-1), 1) := by decide +kernel
theorem dX12_tape_11 : decode cX12_tape 11 = .ok (.iconst 4, 1) := by decide +kernel
theorem dX12_tape_12 : decode cX12_tape 12 = .ok (.invokestatic 108, 3) := by decide +kernel
theorem dX12_tape_15 : decode cX12_tape 15 = .ok (.ifCond .eq 13, 3) := by decide +kernel
theorem dX12_tape_18 : decode cX12_tape 18 = .ok (.iload_n 2, 1) := by decide +kernel
theorem dX12_tape_19 : decode cX12_tape 19 = .ok (.ifCond .lt 12, 3) := by decide +kernel
theorem dX12_tape_22 : decode cX12_tape 22 = .ok (.iload_n 3, 1) := by decide +kernel
theorem dX12_tape_23 : decode cX12_tape 23 = .ok (.bipush 60, 2) := by decide +kernel
theorem dX12_tape_25 : decode cX12_tape 25 = .ok (.if_icmp .le 6, 3) := by decide +kernel
theorem dX12_tape_28 : decode cX12_tape 28 = .ok (.bipush (-2), 2) := by decide +kernel
theorem dX12_tape_30 : decode cX12_tape 30 = .ok (.ireturn, 1) := by decide +kernel
theorem dX12_tape_31 : decode cX12_tape 31 = .ok (.iload_n 2, 1) := by decide +kernel
theorem dX12_tape_32 : decode cX12_tape 32 = .ok (.ifCond .lt 10, 3) := by decide +kernel
theorem dX12_tape_35 : decode cX12_tape 35 = .ok (.iload_n 3, 1) := by decide +kernel
theorem dX12_tape_36 : decode cX12_tape 36 = .ok (.ifCond .ge 6, 3) := by decide +kernel
theorem dX12_tape_39 : decode cX12_tape 39 = .ok (.bipush (-14), 2) := by decide +kernel
theorem dX12_tape_41 : decode cX12_tape 41 = .ok (.ireturn, 1) := by decide +kernel
theorem dX12_tape_42 : decode cX12_tape 42 = .ok (.aload_n 0, 1) := by decide +kernel
theorem dX12_tape_43 : decode cX12_tape 43 = .ok (.getfield 91, 3) := by decide +kernel
theorem dX12_tape_46 : decode cX12_tape 46 = .ok (.iload_n 1, 1) := by decide +kernel
theorem dX12_tape_47 : decode cX12_tape 47 = .ok (.iload_n 2, 1) := by decide +kernel
theorem dX12_tape_48 : decode cX12_tape 48 = .ok (.iastore, 1) := by decide +kernel
theorem dX12_tape_49 : decode cX12_tape 49 = .ok (.aload_n 0, 1) := by decide +kernel
theorem dX12_tape_50 : decode cX12_tape 50 = .ok (.getfield 94, 3) := by decide +kernel
theorem dX12_tape_53 : decode cX12_tape 53 = .ok (.iload_n 1, 1) := by decide +kernel
theorem dX12_tape_54 : decode cX12_tape 54 = .ok (.iload_n 2, 1) := by decide +kernel
theorem dX12_tape_55 : decode cX12_tape 55 = .ok (.ifCond .ge 7, 3) := by decide +kernel
theorem dX12_tape_58 : decode cX12_tape 58 = .ok (.iconst 0, 1) := by decide +kernel
theorem dX12_tape_59 : decode cX12_tape 59 = .ok (.goto 4, 3) := by decide +kernel
theorem dX12_tape_62 : decode cX12_tape 62 = .ok (.iload_n 3, 1) := by decide +kernel
theorem dX12_tape_63 : decode cX12_tape 63 = .ok (.iastore, 1) := by decide +kernel
theorem dX12_tape_64 : decode cX12_tape 64 = .ok (.iconst 0, 1) := by decide +kernel
theorem dX12_tape_65 : decode cX12_tape 65 = .ok (.istore 4, 2) := by decide +kernel
theorem dX12_tape_67 : decode cX12_tape 67 = .ok (.iload 4, 2) := by decide +kernel
theorem dX12_tape_69 : decode cX12_tape 69 = .ok (.bipush 60, 2) := by decide +kernel
theorem dX12_tape_71 : decode cX12_tape 71 = .ok (.if_icmp .ge 22, 3) := by decide +kernel
theorem dX12_tape_74 : decode cX12_tape 74 = .ok (.aload_n 0, 1) := by decide +kernel
theorem dX12_tape_75 : decode cX12_tape 75 = .ok (.getfield 97, 3) := by decide +kernel
theorem dX12_tape_78 : decode cX12_tape 78 = .ok (.bipush 60, 2) := by decide +kernel
theorem dX12_tape_80 : decode cX12_tape 80 = .ok (.iload_n 1, 1) := by decide +kernel
theorem dX12_tape_81 : decode cX12_tape 81 = .ok (.imul, 1) := by decide +kernel
theorem dX12_tape_82 : decode cX12_tape 82 = .ok (.iload 4, 2) := by decide +kernel
theorem dX12_tape_84 : decode cX12_tape 84 = .ok (.iadd, 1) := by decide +kernel
theorem dX12_tape_85 : decode cX12_tape 85 = .ok (.lconst 0, 1) := by decide +kernel
theorem dX12_tape_86 : decode cX12_tape 86 = .ok (.lastore, 1) := by decide +kernel
theorem dX12_tape_87 : decode cX12_tape 87 = .ok (.iinc 4 1, 3) := by decide +kernel
theorem dX12_tape_90 : decode cX12_tape 90 = .ok (.goto (-23), 3) := by decide +kernel
theorem dX12_tape_93 : decode cX12_tape 93 = .ok (.iconst 1, 1) := by decide +kernel
theorem dX12_tape_94 : decode cX12_tape 94 = .ok (.ireturn, 1) := by decide +kernel
theorem dX12_kept_0 : decode cX12_kept 0 = .ok (.iload_n 0, 1) := by decide +kernel
theorem dX12_kept_1 : decode cX12_kept 1 = .ok (.tableswitch 47 0 3 #[31, 36, 41, 45], 31) := by decide +kernel
theorem dX12_kept_32 : decode cX12_kept 32 = .ok (.lload_n 1, 1) := by decide +kernel
theorem dX12_kept_33 : decode cX12_kept 33 = .ok (.l2i, 1) := by decide +kernel
theorem dX12_kept_34 : decode cX12_kept 34 = .ok (.i2b, 1) := by decide +kernel
theorem dX12_kept_35 : decode cX12_kept 35 = .ok (.i2l, 1) := by decide +kernel
theorem dX12_kept_36 : decode cX12_kept 36 = .ok (.lreturn, 1) := by decide +kernel
theorem dX12_kept_37 : decode cX12_kept 37 = .ok (.lload_n 1, 1) := by decide +kernel
theorem dX12_kept_38 : decode cX12_kept 38 = .ok (.l2i, 1) := by decide +kernel
theorem dX12_kept_39 : decode cX12_kept 39 = .ok (.i2s, 1) := by decide +kernel
theorem dX12_kept_40 : decode cX12_kept 40 = .ok (.i2l, 1) := by decide +kernel
theorem dX12_kept_41 : decode cX12_kept 41 = .ok (.lreturn, 1) := by decide +kernel
theorem dX12_kept_42 : decode cX12_kept 42 = .ok (.lload_n 1, 1) := by decide +kernel
theorem dX12_kept_43 : decode cX12_kept 43 = .ok (.l2i, 1) := by decide +kernel
theorem dX12_kept_44 : decode cX12_kept 44 = .ok (.i2l, 1) := by decide +kernel
theorem dX12_kept_45 : decode cX12_kept 45 = .ok (.lreturn, 1) := by decide +kernel
theorem dX12_kept_46 : decode cX12_kept 46 = .ok (.lload_n 1, 1) := by decide +kernel
theorem dX12_kept_47 : decode cX12_kept 47 = .ok (.lreturn, 1) := by decide +kernel
theorem dX12_kept_48 : decode cX12_kept 48 = .ok (.lload_n 1, 1) := by decide +kernel
theorem dX12_kept_49 : decode cX12_kept 49 = .ok (.lconst 0, 1) := by decide +kernel
theorem dX12_kept_50 : decode cX12_kept 50 = .ok (.lcmp, 1) := by decide +kernel
theorem dX12_kept_51 : decode cX12_kept 51 = .ok (.ifCond .eq 7, 3) := by decide +kernel
theorem dX12_kept_54 : decode cX12_kept 54 = .ok (.lconst 1, 1) := by decide +kernel
theorem dX12_kept_55 : decode cX12_kept 55 = .ok (.goto 4, 3) := by decide +kernel
theorem dX12_kept_58 : decode cX12_kept 58 = .ok (.lconst 0, 1) := by decide +kernel
theorem dX12_kept_59 : decode cX12_kept 59 = .ok (.lreturn, 1) := by decide +kernel
theorem dX12_item_0 : decode cX12_item 0 = .ok (.iload_n 1, 1) := by decide +kernel
theorem dX12_item_1 : decode cX12_item 1 = .ok (.invokestatic 322, 3) := by decide +kernel
theorem dX12_item_4 : decode cX12_item 4 = .ok (.ifCond .ne 5, 3) := by decide +kernel
theorem dX12_item_7 : decode cX12_item 7 = .ok (.iconst (-1), 1) := by decide +kernel
theorem dX12_item_8 : decode cX12_item 8 = .ok (.ireturn, 1) := by decide +kernel
theorem dX12_item_9 : decode cX12_item 9 = .ok (.aload_n 0, 1) := by decide +kernel
theorem dX12_item_10 : decode cX12_item 10 = .ok (.getfield 91, 3) := by decide +kernel
theorem dX12_item_13 : decode cX12_item 13 = .ok (.iload_n 1, 1) := by decide +kernel
theorem dX12_item_14 : decode cX12_item 14 = .ok (.iaload, 1) := by decide +kernel
theorem dX12_item_15 : decode cX12_item 15 = .ok (.ifCond .ge 6, 3) := by decide +kernel
theorem dX12_item_18 : decode cX12_item 18 = .ok (.bipush (-11), 2) := by decide +kernel
theorem dX12_item_20 : decode cX12_item 20 = .ok (.ireturn, 1) := by decide +kernel
theorem dX12_item_21 : decode cX12_item 21 = .ok (.iload_n 2, 1) := by decide +kernel
theorem dX12_item_22 : decode cX12_item 22 = .ok (.iconst 0, 1) := by decide +kernel
theorem dX12_item_23 : decode cX12_item 23 = .ok (.aload_n 0, 1) := by decide +kernel
theorem dX12_item_24 : decode cX12_item 24 = .ok (.getfield 94, 3) := by decide +kernel
theorem dX12_item_27 : decode cX12_item 27 = .ok (.iload_n 1, 1) := by decide +kernel
theorem dX12_item_28 : decode cX12_item 28 = .ok (.iaload, 1) := by decide +kernel
theorem dX12_item_29 : decode cX12_item 29 = .ok (.iconst 1, 1) := by decide +kernel
theorem dX12_item_30 : decode cX12_item 30 = .ok (.isub, 1) := by decide +kernel
theorem dX12_item_31 : decode cX12_item 31 = .ok (.invokestatic 108, 3) := by decide +kernel
theorem dX12_item_34 : decode cX12_item 34 = .ok (.ifCond .ne 6, 3) := by decide +kernel
theorem dX12_item_37 : decode cX12_item 37 = .ok (.bipush (-13), 2) := by decide +kernel
theorem dX12_item_39 : decode cX12_item 39 = .ok (.ireturn, 1) := by decide +kernel
theorem dX12_item_40 : decode cX12_item 40 = .ok (.aload_n 0, 1) := by decide +kernel
theorem dX12_item_41 : decode cX12_item 41 = .ok (.getfield 97, 3) := by decide +kernel
theorem dX12_item_44 : decode cX12_item 44 = .ok (.bipush 60, 2) := by decide +kernel
theorem dX12_item_46 : decode cX12_item 46 = .ok (.iload_n 1, 1) := by decide +kernel
theorem dX12_item_47 : decode cX12_item 47 = .ok (.imul, 1) := by decide +kernel
theorem dX12_item_48 : decode cX12_item 48 = .ok (.iload_n 2, 1) := by decide +kernel
theorem dX12_item_49 : decode cX12_item 49 = .ok (.iadd, 1) := by decide +kernel
theorem dX12_item_50 : decode cX12_item 50 = .ok (.aload_n 0, 1) := by decide +kernel
theorem dX12_item_51 : decode cX12_item 51 = .ok (.getfield 91, 3) := by decide +kernel
theorem dX12_item_54 : decode cX12_item 54 = .ok (.iload_n 1, 1) := by decide +kernel
theorem dX12_item_55 : decode cX12_item 55 = .ok (.iaload, 1) := by decide +kernel
theorem dX12_item_56 : decode cX12_item 56 = .ok (.lload_n 3, 1) := by decide +kernel
theorem dX12_item_57 : decode cX12_item 57 = .ok (.invokestatic 325, 3) := by decide +kernel
theorem dX12_item_60 : decode cX12_item 60 = .ok (.lastore, 1) := by decide +kernel
theorem dX12_item_61 : decode cX12_item 61 = .ok (.iconst 1, 1) := by decide +kernel
theorem dX12_item_62 : decode cX12_item 62 = .ok (.ireturn, 1) := by decide +kernel
theorem dX12_read_0 : decode cX12_read 0 = .ok (.iload_n 1, 1) := by decide +kernel
theorem dX12_read_1 : decode cX12_read 1 = .ok (.invokestatic 322, 3) := by decide +kernel
theorem dX12_read_4 : decode cX12_read 4 = .ok (.ifCond .eq 42, 3) := by decide +kernel
theorem dX12_read_7 : decode cX12_read 7 = .ok (.aload_n 0, 1) := by decide +kernel
theorem dX12_read_8 : decode cX12_read 8 = .ok (.getfield 91, 3) := by decide +kernel
theorem dX12_read_11 : decode cX12_read 11 = .ok (.iload_n 1, 1) := by decide +kernel
theorem dX12_read_12 : decode cX12_read 12 = .ok (.iaload, 1) := by decide +kernel
theorem dX12_read_13 : decode cX12_read 13 = .ok (.ifCond .lt 33, 3) := by decide +kernel
theorem dX12_read_16 : decode cX12_read 16 = .ok (.iload_n 2, 1) := by decide +kernel
theorem dX12_read_17 : decode cX12_read 17 = .ok (.iconst 0, 1) := by decide +kernel
theorem dX12_read_18 : decode cX12_read 18 = .ok (.aload_n 0, 1) := by decide +kernel
theorem dX12_read_19 : decode cX12_read 19 = .ok (.getfield 94, 3) := by decide +kernel
theorem dX12_read_22 : decode cX12_read 22 = .ok (.iload_n 1, 1) := by decide +kernel
theorem dX12_read_23 : decode cX12_read 23 = .ok (.iaload, 1) := by decide +kernel
theorem dX12_read_24 : decode cX12_read 24 = .ok (.iconst 1, 1) := by decide +kernel
theorem dX12_read_25 : decode cX12_read 25 = .ok (.isub, 1) := by decide +kernel
theorem dX12_read_26 : decode cX12_read 26 = .ok (.invokestatic 108, 3) := by decide +kernel
theorem dX12_read_29 : decode cX12_read 29 = .ok (.ifCond .eq 17, 3) := by decide +kernel
theorem dX12_read_32 : decode cX12_read 32 = .ok (.aload_n 0, 1) := by decide +kernel
theorem dX12_read_33 : decode cX12_read 33 = .ok (.getfield 97, 3) := by decide +kernel
theorem dX12_read_36 : decode cX12_read 36 = .ok (.bipush 60, 2) := by decide +kernel
theorem dX12_read_38 : decode cX12_read 38 = .ok (.iload_n 1, 1) := by decide +kernel
theorem dX12_read_39 : decode cX12_read 39 = .ok (.imul, 1) := by decide +kernel
theorem dX12_read_40 : decode cX12_read 40 = .ok (.iload_n 2, 1) := by decide +kernel
theorem dX12_read_41 : decode cX12_read 41 = .ok (.iadd, 1) := by decide +kernel
theorem dX12_read_42 : decode cX12_read 42 = .ok (.laload, 1) := by decide +kernel
theorem dX12_read_43 : decode cX12_read 43 = .ok (.goto 6, 3) := by decide +kernel
theorem dX12_read_46 : decode cX12_read 46 = .ok (.ldc2_w 282, 3) := by decide +kernel
theorem dX12_read_49 : decode cX12_read 49 = .ok (.lreturn, 1) := by decide +kernel
theorem dX12_shift_0 : decode cX12_shift 0 = .ok (.iload_n 1, 1) := by decide +kernel
theorem dX12_shift_1 : decode cX12_shift 1 = .ok (.invokestatic 322, 3) := by decide +kernel
theorem dX12_shift_4 : decode cX12_shift 4 = .ok (.ifCond .eq 10, 3) := by decide +kernel
theorem dX12_shift_7 : decode cX12_shift 7 = .ok (.iload_n 3, 1) := by decide +kernel
theorem dX12_shift_8 : decode cX12_shift 8 = .ok (.invokestatic 322, 3) := by decide +kernel
theorem dX12_shift_11 : decode cX12_shift 11 = .ok (.ifCond .ne 5, 3) := by decide +kernel
theorem dX12_shift_14 : decode cX12_shift 14 = .ok (.iconst (-1), 1) := by decide +kernel
theorem dX12_shift_15 : decode cX12_shift 15 = .ok (.ireturn, 1) := by decide +kernel
theorem dX12_shift_16 : decode cX12_shift 16 = .ok (.aload_n 0, 1) := by decide +kernel
theorem dX12_shift_17 : decode cX12_shift 17 = .ok (.getfield 91, 3) := by decide +kernel
theorem dX12_shift_20 : decode cX12_shift 20 = .ok (.iload_n 1, 1) := by decide +kernel
theorem dX12_shift_21 : decode cX12_shift 21 = .ok (.iaload, 1) := by decide +kernel
theorem dX12_shift_22 : decode cX12_shift 22 = .ok (.ifCond .lt 12, 3) := by decide +kernel
theorem dX12_shift_25 : decode cX12_shift 25 = .ok (.aload_n 0, 1) := by decide +kernel
theorem dX12_shift_26 : decode cX12_shift 26 = .ok (.getfield 91, 3) := by decide +kernel
theorem dX12_shift_29 : decode cX12_shift 29 = .ok (.iload_n 3, 1) := by decide +kernel
theorem dX12_shift_30 : decode cX12_shift 30 = .ok (.iaload, 1) := by decide +kernel
theorem dX12_shift_31 : decode cX12_shift 31 = .ok (.ifCond .ge 6, 3) := by decide +kernel
theorem dX12_shift_34 : decode cX12_shift 34 = .ok (.bipush (-11), 2) := by decide +kernel
theorem dX12_shift_36 : decode cX12_shift 36 = .ok (.ireturn, 1) := by decide +kernel
theorem dX12_shift_37 : decode cX12_shift 37 = .ok (.aload_n 0, 1) := by decide +kernel
theorem dX12_shift_38 : decode cX12_shift 38 = .ok (.getfield 91, 3) := by decide +kernel
theorem dX12_shift_41 : decode cX12_shift 41 = .ok (.iload_n 1, 1) := by decide +kernel
theorem dX12_shift_42 : decode cX12_shift 42 = .ok (.iaload, 1) := by decide +kernel
theorem dX12_shift_43 : decode cX12_shift 43 = .ok (.aload_n 0, 1) := by decide +kernel
theorem dX12_shift_44 : decode cX12_shift 44 = .ok (.getfield 91, 3) := by decide +kernel
theorem dX12_shift_47 : decode cX12_shift 47 = .ok (.iload_n 3, 1) := by decide +kernel
theorem dX12_shift_48 : decode cX12_shift 48 = .ok (.iaload, 1) := by decide +kernel
theorem dX12_shift_49 : decode cX12_shift 49 = .ok (.if_icmp .eq 6, 3) := by decide +kernel
theorem dX12_shift_52 : decode cX12_shift 52 = .ok (.bipush (-12), 2) := by decide +kernel
theorem dX12_shift_54 : decode cX12_shift 54 = .ok (.ireturn, 1) := by decide +kernel
theorem dX12_shift_55 : decode cX12_shift 55 = .ok (.iload 5, 2) := by decide +kernel
theorem dX12_shift_57 : decode cX12_shift 57 = .ok (.ifCond .lt 47, 3) := by decide +kernel
theorem dX12_shift_60 : decode cX12_shift 60 = .ok (.iload_n 2, 1) := by decide +kernel
theorem dX12_shift_61 : decode cX12_shift 61 = .ok (.ifCond .lt 43, 3) := by decide +kernel
theorem dX12_shift_64 : decode cX12_shift 64 = .ok (.iload 4, 2) := by decide +kernel
theorem dX12_shift_66 : decode cX12_shift 66 = .ok (.ifCond .lt 38, 3) := by decide +kernel
theorem dX12_shift_69 : decode cX12_shift 69 = .ok (.iload_n 2, 1) := by decide +kernel
theorem dX12_shift_70 : decode cX12_shift 70 = .ok (.i2l, 1) := by decide +kernel
theorem dX12_shift_71 : decode cX12_shift 71 = .ok (.iload 5, 2) := by decide +kernel
theorem dX12_shift_73 : decode cX12_shift 73 = .ok (.i2l, 1) := by decide +kernel
theorem dX12_shift_74 : decode cX12_shift 74 = .ok (.ladd, 1) := by decide +kernel
theorem dX12_shift_75 : decode cX12_shift 75 = .ok (.aload_n 0, 1) := by decide +kernel
theorem dX12_shift_76 : decode cX12_shift 76 = .ok (.getfield 94, 3) := by decide +kernel
theorem dX12_shift_79 : decode cX12_shift 79 = .ok (.iload_n 1, 1) := by decide +kernel
theorem dX12_shift_80 : decode cX12_shift 80 = .ok (.iaload, 1) := by decide +kernel
theorem dX12_shift_81 : decode cX12_shift 81 = .ok (.i2l, 1) := by decide +kernel
theorem dX12_shift_82 : decode cX12_shift 82 = .ok (.lcmp, 1) := by decide +kernel
theorem dX12_shift_83 : decode cX12_shift 83 = .ok (.ifCond .gt 21, 3) := by decide +kernel
theorem dX12_shift_86 : decode cX12_shift 86 = .ok (.iload 4, 2) := by decide +kernel
theorem dX12_shift_88 : decode cX12_shift 88 = .ok (.i2l, 1) := by decide +kernel
theorem dX12_shift_89 : decode cX12_shift 89 = .ok (.iload 5, 2) := by decide +kernel
theorem dX12_shift_91 : decode cX12_shift 91 = .ok (.i2l, 1) := by decide +kernel
theorem dX12_shift_92 : decode cX12_shift 92 = .ok (.ladd, 1) := by decide +kernel
theorem dX12_shift_93 : decode cX12_shift 93 = .ok (.aload_n 0, 1) := by decide +kernel
theorem dX12_shift_94 : decode cX12_shift 94 = .ok (.getfield 94, 3) := by decide +kernel
theorem dX12_shift_97 : decode cX12_shift 97 = .ok (.iload_n 3, 1) := by decide +kernel
theorem dX12_shift_98 : decode cX12_shift 98 = .ok (.iaload, 1) := by decide +kernel
theorem dX12_shift_99 : decode cX12_shift 99 = .ok (.i2l, 1) := by decide +kernel
theorem dX12_shift_100 : decode cX12_shift 100 = .ok (.lcmp, 1) := by decide +kernel
theorem dX12_shift_101 : decode cX12_shift 101 = .ok (.ifCond .le 6, 3) := by decide +kernel
theorem dX12_shift_104 : decode cX12_shift 104 = .ok (.bipush (-13), 2) := by decide +kernel
theorem dX12_shift_106 : decode cX12_shift 106 = .ok (.ireturn, 1) := by decide +kernel
theorem dX12_shift_107 : decode cX12_shift 107 = .ok (.iload_n 1, 1) := by decide +kernel
theorem dX12_shift_108 : decode cX12_shift 108 = .ok (.iload_n 3, 1) := by decide +kernel
theorem dX12_shift_109 : decode cX12_shift 109 = .ok (.if_icmp .ne 58, 3) := by decide +kernel
theorem dX12_shift_112 : decode cX12_shift 112 = .ok (.iload_n 2, 1) := by decide +kernel
theorem dX12_shift_113 : decode cX12_shift 113 = .ok (.iload 4, 2) := by decide +kernel
theorem dX12_shift_115 : decode cX12_shift 115 = .ok (.if_icmp .ge 52, 3) := by decide +kernel
theorem dX12_shift_118 : decode cX12_shift 118 = .ok (.iload 5, 2) := by decide +kernel
theorem dX12_shift_120 : decode cX12_shift 120 = .ok (.iconst 1, 1) := by decide +kernel
theorem dX12_shift_121 : decode cX12_shift 121 = .ok (.isub, 1) := by decide +kernel
theorem dX12_shift_122 : decode cX12_shift 122 = .ok (.istore 6, 2) := by decide +kernel
theorem dX12_shift_124 : decode cX12_shift 124 = .ok (.iload 6, 2) := by decide +kernel
theorem dX12_shift_126 : decode cX12_shift 126 = .ok (.ifCond .lt 38, 3) := by decide +kernel
theorem dX12_shift_129 : decode cX12_shift 129 = .ok (.aload_n 0, 1) := by decide +kernel
theorem dX12_shift_130 : decode cX12_shift 130 = .ok (.getfield 97, 3) := by decide +kernel
theorem dX12_shift_133 : decode cX12_shift 133 = .ok (.bipush 60, 2) := by decide +kernel
theorem dX12_shift_135 : decode cX12_shift 135 = .ok (.iload_n 3, 1) := by decide +kernel
theorem dX12_shift_136 : decode cX12_shift 136 = .ok (.imul, 1) := by decide +kernel
theorem dX12_shift_137 : decode cX12_shift 137 = .ok (.iload 4, 2) := by decide +kernel
theorem dX12_shift_139 : decode cX12_shift 139 = .ok (.iadd, 1) := by decide +kernel
theorem dX12_shift_140 : decode cX12_shift 140 = .ok (.iload 6, 2) := by decide +kernel
theorem dX12_shift_142 : decode cX12_shift 142 = .ok (.iadd, 1) := by decide +kernel
theorem dX12_shift_143 : decode cX12_shift 143 = .ok (.aload_n 0, 1) := by decide +kernel
theorem dX12_shift_144 : decode cX12_shift 144 = .ok (.getfield 97, 3) := by decide +kernel
theorem dX12_shift_147 : decode cX12_shift 147 = .ok (.bipush 60, 2) := by decide +kernel
theorem dX12_shift_149 : decode cX12_shift 149 = .ok (.iload_n 1, 1) := by decide +kernel
theorem dX12_shift_150 : decode cX12_shift 150 = .ok (.imul, 1) := by decide +kernel
theorem dX12_shift_151 : decode cX12_shift 151 = .ok (.iload_n 2, 1) := by decide +kernel
theorem dX12_shift_152 : decode cX12_shift 152 = .ok (.iadd, 1) := by decide +kernel
theorem dX12_shift_153 : decode cX12_shift 153 = .ok (.iload 6, 2) := by decide +kernel
theorem dX12_shift_155 : decode cX12_shift 155 = .ok (.iadd, 1) := by decide +kernel
theorem dX12_shift_156 : decode cX12_shift 156 = .ok (.laload, 1) := by decide +kernel
theorem dX12_shift_157 : decode cX12_shift 157 = .ok (.lastore, 1) := by decide +kernel
theorem dX12_shift_158 : decode cX12_shift 158 = .ok (.iinc 6 (-1), 3) := by decide +kernel
theorem dX12_shift_161 : decode cX12_shift 161 = .ok (.goto (-37), 3) := by decide +kernel
theorem dX12_shift_164 : decode cX12_shift 164 = .ok (.goto 48, 3) := by decide +kernel
theorem dX12_shift_167 : decode cX12_shift 167 = .ok (.iconst 0, 1) := by decide +kernel
theorem dX12_shift_168 : decode cX12_shift 168 = .ok (.istore 6, 2) := by decide +kernel
theorem dX12_shift_170 : decode cX12_shift 170 = .ok (.iload 6, 2) := by decide +kernel
theorem dX12_shift_172 : decode cX12_shift 172 = .ok (.iload 5, 2) := by decide +kernel
theorem dX12_shift_174 : decode cX12_shift 174 = .ok (.if_icmp .ge 38, 3) := by decide +kernel
theorem dX12_shift_177 : decode cX12_shift 177 = .ok (.aload_n 0, 1) := by decide +kernel
theorem dX12_shift_178 : decode cX12_shift 178 = .ok (.getfield 97, 3) := by decide +kernel
theorem dX12_shift_181 : decode cX12_shift 181 = .ok (.bipush 60, 2) := by decide +kernel
theorem dX12_shift_183 : decode cX12_shift 183 = .ok (.iload_n 3, 1) := by decide +kernel
theorem dX12_shift_184 : decode cX12_shift 184 = .ok (.imul, 1) := by decide +kernel
theorem dX12_shift_185 : decode cX12_shift 185 = .ok (.iload 4, 2) := by decide +kernel
theorem dX12_shift_187 : decode cX12_shift 187 = .ok (.iadd, 1) := by decide +kernel
theorem dX12_shift_188 : decode cX12_shift 188 = .ok (.iload 6, 2) := by decide +kernel
theorem dX12_shift_190 : decode cX12_shift 190 = .ok (.iadd, 1) := by decide +kernel
theorem dX12_shift_191 : decode cX12_shift 191 = .ok (.aload_n 0, 1) := by decide +kernel
theorem dX12_shift_192 : decode cX12_shift 192 = .ok (.getfield 97, 3) := by decide +kernel
theorem dX12_shift_195 : decode cX12_shift 195 = .ok (.bipush 60, 2) := by decide +kernel
theorem dX12_shift_197 : decode cX12_shift 197 = .ok (.iload_n 1, 1) := by decide +kernel
theorem dX12_shift_198 : decode cX12_shift 198 = .ok (.imul, 1) := by decide +kernel
theorem dX12_shift_199 : decode cX12_shift 199 = .ok (.iload_n 2, 1) := by decide +kernel
theorem dX12_shift_200 : decode cX12_shift 200 = .ok (.iadd, 1) := by decide +kernel
theorem dX12_shift_201 : decode cX12_shift 201 = .ok (.iload 6, 2) := by decide +kernel
theorem dX12_shift_203 : decode cX12_shift 203 = .ok (.iadd, 1) := by decide +kernel
theorem dX12_shift_204 : decode cX12_shift 204 = .ok (.laload, 1) := by decide +kernel
theorem dX12_shift_205 : decode cX12_shift 205 = .ok (.lastore, 1) := by decide +kernel
theorem dX12_shift_206 : decode cX12_shift 206 = .ok (.iinc 6 1, 3) := by decide +kernel
theorem dX12_shift_209 : decode cX12_shift 209 = .ok (.goto (-39), 3) := by decide +kernel
theorem dX12_shift_212 : decode cX12_shift 212 = .ok (.iload 5, 2) := by decide +kernel
theorem dX12_shift_214 : decode cX12_shift 214 = .ok (.ireturn, 1) := by decide +kernel
