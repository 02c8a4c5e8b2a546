theorem dX10_thrown_0 : decode cX10_thrown 0 = .ok (.aload_n 0, 1) := by decide +kernel
theorem dX10_thrown_1 : decode cX10_thrown 1 = .ok (.getfield 1, 3) := by decide +kernel
theorem dX10_thrown_4 : decode cX10_thrown 4 = .ok (.ireturn, 1) := by decide +kernel
theorem dX10_refused_0 : decode cX10_refused 0 = .ok (.aload_n 0, 1) := by decide +kernel
theorem dX10_refused_1 : decode cX10_refused 1 = .ok (.iload_n 1, 1) := by decide +kernel
theorem dX10_refused_2 : decode cX10_refused 2 = .ok (.putfield 7, 3) := by decide +kernel
theorem dX10_refused_5 : decode cX10_refused 5 = .ok (.iconst (-1), 1) := by decide +kernel
theorem dX10_refused_6 : decode cX10_refused 6 = .ok (.ireturn, 1) := by decide +kernel
theorem dX10_denied_0 : decode cX10_denied 0 = .ok (.aload_n 0, 1) := by decide +kernel
theorem dX10_denied_1 : decode cX10_denied 1 = .ok (.iload_n 1, 1) := by decide +kernel
theorem dX10_denied_2 : decode cX10_denied 2 = .ok (.putfield 7, 3) := by decide +kernel
theorem dX10_denied_5 : decode cX10_denied 5 = .ok (.iconst 0, 1) := by decide +kernel
theorem dX10_denied_6 : decode cX10_denied 6 = .ok (.ireturn, 1) := by decide +kernel
theorem dX10_done_0 : decode cX10_done 0 = .ok (.aload_n 0, 1) := by decide +kernel
theorem dX10_done_1 : decode cX10_done 1 = .ok (.iconst 0, 1) := by decide +kernel
theorem dX10_done_2 : decode cX10_done 2 = .ok (.putfield 7, 3) := by decide +kernel
theorem dX10_done_5 : decode cX10_done 5 = .ok (.iload_n 1, 1) := by decide +kernel
theorem dX10_done_6 : decode cX10_done 6 = .ok (.ireturn, 1) := by decide +kernel
theorem dX10_granted_0 : decode cX10_granted 0 = .ok (.aload_n 0, 1) := by decide +kernel
theorem dX10_granted_1 : decode cX10_granted 1 = .ok (.iconst 0, 1) := by decide +kernel
theorem dX10_granted_2 : decode cX10_granted 2 = .ok (.putfield 7, 3) := by decide +kernel
theorem dX10_granted_5 : decode cX10_granted 5 = .ok (.iconst 1, 1) := by decide +kernel
theorem dX10_granted_6 : decode cX10_granted 6 = .ok (.ireturn, 1) := by decide +kernel
theorem dX10_in_0 : decode cX10_in 0 = .ok (.iload_n 0, 1) := by decide +kernel
theorem dX10_in_1 : decode cX10_in 1 = .ok (.iload_n 1, 1) := by decide +kernel
theorem dX10_in_2 : decode cX10_in 2 = .ok (.if_icmp .lt 12, 3) := by decide +kernel
theorem dX10_in_5 : decode cX10_in 5 = .ok (.iload_n 0, 1) := by decide +kernel
theorem dX10_in_6 : decode cX10_in 6 = .ok (.iload_n 2, 1) := by decide +kernel
theorem dX10_in_7 : decode cX10_in 7 = .ok (.if_icmp .gt 7, 3) := by decide +kernel
theorem dX10_in_10 : decode cX10_in 10 = .ok (.iconst 1, 1) := by decide +kernel
theorem dX10_in_11 : decode cX10_in 11 = .ok (.goto 4, 3) := by decide +kernel
theorem dX10_in_14 : decode cX10_in 14 = .ok (.iconst 0, 1) := by decide +kernel
theorem dX10_in_15 : decode cX10_in 15 = .ok (.ireturn, 1) := by decide +kernel
theorem dX10_init_0 : decode cX10_init 0 = .ok (.aload_n 0, 1) := by decide +kernel
theorem dX10_init_1 : decode cX10_init 1 = .ok (.invokespecial 10, 3) := by decide +kernel
theorem dX10_init_4 : decode cX10_init 4 = .ok (.aload_n 0, 1) := by decide +kernel
theorem dX10_init_5 : decode cX10_init 5 = .ok (.bipush 42, 2) := by decide +kernel
theorem dX10_init_7 : decode cX10_init 7 = .ok (.putfield 16, 3) := by decide +kernel
theorem dX10_init_10 : decode cX10_init 10 = .ok (.aload_n 0, 1) := by decide +kernel
theorem dX10_init_11 : decode cX10_init 11 = .ok (.iconst 2, 1) := by decide +kernel
theorem dX10_init_12 : decode cX10_init 12 = .ok (.putfield 19, 3) := by decide +kernel
theorem dX10_init_15 : decode cX10_init 15 = .ok (.aload_n 0, 1) := by decide +kernel
theorem dX10_init_16 : decode cX10_init 16 = .ok (.bipush 8, 2) := by decide +kernel
theorem dX10_init_18 : decode cX10_init 18 = .ok (.newarray .int, 2) := by decide +kernel
theorem dX10_init_20 : decode cX10_init 20 = .ok (.putfield 22, 3) := by decide +kernel
theorem dX10_init_23 : decode cX10_init 23 = .ok (.aload_n 0, 1) := by decide +kernel
theorem dX10_init_24 : decode cX10_init 24 = .ok (.bipush 8, 2) := by decide +kernel
theorem dX10_init_26 : decode cX10_init 26 = .ok (.newarray .int, 2) := by decide +kernel
theorem dX10_init_28 : decode cX10_init 28 = .ok (.putfield 26, 3) := by decide +kernel
theorem dX10_init_31 : decode cX10_init 31 = .ok (.aload_n 0, 1) := by decide +kernel
theorem dX10_init_32 : decode cX10_init 32 = .ok (.bipush 8, 2) := by decide +kernel
theorem dX10_init_34 : decode cX10_init 34 = .ok (.newarray .int, 2) := by decide +kernel
theorem dX10_init_36 : decode cX10_init 36 = .ok (.putfield 29, 3) := by decide +kernel
theorem dX10_init_39 : decode cX10_init 39 = .ok (.aload_n 0, 1) := by decide +kernel
theorem dX10_init_40 : decode cX10_init 40 = .ok (.bipush 8, 2) := by decide +kernel
theorem dX10_init_42 : decode cX10_init 42 = .ok (.newarray .int, 2) := by decide +kernel
theorem dX10_init_44 : decode cX10_init 44 = .ok (.putfield 32, 3) := by decide +kernel
theorem dX10_init_47 : decode cX10_init 47 = .ok (.aload_n 0, 1) := by decide +kernel
theorem dX10_init_48 : decode cX10_init 48 = .ok (.bipush 12, 2) := by decide +kernel
theorem dX10_init_50 : decode cX10_init 50 = .ok (.newarray .int, 2) := by decide +kernel
theorem dX10_init_52 : decode cX10_init 52 = .ok (.putfield 35, 3) := by decide +kernel
theorem dX10_init_55 : decode cX10_init 55 = .ok (.aload_n 0, 1) := by decide +kernel
theorem dX10_init_56 : decode cX10_init 56 = .ok (.iconst 5, 1) := by decide +kernel
theorem dX10_init_57 : decode cX10_init 57 = .ok (.newarray .int, 2) := by decide +kernel
theorem dX10_init_59 : decode cX10_init 59 = .ok (.putfield 38, 3) := by decide +kernel
theorem dX10_init_62 : decode cX10_init 62 = .ok (.aload_n 0, 1) := by decide +kernel
theorem dX10_init_63 : decode cX10_init 63 = .ok (.sipush 3001, 3) := by decide +kernel
theorem dX10_init_66 : decode cX10_init 66 = .ok (.newarray .boolean, 2) := by decide +kernel
theorem dX10_init_68 : decode cX10_init 68 = .ok (.putfield 41, 3) := by decide +kernel
theorem dX10_init_71 : decode cX10_init 71 = .ok (.aload_n 0, 1) := by decide +kernel
theorem dX10_init_72 : decode cX10_init 72 = .ok (.sipush 200, 3) := by decide +kernel
theorem dX10_init_75 : decode cX10_init 75 = .ok (.newarray .int, 2) := by decide +kernel
theorem dX10_init_77 : decode cX10_init 77 = .ok (.putfield 45, 3) := by decide +kernel
theorem dX10_init_80 : decode cX10_init 80 = .ok (.aload_n 0, 1) := by decide +kernel
theorem dX10_init_81 : decode cX10_init 81 = .ok (.sipush 200, 3) := by decide +kernel
theorem dX10_init_84 : decode cX10_init 84 = .ok (.newarray .int, 2) := by decide +kernel
theorem dX10_init_86 : decode cX10_init 86 = .ok (.putfield 48, 3) := by decide +kernel
theorem dX10_init_89 : decode cX10_init 89 = .ok (.aload_n 0, 1) := by decide +kernel
theorem dX10_init_90 : decode cX10_init 90 = .ok (.sipush 200, 3) := by decide +kernel
theorem dX10_init_93 : decode cX10_init 93 = .ok (.newarray .int, 2) := by decide +kernel
theorem dX10_init_95 : decode cX10_init 95 = .ok (.putfield 51, 3) := by decide +kernel
theorem dX10_init_98 : decode cX10_init 98 = .ok (.aload_n 0, 1) := by decide +kernel
theorem dX10_init_99 : decode cX10_init 99 = .ok (.sipush 200, 3) := by decide +kernel
theorem dX10_init_102 : decode cX10_init 102 = .ok (.newarray .int, 2) := by decide +kernel
theorem dX10_init_104 : decode cX10_init 104 = .ok (.putfield 54, 3) := by decide +kernel
theorem dX10_init_107 : decode cX10_init 107 = .ok (.aload_n 0, 1) := by decide +kernel
theorem dX10_init_108 : decode cX10_init 108 = .ok (.sipush 200, 3) := by decide +kernel
theorem dX10_init_111 : decode cX10_init 111 = .ok (.newarray .int, 2) := by decide +kernel
theorem dX10_init_113 : decode cX10_init 113 = .ok (.putfield 57, 3) := by decide +kernel
theorem dX10_init_116 : decode cX10_init 116 = .ok (.aload_n 0, 1) := by decide +kernel
theorem dX10_init_117 : decode cX10_init 117 = .ok (.sipush 200, 3) := by decide +kernel
theorem dX10_init_120 : decode cX10_init 120 = .ok (.newarray .int, 2) := by decide +kernel
theorem dX10_init_122 : decode cX10_init 122 = .ok (.putfield 60, 3) := by decide +kernel
theorem dX10_init_125 : decode cX10_init 125 = .ok (.aload_n 0, 1) := by decide +kernel
theorem dX10_init_126 : decode cX10_init 126 = .ok (.sipush 200, 3) := by decide +kernel
theorem dX10_init_129 : decode cX10_init 129 = .ok (.newarray .int, 2) := by decide +kernel
theorem dX10_init_131 : decode cX10_init 131 = .ok (.putfield 63, 3) := by decide +kernel
theorem dX10_init_134 : decode cX10_init 134 = .ok (.aload_n 0, 1) := by decide +kernel
theorem dX10_init_135 : decode cX10_init 135 = .ok (.bipush 120, 2) := by decide +kernel
theorem dX10_init_137 : decode cX10_init 137 = .ok (.newarray .int, 2) := by decide +kernel
theorem dX10_init_139 : decode cX10_init 139 = .ok (.putfield 66, 3) := by decide +kernel
theorem dX10_init_142 : decode cX10_init 142 = .ok (.aload_n 0, 1) := by decide +kernel
theorem dX10_init_143 : decode cX10_init 143 = .ok (.bipush 120, 2) := by decide +kernel
theorem dX10_init_145 : decode cX10_init 145 = .ok (.newarray .int, 2) := by decide +kernel
theorem dX10_init_147 : decode cX10_init 147 = .ok (.putfield 69, 3) := by decide +kernel
theorem dX10_init_150 : decode cX10_init 150 = .ok (.aload_n 0, 1) := by decide +kernel
theorem dX10_init_151 : decode cX10_init 151 = .ok (.bipush 120, 2) := by decide +kernel
theorem dX10_init_153 : decode cX10_init 153 = .ok (.newarray .int, 2) := by decide +kernel
theorem dX10_init_155 : decode cX10_init 155 = .ok (.putfield 72, 3) := by decide +kernel
theorem dX10_init_158 : decode cX10_init 158 = .ok (.aload_n 0, 1) := by decide +kernel
theorem dX10_init_159 : decode cX10_init 159 = .ok (.bipush 120, 2) := by decide +kernel
theorem dX10_init_161 : decode cX10_init 161 = .ok (.newarray .int, 2) := by decide +kernel
theorem dX10_init_163 : decode cX10_init 163 = .ok (.putfield 75, 3) := by decide +kernel
theorem dX10_init_166 : decode cX10_init 166 = .ok (.aload_n 0, 1) := by decide +kernel
theorem dX10_init_167 : decode cX10_init 167 = .ok (.bipush 120, 2) := by decide +kernel
theorem dX10_init_169 : decode cX10_init 169 = .ok (.newarray .int, 2) := by decide +kernel
theorem dX10_init_171 : decode cX10_init 171 = .ok (.putfield 78, 3) := by decide +kernel
theorem dX10_init_174 : decode cX10_init 174 = .ok (.aload_n 0, 1) := by decide +kernel
theorem dX10_init_175 : decode cX10_init 175 = .ok (.sipush 480, 3) := by decide +kernel
theorem dX10_init_178 : decode cX10_init 178 = .ok (.newarray .int, 2) := by decide +kernel
theorem dX10_init_180 : decode cX10_init 180 = .ok (.putfield 81, 3) := by decide +kernel
theorem dX10_init_183 : decode cX10_init 183 = .ok (.aload_n 0, 1) := by decide +kernel
theorem dX10_init_184 : decode cX10_init 184 = .ok (.bipush 60, 2) := by decide +kernel
theorem dX10_init_186 : decode cX10_init 186 = .ok (.newarray .int, 2) := by decide +kernel
theorem dX10_init_188 : decode cX10_init 188 = .ok (.putfield 84, 3) := by decide +kernel
theorem dX10_init_191 : decode cX10_init 191 = .ok (.aload_n 0, 1) := by decide +kernel
theorem dX10_init_192 : decode cX10_init 192 = .ok (.bipush 60, 2) := by decide +kernel
theorem dX10_init_194 : decode cX10_init 194 = .ok (.newarray .int, 2) := by decide +kernel
theorem dX10_init_196 : decode cX10_init 196 = .ok (.putfield 87, 3) := by decide +kernel
theorem dX10_init_199 : decode cX10_init 199 = .ok (.aload_n 0, 1) := by decide +kernel
theorem dX10_init_200 : decode cX10_init 200 = .ok (.bipush 60, 2) := by decide +kernel
theorem dX10_init_202 : decode cX10_init 202 = .ok (.newarray .int, 2) := by decide +kernel
theorem dX10_init_204 : decode cX10_init 204 = .ok (.putfield 90, 3) := by decide +kernel
theorem dX10_init_207 : decode cX10_init 207 = .ok (.aload_n 0, 1) := by decide +kernel
theorem dX10_init_208 : decode cX10_init 208 = .ok (.bipush 60, 2) := by decide +kernel
theorem dX10_init_210 : decode cX10_init 210 = .ok (.newarray .int, 2) := by decide +kernel
theorem dX10_init_212 : decode cX10_init 212 = .ok (.putfield 93, 3) := by decide +kernel
theorem dX10_init_215 : decode cX10_init 215 = .ok (.aload_n 0, 1) := by decide +kernel
theorem dX10_init_216 : decode cX10_init 216 = .ok (.bipush 60, 2) := by decide +kernel
theorem dX10_init_218 : decode cX10_init 218 = .ok (.newarray .int, 2) := by decide +kernel
theorem dX10_init_220 : decode cX10_init 220 = .ok (.putfield 96, 3) := by decide +kernel
theorem dX10_init_223 : decode cX10_init 223 = .ok (.aload_n 0, 1) := by decide +kernel
theorem dX10_init_224 : decode cX10_init 224 = .ok (.bipush 20, 2) := by decide +kernel
theorem dX10_init_226 : decode cX10_init 226 = .ok (.newarray .int, 2) := by decide +kernel
theorem dX10_init_228 : decode cX10_init 228 = .ok (.putfield 99, 3) := by decide +kernel
theorem dX10_init_231 : decode cX10_init 231 = .ok (.aload_n 0, 1) := by decide +kernel
theorem dX10_init_232 : decode cX10_init 232 = .ok (.bipush 20, 2) := by decide +kernel
theorem dX10_init_234 : decode cX10_init 234 = .ok (.newarray .int, 2) := by decide +kernel
theorem dX10_init_236 : decode cX10_init 236 = .ok (.putfield 102, 3) := by decide +kernel
theorem dX10_init_239 : decode cX10_init 239 = .ok (.aload_n 0, 1) := by decide +kernel
theorem dX10_init_240 : decode cX10_init 240 = .ok (.bipush 20, 2) := by decide +kernel
theorem dX10_init_242 : decode cX10_init 242 = .ok (.newarray .int, 2) := by decide +kernel
theorem dX10_init_244 : decode cX10_init 244 = .ok (.putfield 105, 3) := by decide +kernel
theorem dX10_init_247 : decode cX10_init 247 = .ok (.aload_n 0, 1) := by decide +kernel
theorem dX10_init_248 : decode cX10_init 248 = .ok (.bipush 60, 2) := by decide +kernel
theorem dX10_init_250 : decode cX10_init 250 = .ok (.newarray .boolean, 2) := by decide +kernel
theorem dX10_init_252 : decode cX10_init 252 = .ok (.putfield 108, 3) := by decide +kernel
theorem dX10_init_255 : decode cX10_init 255 = .ok (.aload_n 0, 1) := by decide +kernel
theorem dX10_init_256 : decode cX10_init 256 = .ok (.bipush 30, 2) := by decide +kernel
theorem dX10_init_258 : decode cX10_init 258 = .ok (.newarray .int, 2) := by decide +kernel
theorem dX10_init_260 : decode cX10_init 260 = .ok (.putfield 111, 3) := by decide +kernel
theorem dX10_init_263 : decode cX10_init 263 = .ok (.aload_n 0, 1) := by decide +kernel
theorem dX10_init_264 : decode cX10_init 264 = .ok (.iconst 4, 1) := by decide +kernel
theorem dX10_init_265 : decode cX10_init 265 = .ok (.newarray .int, 2) := by decide +kernel
theorem dX10_init_267 : decode cX10_init 267 = .ok (.putfield 114, 3) := by decide +kernel
theorem dX10_init_270 : decode cX10_init 270 = .ok (.aload_n 0, 1) := by decide +kernel
theorem dX10_init_271 : decode cX10_init 271 = .ok (.iconst 4, 1) := by decide +kernel
theorem dX10_init_272 : decode cX10_init 272 = .ok (.newarray .int, 2) := by decide +kernel
theorem dX10_init_274 : decode cX10_init 274 = .ok (.putfield 117, 3) := by decide +kernel
theorem dX10_init_277 : decode cX10_init 277 = .ok (.aload_n 0, 1) := by decide +kernel
theorem dX10_init_278 : decode cX10_init 278 = .ok (.sipush 4096, 3) := by decide +kernel
theorem dX10_init_281 : decode cX10_init 281 = .ok (.newarray .int, 2) := by decide +kernel
theorem dX10_init_283 : decode cX10_init 283 = .ok (.putfield 120, 3) := by decide +kernel
theorem dX10_init_286 : decode cX10_init 286 = .ok (.iconst 1, 1) := by decide +kernel
theorem dX10_init_287 : decode cX10_init 287 = .ok (.istore_n 1, 1) := by decide +kernel
theorem dX10_init_288 : decode cX10_init 288 = .ok (.iload_n 1, 1) := by decide +kernel
theorem dX10_init_289 : decode cX10_init 289 = .ok (.iconst 5, 1) := by decide +kernel
theorem dX10_init_290 : decode cX10_init 290 = .ok (.if_icmp .ge 17, 3) := by decide +kernel
theorem dX10_init_293 : decode cX10_init 293 = .ok (.aload_n 0, 1) := by decide +kernel
theorem dX10_init_294 : decode cX10_init 294 = .ok (.getfield 38, 3) := by decide +kernel
theorem dX10_init_297 : decode cX10_init 297 = .ok (.iload_n 1, 1) := by decide +kernel
theorem dX10_init_298 : decode cX10_init 298 = .ok (.bipush 100, 2) := by decide +kernel
theorem dX10_init_300 : decode cX10_init 300 = .ok (.iastore, 1) := by decide +kernel
theorem dX10_init_301 : decode cX10_init 301 = .ok (.iinc 1 1, 3) := by decide +kernel
theorem dX10_init_304 : decode cX10_init 304 = .ok (.goto (-16), 3) := by decide +kernel
theorem dX10_init_307 : decode cX10_init 307 = .ok (.return_, 1) := by decide +kernel
theorem dX10_isFamily_0 : decode cX10_isFamily 0 = .ok (.iload_n 1, 1) := by decide +kernel
theorem dX10_isFamily_1 : decode cX10_isFamily 1 = .ok (.ifCond .lt 15, 3) := by decide +kernel
theorem dX10_isFamily_4 : decode cX10_isFamily 4 = .ok (.iload_n 1, 1) := by decide +kernel
theorem dX10_isFamily_5 : decode cX10_isFamily 5 = .ok (.aload_n 0, 1) := by decide +kernel
theorem dX10_isFamily_6 : decode cX10_isFamily 6 = .ok (.getfield 123, 3) := by decide +kernel
theorem dX10_isFamily_9 : decode cX10_isFamily 9 = .ok (.if_icmp .ge 7, 3) := by decide +kernel
theorem dX10_isFamily_12 : decode cX10_isFamily 12 = .ok (.iconst 1, 1) := by decide +kernel
theorem dX10_isFamily_13 : decode cX10_isFamily 13 = .ok (.goto 4, 3) := by decide +kernel
theorem dX10_isFamily_16 : decode cX10_isFamily 16 = .ok (.iconst 0, 1) := by decide +kernel
theorem dX10_isFamily_17 : decode cX10_isFamily 17 = .ok (.ireturn, 1) := by decide +kernel
theorem dX10_isGarden_0 : decode cX10_isGarden 0 = .ok (.iload_n 1, 1) := by decide +kernel
theorem dX10_isGarden_1 : decode cX10_isGarden 1 = .ok (.ifCond .lt 15, 3) := by decide +kernel
theorem dX10_isGarden_4 : decode cX10_isGarden 4 = .ok (.iload_n 1, 1) := by decide +kernel
theorem dX10_isGarden_5 : decode cX10_isGarden 5 = .ok (.aload_n 0, 1) := by decide +kernel
theorem dX10_isGarden_6 : decode cX10_isGarden 6 = .ok (.getfield 126, 3) := by decide +kernel
theorem dX10_isGarden_9 : decode cX10_isGarden 9 = .ok (.if_icmp .ge 7, 3) := by decide +kernel
theorem dX10_isGarden_12 : decode cX10_isGarden 12 = .ok (.iconst 1, 1) := by decide +kernel
theorem dX10_isGarden_13 : decode cX10_isGarden 13 = .ok (.goto 4, 3) := by decide +kernel
theorem dX10_isGarden_16 : decode cX10_isGarden 16 = .ok (.iconst 0, 1) := by decide +kernel
theorem dX10_isGarden_17 : decode cX10_isGarden 17 = .ok (.ireturn, 1) := by decide +kernel
theorem dX10_isStrip_0 : decode cX10_isStrip 0 = .ok (.iload_n 1, 1) := by decide +kernel
theorem dX10_isStrip_1 : decode cX10_isStrip 1 = .ok (.ifCond .lt 15, 3) := by decide +kernel
theorem dX10_isStrip_4 : decode cX10_isStrip 4 = .ok (.iload_n 1, 1) := by decide +kernel
theorem dX10_isStrip_5 : decode cX10_isStrip 5 = .ok (.aload_n 0, 1) := by decide +kernel
theorem dX10_isStrip_6 : decode cX10_isStrip 6 = .ok (.getfield 129, 3) := by decide +kernel
theorem dX10_isStrip_9 : decode cX10_isStrip 9 = .ok (.if_icmp .ge 7, 3) := by decide +kernel
theorem dX10_isStrip_12 : decode cX10_isStrip 12 = .ok (.iconst 1, 1) := by decide +kernel
theorem dX10_isStrip_13 : decode cX10_isStrip 13 = .ok (.goto 4, 3) := by decide +kernel
theorem dX10_isStrip_16 : decode cX10_isStrip 16 = .ok (.iconst 0, 1) := by decide +kernel
theorem dX10_isStrip_17 : decode cX10_isStrip 17 = .ok (.ireturn, 1) := by decide +kernel
theorem dX10_family_0 : decode cX10_family 0 = .ok (.aload_n 0, 1) := by decide +kernel
theorem dX10_family_1 : decode cX10_family 1 = .ok (.iconst 0, 1) := by decide +kernel
theorem dX10_family_2 : decode cX10_family 2 = .ok (.putfield 1, 3) := by decide +kernel
theorem dX10_family_5 : decode cX10_family 5 = .ok (.iload_n 1, 1) := by decide +kernel
theorem dX10_family_6 : decode cX10_family 6 = .ok (.iconst 0, 1) := by decide +kernel
theorem dX10_family_7 : decode cX10_family 7 = .ok (.bipush 20, 2) := by decide +kernel
theorem dX10_family_9 : decode cX10_family 9 = .ok (.invokestatic 132, 3) := by decide +kernel
theorem dX10_family_12 : decode cX10_family 12 = .ok (.ifCond .ne 9, 3) := by decide +kernel
theorem dX10_family_15 : decode cX10_family 15 = .ok (.aload_n 0, 1) := by decide +kernel
theorem dX10_family_16 : decode cX10_family 16 = .ok (.iconst 2, 1) := by decide +kernel
theorem dX10_family_17 : decode cX10_family 17 = .ok (.invokevirtual 136, 3) := by decide +kernel
theorem dX10_family_20 : decode cX10_family 20 = .ok (.ireturn, 1) := by decide +kernel
theorem dX10_family_21 : decode cX10_family 21 = .ok (.aload_n 0, 1) := by decide +kernel
theorem dX10_family_22 : decode cX10_family 22 = .ok (.getfield 123, 3) := by decide +kernel
theorem dX10_family_25 : decode cX10_family 25 = .ok (.bipush 8, 2) := by decide +kernel
theorem dX10_family_27 : decode cX10_family 27 = .ok (.if_icmp .ne 9, 3) := by decide +kernel
theorem dX10_family_30 : decode cX10_family 30 = .ok (.aload_n 0, 1) := by decide +kernel
theorem dX10_family_31 : decode cX10_family 31 = .ok (.iconst 3, 1) := by decide +kernel
theorem dX10_family_32 : decode cX10_family 32 = .ok (.invokevirtual 136, 3) := by decide +kernel
theorem dX10_family_35 : decode cX10_family 35 = .ok (.ireturn, 1) := by decide +kernel
theorem dX10_family_36 : decode cX10_family 36 = .ok (.aload_n 0, 1) := by decide +kernel
theorem dX10_family_37 : decode cX10_family 37 = .ok (.getfield 22, 3) := by decide +kernel
theorem dX10_family_40 : decode cX10_family 40 = .ok (.aload_n 0, 1) := by decide +kernel
theorem dX10_family_41 : decode cX10_family 41 = .ok (.getfield 123, 3) := by decide +kernel
theorem dX10_family_44 : decode cX10_family 44 = .ok (.iload_n 1, 1) := by decide +kernel
theorem dX10_family_45 : decode cX10_family 45 = .ok (.iastore, 1) := by decide +kernel
theorem dX10_family_46 : decode cX10_family 46 = .ok (.aload_n 0, 1) := by decide +kernel
theorem dX10_family_47 : decode cX10_family 47 = .ok (.dup, 1) := by decide +kernel
theorem dX10_family_48 : decode cX10_family 48 = .ok (.getfield 123, 3) := by decide +kernel
theorem dX10_family_51 : decode cX10_family 51 = .ok (.iconst 1, 1) := by decide +kernel
theorem dX10_family_52 : decode cX10_family 52 = .ok (.iadd, 1) := by decide +kernel
theorem dX10_family_53 : decode cX10_family 53 = .ok (.putfield 123, 3) := by decide +kernel
theorem dX10_family_56 : decode cX10_family 56 = .ok (.aload_n 0, 1) := by decide +kernel
theorem dX10_family_57 : decode cX10_family 57 = .ok (.aload_n 0, 1) := by decide +kernel
theorem dX10_family_58 : decode cX10_family 58 = .ok (.getfield 123, 3) := by decide +kernel
theorem dX10_family_61 : decode cX10_family 61 = .ok (.iconst 1, 1) := by decide +kernel
theorem dX10_family_62 : decode cX10_family 62 = .ok (.isub, 1) := by decide +kernel
theorem dX10_family_63 : decode cX10_family 63 = .ok (.invokevirtual 140, 3) := by decide +kernel
theorem dX10_family_66 : decode cX10_family 66 = .ok (.ireturn, 1) := by decide +kernel
theorem dX10_garden_0 : decode cX10_garden 0 = .ok (.aload_n 0, 1) := by decide +kernel
theorem dX10_garden_1 : decode cX10_garden 1 = .ok (.iconst 0, 1) := by decide +kernel
theorem dX10_garden_2 : decode cX10_garden 2 = .ok (.putfield 1, 3) := by decide +kernel
theorem dX10_garden_5 : decode cX10_garden 5 = .ok (.iload_n 1, 1) := by decide +kernel
theorem dX10_garden_6 : decode cX10_garden 6 = .ok (.iconst (-1), 1) := by decide +kernel
theorem dX10_garden_7 : decode cX10_garden 7 = .ok (.if_icmp .eq 17, 3) := by decide +kernel
theorem dX10_garden_10 : decode cX10_garden 10 = .ok (.aload_n 0, 1) := by decide +kernel
theorem dX10_garden_11 : decode cX10_garden 11 = .ok (.iload_n 1, 1) := by decide +kernel
theorem dX10_garden_12 : decode cX10_garden 12 = .ok (.invokevirtual 143, 3) := by decide +kernel
theorem dX10_garden_15 : decode cX10_garden 15 = .ok (.ifCond .ne 9, 3) := by decide +kernel
theorem dX10_garden_18 : decode cX10_garden 18 = .ok (.aload_n 0, 1) := by decide +kernel
theorem dX10_garden_19 : decode cX10_garden 19 = .ok (.iconst 1, 1) := by decide +kernel
theorem dX10_garden_20 : decode cX10_garden 20 = .ok (.invokevirtual 136, 3) := by decide +kernel
theorem dX10_garden_23 : decode cX10_garden 23 = .ok (.ireturn, 1) := by decide +kernel
theorem dX10_garden_24 : decode cX10_garden 24 = .ok (.aload_n 0, 1) := by decide +kernel
theorem dX10_garden_25 : decode cX10_garden 25 = .ok (.getfield 126, 3) := by decide +kernel
theorem dX10_garden_28 : decode cX10_garden 28 = .ok (.bipush 12, 2) := by decide +kernel
theorem dX10_garden_30 : decode cX10_garden 30 = .ok (.if_icmp .ne 9, 3) := by decide +kernel
theorem dX10_garden_33 : decode cX10_garden 33 = .ok (.aload_n 0, 1) := by decide +kernel
theorem dX10_garden_34 : decode cX10_garden 34 = .ok (.iconst 3, 1) := by decide +kernel
theorem dX10_garden_35 : decode cX10_garden 35 = .ok (.invokevirtual 136, 3) := by decide +kernel
theorem dX10_garden_38 : decode cX10_garden 38 = .ok (.ireturn, 1) := by decide +kernel
theorem dX10_garden_39 : decode cX10_garden 39 = .ok (.aload_n 0, 1) := by decide +kernel
theorem dX10_garden_40 : decode cX10_garden 40 = .ok (.getfield 35, 3) := by decide +kernel
theorem dX10_garden_43 : decode cX10_garden 43 = .ok (.aload_n 0, 1) := by decide +kernel
theorem dX10_garden_44 : decode cX10_garden 44 = .ok (.getfield 126, 3) := by decide +kernel
theorem dX10_garden_47 : decode cX10_garden 47 = .ok (.iload_n 1, 1) := by decide +kernel
theorem dX10_garden_48 : decode cX10_garden 48 = .ok (.iastore, 1) := by decide +kernel
theorem dX10_garden_49 : decode cX10_garden 49 = .ok (.aload_n 0, 1) := by decide +kernel
theorem dX10_garden_50 : decode cX10_garden 50 = .ok (.dup, 1) := by decide +kernel
theorem dX10_garden_51 : decode cX10_garden 51 = .ok (.getfield 126, 3) := by decide +kernel
theorem dX10_garden_54 : decode cX10_garden 54 = .ok (.iconst 1, 1) := by decide +kernel
theorem dX10_garden_55 : decode cX10_garden 55 = .ok (.iadd, 1) := by decide +kernel
theorem dX10_garden_56 : decode cX10_garden 56 = .ok (.putfield 126, 3) := by decide +kernel
theorem dX10_garden_59 : decode cX10_garden 59 = .ok (.aload_n 0, 1) := by decide +kernel
theorem dX10_garden_60 : decode cX10_garden 60 = .ok (.aload_n 0, 1) := by decide +kernel
theorem dX10_garden_61 : decode cX10_garden 61 = .ok (.getfield 126, 3) := by decide +kernel
theorem dX10_garden_64 : decode cX10_garden 64 = .ok (.iconst 1, 1) := by decide +kernel
theorem dX10_garden_65 : decode cX10_garden 65 = .ok (.isub, 1) := by decide +kernel
theorem dX10_garden_66 : decode cX10_garden 66 = .ok (.invokevirtual 140, 3) := by decide +kernel
theorem dX10_garden_69 : decode cX10_garden 69 = .ok (.ireturn, 1) := by decide +kernel
theorem dX10_set_0 : decode cX10_set 0 = .ok (.aload_n 0, 1) := by decide +kernel
theorem dX10_set_1 : decode cX10_set 1 = .ok (.iconst 0, 1) := by decide +kernel
theorem dX10_set_2 : decode cX10_set 2 = .ok (.putfield 1, 3) := by decide +kernel
theorem dX10_set_5 : decode cX10_set 5 = .ok (.iload_n 1, 1) := by decide +kernel
theorem dX10_set_6 : decode cX10_set 6 = .ok (.bipush 10, 2) := by decide +kernel
theorem dX10_set_8 : decode cX10_set 8 = .ok (.bipush 99, 2) := by decide +kernel
theorem dX10_set_10 : decode cX10_set 10 = .ok (.invokestatic 132, 3) := by decide +kernel
theorem dX10_set_13 : decode cX10_set 13 = .ok (.ifCond .eq 13, 3) := by decide +kernel
theorem dX10_set_16 : decode cX10_set 16 = .ok (.iload_n 2, 1) := by decide +kernel
theorem dX10_set_17 : decode cX10_set 17 = .ok (.iconst 0, 1) := by decide +kernel
theorem dX10_set_18 : decode cX10_set 18 = .ok (.bipush 9, 2) := by decide +kernel
theorem dX10_set_20 : decode cX10_set 20 = .ok (.invokestatic 132, 3) := by decide +kernel
theorem dX10_set_23 : decode cX10_set 23 = .ok (.ifCond .ne 9, 3) := by decide +kernel
theorem dX10_set_26 : decode cX10_set 26 = .ok (.aload_n 0, 1) := by decide +kernel
theorem dX10_set_27 : decode cX10_set 27 = .ok (.iconst 2, 1) := by decide +kernel
theorem dX10_set_28 : decode cX10_set 28 = .ok (.invokevirtual 147, 3) := by decide +kernel
theorem dX10_set_31 : decode cX10_set 31 = .ok (.ireturn, 1) := by decide +kernel
theorem dX10_set_32 : decode cX10_set 32 = .ok (.aload_n 0, 1) := by decide +kernel
theorem dX10_set_33 : decode cX10_set 33 = .ok (.iload_n 1, 1) := by decide +kernel
theorem dX10_set_34 : decode cX10_set 34 = .ok (.putfield 16, 3) := by decide +kernel
theorem dX10_set_37 : decode cX10_set 37 = .ok (.aload_n 0, 1) := by decide +kernel
theorem dX10_set_38 : decode cX10_set 38 = .ok (.iload_n 2, 1) := by decide +kernel
theorem dX10_set_39 : decode cX10_set 39 = .ok (.putfield 19, 3) := by decide +kernel
theorem dX10_set_42 : decode cX10_set 42 = .ok (.aload_n 0, 1) := by decide +kernel
theorem dX10_set_43 : decode cX10_set 43 = .ok (.invokevirtual 150, 3) := by decide +kernel
theorem dX10_set_46 : decode cX10_set 46 = .ok (.ireturn, 1) := by decide +kernel
theorem dX10_price_0 : decode cX10_price 0 = .ok (.aload_n 0, 1) := by decide +kernel
theorem dX10_price_1 : decode cX10_price 1 = .ok (.iconst 0, 1) := by decide +kernel
theorem dX10_price_2 : decode cX10_price 2 = .ok (.putfield 1, 3) := by decide +kernel
theorem dX10_price_5 : decode cX10_price 5 = .ok (.iload_n 1, 1) := by decide +kernel
theorem dX10_price_6 : decode cX10_price 6 = .ok (.iconst 1, 1) := by decide +kernel
theorem dX10_price_7 : decode cX10_price 7 = .ok (.iconst 4, 1) := by decide +kernel
theorem dX10_price_8 : decode cX10_price 8 = .ok (.invokestatic 132, 3) := by decide +kernel
theorem dX10_price_11 : decode cX10_price 11 = .ok (.ifCond .ne 9, 3) := by decide +kernel
theorem dX10_price_14 : decode cX10_price 14 = .ok (.aload_n 0, 1) := by decide +kernel
theorem dX10_price_15 : decode cX10_price 15 = .ok (.iconst 1, 1) := by decide +kernel
theorem dX10_price_16 : decode cX10_price 16 = .ok (.invokevirtual 147, 3) := by decide +kernel
theorem dX10_price_19 : decode cX10_price 19 = .ok (.ireturn, 1) := by decide +kernel
theorem dX10_price_20 : decode cX10_price 20 = .ok (.iload_n 2, 1) := by decide +kernel
theorem dX10_price_21 : decode cX10_price 21 = .ok (.iconst 0, 1) := by decide +kernel
theorem dX10_price_22 : decode cX10_price 22 = .ok (.sipush 9999, 3) := by decide +kernel
theorem dX10_price_25 : decode cX10_price 25 = .ok (.invokestatic 132, 3) := by decide +kernel
theorem dX10_price_28 : decode cX10_price 28 = .ok (.ifCond .ne 9, 3) := by decide +kernel
theorem dX10_price_31 : decode cX10_price 31 = .ok (.aload_n 0, 1) := by decide +kernel
theorem dX10_price_32 : decode cX10_price 32 = .ok (.iconst 2, 1) := by decide +kernel
theorem dX10_price_33 : decode cX10_price 33 = .ok (.invokevirtual 147, 3) := by decide +kernel
theorem dX10_price_36 : decode cX10_price 36 = .ok (.ireturn, 1) := by decide +kernel
theorem dX10_price_37 : decode cX10_price 37 = .ok (.aload_n 0, 1) := by decide +kernel
theorem dX10_price_38 : decode cX10_price 38 = .ok (.getfield 38, 3) := by decide +kernel
theorem dX10_price_41 : decode cX10_price 41 = .ok (.iload_n 1, 1) := by decide +kernel
theorem dX10_price_42 : decode cX10_price 42 = .ok (.iload_n 2, 1) := by decide +kernel
theorem dX10_price_43 : decode cX10_price 43 = .ok (.iastore, 1) := by decide +kernel
theorem dX10_price_44 : decode cX10_price 44 = .ok (.aload_n 0, 1) := by decide +kernel
theorem dX10_price_45 : decode cX10_price 45 = .ok (.invokevirtual 150, 3) := by decide +kernel
theorem dX10_price_48 : decode cX10_price 48 = .ok (.ireturn, 1) := by decide +kernel
theorem dX10_rain_0 : decode cX10_rain 0 = .ok (.aload_n 0, 1) := by decide +kernel
theorem dX10_rain_1 : decode cX10_rain 1 = .ok (.iconst 0, 1) := by decide +kernel
theorem dX10_rain_2 : decode cX10_rain 2 = .ok (.putfield 1, 3) := by decide +kernel
theorem dX10_rain_5 : decode cX10_rain 5 = .ok (.iload_n 1, 1) := by decide +kernel
theorem dX10_rain_6 : decode cX10_rain 6 = .ok (.aload_n 0, 1) := by decide +kernel
theorem dX10_rain_7 : decode cX10_rain 7 = .ok (.getfield 154, 3) := by decide +kernel
theorem dX10_rain_10 : decode cX10_rain 10 = .ok (.if_icmp .le 10, 3) := by decide +kernel
theorem dX10_rain_13 : decode cX10_rain 13 = .ok (.iload_n 1, 1) := by decide +kernel
theorem dX10_rain_14 : decode cX10_rain 14 = .ok (.sipush 3000, 3) := by decide +kernel
theorem dX10_rain_17 : decode cX10_rain 17 = .ok (.if_icmp .le 9, 3) := by decide +kernel
theorem dX10_rain_20 : decode cX10_rain 20 = .ok (.aload_n 0, 1) := by decide +kernel
theorem dX10_rain_21 : decode cX10_rain 21 = .ok (.iconst 2, 1) := by decide +kernel
theorem dX10_rain_22 : decode cX10_rain 22 = .ok (.invokevirtual 147, 3) := by decide +kernel
theorem dX10_rain_25 : decode cX10_rain 25 = .ok (.ireturn, 1) := by decide +kernel
theorem dX10_rain_26 : decode cX10_rain 26 = .ok (.aload_n 0, 1) := by decide +kernel
theorem dX10_rain_27 : decode cX10_rain 27 = .ok (.getfield 41, 3) := by decide +kernel
theorem dX10_rain_30 : decode cX10_rain 30 = .ok (.iload_n 1, 1) := by decide +kernel
theorem dX10_rain_31 : decode cX10_rain 31 = .ok (.iload_n 2, 1) := by decide +kernel
theorem dX10_rain_32 : decode cX10_rain 32 = .ok (.bastore, 1) := by decide +kernel
theorem dX10_rain_33 : decode cX10_rain 33 = .ok (.aload_n 0, 1) := by decide +kernel
theorem dX10_rain_34 : decode cX10_rain 34 = .ok (.invokevirtual 150, 3) := by decide +kernel
theorem dX10_rain_37 : decode cX10_rain 37 = .ok (.ireturn, 1) := by decide +kernel
theorem dX10_cut_0 : decode cX10_cut 0 = .ok (.aload_n 0, 1) := by decide +kernel
theorem dX10_cut_1 : decode cX10_cut 1 = .ok (.iconst 0, 1) := by decide +kernel
theorem dX10_cut_2 : decode cX10_cut 2 = .ok (.putfield 1, 3) := by decide +kernel
theorem dX10_cut_5 : decode cX10_cut 5 = .ok (.aload_n 0, 1) := by decide +kernel
theorem dX10_cut_6 : decode cX10_cut 6 = .ok (.iload_n 1, 1) := by decide +kernel
theorem dX10_cut_7 : decode cX10_cut 7 = .ok (.invokevirtual 143, 3) := by decide +kernel
theorem dX10_cut_10 : decode cX10_cut 10 = .ok (.ifCond .eq 11, 3) := by decide +kernel
theorem dX10_cut_13 : decode cX10_cut 13 = .ok (.aload_n 0, 1) := by decide +kernel
theorem dX10_cut_14 : decode cX10_cut 14 = .ok (.iload_n 2, 1) := by decide +kernel
theorem dX10_cut_15 : decode cX10_cut 15 = .ok (.invokevirtual 157, 3) := by decide +kernel
theorem dX10_cut_18 : decode cX10_cut 18 = .ok (.ifCond .ne 9, 3) := by decide +kernel
theorem dX10_cut_21 : decode cX10_cut 21 = .ok (.aload_n 0, 1) := by decide +kernel
theorem dX10_cut_22 : decode cX10_cut 22 = .ok (.iconst 1, 1) := by decide +kernel
theorem dX10_cut_23 : decode cX10_cut 23 = .ok (.invokevirtual 136, 3) := by decide +kernel
theorem dX10_cut_26 : decode cX10_cut 26 = .ok (.ireturn, 1) := by decide +kernel
theorem dX10_cut_27 : decode cX10_cut 27 = .ok (.iload_n 3, 1) := by decide +kernel
theorem dX10_cut_28 : decode cX10_cut 28 = .ok (.iconst 1, 1) := by decide +kernel
theorem dX10_cut_29 : decode cX10_cut 29 = .ok (.bipush 60, 2) := by decide +kernel
theorem dX10_cut_31 : decode cX10_cut 31 = .ok (.invokestatic 132, 3) := by decide +kernel
theorem dX10_cut_34 : decode cX10_cut 34 = .ok (.ifCond .eq 25, 3) := by decide +kernel
theorem dX10_cut_37 : decode cX10_cut 37 = .ok (.iload 4, 2) := by decide +kernel
theorem dX10_cut_39 : decode cX10_cut 39 = .ok (.iconst 1, 1) := by decide +kernel
theorem dX10_cut_40 : decode cX10_cut 40 = .ok (.bipush 9, 2) := by decide +kernel
theorem dX10_cut_42 : decode cX10_cut 42 = .ok (.invokestatic 132, 3) := by decide +kernel
theorem dX10_cut_45 : decode cX10_cut 45 = .ok (.ifCond .eq 14, 3) := by decide +kernel
theorem dX10_cut_48 : decode cX10_cut 48 = .ok (.iload 5, 2) := by decide +kernel
theorem dX10_cut_50 : decode cX10_cut 50 = .ok (.iconst 0, 1) := by decide +kernel
theorem dX10_cut_51 : decode cX10_cut 51 = .ok (.bipush 9, 2) := by decide +kernel
theorem dX10_cut_53 : decode cX10_cut 53 = .ok (.invokestatic 132, 3) := by decide +kernel
theorem dX10_cut_56 : decode cX10_cut 56 = .ok (.ifCond .ne 9, 3) := by decide +kernel
theorem dX10_cut_59 : decode cX10_cut 59 = .ok (.aload_n 0, 1) := by decide +kernel
theorem dX10_cut_60 : decode cX10_cut 60 = .ok (.iconst 2, 1) := by decide +kernel
theorem dX10_cut_61 : decode cX10_cut 61 = .ok (.invokevirtual 136, 3) := by decide +kernel
theorem dX10_cut_64 : decode cX10_cut 64 = .ok (.ireturn, 1) := by decide +kernel
theorem dX10_cut_65 : decode cX10_cut 65 = .ok (.aload_n 0, 1) := by decide +kernel
theorem dX10_cut_66 : decode cX10_cut 66 = .ok (.getfield 35, 3) := by decide +kernel
theorem dX10_cut_69 : decode cX10_cut 69 = .ok (.iload_n 2, 1) := by decide +kernel
theorem dX10_cut_70 : decode cX10_cut 70 = .ok (.iaload, 1) := by decide +kernel
theorem dX10_cut_71 : decode cX10_cut 71 = .ok (.iconst (-1), 1) := by decide +kernel
theorem dX10_cut_72 : decode cX10_cut 72 = .ok (.if_icmp .eq 19, 3) := by decide +kernel
theorem dX10_cut_75 : decode cX10_cut 75 = .ok (.aload_n 0, 1) := by decide +kernel
theorem dX10_cut_76 : decode cX10_cut 76 = .ok (.getfield 35, 3) := by decide +kernel
theorem dX10_cut_79 : decode cX10_cut 79 = .ok (.iload_n 2, 1) := by decide +kernel
theorem dX10_cut_80 : decode cX10_cut 80 = .ok (.iaload, 1) := by decide +kernel
theorem dX10_cut_81 : decode cX10_cut 81 = .ok (.iload_n 1, 1) := by decide +kernel
theorem dX10_cut_82 : decode cX10_cut 82 = .ok (.if_icmp .eq 9, 3) := by decide +kernel
theorem dX10_cut_85 : decode cX10_cut 85 = .ok (.aload_n 0, 1) := by decide +kernel
theorem dX10_cut_86 : decode cX10_cut 86 = .ok (.iconst 4, 1) := by decide +kernel
theorem dX10_cut_87 : decode cX10_cut 87 = .ok (.invokevirtual 136, 3) := by decide +kernel
theorem dX10_cut_90 : decode cX10_cut 90 = .ok (.ireturn, 1) := by decide +kernel
theorem dX10_cut_91 : decode cX10_cut 91 = .ok (.aload_n 0, 1) := by decide +kernel
theorem dX10_cut_92 : decode cX10_cut 92 = .ok (.getfield 129, 3) := by decide +kernel
theorem dX10_cut_95 : decode cX10_cut 95 = .ok (.sipush 200, 3) := by decide +kernel
theorem dX10_cut_98 : decode cX10_cut 98 = .ok (.if_icmp .ne 9, 3) := by decide +kernel
theorem dX10_cut_101 : decode cX10_cut 101 = .ok (.aload_n 0, 1) := by decide +kernel
theorem dX10_cut_102 : decode cX10_cut 102 = .ok (.iconst 3, 1) := by decide +kernel
theorem dX10_cut_103 : decode cX10_cut 103 = .ok (.invokevirtual 136, 3) := by decide +kernel
theorem dX10_cut_106 : decode cX10_cut 106 = .ok (.ireturn, 1) := by decide +kernel
theorem dX10_cut_107 : decode cX10_cut 107 = .ok (.aload_n 0, 1) := by decide +kernel
theorem dX10_cut_108 : decode cX10_cut 108 = .ok (.getfield 45, 3) := by decide +kernel
theorem dX10_cut_111 : decode cX10_cut 111 = .ok (.aload_n 0, 1) := by decide +kernel
theorem dX10_cut_112 : decode cX10_cut 112 = .ok (.getfield 129, 3) := by decide +kernel
theorem dX10_cut_115 : decode cX10_cut 115 = .ok (.iload_n 1, 1) := by decide +kernel
theorem dX10_cut_116 : decode cX10_cut 116 = .ok (.iastore, 1) := by decide +kernel
theorem dX10_cut_117 : decode cX10_cut 117 = .ok (.aload_n 0, 1) := by decide +kernel
theorem dX10_cut_118 : decode cX10_cut 118 = .ok (.getfield 48, 3) := by decide +kernel
theorem dX10_cut_121 : decode cX10_cut 121 = .ok (.aload_n 0, 1) := by decide +kernel
theorem dX10_cut_122 : decode cX10_cut 122 = .ok (.getfield 129, 3) := by decide +kernel
theorem dX10_cut_125 : decode cX10_cut 125 = .ok (.iload_n 2, 1) := by decide +kernel
theorem dX10_cut_126 : decode cX10_cut 126 = .ok (.iastore, 1) := by decide +kernel
theorem dX10_cut_127 : decode cX10_cut 127 = .ok (.aload_n 0, 1) := by decide +kernel
theorem dX10_cut_128 : decode cX10_cut 128 = .ok (.getfield 51, 3) := by decide +kernel
theorem dX10_cut_131 : decode cX10_cut 131 = .ok (.aload_n 0, 1) := by decide +kernel
theorem dX10_cut_132 : decode cX10_cut 132 = .ok (.getfield 129, 3) := by decide +kernel
theorem dX10_cut_135 : decode cX10_cut 135 = .ok (.iload_n 3, 1) := by decide +kernel
theorem dX10_cut_136 : decode cX10_cut 136 = .ok (.iastore, 1) := by decide +kernel
theorem dX10_cut_137 : decode cX10_cut 137 = .ok (.aload_n 0, 1) := by decide +kernel
theorem dX10_cut_138 : decode cX10_cut 138 = .ok (.getfield 54, 3) := by decide +kernel
theorem dX10_cut_141 : decode cX10_cut 141 = .ok (.aload_n 0, 1) := by decide +kernel
theorem dX10_cut_142 : decode cX10_cut 142 = .ok (.getfield 129, 3) := by decide +kernel
theorem dX10_cut_145 : decode cX10_cut 145 = .ok (.iload 4, 2) := by decide +kernel
theorem dX10_cut_147 : decode cX10_cut 147 = .ok (.iastore, 1) := by decide +kernel
theorem dX10_cut_148 : decode cX10_cut 148 = .ok (.aload_n 0, 1) := by decide +kernel
theorem dX10_cut_149 : decode cX10_cut 149 = .ok (.getfield 57, 3) := by decide +kernel
theorem dX10_cut_152 : decode cX10_cut 152 = .ok (.aload_n 0, 1) := by decide +kernel
theorem dX10_cut_153 : decode cX10_cut 153 = .ok (.getfield 129, 3) := by decide +kernel
theorem dX10_cut_156 : decode cX10_cut 156 = .ok (.iload 5, 2) := by decide +kernel
theorem dX10_cut_158 : decode cX10_cut 158 = .ok (.iastore, 1) := by decide +kernel
theorem dX10_cut_159 : decode cX10_cut 159 = .ok (.aload_n 0, 1) := by decide +kernel
theorem dX10_cut_160 : decode cX10_cut 160 = .ok (.getfield 60, 3) := by decide +kernel
theorem dX10_cut_163 : decode cX10_cut 163 = .ok (.aload_n 0, 1) := by decide +kernel
theorem dX10_cut_164 : decode cX10_cut 164 = .ok (.getfield 129, 3) := by decide +kernel
theorem dX10_cut_167 : decode cX10_cut 167 = .ok (.aload_n 0, 1) := by decide +kernel
theorem dX10_cut_168 : decode cX10_cut 168 = .ok (.getfield 154, 3) := by decide +kernel
theorem dX10_cut_171 : decode cX10_cut 171 = .ok (.iastore, 1) := by decide +kernel
theorem dX10_cut_172 : decode cX10_cut 172 = .ok (.aload_n 0, 1) := by decide +kernel
theorem dX10_cut_173 : decode cX10_cut 173 = .ok (.getfield 63, 3) := by decide +kernel
theorem dX10_cut_176 : decode cX10_cut 176 = .ok (.aload_n 0, 1) := by decide +kernel
theorem dX10_cut_177 : decode cX10_cut 177 = .ok (.getfield 129, 3) := by decide +kernel
theorem dX10_cut_180 : decode cX10_cut 180 = .ok (.bipush (-2), 2) := by decide +kernel
theorem dX10_cut_182 : decode cX10_cut 182 = .ok (.iastore, 1) := by decide +kernel
theorem dX10_cut_183 : decode cX10_cut 183 = .ok (.aload_n 0, 1) := by decide +kernel
theorem dX10_cut_184 : decode cX10_cut 184 = .ok (.dup, 1) := by decide +kernel
theorem dX10_cut_185 : decode cX10_cut 185 = .ok (.getfield 129, 3) := by decide +kernel
theorem dX10_cut_188 : decode cX10_cut 188 = .ok (.iconst 1, 1) := by decide +kernel
theorem dX10_cut_189 : decode cX10_cut 189 = .ok (.iadd, 1) := by decide +kernel
theorem dX10_cut_190 : decode cX10_cut 190 = .ok (.putfield 129, 3) := by decide +kernel
theorem dX10_cut_193 : decode cX10_cut 193 = .ok (.aload_n 0, 1) := by decide +kernel
theorem dX10_cut_194 : decode cX10_cut 194 = .ok (.aload_n 0, 1) := by decide +kernel
theorem dX10_cut_195 : decode cX10_cut 195 = .ok (.getfield 129, 3) := by decide +kernel
theorem dX10_cut_198 : decode cX10_cut 198 = .ok (.iconst 1, 1) := by decide +kernel
theorem dX10_cut_199 : decode cX10_cut 199 = .ok (.isub, 1) := by decide +kernel
theorem dX10_cut_200 : decode cX10_cut 200 = .ok (.invokevirtual 140, 3) := by decide +kernel
theorem dX10_cut_203 : decode cX10_cut 203 = .ok (.ireturn, 1) := by decide +kernel
theorem dX10_pass_0 : decode cX10_pass 0 = .ok (.aload_n 0, 1) := by decide +kernel
theorem dX10_pass_1 : decode cX10_pass 1 = .ok (.iconst 0, 1) := by decide +kernel
theorem dX10_pass_2 : decode cX10_pass 2 = .ok (.putfield 1, 3) := by decide +kernel
theorem dX10_pass_5 : decode cX10_pass 5 = .ok (.iload_n 1, 1) := by decide +kernel
theorem dX10_pass_6 : decode cX10_pass 6 = .ok (.iconst 1, 1) := by decide +kernel
theorem dX10_pass_7 : decode cX10_pass 7 = .ok (.sipush 200, 3) := by decide +kernel
theorem dX10_pass_10 : decode cX10_pass 10 = .ok (.invokestatic 132, 3) := by decide +kernel
theorem dX10_pass_13 : decode cX10_pass 13 = .ok (.ifCond .eq 15, 3) := by decide +kernel
theorem dX10_pass_16 : decode cX10_pass 16 = .ok (.aload_n 0, 1) := by decide +kernel
theorem dX10_pass_17 : decode cX10_pass 17 = .ok (.getfield 154, 3) := by decide +kernel
theorem dX10_pass_20 : decode cX10_pass 20 = .ok (.iload_n 1, 1) := by decide +kernel
theorem dX10_pass_21 : decode cX10_pass 21 = .ok (.iadd, 1) := by decide +kernel
theorem dX10_pass_22 : decode cX10_pass 22 = .ok (.sipush 3000, 3) := by decide +kernel
theorem dX10_pass_25 : decode cX10_pass 25 = .ok (.if_icmp .le 9, 3) := by decide +kernel
theorem dX10_pass_28 : decode cX10_pass 28 = .ok (.aload_n 0, 1) := by decide +kernel
theorem dX10_pass_29 : decode cX10_pass 29 = .ok (.iconst 2, 1) := by decide +kernel
theorem dX10_pass_30 : decode cX10_pass 30 = .ok (.invokevirtual 136, 3) := by decide +kernel
theorem dX10_pass_33 : decode cX10_pass 33 = .ok (.ireturn, 1) := by decide +kernel
theorem dX10_pass_34 : decode cX10_pass 34 = .ok (.iconst 0, 1) := by decide +kernel
theorem dX10_pass_35 : decode cX10_pass 35 = .ok (.istore_n 2, 1) := by decide +kernel
theorem dX10_pass_36 : decode cX10_pass 36 = .ok (.iload_n 2, 1) := by decide +kernel
theorem dX10_pass_37 : decode cX10_pass 37 = .ok (.iload_n 1, 1) := by decide +kernel
theorem dX10_pass_38 : decode cX10_pass 38 = .ok (.if_icmp .ge 74, 3) := by decide +kernel
theorem dX10_pass_41 : decode cX10_pass 41 = .ok (.aload_n 0, 1) := by decide +kernel
theorem dX10_pass_42 : decode cX10_pass 42 = .ok (.dup, 1) := by decide +kernel
theorem dX10_pass_43 : decode cX10_pass 43 = .ok (.getfield 154, 3) := by decide +kernel
theorem dX10_pass_46 : decode cX10_pass 46 = .ok (.iconst 1, 1) := by decide +kernel
theorem dX10_pass_47 : decode cX10_pass 47 = .ok (.iadd, 1) := by decide +kernel
theorem dX10_pass_48 : decode cX10_pass 48 = .ok (.putfield 154, 3) := by decide +kernel
theorem dX10_pass_51 : decode cX10_pass 51 = .ok (.iconst 0, 1) := by decide +kernel
theorem dX10_pass_52 : decode cX10_pass 52 = .ok (.istore_n 3, 1) := by decide +kernel
theorem dX10_pass_53 : decode cX10_pass 53 = .ok (.iload_n 3, 1) := by decide +kernel
theorem dX10_pass_54 : decode cX10_pass 54 = .ok (.aload_n 0, 1) := by decide +kernel
theorem dX10_pass_55 : decode cX10_pass 55 = .ok (.getfield 123, 3) := by decide +kernel
theorem dX10_pass_58 : decode cX10_pass 58 = .ok (.if_icmp .ge 48, 3) := by decide +kernel
theorem dX10_pass_61 : decode cX10_pass 61 = .ok (.aload_n 0, 1) := by decide +kernel
theorem dX10_pass_62 : decode cX10_pass 62 = .ok (.getfield 154, 3) := by decide +kernel
theorem dX10_pass_65 : decode cX10_pass 65 = .ok (.bipush 60, 2) := by decide +kernel
theorem dX10_pass_67 : decode cX10_pass 67 = .ok (.irem, 1) := by decide +kernel
theorem dX10_pass_68 : decode cX10_pass 68 = .ok (.ifCond .ne 38, 3) := by decide +kernel
theorem dX10_pass_71 : decode cX10_pass 71 = .ok (.aload_n 0, 1) := by decide +kernel
theorem dX10_pass_72 : decode cX10_pass 72 = .ok (.getfield 29, 3) := by decide +kernel
theorem dX10_pass_75 : decode cX10_pass 75 = .ok (.iload_n 3, 1) := by decide +kernel
theorem dX10_pass_76 : decode cX10_pass 76 = .ok (.dup2, 1) := by decide +kernel
theorem dX10_pass_77 : decode cX10_pass 77 = .ok (.iaload, 1) := by decide +kernel
theorem dX10_pass_78 : decode cX10_pass 78 = .ok (.aload_n 0, 1) := by decide +kernel
theorem dX10_pass_79 : decode cX10_pass 79 = .ok (.getfield 22, 3) := by decide +kernel
theorem dX10_pass_82 : decode cX10_pass 82 = .ok (.iload_n 3, 1) := by decide +kernel
theorem dX10_pass_83 : decode cX10_pass 83 = .ok (.iaload, 1) := by decide +kernel
theorem dX10_pass_84 : decode cX10_pass 84 = .ok (.aload_n 0, 1) := by decide +kernel
theorem dX10_pass_85 : decode cX10_pass 85 = .ok (.getfield 26, 3) := by decide +kernel
theorem dX10_pass_88 : decode cX10_pass 88 = .ok (.iload_n 3, 1) := by decide +kernel
theorem dX10_pass_89 : decode cX10_pass 89 = .ok (.iaload, 1) := by decide +kernel
theorem dX10_pass_90 : decode cX10_pass 90 = .ok (.isub, 1) := by decide +kernel
theorem dX10_pass_91 : decode cX10_pass 91 = .ok (.iadd, 1) := by decide +kernel
theorem dX10_pass_92 : decode cX10_pass 92 = .ok (.iastore, 1) := by decide +kernel
theorem dX10_pass_93 : decode cX10_pass 93 = .ok (.aload_n 0, 1) := by decide +kernel
theorem dX10_pass_94 : decode cX10_pass 94 = .ok (.getfield 26, 3) := by decide +kernel
theorem dX10_pass_97 : decode cX10_pass 97 = .ok (.iload_n 3, 1) := by decide +kernel
theorem dX10_pass_98 : decode cX10_pass 98 = .ok (.iconst 0, 1) := by decide +kernel
theorem dX10_pass_99 : decode cX10_pass 99 = .ok (.iastore, 1) := by decide +kernel
theorem dX10_pass_100 : decode cX10_pass 100 = .ok (.iinc 3 1, 3) := by decide +kernel
theorem dX10_pass_103 : decode cX10_pass 103 = .ok (.goto (-50), 3) := by decide +kernel
theorem dX10_pass_106 : decode cX10_pass 106 = .ok (.iinc 2 1, 3) := by decide +kernel
theorem dX10_pass_109 : decode cX10_pass 109 = .ok (.goto (-73), 3) := by decide +kernel
theorem dX10_pass_112 : decode cX10_pass 112 = .ok (.aload_n 0, 1) := by decide +kernel
theorem dX10_pass_113 : decode cX10_pass 113 = .ok (.aload_n 0, 1) := by decide +kernel
theorem dX10_pass_114 : decode cX10_pass 114 = .ok (.getfield 154, 3) := by decide +kernel
theorem dX10_pass_117 : decode cX10_pass 117 = .ok (.invokevirtual 140, 3) := by decide +kernel
theorem dX10_pass_120 : decode cX10_pass 120 = .ok (.ireturn, 1) := by decide +kernel
theorem dX10_dry_0 : decode cX10_dry 0 = .ok (.aload_n 0, 1) := by decide +kernel
theorem dX10_dry_1 : decode cX10_dry 1 = .ok (.getfield 54, 3) := by decide +kernel
theorem dX10_dry_4 : decode cX10_dry 4 = .ok (.iload_n 1, 1) := by decide +kernel
theorem dX10_dry_5 : decode cX10_dry 5 = .ok (.iaload, 1) := by decide +kernel
theorem dX10_dry_6 : decode cX10_dry 6 = .ok (.iconst 2, 1) := by decide +kernel
theorem dX10_dry_7 : decode cX10_dry 7 = .ok (.iadd, 1) := by decide +kernel
theorem dX10_dry_8 : decode cX10_dry 8 = .ok (.istore_n 2, 1) := by decide +kernel
theorem dX10_dry_9 : decode cX10_dry 9 = .ok (.aload_n 0, 1) := by decide +kernel
theorem dX10_dry_10 : decode cX10_dry 10 = .ok (.getfield 60, 3) := by decide +kernel
theorem dX10_dry_13 : decode cX10_dry 13 = .ok (.iload_n 1, 1) := by decide +kernel
theorem dX10_dry_14 : decode cX10_dry 14 = .ok (.iaload, 1) := by decide +kernel
theorem dX10_dry_15 : decode cX10_dry 15 = .ok (.istore_n 3, 1) := by decide +kernel
theorem dX10_dry_16 : decode cX10_dry 16 = .ok (.iload_n 2, 1) := by decide +kernel
theorem dX10_dry_17 : decode cX10_dry 17 = .ok (.ifCond .le 40, 3) := by decide +kernel
theorem dX10_dry_20 : decode cX10_dry 20 = .ok (.iload_n 3, 1) := by decide +kernel
theorem dX10_dry_21 : decode cX10_dry 21 = .ok (.sipush 3000, 3) := by decide +kernel
theorem dX10_dry_24 : decode cX10_dry 24 = .ok (.if_icmp .gt 33, 3) := by decide +kernel
theorem dX10_dry_27 : decode cX10_dry 27 = .ok (.iinc 3 1, 3) := by decide +kernel
theorem dX10_dry_30 : decode cX10_dry 30 = .ok (.iload_n 2, 1) := by decide +kernel
theorem dX10_dry_31 : decode cX10_dry 31 = .ok (.iload_n 3, 1) := by decide +kernel
theorem dX10_dry_32 : decode cX10_dry 32 = .ok (.sipush 3000, 3) := by decide +kernel
theorem dX10_dry_35 : decode cX10_dry 35 = .ok (.if_icmp .gt 16, 3) := by decide +kernel
theorem dX10_dry_38 : decode cX10_dry 38 = .ok (.aload_n 0, 1) := by decide +kernel
theorem dX10_dry_39 : decode cX10_dry 39 = .ok (.getfield 41, 3) := by decide +kernel
theorem dX10_dry_42 : decode cX10_dry 42 = .ok (.iload_n 3, 1) := by decide +kernel
theorem dX10_dry_43 : decode cX10_dry 43 = .ok (.baload, 1) := by decide +kernel
theorem dX10_dry_44 : decode cX10_dry 44 = .ok (.ifCond .ne 7, 3) := by decide +kernel
theorem dX10_dry_47 : decode cX10_dry 47 = .ok (.iconst 1, 1) := by decide +kernel
theorem dX10_dry_48 : decode cX10_dry 48 = .ok (.goto 4, 3) := by decide +kernel
theorem dX10_dry_51 : decode cX10_dry 51 = .ok (.iconst 0, 1) := by decide +kernel
theorem dX10_dry_52 : decode cX10_dry 52 = .ok (.isub, 1) := by decide +kernel
theorem dX10_dry_53 : decode cX10_dry 53 = .ok (.istore_n 2, 1) := by decide +kernel
theorem dX10_dry_54 : decode cX10_dry 54 = .ok (.goto (-38), 3) := by decide +kernel
theorem dX10_dry_57 : decode cX10_dry 57 = .ok (.iload_n 3, 1) := by decide +kernel
theorem dX10_dry_58 : decode cX10_dry 58 = .ok (.ireturn, 1) := by decide +kernel
theorem dX10_mayBe_0 : decode cX10_mayBe 0 = .ok (.aload_n 0, 1) := by decide +kernel
theorem dX10_mayBe_1 : decode cX10_mayBe 1 = .ok (.getfield 45, 3) := by decide +kernel
theorem dX10_mayBe_4 : decode cX10_mayBe 4 = .ok (.iload_n 2, 1) := by decide +kernel
theorem dX10_mayBe_5 : decode cX10_mayBe 5 = .ok (.iaload, 1) := by decide +kernel
theorem dX10_mayBe_6 : decode cX10_mayBe 6 = .ok (.iload_n 1, 1) := by decide +kernel
theorem dX10_mayBe_7 : decode cX10_mayBe 7 = .ok (.if_icmp .ne 30, 3) := by decide +kernel
theorem dX10_mayBe_10 : decode cX10_mayBe 10 = .ok (.aload_n 0, 1) := by decide +kernel
theorem dX10_mayBe_11 : decode cX10_mayBe 11 = .ok (.getfield 63, 3) := by decide +kernel
theorem dX10_mayBe_14 : decode cX10_mayBe 14 = .ok (.iload_n 2, 1) := by decide +kernel
theorem dX10_mayBe_15 : decode cX10_mayBe 15 = .ok (.iaload, 1) := by decide +kernel
theorem dX10_mayBe_16 : decode cX10_mayBe 16 = .ok (.bipush (-2), 2) := by decide +kernel
theorem dX10_mayBe_18 : decode cX10_mayBe 18 = .ok (.if_icmp .ne 19, 3) := by decide +kernel
theorem dX10_mayBe_21 : decode cX10_mayBe 21 = .ok (.aload_n 0, 1) := by decide +kernel
theorem dX10_mayBe_22 : decode cX10_mayBe 22 = .ok (.iload_n 2, 1) := by decide +kernel
theorem dX10_mayBe_23 : decode cX10_mayBe 23 = .ok (.invokevirtual 160, 3) := by decide +kernel
theorem dX10_mayBe_26 : decode cX10_mayBe 26 = .ok (.aload_n 0, 1) := by decide +kernel
theorem dX10_mayBe_27 : decode cX10_mayBe 27 = .ok (.getfield 154, 3) := by decide +kernel
theorem dX10_mayBe_30 : decode cX10_mayBe 30 = .ok (.if_icmp .gt 7, 3) := by decide +kernel
theorem dX10_mayBe_33 : decode cX10_mayBe 33 = .ok (.iconst 1, 1) := by decide +kernel
theorem dX10_mayBe_34 : decode cX10_mayBe 34 = .ok (.goto 4, 3) := by decide +kernel
theorem dX10_mayBe_37 : decode cX10_mayBe 37 = .ok (.iconst 0, 1) := by decide +kernel
theorem dX10_mayBe_38 : decode cX10_mayBe 38 = .ok (.ireturn, 1) := by decide +kernel
theorem dX10_strip_0 : decode cX10_strip 0 = .ok (.aload_n 0, 1) := by decide +kernel
theorem dX10_strip_1 : decode cX10_strip 1 = .ok (.iconst 0, 1) := by decide +kernel
theorem dX10_strip_2 : decode cX10_strip 2 = .ok (.putfield 1, 3) := by decide +kernel
theorem dX10_strip_5 : decode cX10_strip 5 = .ok (.aload_n 0, 1) := by decide +kernel
theorem dX10_strip_6 : decode cX10_strip 6 = .ok (.iload_n 1, 1) := by decide +kernel
theorem dX10_strip_7 : decode cX10_strip 7 = .ok (.invokevirtual 163, 3) := by decide +kernel
theorem dX10_strip_10 : decode cX10_strip 10 = .ok (.ifCond .ne 5, 3) := by decide +kernel
theorem dX10_strip_13 : decode cX10_strip 13 = .ok (.iconst (-1), 1) := by decide +kernel
theorem dX10_strip_14 : decode cX10_strip 14 = .ok (.ireturn, 1) := by decide +kernel
theorem dX10_strip_15 : decode cX10_strip 15 = .ok (.iload_n 2, 1) := by decide +kernel
theorem dX10_strip_16 : decode cX10_strip 16 = .ok (.tableswitch 115 0 7 #[48, 55, 62, 69, 76, 83, 90, 108], 48) := by decide +kernel
theorem dX10_strip_64 : decode cX10_strip 64 = .ok (.aload_n 0, 1) := by decide +kernel
theorem dX10_strip_65 : decode cX10_strip 65 = .ok (.getfield 45, 3) := by decide +kernel
theorem dX10_strip_68 : decode cX10_strip 68 = .ok (.iload_n 1, 1) := by decide +kernel
theorem dX10_strip_69 : decode cX10_strip 69 = .ok (.iaload, 1) := by decide +kernel
theorem dX10_strip_70 : decode cX10_strip 70 = .ok (.ireturn, 1) := by decide +kernel
theorem dX10_strip_71 : decode cX10_strip 71 = .ok (.aload_n 0, 1) := by decide +kernel
theorem dX10_strip_72 : decode cX10_strip 72 = .ok (.getfield 48, 3) := by decide +kernel
theorem dX10_strip_75 : decode cX10_strip 75 = .ok (.iload_n 1, 1) := by decide +kernel
theorem dX10_strip_76 : decode cX10_strip 76 = .ok (.iaload, 1) := by decide +kernel
theorem dX10_strip_77 : decode cX10_strip 77 = .ok (.ireturn, 1) := by decide +kernel
theorem dX10_strip_78 : decode cX10_strip 78 = .ok (.aload_n 0, 1) := by decide +kernel
theorem dX10_strip_79 : decode cX10_strip 79 = .ok (.getfield 51, 3) := by decide +kernel
theorem dX10_strip_82 : decode cX10_strip 82 = .ok (.iload_n 1, 1) := by decide +kernel
theorem dX10_strip_83 : decode cX10_strip 83 = .ok (.iaload, 1) := by decide +kernel
theorem dX10_strip_84 : decode cX10_strip 84 = .ok (.ireturn, 1) := by decide +kernel
theorem dX10_strip_85 : decode cX10_strip 85 = .ok (.aload_n 0, 1) := by decide +kernel
theorem dX10_strip_86 : decode cX10_strip 86 = .ok (.getfield 54, 3) := by decide +kernel
theorem dX10_strip_89 : decode cX10_strip 89 = .ok (.iload_n 1, 1) := by decide +kernel
theorem dX10_strip_90 : decode cX10_strip 90 = .ok (.iaload, 1) := by decide +kernel
theorem dX10_strip_91 : decode cX10_strip 91 = .ok (.ireturn, 1) := by decide +kernel
theorem dX10_strip_92 : decode cX10_strip 92 = .ok (.aload_n 0, 1) := by decide +kernel
theorem dX10_strip_93 : decode cX10_strip 93 = .ok (.getfield 57, 3) := by decide +kernel
theorem dX10_strip_96 : decode cX10_strip 96 = .ok (.iload_n 1, 1) := by decide +kernel
theorem dX10_strip_97 : decode cX10_strip 97 = .ok (.iaload, 1) := by decide +kernel
theorem dX10_strip_98 : decode cX10_strip 98 = .ok (.ireturn, 1) := by decide +kernel
theorem dX10_strip_99 : decode cX10_strip 99 = .ok (.aload_n 0, 1) := by decide +kernel
theorem dX10_strip_100 : decode cX10_strip 100 = .ok (.getfield 60, 3) := by decide +kernel
theorem dX10_strip_103 : decode cX10_strip 103 = .ok (.iload_n 1, 1) := by decide +kernel
theorem dX10_strip_104 : decode cX10_strip 104 = .ok (.iaload, 1) := by decide +kernel
theorem dX10_strip_105 : decode cX10_strip 105 = .ok (.ireturn, 1) := by decide +kernel
theorem dX10_strip_106 : decode cX10_strip 106 = .ok (.aload_n 0, 1) := by decide +kernel
theorem dX10_strip_107 : decode cX10_strip 107 = .ok (.iload_n 1, 1) := by decide +kernel
theorem dX10_strip_108 : decode cX10_strip 108 = .ok (.invokevirtual 160, 3) := by decide +kernel
theorem dX10_strip_111 : decode cX10_strip 111 = .ok (.aload_n 0, 1) := by decide +kernel
theorem dX10_strip_112 : decode cX10_strip 112 = .ok (.getfield 154, 3) := by decide +kernel
theorem dX10_strip_115 : decode cX10_strip 115 = .ok (.if_icmp .gt 7, 3) := by decide +kernel
theorem dX10_strip_118 : decode cX10_strip 118 = .ok (.iconst 1, 1) := by decide +kernel
theorem dX10_strip_119 : decode cX10_strip 119 = .ok (.goto 4, 3) := by decide +kernel
theorem dX10_strip_122 : decode cX10_strip 122 = .ok (.iconst 0, 1) := by decide +kernel
theorem dX10_strip_123 : decode cX10_strip 123 = .ok (.ireturn, 1) := by decide +kernel
theorem dX10_strip_124 : decode cX10_strip 124 = .ok (.aload_n 0, 1) := by decide +kernel
theorem dX10_strip_125 : decode cX10_strip 125 = .ok (.getfield 63, 3) := by decide +kernel
theorem dX10_strip_128 : decode cX10_strip 128 = .ok (.iload_n 1, 1) := by decide +kernel
theorem dX10_strip_129 : decode cX10_strip 129 = .ok (.iaload, 1) := by decide +kernel
theorem dX10_strip_130 : decode cX10_strip 130 = .ok (.ireturn, 1) := by decide +kernel
theorem dX10_strip_131 : decode cX10_strip 131 = .ok (.iconst (-1), 1) := by decide +kernel
theorem dX10_strip_132 : decode cX10_strip 132 = .ok (.ireturn, 1) := by decide +kernel
theorem dX10_ready_0 : decode cX10_ready 0 = .ok (.aload_n 0, 1) := by decide +kernel
theorem dX10_ready_1 : decode cX10_ready 1 = .ok (.iconst 0, 1) := by decide +kernel
theorem dX10_ready_2 : decode cX10_ready 2 = .ok (.putfield 1, 3) := by decide +kernel
theorem dX10_ready_5 : decode cX10_ready 5 = .ok (.aload_n 0, 1) := by decide +kernel
theorem dX10_ready_6 : decode cX10_ready 6 = .ok (.iload_n 1, 1) := by decide +kernel
theorem dX10_ready_7 : decode cX10_ready 7 = .ok (.invokevirtual 143, 3) := by decide +kernel
theorem dX10_ready_10 : decode cX10_ready 10 = .ok (.ifCond .ne 5, 3) := by decide +kernel
theorem dX10_ready_13 : decode cX10_ready 13 = .ok (.iconst (-1), 1) := by decide +kernel
theorem dX10_ready_14 : decode cX10_ready 14 = .ok (.ireturn, 1) := by decide +kernel
theorem dX10_ready_15 : decode cX10_ready 15 = .ok (.iconst 0, 1) := by decide +kernel
theorem dX10_ready_16 : decode cX10_ready 16 = .ok (.istore_n 2, 1) := by decide +kernel
theorem dX10_ready_17 : decode cX10_ready 17 = .ok (.iconst 0, 1) := by decide +kernel
theorem dX10_ready_18 : decode cX10_ready 18 = .ok (.istore_n 3, 1) := by decide +kernel
theorem dX10_ready_19 : decode cX10_ready 19 = .ok (.iload_n 3, 1) := by decide +kernel
theorem dX10_ready_20 : decode cX10_ready 20 = .ok (.aload_n 0, 1) := by decide +kernel
theorem dX10_ready_21 : decode cX10_ready 21 = .ok (.getfield 129, 3) := by decide +kernel
theorem dX10_ready_24 : decode cX10_ready 24 = .ok (.if_icmp .ge 26, 3) := by decide +kernel
theorem dX10_ready_27 : decode cX10_ready 27 = .ok (.iload_n 2, 1) := by decide +kernel
theorem dX10_ready_28 : decode cX10_ready 28 = .ok (.aload_n 0, 1) := by decide +kernel
theorem dX10_ready_29 : decode cX10_ready 29 = .ok (.iload_n 1, 1) := by decide +kernel
theorem dX10_ready_30 : decode cX10_ready 30 = .ok (.iload_n 3, 1) := by decide +kernel
theorem dX10_ready_31 : decode cX10_ready 31 = .ok (.invokevirtual 166, 3) := by decide +kernel
theorem dX10_ready_34 : decode cX10_ready 34 = .ok (.ifCond .eq 7, 3) := by decide +kernel
theorem dX10_ready_37 : decode cX10_ready 37 = .ok (.iconst 1, 1) := by decide +kernel
theorem dX10_ready_38 : decode cX10_ready 38 = .ok (.goto 4, 3) := by decide +kernel
theorem dX10_ready_41 : decode cX10_ready 41 = .ok (.iconst 0, 1) := by decide +kernel
theorem dX10_ready_42 : decode cX10_ready 42 = .ok (.iadd, 1) := by decide +kernel
theorem dX10_ready_43 : decode cX10_ready 43 = .ok (.istore_n 2, 1) := by decide +kernel
theorem dX10_ready_44 : decode cX10_ready 44 = .ok (.iinc 3 1, 3) := by decide +kernel
theorem dX10_ready_47 : decode cX10_ready 47 = .ok (.goto (-28), 3) := by decide +kernel
theorem dX10_ready_50 : decode cX10_ready 50 = .ok (.iload_n 2, 1) := by decide +kernel
theorem dX10_ready_51 : decode cX10_ready 51 = .ok (.ireturn, 1) := by decide +kernel
theorem dX10_dryOn_0 : decode cX10_dryOn 0 = .ok (.aload_n 0, 1) := by decide +kernel
theorem dX10_dryOn_1 : decode cX10_dryOn 1 = .ok (.iconst 0, 1) := by decide +kernel
theorem dX10_dryOn_2 : decode cX10_dryOn 2 = .ok (.putfield 1, 3) := by decide +kernel
theorem dX10_dryOn_5 : decode cX10_dryOn 5 = .ok (.aload_n 0, 1) := by decide +kernel
theorem dX10_dryOn_6 : decode cX10_dryOn 6 = .ok (.iload_n 1, 1) := by decide +kernel
theorem dX10_dryOn_7 : decode cX10_dryOn 7 = .ok (.invokevirtual 163, 3) := by decide +kernel
theorem dX10_dryOn_10 : decode cX10_dryOn 10 = .ok (.ifCond .ne 5, 3) := by decide +kernel
theorem dX10_dryOn_13 : decode cX10_dryOn 13 = .ok (.iconst (-1), 1) := by decide +kernel
theorem dX10_dryOn_14 : decode cX10_dryOn 14 = .ok (.ireturn, 1) := by decide +kernel
theorem dX10_dryOn_15 : decode cX10_dryOn 15 = .ok (.aload_n 0, 1) := by decide +kernel
theorem dX10_dryOn_16 : decode cX10_dryOn 16 = .ok (.iload_n 1, 1) := by decide +kernel
theorem dX10_dryOn_17 : decode cX10_dryOn 17 = .ok (.invokevirtual 160, 3) := by decide +kernel
theorem dX10_dryOn_20 : decode cX10_dryOn 20 = .ok (.istore_n 2, 1) := by decide +kernel
theorem dX10_dryOn_21 : decode cX10_dryOn 21 = .ok (.iload_n 2, 1) := by decide +kernel
theorem dX10_dryOn_22 : decode cX10_dryOn 22 = .ok (.sipush 3000, 3) := by decide +kernel
theorem dX10_dryOn_25 : decode cX10_dryOn 25 = .ok (.if_icmp .le 8, 3) := by decide +kernel
theorem dX10_dryOn_28 : decode cX10_dryOn 28 = .ok (.bipush (-2), 2) := by decide +kernel
theorem dX10_dryOn_30 : decode cX10_dryOn 30 = .ok (.goto 4, 3) := by decide +kernel
theorem dX10_dryOn_33 : decode cX10_dryOn 33 = .ok (.iload_n 2, 1) := by decide +kernel
theorem dX10_dryOn_34 : decode cX10_dryOn 34 = .ok (.ireturn, 1) := by decide +kernel
theorem dX10_finds_0 : decode cX10_finds 0 = .ok (.aload_n 0, 1) := by decide +kernel
theorem dX10_finds_1 : decode cX10_finds 1 = .ok (.iconst 0, 1) := by decide +kernel
theorem dX10_finds_2 : decode cX10_finds 2 = .ok (.putfield 170, 3) := by decide +kernel
theorem dX10_finds_5 : decode cX10_finds 5 = .ok (.iconst 0, 1) := by decide +kernel
theorem dX10_finds_6 : decode cX10_finds 6 = .ok (.istore_n 2, 1) := by decide +kernel
theorem dX10_finds_7 : decode cX10_finds 7 = .ok (.iload_n 2, 1) := by decide +kernel
theorem dX10_finds_8 : decode cX10_finds 8 = .ok (.aload_n 0, 1) := by decide +kernel
theorem dX10_finds_9 : decode cX10_finds 9 = .ok (.getfield 129, 3) := by decide +kernel
theorem dX10_finds_12 : decode cX10_finds 12 = .ok (.if_icmp .ge 50, 3) := by decide +kernel
theorem dX10_finds_15 : decode cX10_finds 15 = .ok (.aload_n 0, 1) := by decide +kernel
theorem dX10_finds_16 : decode cX10_finds 16 = .ok (.getfield 170, 3) := by decide +kernel
theorem dX10_finds_19 : decode cX10_finds 19 = .ok (.bipush 30, 2) := by decide +kernel
theorem dX10_finds_21 : decode cX10_finds 21 = .ok (.if_icmp .ge 41, 3) := by decide +kernel
theorem dX10_finds_24 : decode cX10_finds 24 = .ok (.aload_n 0, 1) := by decide +kernel
theorem dX10_finds_25 : decode cX10_finds 25 = .ok (.iload_n 1, 1) := by decide +kernel
theorem dX10_finds_26 : decode cX10_finds 26 = .ok (.iload_n 2, 1) := by decide +kernel
theorem dX10_finds_27 : decode cX10_finds 27 = .ok (.invokevirtual 166, 3) := by decide +kernel
theorem dX10_finds_30 : decode cX10_finds 30 = .ok (.ifCond .ne 6, 3) := by decide +kernel
theorem dX10_finds_33 : decode cX10_finds 33 = .ok (.goto 23, 3) := by decide +kernel
theorem dX10_finds_36 : decode cX10_finds 36 = .ok (.aload_n 0, 1) := by decide +kernel
theorem dX10_finds_37 : decode cX10_finds 37 = .ok (.getfield 111, 3) := by decide +kernel
theorem dX10_finds_40 : decode cX10_finds 40 = .ok (.aload_n 0, 1) := by decide +kernel
theorem dX10_finds_41 : decode cX10_finds 41 = .ok (.getfield 170, 3) := by decide +kernel
theorem dX10_finds_44 : decode cX10_finds 44 = .ok (.iload_n 2, 1) := by decide +kernel
theorem dX10_finds_45 : decode cX10_finds 45 = .ok (.iastore, 1) := by decide +kernel
theorem dX10_finds_46 : decode cX10_finds 46 = .ok (.aload_n 0, 1) := by decide +kernel
theorem dX10_finds_47 : decode cX10_finds 47 = .ok (.dup, 1) := by decide +kernel
theorem dX10_finds_48 : decode cX10_finds 48 = .ok (.getfield 170, 3) := by decide +kernel
theorem dX10_finds_51 : decode cX10_finds 51 = .ok (.iconst 1, 1) := by decide +kernel
theorem dX10_finds_52 : decode cX10_finds 52 = .ok (.iadd, 1) := by decide +kernel
theorem dX10_finds_53 : decode cX10_finds 53 = .ok (.putfield 170, 3) := by decide +kernel
theorem dX10_finds_56 : decode cX10_finds 56 = .ok (.iinc 2 1, 3) := by decide +kernel
theorem dX10_finds_59 : decode cX10_finds 59 = .ok (.goto (-52), 3) := by decide +kernel
theorem dX10_finds_62 : decode cX10_finds 62 = .ok (.aload_n 0, 1) := by decide +kernel
theorem dX10_finds_63 : decode cX10_finds 63 = .ok (.iconst 0, 1) := by decide +kernel
theorem dX10_finds_64 : decode cX10_finds 64 = .ok (.putfield 173, 3) := by decide +kernel
theorem dX10_finds_67 : decode cX10_finds 67 = .ok (.iconst 1, 1) := by decide +kernel
theorem dX10_finds_68 : decode cX10_finds 68 = .ok (.istore_n 2, 1) := by decide +kernel
theorem dX10_finds_69 : decode cX10_finds 69 = .ok (.iload_n 2, 1) := by decide +kernel
theorem dX10_finds_70 : decode cX10_finds 70 = .ok (.iconst 4, 1) := by decide +kernel
theorem dX10_finds_71 : decode cX10_finds 71 = .ok (.if_icmp .gt 25, 3) := by decide +kernel
theorem dX10_finds_74 : decode cX10_finds 74 = .ok (.aload_n 0, 1) := by decide +kernel
theorem dX10_finds_75 : decode cX10_finds 75 = .ok (.getfield 173, 3) := by decide +kernel
theorem dX10_finds_78 : decode cX10_finds 78 = .ok (.ifCond .ne 18, 3) := by decide +kernel
theorem dX10_finds_81 : decode cX10_finds 81 = .ok (.aload_n 0, 1) := by decide +kernel
theorem dX10_finds_82 : decode cX10_finds 82 = .ok (.iload_n 2, 1) := by decide +kernel
theorem dX10_finds_83 : decode cX10_finds 83 = .ok (.iconst 0, 1) := by decide +kernel
theorem dX10_finds_84 : decode cX10_finds 84 = .ok (.iconst 0, 1) := by decide +kernel
theorem dX10_finds_85 : decode cX10_finds 85 = .ok (.iconst 0, 1) := by decide +kernel
theorem dX10_finds_86 : decode cX10_finds 86 = .ok (.iconst 0, 1) := by decide +kernel
theorem dX10_finds_87 : decode cX10_finds 87 = .ok (.invokevirtual 176, 3) := by decide +kernel
theorem dX10_finds_90 : decode cX10_finds 90 = .ok (.iinc 2 1, 3) := by decide +kernel
theorem dX10_finds_93 : decode cX10_finds 93 = .ok (.goto (-24), 3) := by decide +kernel
theorem dX10_finds_96 : decode cX10_finds 96 = .ok (.return_, 1) := by decide +kernel
theorem dX10_choose_0 : decode cX10_choose 0 = .ok (.iload_n 2, 1) := by decide +kernel
theorem dX10_choose_1 : decode cX10_choose 1 = .ok (.iload_n 1, 1) := by decide +kernel
theorem dX10_choose_2 : decode cX10_choose 2 = .ok (.if_icmp .ne 79, 3) := by decide +kernel
theorem dX10_choose_5 : decode cX10_choose 5 = .ok (.iload 4, 2) := by decide +kernel
theorem dX10_choose_7 : decode cX10_choose 7 = .ok (.aload_n 0, 1) := by decide +kernel
theorem dX10_choose_8 : decode cX10_choose 8 = .ok (.getfield 19, 3) := by decide +kernel
theorem dX10_choose_11 : decode cX10_choose 11 = .ok (.iload_n 1, 1) := by decide +kernel
theorem dX10_choose_12 : decode cX10_choose 12 = .ok (.iconst 1, 1) := by decide +kernel
theorem dX10_choose_13 : decode cX10_choose 13 = .ok (.isub, 1) := by decide +kernel
theorem dX10_choose_14 : decode cX10_choose 14 = .ok (.imul, 1) := by decide +kernel
theorem dX10_choose_15 : decode cX10_choose 15 = .ok (.isub, 1) := by decide +kernel
theorem dX10_choose_16 : decode cX10_choose 16 = .ok (.aload_n 0, 1) := by decide +kernel
theorem dX10_choose_17 : decode cX10_choose 17 = .ok (.getfield 16, 3) := by decide +kernel
theorem dX10_choose_20 : decode cX10_choose 20 = .ok (.if_icmp .ne 19, 3) := by decide +kernel
theorem dX10_choose_23 : decode cX10_choose 23 = .ok (.aload_n 0, 1) := by decide +kernel
theorem dX10_choose_24 : decode cX10_choose 24 = .ok (.getfield 173, 3) := by decide +kernel
theorem dX10_choose_27 : decode cX10_choose 27 = .ok (.ifCond .le 13, 3) := by decide +kernel
theorem dX10_choose_30 : decode cX10_choose 30 = .ok (.iload 5, 2) := by decide +kernel
theorem dX10_choose_32 : decode cX10_choose 32 = .ok (.aload_n 0, 1) := by decide +kernel
theorem dX10_choose_33 : decode cX10_choose 33 = .ok (.getfield 180, 3) := by decide +kernel
theorem dX10_choose_36 : decode cX10_choose 36 = .ok (.if_icmp .gt 4, 3) := by decide +kernel
theorem dX10_choose_39 : decode cX10_choose 39 = .ok (.return_, 1) := by decide +kernel
theorem dX10_choose_40 : decode cX10_choose 40 = .ok (.aload_n 0, 1) := by decide +kernel
theorem dX10_choose_41 : decode cX10_choose 41 = .ok (.iload_n 1, 1) := by decide +kernel
theorem dX10_choose_42 : decode cX10_choose 42 = .ok (.putfield 173, 3) := by decide +kernel
theorem dX10_choose_45 : decode cX10_choose 45 = .ok (.aload_n 0, 1) := by decide +kernel
theorem dX10_choose_46 : decode cX10_choose 46 = .ok (.iload 5, 2) := by decide +kernel
theorem dX10_choose_48 : decode cX10_choose 48 = .ok (.putfield 180, 3) := by decide +kernel
theorem dX10_choose_51 : decode cX10_choose 51 = .ok (.iconst 0, 1) := by decide +kernel
theorem dX10_choose_52 : decode cX10_choose 52 = .ok (.istore 6, 2) := by decide +kernel
theorem dX10_choose_54 : decode cX10_choose 54 = .ok (.iload 6, 2) := by decide +kernel
theorem dX10_choose_56 : decode cX10_choose 56 = .ok (.iload_n 1, 1) := by decide +kernel
theorem dX10_choose_57 : decode cX10_choose 57 = .ok (.if_icmp .ge 23, 3) := by decide +kernel
theorem dX10_choose_60 : decode cX10_choose 60 = .ok (.aload_n 0, 1) := by decide +kernel
theorem dX10_choose_61 : decode cX10_choose 61 = .ok (.getfield 117, 3) := by decide +kernel
theorem dX10_choose_64 : decode cX10_choose 64 = .ok (.iload 6, 2) := by decide +kernel
theorem dX10_choose_66 : decode cX10_choose 66 = .ok (.aload_n 0, 1) := by decide +kernel
theorem dX10_choose_67 : decode cX10_choose 67 = .ok (.getfield 114, 3) := by decide +kernel
theorem dX10_choose_70 : decode cX10_choose 70 = .ok (.iload 6, 2) := by decide +kernel
theorem dX10_choose_72 : decode cX10_choose 72 = .ok (.iaload, 1) := by decide +kernel
theorem dX10_choose_73 : decode cX10_choose 73 = .ok (.iastore, 1) := by decide +kernel
theorem dX10_choose_74 : decode cX10_choose 74 = .ok (.iinc 6 1, 3) := by decide +kernel
theorem dX10_choose_77 : decode cX10_choose 77 = .ok (.goto (-23), 3) := by decide +kernel
theorem dX10_choose_80 : decode cX10_choose 80 = .ok (.return_, 1) := by decide +kernel
theorem dX10_choose_81 : decode cX10_choose 81 = .ok (.iload_n 3, 1) := by decide +kernel
theorem dX10_choose_82 : decode cX10_choose 82 = .ok (.istore 6, 2) := by decide +kernel
theorem dX10_choose_84 : decode cX10_choose 84 = .ok (.iload 6, 2) := by decide +kernel
theorem dX10_choose_86 : decode cX10_choose 86 = .ok (.aload_n 0, 1) := by decide +kernel
theorem dX10_choose_87 : decode cX10_choose 87 = .ok (.getfield 170, 3) := by decide +kernel
theorem dX10_choose_90 : decode cX10_choose 90 = .ok (.if_icmp .ge 98, 3) := by decide +kernel
theorem dX10_choose_93 : decode cX10_choose 93 = .ok (.iload 4, 2) := by decide +kernel
theorem dX10_choose_95 : decode cX10_choose 95 = .ok (.aload_n 0, 1) := by decide +kernel
theorem dX10_choose_96 : decode cX10_choose 96 = .ok (.getfield 51, 3) := by decide +kernel
theorem dX10_choose_99 : decode cX10_choose 99 = .ok (.aload_n 0, 1) := by decide +kernel
theorem dX10_choose_100 : decode cX10_choose 100 = .ok (.getfield 111, 3) := by decide +kernel
theorem dX10_choose_103 : decode cX10_choose 103 = .ok (.iload 6, 2) := by decide +kernel
theorem dX10_choose_105 : decode cX10_choose 105 = .ok (.iaload, 1) := by decide +kernel
theorem dX10_choose_106 : decode cX10_choose 106 = .ok (.iaload, 1) := by decide +kernel
theorem dX10_choose_107 : decode cX10_choose 107 = .ok (.iadd, 1) := by decide +kernel
theorem dX10_choose_108 : decode cX10_choose 108 = .ok (.aload_n 0, 1) := by decide +kernel
theorem dX10_choose_109 : decode cX10_choose 109 = .ok (.getfield 16, 3) := by decide +kernel
theorem dX10_choose_112 : decode cX10_choose 112 = .ok (.aload_n 0, 1) := by decide +kernel
theorem dX10_choose_113 : decode cX10_choose 113 = .ok (.getfield 19, 3) := by decide +kernel
theorem dX10_choose_116 : decode cX10_choose 116 = .ok (.iload_n 1, 1) := by decide +kernel
theorem dX10_choose_117 : decode cX10_choose 117 = .ok (.iconst 1, 1) := by decide +kernel
theorem dX10_choose_118 : decode cX10_choose 118 = .ok (.isub, 1) := by decide +kernel
theorem dX10_choose_119 : decode cX10_choose 119 = .ok (.imul, 1) := by decide +kernel
theorem dX10_choose_120 : decode cX10_choose 120 = .ok (.iadd, 1) := by decide +kernel
theorem dX10_choose_121 : decode cX10_choose 121 = .ok (.if_icmp .le 6, 3) := by decide +kernel
theorem dX10_choose_124 : decode cX10_choose 124 = .ok (.goto 58, 3) := by decide +kernel
theorem dX10_choose_127 : decode cX10_choose 127 = .ok (.aload_n 0, 1) := by decide +kernel
theorem dX10_choose_128 : decode cX10_choose 128 = .ok (.getfield 114, 3) := by decide +kernel
theorem dX10_choose_131 : decode cX10_choose 131 = .ok (.iload_n 2, 1) := by decide +kernel
theorem dX10_choose_132 : decode cX10_choose 132 = .ok (.aload_n 0, 1) := by decide +kernel
theorem dX10_choose_133 : decode cX10_choose 133 = .ok (.getfield 111, 3) := by decide +kernel
theorem dX10_choose_136 : decode cX10_choose 136 = .ok (.iload 6, 2) := by decide +kernel
theorem dX10_choose_138 : decode cX10_choose 138 = .ok (.iaload, 1) := by decide +kernel
theorem dX10_choose_139 : decode cX10_choose 139 = .ok (.iastore, 1) := by decide +kernel
theorem dX10_choose_140 : decode cX10_choose 140 = .ok (.aload_n 0, 1) := by decide +kernel
theorem dX10_choose_141 : decode cX10_choose 141 = .ok (.iload_n 1, 1) := by decide +kernel
theorem dX10_choose_142 : decode cX10_choose 142 = .ok (.iload_n 2, 1) := by decide +kernel
theorem dX10_choose_143 : decode cX10_choose 143 = .ok (.iconst 1, 1) := by decide +kernel
theorem dX10_choose_144 : decode cX10_choose 144 = .ok (.iadd, 1) := by decide +kernel
theorem dX10_choose_145 : decode cX10_choose 145 = .ok (.iload 6, 2) := by decide +kernel
theorem dX10_choose_147 : decode cX10_choose 147 = .ok (.iconst 1, 1) := by decide +kernel
theorem dX10_choose_148 : decode cX10_choose 148 = .ok (.iadd, 1) := by decide +kernel
theorem dX10_choose_149 : decode cX10_choose 149 = .ok (.iload 4, 2) := by decide +kernel
theorem dX10_choose_151 : decode cX10_choose 151 = .ok (.aload_n 0, 1) := by decide +kernel
theorem dX10_choose_152 : decode cX10_choose 152 = .ok (.getfield 51, 3) := by decide +kernel
theorem dX10_choose_155 : decode cX10_choose 155 = .ok (.aload_n 0, 1) := by decide +kernel
theorem dX10_choose_156 : decode cX10_choose 156 = .ok (.getfield 111, 3) := by decide +kernel
theorem dX10_choose_159 : decode cX10_choose 159 = .ok (.iload 6, 2) := by decide +kernel
theorem dX10_choose_161 : decode cX10_choose 161 = .ok (.iaload, 1) := by decide +kernel
theorem dX10_choose_162 : decode cX10_choose 162 = .ok (.iaload, 1) := by decide +kernel
theorem dX10_choose_163 : decode cX10_choose 163 = .ok (.iadd, 1) := by decide +kernel
theorem dX10_choose_164 : decode cX10_choose 164 = .ok (.iload 5, 2) := by decide +kernel
theorem dX10_choose_166 : decode cX10_choose 166 = .ok (.aload_n 0, 1) := by decide +kernel
theorem dX10_choose_167 : decode cX10_choose 167 = .ok (.getfield 57, 3) := by decide +kernel
theorem dX10_choose_170 : decode cX10_choose 170 = .ok (.aload_n 0, 1) := by decide +kernel
theorem dX10_choose_171 : decode cX10_choose 171 = .ok (.getfield 111, 3) := by decide +kernel
theorem dX10_choose_174 : decode cX10_choose 174 = .ok (.iload 6, 2) := by decide +kernel
theorem dX10_choose_176 : decode cX10_choose 176 = .ok (.iaload, 1) := by decide +kernel
theorem dX10_choose_177 : decode cX10_choose 177 = .ok (.iaload, 1) := by decide +kernel
theorem dX10_choose_178 : decode cX10_choose 178 = .ok (.iadd, 1) := by decide +kernel
theorem dX10_choose_179 : decode cX10_choose 179 = .ok (.invokevirtual 176, 3) := by decide +kernel
theorem dX10_choose_182 : decode cX10_choose 182 = .ok (.iinc 6 1, 3) := by decide +kernel
theorem dX10_choose_185 : decode cX10_choose 185 = .ok (.goto (-101), 3) := by decide +kernel
theorem dX10_choose_188 : decode cX10_choose 188 = .ok (.return_, 1) := by decide +kernel
theorem dX10_gradeOf_0 : decode cX10_gradeOf 0 = .ok (.iconst 0, 1) := by decide +kernel
theorem dX10_gradeOf_1 : decode cX10_gradeOf 1 = .ok (.istore_n 2, 1) := by decide +kernel
theorem dX10_gradeOf_2 : decode cX10_gradeOf 2 = .ok (.bipush 9, 2) := by decide +kernel
theorem dX10_gradeOf_4 : decode cX10_gradeOf 4 = .ok (.istore_n 3, 1) := by decide +kernel
theorem dX10_gradeOf_5 : decode cX10_gradeOf 5 = .ok (.iconst 0, 1) := by decide +kernel
theorem dX10_gradeOf_6 : decode cX10_gradeOf 6 = .ok (.istore 4, 2) := by decide +kernel
theorem dX10_gradeOf_8 : decode cX10_gradeOf 8 = .ok (.iload 4, 2) := by decide +kernel
theorem dX10_gradeOf_10 : decode cX10_gradeOf 10 = .ok (.iload_n 1, 1) := by decide +kernel
theorem dX10_gradeOf_11 : decode cX10_gradeOf 11 = .ok (.if_icmp .ge 43, 3) := by decide +kernel
theorem dX10_gradeOf_14 : decode cX10_gradeOf 14 = .ok (.iload_n 2, 1) := by decide +kernel
theorem dX10_gradeOf_15 : decode cX10_gradeOf 15 = .ok (.aload_n 0, 1) := by decide +kernel
theorem dX10_gradeOf_16 : decode cX10_gradeOf 16 = .ok (.getfield 54, 3) := by decide +kernel
theorem dX10_gradeOf_19 : decode cX10_gradeOf 19 = .ok (.aload_n 0, 1) := by decide +kernel
theorem dX10_gradeOf_20 : decode cX10_gradeOf 20 = .ok (.getfield 117, 3) := by decide +kernel
theorem dX10_gradeOf_23 : decode cX10_gradeOf 23 = .ok (.iload 4, 2) := by decide +kernel
theorem dX10_gradeOf_25 : decode cX10_gradeOf 25 = .ok (.iaload, 1) := by decide +kernel
theorem dX10_gradeOf_26 : decode cX10_gradeOf 26 = .ok (.iaload, 1) := by decide +kernel
theorem dX10_gradeOf_27 : decode cX10_gradeOf 27 = .ok (.invokestatic 183, 3) := by decide +kernel
theorem dX10_gradeOf_30 : decode cX10_gradeOf 30 = .ok (.istore_n 2, 1) := by decide +kernel
theorem dX10_gradeOf_31 : decode cX10_gradeOf 31 = .ok (.iload_n 3, 1) := by decide +kernel
theorem dX10_gradeOf_32 : decode cX10_gradeOf 32 = .ok (.aload_n 0, 1) := by decide +kernel
theorem dX10_gradeOf_33 : decode cX10_gradeOf 33 = .ok (.getfield 57, 3) := by decide +kernel
theorem dX10_gradeOf_36 : decode cX10_gradeOf 36 = .ok (.aload_n 0, 1) := by decide +kernel
theorem dX10_gradeOf_37 : decode cX10_gradeOf 37 = .ok (.getfield 117, 3) := by decide +kernel
theorem dX10_gradeOf_40 : decode cX10_gradeOf 40 = .ok (.iload 4, 2) := by decide +kernel
theorem dX10_gradeOf_42 : decode cX10_gradeOf 42 = .ok (.iaload, 1) := by decide +kernel
theorem dX10_gradeOf_43 : decode cX10_gradeOf 43 = .ok (.iaload, 1) := by decide +kernel
theorem dX10_gradeOf_44 : decode cX10_gradeOf 44 = .ok (.invokestatic 189, 3) := by decide +kernel
theorem dX10_gradeOf_47 : decode cX10_gradeOf 47 = .ok (.istore_n 3, 1) := by decide +kernel
theorem dX10_gradeOf_48 : decode cX10_gradeOf 48 = .ok (.iinc 4 1, 3) := by decide +kernel
theorem dX10_gradeOf_51 : decode cX10_gradeOf 51 = .ok (.goto (-43), 3) := by decide +kernel
theorem dX10_gradeOf_54 : decode cX10_gradeOf 54 = .ok (.iload_n 2, 1) := by decide +kernel
theorem dX10_gradeOf_55 : decode cX10_gradeOf 55 = .ok (.iconst 2, 1) := by decide +kernel
theorem dX10_gradeOf_56 : decode cX10_gradeOf 56 = .ok (.if_icmp .gt 11, 3) := by decide +kernel
theorem dX10_gradeOf_59 : decode cX10_gradeOf 59 = .ok (.iload_n 3, 1) := by decide +kernel
theorem dX10_gradeOf_60 : decode cX10_gradeOf 60 = .ok (.bipush 7, 2) := by decide +kernel
theorem dX10_gradeOf_62 : decode cX10_gradeOf 62 = .ok (.if_icmp .lt 5, 3) := by decide +kernel
theorem dX10_gradeOf_65 : decode cX10_gradeOf 65 = .ok (.iconst 1, 1) := by decide +kernel
theorem dX10_gradeOf_66 : decode cX10_gradeOf 66 = .ok (.ireturn, 1) := by decide +kernel
theorem dX10_gradeOf_67 : decode cX10_gradeOf 67 = .ok (.iload_n 2, 1) := by decide +kernel
theorem dX10_gradeOf_68 : decode cX10_gradeOf 68 = .ok (.iconst 4, 1) := by decide +kernel
theorem dX10_gradeOf_69 : decode cX10_gradeOf 69 = .ok (.if_icmp .gt 10, 3) := by decide +kernel
theorem dX10_gradeOf_72 : decode cX10_gradeOf 72 = .ok (.iload_n 3, 1) := by decide +kernel
theorem dX10_gradeOf_73 : decode cX10_gradeOf 73 = .ok (.iconst 4, 1) := by decide +kernel
theorem dX10_gradeOf_74 : decode cX10_gradeOf 74 = .ok (.if_icmp .lt 5, 3) := by decide +kernel
theorem dX10_gradeOf_77 : decode cX10_gradeOf 77 = .ok (.iconst 2, 1) := by decide +kernel
theorem dX10_gradeOf_78 : decode cX10_gradeOf 78 = .ok (.ireturn, 1) := by decide +kernel
theorem dX10_gradeOf_79 : decode cX10_gradeOf 79 = .ok (.iload_n 2, 1) := by decide +kernel
theorem dX10_gradeOf_80 : decode cX10_gradeOf 80 = .ok (.bipush 6, 2) := by decide +kernel
theorem dX10_gradeOf_82 : decode cX10_gradeOf 82 = .ok (.if_icmp .gt 7, 3) := by decide +kernel
theorem dX10_gradeOf_85 : decode cX10_gradeOf 85 = .ok (.iconst 3, 1) := by decide +kernel
theorem dX10_gradeOf_86 : decode cX10_gradeOf 86 = .ok (.goto 4, 3) := by decide +kernel
theorem dX10_gradeOf_89 : decode cX10_gradeOf 89 = .ok (.iconst 4, 1) := by decide +kernel
theorem dX10_gradeOf_90 : decode cX10_gradeOf 90 = .ok (.ireturn, 1) := by decide +kernel
theorem dX10_join_0 : decode cX10_join 0 = .ok (.aload_n 0, 1) := by decide +kernel
theorem dX10_join_1 : decode cX10_join 1 = .ok (.iconst 0, 1) := by decide +kernel
theorem dX10_join_2 : decode cX10_join 2 = .ok (.putfield 1, 3) := by decide +kernel
theorem dX10_join_5 : decode cX10_join 5 = .ok (.aload_n 0, 1) := by decide +kernel
theorem dX10_join_6 : decode cX10_join 6 = .ok (.iload_n 1, 1) := by decide +kernel
theorem dX10_join_7 : decode cX10_join 7 = .ok (.invokevirtual 143, 3) := by decide +kernel
theorem dX10_join_10 : decode cX10_join 10 = .ok (.ifCond .ne 9, 3) := by decide +kernel
theorem dX10_join_13 : decode cX10_join 13 = .ok (.aload_n 0, 1) := by decide +kernel
theorem dX10_join_14 : decode cX10_join 14 = .ok (.iconst 1, 1) := by decide +kernel
theorem dX10_join_15 : decode cX10_join 15 = .ok (.invokevirtual 136, 3) := by decide +kernel
theorem dX10_join_18 : decode cX10_join 18 = .ok (.ireturn, 1) := by decide +kernel
theorem dX10_join_19 : decode cX10_join 19 = .ok (.aload_n 0, 1) := by decide +kernel
theorem dX10_join_20 : decode cX10_join 20 = .ok (.iload_n 1, 1) := by decide +kernel
theorem dX10_join_21 : decode cX10_join 21 = .ok (.invokevirtual 192, 3) := by decide +kernel
theorem dX10_join_24 : decode cX10_join 24 = .ok (.aload_n 0, 1) := by decide +kernel
theorem dX10_join_25 : decode cX10_join 25 = .ok (.getfield 173, 3) := by decide +kernel
theorem dX10_join_28 : decode cX10_join 28 = .ok (.ifCond .ne 9, 3) := by decide +kernel
theorem dX10_join_31 : decode cX10_join 31 = .ok (.aload_n 0, 1) := by decide +kernel
theorem dX10_join_32 : decode cX10_join 32 = .ok (.iconst 5, 1) := by decide +kernel
theorem dX10_join_33 : decode cX10_join 33 = .ok (.invokevirtual 136, 3) := by decide +kernel
theorem dX10_join_36 : decode cX10_join 36 = .ok (.ireturn, 1) := by decide +kernel
theorem dX10_join_37 : decode cX10_join 37 = .ok (.aload_n 0, 1) := by decide +kernel
theorem dX10_join_38 : decode cX10_join 38 = .ok (.getfield 196, 3) := by decide +kernel
theorem dX10_join_41 : decode cX10_join 41 = .ok (.bipush 120, 2) := by decide +kernel
theorem dX10_join_43 : decode cX10_join 43 = .ok (.if_icmp .ne 9, 3) := by decide +kernel
theorem dX10_join_46 : decode cX10_join 46 = .ok (.aload_n 0, 1) := by decide +kernel
theorem dX10_join_47 : decode cX10_join 47 = .ok (.iconst 3, 1) := by decide +kernel
theorem dX10_join_48 : decode cX10_join 48 = .ok (.invokevirtual 136, 3) := by decide +kernel
theorem dX10_join_51 : decode cX10_join 51 = .ok (.ireturn, 1) := by decide +kernel
theorem dX10_join_52 : decode cX10_join 52 = .ok (.aload_n 0, 1) := by decide +kernel
theorem dX10_join_53 : decode cX10_join 53 = .ok (.getfield 66, 3) := by decide +kernel
theorem dX10_join_56 : decode cX10_join 56 = .ok (.aload_n 0, 1) := by decide +kernel
theorem dX10_join_57 : decode cX10_join 57 = .ok (.getfield 196, 3) := by decide +kernel
theorem dX10_join_60 : decode cX10_join 60 = .ok (.iload_n 1, 1) := by decide +kernel
theorem dX10_join_61 : decode cX10_join 61 = .ok (.iastore, 1) := by decide +kernel
theorem dX10_join_62 : decode cX10_join 62 = .ok (.aload_n 0, 1) := by decide +kernel
theorem dX10_join_63 : decode cX10_join 63 = .ok (.getfield 69, 3) := by decide +kernel
theorem dX10_join_66 : decode cX10_join 66 = .ok (.aload_n 0, 1) := by decide +kernel
theorem dX10_join_67 : decode cX10_join 67 = .ok (.getfield 196, 3) := by decide +kernel
theorem dX10_join_70 : decode cX10_join 70 = .ok (.aload_n 0, 1) := by decide +kernel
theorem dX10_join_71 : decode cX10_join 71 = .ok (.aload_n 0, 1) := by decide +kernel
theorem dX10_join_72 : decode cX10_join 72 = .ok (.getfield 173, 3) := by decide +kernel
theorem dX10_join_75 : decode cX10_join 75 = .ok (.invokevirtual 199, 3) := by decide +kernel
theorem dX10_join_78 : decode cX10_join 78 = .ok (.iastore, 1) := by decide +kernel
theorem dX10_join_79 : decode cX10_join 79 = .ok (.aload_n 0, 1) := by decide +kernel
theorem dX10_join_80 : decode cX10_join 80 = .ok (.getfield 72, 3) := by decide +kernel
theorem dX10_join_83 : decode cX10_join 83 = .ok (.aload_n 0, 1) := by decide +kernel
theorem dX10_join_84 : decode cX10_join 84 = .ok (.getfield 196, 3) := by decide +kernel
theorem dX10_join_87 : decode cX10_join 87 = .ok (.aload_n 0, 1) := by decide +kernel
theorem dX10_join_88 : decode cX10_join 88 = .ok (.getfield 154, 3) := by decide +kernel
theorem dX10_join_91 : decode cX10_join 91 = .ok (.iastore, 1) := by decide +kernel
theorem dX10_join_92 : decode cX10_join 92 = .ok (.aload_n 0, 1) := by decide +kernel
theorem dX10_join_93 : decode cX10_join 93 = .ok (.getfield 75, 3) := by decide +kernel
theorem dX10_join_96 : decode cX10_join 96 = .ok (.aload_n 0, 1) := by decide +kernel
theorem dX10_join_97 : decode cX10_join 97 = .ok (.getfield 196, 3) := by decide +kernel
theorem dX10_join_100 : decode cX10_join 100 = .ok (.aload_n 0, 1) := by decide +kernel
theorem dX10_join_101 : decode cX10_join 101 = .ok (.getfield 173, 3) := by decide +kernel
theorem dX10_join_104 : decode cX10_join 104 = .ok (.iastore, 1) := by decide +kernel
theorem dX10_join_105 : decode cX10_join 105 = .ok (.aload_n 0, 1) := by decide +kernel
theorem dX10_join_106 : decode cX10_join 106 = .ok (.getfield 78, 3) := by decide +kernel
theorem dX10_join_109 : decode cX10_join 109 = .ok (.aload_n 0, 1) := by decide +kernel
theorem dX10_join_110 : decode cX10_join 110 = .ok (.getfield 196, 3) := by decide +kernel
theorem dX10_join_113 : decode cX10_join 113 = .ok (.bipush (-2), 2) := by decide +kernel
theorem dX10_join_115 : decode cX10_join 115 = .ok (.iastore, 1) := by decide +kernel
theorem dX10_join_116 : decode cX10_join 116 = .ok (.iconst 0, 1) := by decide +kernel
theorem dX10_join_117 : decode cX10_join 117 = .ok (.istore_n 2, 1) := by decide +kernel
theorem dX10_join_118 : decode cX10_join 118 = .ok (.iload_n 2, 1) := by decide +kernel
theorem dX10_join_119 : decode cX10_join 119 = .ok (.aload_n 0, 1) := by decide +kernel
theorem dX10_join_120 : decode cX10_join 120 = .ok (.getfield 173, 3) := by decide +kernel
theorem dX10_join_123 : decode cX10_join 123 = .ok (.if_icmp .ge 43, 3) := by decide +kernel
theorem dX10_join_126 : decode cX10_join 126 = .ok (.aload_n 0, 1) := by decide +kernel
theorem dX10_join_127 : decode cX10_join 127 = .ok (.getfield 81, 3) := by decide +kernel
theorem dX10_join_130 : decode cX10_join 130 = .ok (.iconst 4, 1) := by decide +kernel
theorem dX10_join_131 : decode cX10_join 131 = .ok (.aload_n 0, 1) := by decide +kernel
theorem dX10_join_132 : decode cX10_join 132 = .ok (.getfield 196, 3) := by decide +kernel
theorem dX10_join_135 : decode cX10_join 135 = .ok (.imul, 1) := by decide +kernel
theorem dX10_join_136 : decode cX10_join 136 = .ok (.iload_n 2, 1) := by decide +kernel
theorem dX10_join_137 : decode cX10_join 137 = .ok (.iadd, 1) := by decide +kernel
theorem dX10_join_138 : decode cX10_join 138 = .ok (.aload_n 0, 1) := by decide +kernel
theorem dX10_join_139 : decode cX10_join 139 = .ok (.getfield 117, 3) := by decide +kernel
theorem dX10_join_142 : decode cX10_join 142 = .ok (.iload_n 2, 1) := by decide +kernel
theorem dX10_join_143 : decode cX10_join 143 = .ok (.iaload, 1) := by decide +kernel
theorem dX10_join_144 : decode cX10_join 144 = .ok (.iastore, 1) := by decide +kernel
theorem dX10_join_145 : decode cX10_join 145 = .ok (.aload_n 0, 1) := by decide +kernel
theorem dX10_join_146 : decode cX10_join 146 = .ok (.getfield 63, 3) := by decide +kernel
theorem dX10_join_149 : decode cX10_join 149 = .ok (.aload_n 0, 1) := by decide +kernel
theorem dX10_join_150 : decode cX10_join 150 = .ok (.getfield 117, 3) := by decide +kernel
theorem dX10_join_153 : decode cX10_join 153 = .ok (.iload_n 2, 1) := by decide +kernel
theorem dX10_join_154 : decode cX10_join 154 = .ok (.iaload, 1) := by decide +kernel
theorem dX10_join_155 : decode cX10_join 155 = .ok (.aload_n 0, 1) := by decide +kernel
theorem dX10_join_156 : decode cX10_join 156 = .ok (.getfield 196, 3) := by decide +kernel
theorem dX10_join_159 : decode cX10_join 159 = .ok (.iastore, 1) := by decide +kernel
theorem dX10_join_160 : decode cX10_join 160 = .ok (.iinc 2 1, 3) := by decide +kernel
theorem dX10_join_163 : decode cX10_join 163 = .ok (.goto (-45), 3) := by decide +kernel
theorem dX10_join_166 : decode cX10_join 166 = .ok (.aload_n 0, 1) := by decide +kernel
theorem dX10_join_167 : decode cX10_join 167 = .ok (.dup, 1) := by decide +kernel
theorem dX10_join_168 : decode cX10_join 168 = .ok (.getfield 196, 3) := by decide +kernel
theorem dX10_join_171 : decode cX10_join 171 = .ok (.iconst 1, 1) := by decide +kernel
theorem dX10_join_172 : decode cX10_join 172 = .ok (.iadd, 1) := by decide +kernel
theorem dX10_join_173 : decode cX10_join 173 = .ok (.putfield 196, 3) := by decide +kernel
theorem dX10_join_176 : decode cX10_join 176 = .ok (.aload_n 0, 1) := by decide +kernel
theorem dX10_join_177 : decode cX10_join 177 = .ok (.aload_n 0, 1) := by decide +kernel
theorem dX10_join_178 : decode cX10_join 178 = .ok (.getfield 196, 3) := by decide +kernel
theorem dX10_join_181 : decode cX10_join 181 = .ok (.iconst 1, 1) := by decide +kernel
theorem dX10_join_182 : decode cX10_join 182 = .ok (.isub, 1) := by decide +kernel
theorem dX10_join_183 : decode cX10_join 183 = .ok (.invokevirtual 140, 3) := by decide +kernel
theorem dX10_join_186 : decode cX10_join 186 = .ok (.ireturn, 1) := by decide +kernel
theorem dX10_could_0 : decode cX10_could 0 = .ok (.aload_n 0, 1) := by decide +kernel
theorem dX10_could_1 : decode cX10_could 1 = .ok (.iconst 0, 1) := by decide +kernel
theorem dX10_could_2 : decode cX10_could 2 = .ok (.putfield 1, 3) := by decide +kernel
theorem dX10_could_5 : decode cX10_could 5 = .ok (.aload_n 0, 1) := by decide +kernel
theorem dX10_could_6 : decode cX10_could 6 = .ok (.iload_n 1, 1) := by decide +kernel
theorem dX10_could_7 : decode cX10_could 7 = .ok (.invokevirtual 143, 3) := by decide +kernel
theorem dX10_could_10 : decode cX10_could 10 = .ok (.ifCond .ne 5, 3) := by decide +kernel
theorem dX10_could_13 : decode cX10_could 13 = .ok (.iconst (-1), 1) := by decide +kernel
theorem dX10_could_14 : decode cX10_could 14 = .ok (.ireturn, 1) := by decide +kernel
theorem dX10_could_15 : decode cX10_could 15 = .ok (.aload_n 0, 1) := by decide +kernel
theorem dX10_could_16 : decode cX10_could 16 = .ok (.iload_n 1, 1) := by decide +kernel
theorem dX10_could_17 : decode cX10_could 17 = .ok (.invokevirtual 192, 3) := by decide +kernel
theorem dX10_could_20 : decode cX10_could 20 = .ok (.aload_n 0, 1) := by decide +kernel
theorem dX10_could_21 : decode cX10_could 21 = .ok (.getfield 173, 3) := by decide +kernel
theorem dX10_could_24 : decode cX10_could 24 = .ok (.ifCond .ne 8, 3) := by decide +kernel
theorem dX10_could_27 : decode cX10_could 27 = .ok (.bipush (-2), 2) := by decide +kernel
theorem dX10_could_29 : decode cX10_could 29 = .ok (.goto 7, 3) := by decide +kernel
theorem dX10_could_32 : decode cX10_could 32 = .ok (.aload_n 0, 1) := by decide +kernel
theorem dX10_could_33 : decode cX10_could 33 = .ok (.getfield 173, 3) := by decide +kernel
theorem dX10_could_36 : decode cX10_could 36 = .ok (.ireturn, 1) := by decide +kernel
theorem dX10_most_0 : decode cX10_most 0 = .ok (.aload_n 0, 1) := by decide +kernel
theorem dX10_most_1 : decode cX10_most 1 = .ok (.iconst 0, 1) := by decide +kernel
theorem dX10_most_2 : decode cX10_most 2 = .ok (.putfield 1, 3) := by decide +kernel
theorem dX10_most_5 : decode cX10_most 5 = .ok (.aload_n 0, 1) := by decide +kernel
theorem dX10_most_6 : decode cX10_most 6 = .ok (.iload_n 1, 1) := by decide +kernel
theorem dX10_most_7 : decode cX10_most 7 = .ok (.invokevirtual 143, 3) := by decide +kernel
theorem dX10_most_10 : decode cX10_most 10 = .ok (.ifCond .ne 9, 3) := by decide +kernel
theorem dX10_most_13 : decode cX10_most 13 = .ok (.aload_n 0, 1) := by decide +kernel
theorem dX10_most_14 : decode cX10_most 14 = .ok (.iconst 1, 1) := by decide +kernel
theorem dX10_most_15 : decode cX10_most 15 = .ok (.invokevirtual 136, 3) := by decide +kernel
theorem dX10_most_18 : decode cX10_most 18 = .ok (.ireturn, 1) := by decide +kernel
theorem dX10_most_19 : decode cX10_most 19 = .ok (.iconst 0, 1) := by decide +kernel
theorem dX10_most_20 : decode cX10_most 20 = .ok (.istore_n 2, 1) := by decide +kernel
theorem dX10_most_21 : decode cX10_most 21 = .ok (.iconst 0, 1) := by decide +kernel
theorem dX10_most_22 : decode cX10_most 22 = .ok (.istore_n 3, 1) := by decide +kernel
theorem dX10_most_23 : decode cX10_most 23 = .ok (.iload_n 3, 1) := by decide +kernel
theorem dX10_most_24 : decode cX10_most 24 = .ok (.aload_n 0, 1) := by decide +kernel
theorem dX10_most_25 : decode cX10_most 25 = .ok (.getfield 129, 3) := by decide +kernel
theorem dX10_most_28 : decode cX10_most 28 = .ok (.if_icmp .ge 44, 3) := by decide +kernel
theorem dX10_most_31 : decode cX10_most 31 = .ok (.aload_n 0, 1) := by decide +kernel
theorem dX10_most_32 : decode cX10_most 32 = .ok (.iload_n 1, 1) := by decide +kernel
theorem dX10_most_33 : decode cX10_most 33 = .ok (.iload_n 3, 1) := by decide +kernel
theorem dX10_most_34 : decode cX10_most 34 = .ok (.invokevirtual 166, 3) := by decide +kernel
theorem dX10_most_37 : decode cX10_most 37 = .ok (.ifCond .ne 6, 3) := by decide +kernel
theorem dX10_most_40 : decode cX10_most 40 = .ok (.goto 26, 3) := by decide +kernel
theorem dX10_most_43 : decode cX10_most 43 = .ok (.iload_n 2, 1) := by decide +kernel
theorem dX10_most_44 : decode cX10_most 44 = .ok (.bipush 12, 2) := by decide +kernel
theorem dX10_most_46 : decode cX10_most 46 = .ok (.if_icmp .ne 10, 3) := by decide +kernel
theorem dX10_most_49 : decode cX10_most 49 = .ok (.aload_n 0, 1) := by decide +kernel
theorem dX10_most_50 : decode cX10_most 50 = .ok (.bipush 6, 2) := by decide +kernel
theorem dX10_most_52 : decode cX10_most 52 = .ok (.invokevirtual 136, 3) := by decide +kernel
theorem dX10_most_55 : decode cX10_most 55 = .ok (.ireturn, 1) := by decide +kernel
theorem dX10_most_56 : decode cX10_most 56 = .ok (.aload_n 0, 1) := by decide +kernel
theorem dX10_most_57 : decode cX10_most 57 = .ok (.getfield 111, 3) := by decide +kernel
theorem dX10_most_60 : decode cX10_most 60 = .ok (.iload_n 2, 1) := by decide +kernel
theorem dX10_most_61 : decode cX10_most 61 = .ok (.iload_n 3, 1) := by decide +kernel
theorem dX10_most_62 : decode cX10_most 62 = .ok (.iastore, 1) := by decide +kernel
theorem dX10_most_63 : decode cX10_most 63 = .ok (.iinc 2 1, 3) := by decide +kernel
theorem dX10_most_66 : decode cX10_most 66 = .ok (.iinc 3 1, 3) := by decide +kernel
theorem dX10_most_69 : decode cX10_most 69 = .ok (.goto (-46), 3) := by decide +kernel
theorem dX10_most_72 : decode cX10_most 72 = .ok (.iconst 0, 1) := by decide +kernel
theorem dX10_most_73 : decode cX10_most 73 = .ok (.istore_n 3, 1) := by decide +kernel
theorem dX10_most_74 : decode cX10_most 74 = .ok (.iload_n 3, 1) := by decide +kernel
theorem dX10_most_75 : decode cX10_most 75 = .ok (.iconst 1, 1) := by decide +kernel
theorem dX10_most_76 : decode cX10_most 76 = .ok (.iload_n 2, 1) := by decide +kernel
theorem dX10_most_77 : decode cX10_most 77 = .ok (.ishl, 1) := by decide +kernel
theorem dX10_most_78 : decode cX10_most 78 = .ok (.if_icmp .ge 113, 3) := by decide +kernel
theorem dX10_most_81 : decode cX10_most 81 = .ok (.iconst 0, 1) := by decide +kernel
theorem dX10_most_82 : decode cX10_most 82 = .ok (.istore 4, 2) := by decide +kernel
theorem dX10_most_84 : decode cX10_most 84 = .ok (.iload_n 3, 1) := by decide +kernel
theorem dX10_most_85 : decode cX10_most 85 = .ok (.iload_n 3, 1) := by decide +kernel
theorem dX10_most_86 : decode cX10_most 86 = .ok (.ineg, 1) := by decide +kernel
theorem dX10_most_87 : decode cX10_most 87 = .ok (.iand, 1) := by decide +kernel
theorem dX10_most_88 : decode cX10_most 88 = .ok (.istore 5, 2) := by decide +kernel
theorem dX10_most_90 : decode cX10_most 90 = .ok (.iload_n 3, 1) := by decide +kernel
theorem dX10_most_91 : decode cX10_most 91 = .ok (.ifCond .eq 14, 3) := by decide +kernel
theorem dX10_most_94 : decode cX10_most 94 = .ok (.aload_n 0, 1) := by decide +kernel
theorem dX10_most_95 : decode cX10_most 95 = .ok (.getfield 120, 3) := by decide +kernel
theorem dX10_most_98 : decode cX10_most 98 = .ok (.iload_n 3, 1) := by decide +kernel
theorem dX10_most_99 : decode cX10_most 99 = .ok (.iload 5, 2) := by decide +kernel
theorem dX10_most_101 : decode cX10_most 101 = .ok (.ixor, 1) := by decide +kernel
theorem dX10_most_102 : decode cX10_most 102 = .ok (.iaload, 1) := by decide +kernel
theorem dX10_most_103 : decode cX10_most 103 = .ok (.istore 4, 2) := by decide +kernel
theorem dX10_most_105 : decode cX10_most 105 = .ok (.iload_n 3, 1) := by decide +kernel
theorem dX10_most_106 : decode cX10_most 106 = .ok (.iload 5, 2) := by decide +kernel
theorem dX10_most_108 : decode cX10_most 108 = .ok (.ixor, 1) := by decide +kernel
theorem dX10_most_109 : decode cX10_most 109 = .ok (.istore 6, 2) := by decide +kernel
theorem dX10_most_111 : decode cX10_most 111 = .ok (.iload_n 3, 1) := by decide +kernel
theorem dX10_most_112 : decode cX10_most 112 = .ok (.ifCond .eq 65, 3) := by decide +kernel
theorem dX10_most_115 : decode cX10_most 115 = .ok (.iload 6, 2) := by decide +kernel
theorem dX10_most_117 : decode cX10_most 117 = .ok (.ifCond .lt 60, 3) := by decide +kernel
theorem dX10_most_120 : decode cX10_most 120 = .ok (.aload_n 0, 1) := by decide +kernel
theorem dX10_most_121 : decode cX10_most 121 = .ok (.iload 6, 2) := by decide +kernel
theorem dX10_most_123 : decode cX10_most 123 = .ok (.iload 5, 2) := by decide +kernel
theorem dX10_most_125 : decode cX10_most 125 = .ok (.ior, 1) := by decide +kernel
theorem dX10_most_126 : decode cX10_most 126 = .ok (.iload_n 2, 1) := by decide +kernel
theorem dX10_most_127 : decode cX10_most 127 = .ok (.invokevirtual 202, 3) := by decide +kernel
theorem dX10_most_130 : decode cX10_most 130 = .ok (.ifCond .eq 24, 3) := by decide +kernel
theorem dX10_most_133 : decode cX10_most 133 = .ok (.iload 4, 2) := by decide +kernel
theorem dX10_most_135 : decode cX10_most 135 = .ok (.iconst 1, 1) := by decide +kernel
theorem dX10_most_136 : decode cX10_most 136 = .ok (.aload_n 0, 1) := by decide +kernel
theorem dX10_most_137 : decode cX10_most 137 = .ok (.getfield 120, 3) := by decide +kernel
theorem dX10_most_140 : decode cX10_most 140 = .ok (.iload_n 3, 1) := by decide +kernel
theorem dX10_most_141 : decode cX10_most 141 = .ok (.iload 5, 2) := by decide +kernel
theorem dX10_most_143 : decode cX10_most 143 = .ok (.ixor, 1) := by decide +kernel
theorem dX10_most_144 : decode cX10_most 144 = .ok (.iload 6, 2) := by decide +kernel
theorem dX10_most_146 : decode cX10_most 146 = .ok (.ixor, 1) := by decide +kernel
theorem dX10_most_147 : decode cX10_most 147 = .ok (.iaload, 1) := by decide +kernel
theorem dX10_most_148 : decode cX10_most 148 = .ok (.iadd, 1) := by decide +kernel
theorem dX10_most_149 : decode cX10_most 149 = .ok (.invokestatic 183, 3) := by decide +kernel
theorem dX10_most_152 : decode cX10_most 152 = .ok (.istore 4, 2) := by decide +kernel
theorem dX10_most_154 : decode cX10_most 154 = .ok (.iload 6, 2) := by decide +kernel
theorem dX10_most_156 : decode cX10_most 156 = .ok (.ifCond .ne 7, 3) := by decide +kernel
theorem dX10_most_159 : decode cX10_most 159 = .ok (.iconst (-1), 1) := by decide +kernel
theorem dX10_most_160 : decode cX10_most 160 = .ok (.goto 12, 3) := by decide +kernel
theorem dX10_most_163 : decode cX10_most 163 = .ok (.iload 6, 2) := by decide +kernel
theorem dX10_most_165 : decode cX10_most 165 = .ok (.iconst 1, 1) := by decide +kernel
theorem dX10_most_166 : decode cX10_most 166 = .ok (.isub, 1) := by decide +kernel
theorem dX10_most_167 : decode cX10_most 167 = .ok (.iload_n 3, 1) := by decide +kernel
theorem dX10_most_168 : decode cX10_most 168 = .ok (.iload 5, 2) := by decide +kernel
theorem dX10_most_170 : decode cX10_most 170 = .ok (.ixor, 1) := by decide +kernel
theorem dX10_most_171 : decode cX10_most 171 = .ok (.iand, 1) := by decide +kernel
theorem dX10_most_172 : decode cX10_most 172 = .ok (.istore 6, 2) := by decide +kernel
theorem dX10_most_174 : decode cX10_most 174 = .ok (.goto (-63), 3) := by decide +kernel
theorem dX10_most_177 : decode cX10_most 177 = .ok (.aload_n 0, 1) := by decide +kernel
theorem dX10_most_178 : decode cX10_most 178 = .ok (.getfield 120, 3) := by decide +kernel
theorem dX10_most_181 : decode cX10_most 181 = .ok (.iload_n 3, 1) := by decide +kernel
theorem dX10_most_182 : decode cX10_most 182 = .ok (.iload 4, 2) := by decide +kernel
theorem dX10_most_184 : decode cX10_most 184 = .ok (.iastore, 1) := by decide +kernel
theorem dX10_most_185 : decode cX10_most 185 = .ok (.iinc 3 1, 3) := by decide +kernel
theorem dX10_most_188 : decode cX10_most 188 = .ok (.goto (-114), 3) := by decide +kernel
theorem dX10_most_191 : decode cX10_most 191 = .ok (.aload_n 0, 1) := by decide +kernel
theorem dX10_most_192 : decode cX10_most 192 = .ok (.aload_n 0, 1) := by decide +kernel
theorem dX10_most_193 : decode cX10_most 193 = .ok (.getfield 120, 3) := by decide +kernel
theorem dX10_most_196 : decode cX10_most 196 = .ok (.iconst 1, 1) := by decide +kernel
theorem dX10_most_197 : decode cX10_most 197 = .ok (.iload_n 2, 1) := by decide +kernel
theorem dX10_most_198 : decode cX10_most 198 = .ok (.ishl, 1) := by decide +kernel
theorem dX10_most_199 : decode cX10_most 199 = .ok (.iconst 1, 1) := by decide +kernel
theorem dX10_most_200 : decode cX10_most 200 = .ok (.isub, 1) := by decide +kernel
theorem dX10_most_201 : decode cX10_most 201 = .ok (.iaload, 1) := by decide +kernel
theorem dX10_most_202 : decode cX10_most 202 = .ok (.invokevirtual 140, 3) := by decide +kernel
theorem dX10_most_205 : decode cX10_most 205 = .ok (.ireturn, 1) := by decide +kernel
theorem dX10_isQuill_0 : decode cX10_isQuill 0 = .ok (.iconst 0, 1) := by decide +kernel
theorem dX10_isQuill_1 : decode cX10_isQuill 1 = .ok (.istore_n 3, 1) := by decide +kernel
theorem dX10_isQuill_2 : decode cX10_isQuill 2 = .ok (.iconst 0, 1) := by decide +kernel
theorem dX10_isQuill_3 : decode cX10_isQuill 3 = .ok (.istore 4, 2) := by decide +kernel
theorem dX10_isQuill_5 : decode cX10_isQuill 5 = .ok (.iconst 0, 1) := by decide +kernel
theorem dX10_isQuill_6 : decode cX10_isQuill 6 = .ok (.istore 5, 2) := by decide +kernel
theorem dX10_isQuill_8 : decode cX10_isQuill 8 = .ok (.iload 5, 2) := by decide +kernel
theorem dX10_isQuill_10 : decode cX10_isQuill 10 = .ok (.iload_n 2, 1) := by decide +kernel
theorem dX10_isQuill_11 : decode cX10_isQuill 11 = .ok (.if_icmp .ge 41, 3) := by decide +kernel
theorem dX10_isQuill_14 : decode cX10_isQuill 14 = .ok (.iload_n 1, 1) := by decide +kernel
theorem dX10_isQuill_15 : decode cX10_isQuill 15 = .ok (.iload 5, 2) := by decide +kernel
theorem dX10_isQuill_17 : decode cX10_isQuill 17 = .ok (.ishr, 1) := by decide +kernel
theorem dX10_isQuill_18 : decode cX10_isQuill 18 = .ok (.iconst 1, 1) := by decide +kernel
theorem dX10_isQuill_19 : decode cX10_isQuill 19 = .ok (.iand, 1) := by decide +kernel
theorem dX10_isQuill_20 : decode cX10_isQuill 20 = .ok (.ifCond .ne 6, 3) := by decide +kernel
theorem dX10_isQuill_23 : decode cX10_isQuill 23 = .ok (.goto 23, 3) := by decide +kernel
theorem dX10_isQuill_26 : decode cX10_isQuill 26 = .ok (.iinc 3 1, 3) := by decide +kernel
theorem dX10_isQuill_29 : decode cX10_isQuill 29 = .ok (.iload 4, 2) := by decide +kernel
theorem dX10_isQuill_31 : decode cX10_isQuill 31 = .ok (.aload_n 0, 1) := by decide +kernel
theorem dX10_isQuill_32 : decode cX10_isQuill 32 = .ok (.getfield 51, 3) := by decide +kernel
theorem dX10_isQuill_35 : decode cX10_isQuill 35 = .ok (.aload_n 0, 1) := by decide +kernel
theorem dX10_isQuill_36 : decode cX10_isQuill 36 = .ok (.getfield 111, 3) := by decide +kernel
theorem dX10_isQuill_39 : decode cX10_isQuill 39 = .ok (.iload 5, 2) := by decide +kernel
theorem dX10_isQuill_41 : decode cX10_isQuill 41 = .ok (.iaload, 1) := by decide +kernel
theorem dX10_isQuill_42 : decode cX10_isQuill 42 = .ok (.iaload, 1) := by decide +kernel
theorem dX10_isQuill_43 : decode cX10_isQuill 43 = .ok (.iadd, 1) := by decide +kernel
theorem dX10_isQuill_44 : decode cX10_isQuill 44 = .ok (.istore 4, 2) := by decide +kernel
theorem dX10_isQuill_46 : decode cX10_isQuill 46 = .ok (.iinc 5 1, 3) := by decide +kernel
theorem dX10_isQuill_49 : decode cX10_isQuill 49 = .ok (.goto (-41), 3) := by decide +kernel
theorem dX10_isQuill_52 : decode cX10_isQuill 52 = .ok (.iload_n 3, 1) := by decide +kernel
theorem dX10_isQuill_53 : decode cX10_isQuill 53 = .ok (.iconst 4, 1) := by decide +kernel
theorem dX10_isQuill_54 : decode cX10_isQuill 54 = .ok (.if_icmp .gt 25, 3) := by decide +kernel
theorem dX10_isQuill_57 : decode cX10_isQuill 57 = .ok (.iload 4, 2) := by decide +kernel
theorem dX10_isQuill_59 : decode cX10_isQuill 59 = .ok (.aload_n 0, 1) := by decide +kernel
theorem dX10_isQuill_60 : decode cX10_isQuill 60 = .ok (.getfield 19, 3) := by decide +kernel
theorem dX10_isQuill_63 : decode cX10_isQuill 63 = .ok (.iload_n 3, 1) := by decide +kernel
theorem dX10_isQuill_64 : decode cX10_isQuill 64 = .ok (.iconst 1, 1) := by decide +kernel
theorem dX10_isQuill_65 : decode cX10_isQuill 65 = .ok (.isub, 1) := by decide +kernel
theorem dX10_isQuill_66 : decode cX10_isQuill 66 = .ok (.imul, 1) := by decide +kernel
theorem dX10_isQuill_67 : decode cX10_isQuill 67 = .ok (.isub, 1) := by decide +kernel
theorem dX10_isQuill_68 : decode cX10_isQuill 68 = .ok (.aload_n 0, 1) := by decide +kernel
theorem dX10_isQuill_69 : decode cX10_isQuill 69 = .ok (.getfield 16, 3) := by decide +kernel
theorem dX10_isQuill_72 : decode cX10_isQuill 72 = .ok (.if_icmp .ne 7, 3) := by decide +kernel
theorem dX10_isQuill_75 : decode cX10_isQuill 75 = .ok (.iconst 1, 1) := by decide +kernel
theorem dX10_isQuill_76 : decode cX10_isQuill 76 = .ok (.goto 4, 3) := by decide +kernel
theorem dX10_isQuill_79 : decode cX10_isQuill 79 = .ok (.iconst 0, 1) := by decide +kernel
theorem dX10_isQuill_80 : decode cX10_isQuill 80 = .ok (.ireturn, 1) := by decide +kernel
theorem dX10_quill_0 : decode cX10_quill 0 = .ok (.aload_n 0, 1) := by decide +kernel
theorem dX10_quill_1 : decode cX10_quill 1 = .ok (.iconst 0, 1) := by decide +kernel
theorem dX10_quill_2 : decode cX10_quill 2 = .ok (.putfield 1, 3) := by decide +kernel
theorem dX10_quill_5 : decode cX10_quill 5 = .ok (.iload_n 1, 1) := by decide +kernel
theorem dX10_quill_6 : decode cX10_quill 6 = .ok (.ifCond .lt 11, 3) := by decide +kernel
theorem dX10_quill_9 : decode cX10_quill 9 = .ok (.iload_n 1, 1) := by decide +kernel
theorem dX10_quill_10 : decode cX10_quill 10 = .ok (.aload_n 0, 1) := by decide +kernel
theorem dX10_quill_11 : decode cX10_quill 11 = .ok (.getfield 196, 3) := by decide +kernel
theorem dX10_quill_14 : decode cX10_quill 14 = .ok (.if_icmp .lt 5, 3) := by decide +kernel
theorem dX10_quill_17 : decode cX10_quill 17 = .ok (.iconst (-1), 1) := by decide +kernel
theorem dX10_quill_18 : decode cX10_quill 18 = .ok (.ireturn, 1) := by decide +kernel
theorem dX10_quill_19 : decode cX10_quill 19 = .ok (.iload_n 2, 1) := by decide +kernel
theorem dX10_quill_20 : decode cX10_quill 20 = .ok (.tableswitch 118 0 5 #[40, 47, 54, 61, 68, 75], 40) := by decide +kernel
theorem dX10_quill_60 : decode cX10_quill 60 = .ok (.aload_n 0, 1) := by decide +kernel
theorem dX10_quill_61 : decode cX10_quill 61 = .ok (.getfield 66, 3) := by decide +kernel
theorem dX10_quill_64 : decode cX10_quill 64 = .ok (.iload_n 1, 1) := by decide +kernel
theorem dX10_quill_65 : decode cX10_quill 65 = .ok (.iaload, 1) := by decide +kernel
theorem dX10_quill_66 : decode cX10_quill 66 = .ok (.ireturn, 1) := by decide +kernel
theorem dX10_quill_67 : decode cX10_quill 67 = .ok (.aload_n 0, 1) := by decide +kernel
theorem dX10_quill_68 : decode cX10_quill 68 = .ok (.getfield 69, 3) := by decide +kernel
theorem dX10_quill_71 : decode cX10_quill 71 = .ok (.iload_n 1, 1) := by decide +kernel
theorem dX10_quill_72 : decode cX10_quill 72 = .ok (.iaload, 1) := by decide +kernel
theorem dX10_quill_73 : decode cX10_quill 73 = .ok (.ireturn, 1) := by decide +kernel
theorem dX10_quill_74 : decode cX10_quill 74 = .ok (.aload_n 0, 1) := by decide +kernel
theorem dX10_quill_75 : decode cX10_quill 75 = .ok (.getfield 75, 3) := by decide +kernel
theorem dX10_quill_78 : decode cX10_quill 78 = .ok (.iload_n 1, 1) := by decide +kernel
theorem dX10_quill_79 : decode cX10_quill 79 = .ok (.iaload, 1) := by decide +kernel
theorem dX10_quill_80 : decode cX10_quill 80 = .ok (.ireturn, 1) := by decide +kernel
theorem dX10_quill_81 : decode cX10_quill 81 = .ok (.aload_n 0, 1) := by decide +kernel
theorem dX10_quill_82 : decode cX10_quill 82 = .ok (.getfield 72, 3) := by decide +kernel
theorem dX10_quill_85 : decode cX10_quill 85 = .ok (.iload_n 1, 1) := by decide +kernel
theorem dX10_quill_86 : decode cX10_quill 86 = .ok (.iaload, 1) := by decide +kernel
theorem dX10_quill_87 : decode cX10_quill 87 = .ok (.ireturn, 1) := by decide +kernel
theorem dX10_quill_88 : decode cX10_quill 88 = .ok (.aload_n 0, 1) := by decide +kernel
theorem dX10_quill_89 : decode cX10_quill 89 = .ok (.getfield 78, 3) := by decide +kernel
theorem dX10_quill_92 : decode cX10_quill 92 = .ok (.iload_n 1, 1) := by decide +kernel
theorem dX10_quill_93 : decode cX10_quill 93 = .ok (.iaload, 1) := by decide +kernel
theorem dX10_quill_94 : decode cX10_quill 94 = .ok (.ireturn, 1) := by decide +kernel
theorem dX10_quill_95 : decode cX10_quill 95 = .ok (.iconst 0, 1) := by decide +kernel
theorem dX10_quill_96 : decode cX10_quill 96 = .ok (.istore_n 3, 1) := by decide +kernel
theorem dX10_quill_97 : decode cX10_quill 97 = .ok (.iconst 0, 1) := by decide +kernel
theorem dX10_quill_98 : decode cX10_quill 98 = .ok (.istore 4, 2) := by decide +kernel
theorem dX10_quill_100 : decode cX10_quill 100 = .ok (.iload 4, 2) := by decide +kernel
theorem dX10_quill_102 : decode cX10_quill 102 = .ok (.aload_n 0, 1) := by decide +kernel
theorem dX10_quill_103 : decode cX10_quill 103 = .ok (.getfield 75, 3) := by decide +kernel
theorem dX10_quill_106 : decode cX10_quill 106 = .ok (.iload_n 1, 1) := by decide +kernel
theorem dX10_quill_107 : decode cX10_quill 107 = .ok (.iaload, 1) := by decide +kernel
theorem dX10_quill_108 : decode cX10_quill 108 = .ok (.if_icmp .ge 28, 3) := by decide +kernel
theorem dX10_quill_111 : decode cX10_quill 111 = .ok (.iload_n 3, 1) := by decide +kernel
theorem dX10_quill_112 : decode cX10_quill 112 = .ok (.aload_n 0, 1) := by decide +kernel
theorem dX10_quill_113 : decode cX10_quill 113 = .ok (.getfield 57, 3) := by decide +kernel
theorem dX10_quill_116 : decode cX10_quill 116 = .ok (.aload_n 0, 1) := by decide +kernel
theorem dX10_quill_117 : decode cX10_quill 117 = .ok (.getfield 81, 3) := by decide +kernel
theorem dX10_quill_120 : decode cX10_quill 120 = .ok (.iconst 4, 1) := by decide +kernel
theorem dX10_quill_121 : decode cX10_quill 121 = .ok (.iload_n 1, 1) := by decide +kernel
theorem dX10_quill_122 : decode cX10_quill 122 = .ok (.imul, 1) := by decide +kernel
theorem dX10_quill_123 : decode cX10_quill 123 = .ok (.iload 4, 2) := by decide +kernel
theorem dX10_quill_125 : decode cX10_quill 125 = .ok (.iadd, 1) := by decide +kernel
theorem dX10_quill_126 : decode cX10_quill 126 = .ok (.iaload, 1) := by decide +kernel
theorem dX10_quill_127 : decode cX10_quill 127 = .ok (.iaload, 1) := by decide +kernel
theorem dX10_quill_128 : decode cX10_quill 128 = .ok (.iadd, 1) := by decide +kernel
theorem dX10_quill_129 : decode cX10_quill 129 = .ok (.istore_n 3, 1) := by decide +kernel
theorem dX10_quill_130 : decode cX10_quill 130 = .ok (.iinc 4 1, 3) := by decide +kernel
theorem dX10_quill_133 : decode cX10_quill 133 = .ok (.goto (-33), 3) := by decide +kernel
theorem dX10_quill_136 : decode cX10_quill 136 = .ok (.iload_n 3, 1) := by decide +kernel
theorem dX10_quill_137 : decode cX10_quill 137 = .ok (.ireturn, 1) := by decide +kernel
theorem dX10_quill_138 : decode cX10_quill 138 = .ok (.iconst (-1), 1) := by decide +kernel
theorem dX10_quill_139 : decode cX10_quill 139 = .ok (.ireturn, 1) := by decide +kernel
theorem dX10_part_0 : decode cX10_part 0 = .ok (.aload_n 0, 1) := by decide +kernel
theorem dX10_part_1 : decode cX10_part 1 = .ok (.iload_n 1, 1) := by decide +kernel
theorem dX10_part_2 : decode cX10_part 2 = .ok (.ifCond .lt 25, 3) := by decide +kernel
theorem dX10_part_5 : decode cX10_part 5 = .ok (.iload_n 1, 1) := by decide +kernel
theorem dX10_part_6 : decode cX10_part 6 = .ok (.aload_n 0, 1) := by decide +kernel
theorem dX10_part_7 : decode cX10_part 7 = .ok (.getfield 196, 3) := by decide +kernel
theorem dX10_part_10 : decode cX10_part 10 = .ok (.if_icmp .ge 17, 3) := by decide +kernel
theorem dX10_part_13 : decode cX10_part 13 = .ok (.iload_n 2, 1) := by decide +kernel
theorem dX10_part_14 : decode cX10_part 14 = .ok (.ifCond .lt 13, 3) := by decide +kernel
theorem dX10_part_17 : decode cX10_part 17 = .ok (.iload_n 2, 1) := by decide +kernel
theorem dX10_part_18 : decode cX10_part 18 = .ok (.aload_n 0, 1) := by decide +kernel
theorem dX10_part_19 : decode cX10_part 19 = .ok (.getfield 75, 3) := by decide +kernel
theorem dX10_part_22 : decode cX10_part 22 = .ok (.iload_n 1, 1) := by decide +kernel
theorem dX10_part_23 : decode cX10_part 23 = .ok (.iaload, 1) := by decide +kernel
theorem dX10_part_24 : decode cX10_part 24 = .ok (.if_icmp .lt 7, 3) := by decide +kernel
theorem dX10_part_27 : decode cX10_part 27 = .ok (.iconst 1, 1) := by decide +kernel
theorem dX10_part_28 : decode cX10_part 28 = .ok (.goto 4, 3) := by decide +kernel
theorem dX10_part_31 : decode cX10_part 31 = .ok (.iconst 0, 1) := by decide +kernel
theorem dX10_part_32 : decode cX10_part 32 = .ok (.putfield 1, 3) := by decide +kernel
theorem dX10_part_35 : decode cX10_part 35 = .ok (.aload_n 0, 1) := by decide +kernel
theorem dX10_part_36 : decode cX10_part 36 = .ok (.getfield 1, 3) := by decide +kernel
theorem dX10_part_39 : decode cX10_part 39 = .ok (.ifCond .le 7, 3) := by decide +kernel
theorem dX10_part_42 : decode cX10_part 42 = .ok (.iconst 0, 1) := by decide +kernel
theorem dX10_part_43 : decode cX10_part 43 = .ok (.goto 13, 3) := by decide +kernel
theorem dX10_part_46 : decode cX10_part 46 = .ok (.aload_n 0, 1) := by decide +kernel
theorem dX10_part_47 : decode cX10_part 47 = .ok (.getfield 81, 3) := by decide +kernel
theorem dX10_part_50 : decode cX10_part 50 = .ok (.iconst 4, 1) := by decide +kernel
theorem dX10_part_51 : decode cX10_part 51 = .ok (.iload_n 1, 1) := by decide +kernel
theorem dX10_part_52 : decode cX10_part 52 = .ok (.imul, 1) := by decide +kernel
theorem dX10_part_53 : decode cX10_part 53 = .ok (.iload_n 2, 1) := by decide +kernel
theorem dX10_part_54 : decode cX10_part 54 = .ok (.iadd, 1) := by decide +kernel
theorem dX10_part_55 : decode cX10_part 55 = .ok (.iaload, 1) := by decide +kernel
theorem dX10_part_56 : decode cX10_part 56 = .ok (.ireturn, 1) := by decide +kernel
theorem dX10_bale_0 : decode cX10_bale 0 = .ok (.aload_n 0, 1) := by decide +kernel
theorem dX10_bale_1 : decode cX10_bale 1 = .ok (.iconst 0, 1) := by decide +kernel
theorem dX10_bale_2 : decode cX10_bale 2 = .ok (.putfield 1, 3) := by decide +kernel
theorem dX10_bale_5 : decode cX10_bale 5 = .ok (.aload_n 0, 1) := by decide +kernel
theorem dX10_bale_6 : decode cX10_bale 6 = .ok (.iload_n 1, 1) := by decide +kernel
theorem dX10_bale_7 : decode cX10_bale 7 = .ok (.invokevirtual 143, 3) := by decide +kernel
theorem dX10_bale_10 : decode cX10_bale 10 = .ok (.ifCond .eq 12, 3) := by decide +kernel
theorem dX10_bale_13 : decode cX10_bale 13 = .ok (.iload_n 2, 1) := by decide +kernel
theorem dX10_bale_14 : decode cX10_bale 14 = .ok (.iconst 1, 1) := by decide +kernel
theorem dX10_bale_15 : decode cX10_bale 15 = .ok (.iconst 4, 1) := by decide +kernel
theorem dX10_bale_16 : decode cX10_bale 16 = .ok (.invokestatic 132, 3) := by decide +kernel
theorem dX10_bale_19 : decode cX10_bale 19 = .ok (.ifCond .ne 9, 3) := by decide +kernel
theorem dX10_bale_22 : decode cX10_bale 22 = .ok (.aload_n 0, 1) := by decide +kernel
theorem dX10_bale_23 : decode cX10_bale 23 = .ok (.iconst 1, 1) := by decide +kernel
theorem dX10_bale_24 : decode cX10_bale 24 = .ok (.invokevirtual 136, 3) := by decide +kernel
theorem dX10_bale_27 : decode cX10_bale 27 = .ok (.ireturn, 1) := by decide +kernel
theorem dX10_bale_28 : decode cX10_bale 28 = .ok (.iconst 0, 1) := by decide +kernel
theorem dX10_bale_29 : decode cX10_bale 29 = .ok (.istore_n 3, 1) := by decide +kernel
theorem dX10_bale_30 : decode cX10_bale 30 = .ok (.iconst 0, 1) := by decide +kernel
theorem dX10_bale_31 : decode cX10_bale 31 = .ok (.istore 4, 2) := by decide +kernel
theorem dX10_bale_33 : decode cX10_bale 33 = .ok (.iload 4, 2) := by decide +kernel
theorem dX10_bale_35 : decode cX10_bale 35 = .ok (.aload_n 0, 1) := by decide +kernel
theorem dX10_bale_36 : decode cX10_bale 36 = .ok (.getfield 196, 3) := by decide +kernel
theorem dX10_bale_39 : decode cX10_bale 39 = .ok (.if_icmp .ge 38, 3) := by decide +kernel
theorem dX10_bale_42 : decode cX10_bale 42 = .ok (.iload_n 3, 1) := by decide +kernel
theorem dX10_bale_43 : decode cX10_bale 43 = .ok (.aload_n 0, 1) := by decide +kernel
theorem dX10_bale_44 : decode cX10_bale 44 = .ok (.iload 4, 2) := by decide +kernel
theorem dX10_bale_46 : decode cX10_bale 46 = .ok (.iload_n 1, 1) := by decide +kernel
theorem dX10_bale_47 : decode cX10_bale 47 = .ok (.invokevirtual 205, 3) := by decide +kernel
theorem dX10_bale_50 : decode cX10_bale 50 = .ok (.ifCond .eq 18, 3) := by decide +kernel
theorem dX10_bale_53 : decode cX10_bale 53 = .ok (.aload_n 0, 1) := by decide +kernel
theorem dX10_bale_54 : decode cX10_bale 54 = .ok (.getfield 69, 3) := by decide +kernel
theorem dX10_bale_57 : decode cX10_bale 57 = .ok (.iload 4, 2) := by decide +kernel
theorem dX10_bale_59 : decode cX10_bale 59 = .ok (.iaload, 1) := by decide +kernel
theorem dX10_bale_60 : decode cX10_bale 60 = .ok (.iload_n 2, 1) := by decide +kernel
theorem dX10_bale_61 : decode cX10_bale 61 = .ok (.if_icmp .ne 7, 3) := by decide +kernel
theorem dX10_bale_64 : decode cX10_bale 64 = .ok (.iconst 1, 1) := by decide +kernel
theorem dX10_bale_65 : decode cX10_bale 65 = .ok (.goto 4, 3) := by decide +kernel
theorem dX10_bale_68 : decode cX10_bale 68 = .ok (.iconst 0, 1) := by decide +kernel
theorem dX10_bale_69 : decode cX10_bale 69 = .ok (.iadd, 1) := by decide +kernel
theorem dX10_bale_70 : decode cX10_bale 70 = .ok (.istore_n 3, 1) := by decide +kernel
theorem dX10_bale_71 : decode cX10_bale 71 = .ok (.iinc 4 1, 3) := by decide +kernel
theorem dX10_bale_74 : decode cX10_bale 74 = .ok (.goto (-41), 3) := by decide +kernel
theorem dX10_bale_77 : decode cX10_bale 77 = .ok (.iload_n 3, 1) := by decide +kernel
theorem dX10_bale_78 : decode cX10_bale 78 = .ok (.iconst 5, 1) := by decide +kernel
theorem dX10_bale_79 : decode cX10_bale 79 = .ok (.if_icmp .ge 9, 3) := by decide +kernel
theorem dX10_bale_82 : decode cX10_bale 82 = .ok (.aload_n 0, 1) := by decide +kernel
theorem dX10_bale_83 : decode cX10_bale 83 = .ok (.iconst 5, 1) := by decide +kernel
theorem dX10_bale_84 : decode cX10_bale 84 = .ok (.invokevirtual 136, 3) := by decide +kernel
theorem dX10_bale_87 : decode cX10_bale 87 = .ok (.ireturn, 1) := by decide +kernel
theorem dX10_bale_88 : decode cX10_bale 88 = .ok (.iconst 0, 1) := by decide +kernel
theorem dX10_bale_89 : decode cX10_bale 89 = .ok (.istore 4, 2) := by decide +kernel
theorem dX10_bale_91 : decode cX10_bale 91 = .ok (.iload 4, 2) := by decide +kernel
theorem dX10_bale_93 : decode cX10_bale 93 = .ok (.aload_n 0, 1) := by decide +kernel
theorem dX10_bale_94 : decode cX10_bale 94 = .ok (.getfield 208, 3) := by decide +kernel
theorem dX10_bale_97 : decode cX10_bale 97 = .ok (.if_icmp .ge 32, 3) := by decide +kernel
theorem dX10_bale_100 : decode cX10_bale 100 = .ok (.aload_n 0, 1) := by decide +kernel
theorem dX10_bale_101 : decode cX10_bale 101 = .ok (.getfield 99, 3) := by decide +kernel
theorem dX10_bale_104 : decode cX10_bale 104 = .ok (.iload 4, 2) := by decide +kernel
theorem dX10_bale_106 : decode cX10_bale 106 = .ok (.iaload, 1) := by decide +kernel
theorem dX10_bale_107 : decode cX10_bale 107 = .ok (.iload_n 2, 1) := by decide +kernel
theorem dX10_bale_108 : decode cX10_bale 108 = .ok (.if_icmp .ne 15, 3) := by decide +kernel
theorem dX10_bale_111 : decode cX10_bale 111 = .ok (.aload_n 0, 1) := by decide +kernel
theorem dX10_bale_112 : decode cX10_bale 112 = .ok (.getfield 102, 3) := by decide +kernel
theorem dX10_bale_115 : decode cX10_bale 115 = .ok (.iload 4, 2) := by decide +kernel
theorem dX10_bale_117 : decode cX10_bale 117 = .ok (.iaload, 1) := by decide +kernel
theorem dX10_bale_118 : decode cX10_bale 118 = .ok (.bipush 6, 2) := by decide +kernel
theorem dX10_bale_120 : decode cX10_bale 120 = .ok (.if_icmp .ne 9, 3) := by decide +kernel
theorem dX10_bale_123 : decode cX10_bale 123 = .ok (.iinc 4 1, 3) := by decide +kernel
theorem dX10_bale_126 : decode cX10_bale 126 = .ok (.goto (-35), 3) := by decide +kernel
theorem dX10_bale_129 : decode cX10_bale 129 = .ok (.aload_n 0, 1) := by decide +kernel
theorem dX10_bale_130 : decode cX10_bale 130 = .ok (.getfield 211, 3) := by decide +kernel
theorem dX10_bale_133 : decode cX10_bale 133 = .ok (.bipush 60, 2) := by decide +kernel
theorem dX10_bale_135 : decode cX10_bale 135 = .ok (.if_icmp .eq 10, 3) := by decide +kernel
theorem dX10_bale_138 : decode cX10_bale 138 = .ok (.iload 4, 2) := by decide +kernel
theorem dX10_bale_140 : decode cX10_bale 140 = .ok (.bipush 20, 2) := by decide +kernel
theorem dX10_bale_142 : decode cX10_bale 142 = .ok (.if_icmp .ne 9, 3) := by decide +kernel
theorem dX10_bale_145 : decode cX10_bale 145 = .ok (.aload_n 0, 1) := by decide +kernel
theorem dX10_bale_146 : decode cX10_bale 146 = .ok (.iconst 3, 1) := by decide +kernel
theorem dX10_bale_147 : decode cX10_bale 147 = .ok (.invokevirtual 136, 3) := by decide +kernel
theorem dX10_bale_150 : decode cX10_bale 150 = .ok (.ireturn, 1) := by decide +kernel
theorem dX10_bale_151 : decode cX10_bale 151 = .ok (.iload 4, 2) := by decide +kernel
theorem dX10_bale_153 : decode cX10_bale 153 = .ok (.aload_n 0, 1) := by decide +kernel
theorem dX10_bale_154 : decode cX10_bale 154 = .ok (.getfield 208, 3) := by decide +kernel
theorem dX10_bale_157 : decode cX10_bale 157 = .ok (.if_icmp .ne 40, 3) := by decide +kernel
theorem dX10_bale_160 : decode cX10_bale 160 = .ok (.aload_n 0, 1) := by decide +kernel
theorem dX10_bale_161 : decode cX10_bale 161 = .ok (.getfield 99, 3) := by decide +kernel
theorem dX10_bale_164 : decode cX10_bale 164 = .ok (.iload 4, 2) := by decide +kernel
theorem dX10_bale_166 : decode cX10_bale 166 = .ok (.iload_n 2, 1) := by decide +kernel
theorem dX10_bale_167 : decode cX10_bale 167 = .ok (.iastore, 1) := by decide +kernel
theorem dX10_bale_168 : decode cX10_bale 168 = .ok (.aload_n 0, 1) := by decide +kernel
theorem dX10_bale_169 : decode cX10_bale 169 = .ok (.getfield 102, 3) := by decide +kernel
theorem dX10_bale_172 : decode cX10_bale 172 = .ok (.iload 4, 2) := by decide +kernel
theorem dX10_bale_174 : decode cX10_bale 174 = .ok (.iconst 0, 1) := by decide +kernel
theorem dX10_bale_175 : decode cX10_bale 175 = .ok (.iastore, 1) := by decide +kernel
theorem dX10_bale_176 : decode cX10_bale 176 = .ok (.aload_n 0, 1) := by decide +kernel
theorem dX10_bale_177 : decode cX10_bale 177 = .ok (.getfield 105, 3) := by decide +kernel
theorem dX10_bale_180 : decode cX10_bale 180 = .ok (.iload 4, 2) := by decide +kernel
theorem dX10_bale_182 : decode cX10_bale 182 = .ok (.aload_n 0, 1) := by decide +kernel
theorem dX10_bale_183 : decode cX10_bale 183 = .ok (.getfield 211, 3) := by decide +kernel
theorem dX10_bale_186 : decode cX10_bale 186 = .ok (.iastore, 1) := by decide +kernel
theorem dX10_bale_187 : decode cX10_bale 187 = .ok (.aload_n 0, 1) := by decide +kernel
theorem dX10_bale_188 : decode cX10_bale 188 = .ok (.dup, 1) := by decide +kernel
theorem dX10_bale_189 : decode cX10_bale 189 = .ok (.getfield 208, 3) := by decide +kernel
theorem dX10_bale_192 : decode cX10_bale 192 = .ok (.iconst 1, 1) := by decide +kernel
theorem dX10_bale_193 : decode cX10_bale 193 = .ok (.iadd, 1) := by decide +kernel
theorem dX10_bale_194 : decode cX10_bale 194 = .ok (.putfield 208, 3) := by decide +kernel
theorem dX10_bale_197 : decode cX10_bale 197 = .ok (.aload_n 0, 1) := by decide +kernel
theorem dX10_bale_198 : decode cX10_bale 198 = .ok (.getfield 102, 3) := by decide +kernel
theorem dX10_bale_201 : decode cX10_bale 201 = .ok (.iload 4, 2) := by decide +kernel
theorem dX10_bale_203 : decode cX10_bale 203 = .ok (.dup2, 1) := by decide +kernel
theorem dX10_bale_204 : decode cX10_bale 204 = .ok (.iaload, 1) := by decide +kernel
theorem dX10_bale_205 : decode cX10_bale 205 = .ok (.iconst 1, 1) := by decide +kernel
theorem dX10_bale_206 : decode cX10_bale 206 = .ok (.iadd, 1) := by decide +kernel
theorem dX10_bale_207 : decode cX10_bale 207 = .ok (.iastore, 1) := by decide +kernel
theorem dX10_bale_208 : decode cX10_bale 208 = .ok (.aload_n 0, 1) := by decide +kernel
theorem dX10_bale_209 : decode cX10_bale 209 = .ok (.getfield 211, 3) := by decide +kernel
theorem dX10_bale_212 : decode cX10_bale 212 = .ok (.istore 5, 2) := by decide +kernel
theorem dX10_bale_214 : decode cX10_bale 214 = .ok (.aload_n 0, 1) := by decide +kernel
theorem dX10_bale_215 : decode cX10_bale 215 = .ok (.dup, 1) := by decide +kernel
theorem dX10_bale_216 : decode cX10_bale 216 = .ok (.getfield 211, 3) := by decide +kernel
theorem dX10_bale_219 : decode cX10_bale 219 = .ok (.iconst 1, 1) := by decide +kernel
theorem dX10_bale_220 : decode cX10_bale 220 = .ok (.iadd, 1) := by decide +kernel
theorem dX10_bale_221 : decode cX10_bale 221 = .ok (.putfield 211, 3) := by decide +kernel
theorem dX10_bale_224 : decode cX10_bale 224 = .ok (.aload_n 0, 1) := by decide +kernel
theorem dX10_bale_225 : decode cX10_bale 225 = .ok (.getfield 84, 3) := by decide +kernel
theorem dX10_bale_228 : decode cX10_bale 228 = .ok (.iload 5, 2) := by decide +kernel
theorem dX10_bale_230 : decode cX10_bale 230 = .ok (.iload_n 1, 1) := by decide +kernel
theorem dX10_bale_231 : decode cX10_bale 231 = .ok (.iastore, 1) := by decide +kernel
theorem dX10_bale_232 : decode cX10_bale 232 = .ok (.aload_n 0, 1) := by decide +kernel
theorem dX10_bale_233 : decode cX10_bale 233 = .ok (.getfield 87, 3) := by decide +kernel
theorem dX10_bale_236 : decode cX10_bale 236 = .ok (.iload 5, 2) := by decide +kernel
theorem dX10_bale_238 : decode cX10_bale 238 = .ok (.iload_n 2, 1) := by decide +kernel
theorem dX10_bale_239 : decode cX10_bale 239 = .ok (.iastore, 1) := by decide +kernel
theorem dX10_bale_240 : decode cX10_bale 240 = .ok (.aload_n 0, 1) := by decide +kernel
theorem dX10_bale_241 : decode cX10_bale 241 = .ok (.getfield 90, 3) := by decide +kernel
theorem dX10_bale_244 : decode cX10_bale 244 = .ok (.iload 5, 2) := by decide +kernel
theorem dX10_bale_246 : decode cX10_bale 246 = .ok (.aload_n 0, 1) := by decide +kernel
theorem dX10_bale_247 : decode cX10_bale 247 = .ok (.getfield 154, 3) := by decide +kernel
theorem dX10_bale_250 : decode cX10_bale 250 = .ok (.iastore, 1) := by decide +kernel
theorem dX10_bale_251 : decode cX10_bale 251 = .ok (.aload_n 0, 1) := by decide +kernel
theorem dX10_bale_252 : decode cX10_bale 252 = .ok (.getfield 93, 3) := by decide +kernel
theorem dX10_bale_255 : decode cX10_bale 255 = .ok (.iload 5, 2) := by decide +kernel
theorem dX10_bale_257 : decode cX10_bale 257 = .ok (.iload 4, 2) := by decide +kernel
theorem dX10_bale_259 : decode cX10_bale 259 = .ok (.iastore, 1) := by decide +kernel
theorem dX10_bale_260 : decode cX10_bale 260 = .ok (.aload_n 0, 1) := by decide +kernel
theorem dX10_bale_261 : decode cX10_bale 261 = .ok (.getfield 108, 3) := by decide +kernel
theorem dX10_bale_264 : decode cX10_bale 264 = .ok (.iload 5, 2) := by decide +kernel
theorem dX10_bale_266 : decode cX10_bale 266 = .ok (.aload_n 0, 1) := by decide +kernel
theorem dX10_bale_267 : decode cX10_bale 267 = .ok (.getfield 29, 3) := by decide +kernel
theorem dX10_bale_270 : decode cX10_bale 270 = .ok (.iload_n 1, 1) := by decide +kernel
theorem dX10_bale_271 : decode cX10_bale 271 = .ok (.iaload, 1) := by decide +kernel
theorem dX10_bale_272 : decode cX10_bale 272 = .ok (.ifCond .gt 18, 3) := by decide +kernel
theorem dX10_bale_275 : decode cX10_bale 275 = .ok (.aload_n 0, 1) := by decide +kernel
theorem dX10_bale_276 : decode cX10_bale 276 = .ok (.getfield 26, 3) := by decide +kernel
theorem dX10_bale_279 : decode cX10_bale 279 = .ok (.iload_n 1, 1) := by decide +kernel
theorem dX10_bale_280 : decode cX10_bale 280 = .ok (.iaload, 1) := by decide +kernel
theorem dX10_bale_281 : decode cX10_bale 281 = .ok (.aload_n 0, 1) := by decide +kernel
theorem dX10_bale_282 : decode cX10_bale 282 = .ok (.getfield 22, 3) := by decide +kernel
theorem dX10_bale_285 : decode cX10_bale 285 = .ok (.iload_n 1, 1) := by decide +kernel
theorem dX10_bale_286 : decode cX10_bale 286 = .ok (.iaload, 1) := by decide +kernel
theorem dX10_bale_287 : decode cX10_bale 287 = .ok (.if_icmp .ge 7, 3) := by decide +kernel
theorem dX10_bale_290 : decode cX10_bale 290 = .ok (.iconst 1, 1) := by decide +kernel
theorem dX10_bale_291 : decode cX10_bale 291 = .ok (.goto 4, 3) := by decide +kernel
theorem dX10_bale_294 : decode cX10_bale 294 = .ok (.iconst 0, 1) := by decide +kernel
theorem dX10_bale_295 : decode cX10_bale 295 = .ok (.bastore, 1) := by decide +kernel
theorem dX10_bale_296 : decode cX10_bale 296 = .ok (.aload_n 0, 1) := by decide +kernel
theorem dX10_bale_297 : decode cX10_bale 297 = .ok (.getfield 96, 3) := by decide +kernel
theorem dX10_bale_300 : decode cX10_bale 300 = .ok (.iload 5, 2) := by decide +kernel
theorem dX10_bale_302 : decode cX10_bale 302 = .ok (.aload_n 0, 1) := by decide +kernel
theorem dX10_bale_303 : decode cX10_bale 303 = .ok (.getfield 108, 3) := by decide +kernel
theorem dX10_bale_306 : decode cX10_bale 306 = .ok (.iload 5, 2) := by decide +kernel
theorem dX10_bale_308 : decode cX10_bale 308 = .ok (.baload, 1) := by decide +kernel
theorem dX10_bale_309 : decode cX10_bale 309 = .ok (.ifCond .eq 7, 3) := by decide +kernel
theorem dX10_bale_312 : decode cX10_bale 312 = .ok (.iconst 0, 1) := by decide +kernel
theorem dX10_bale_313 : decode cX10_bale 313 = .ok (.goto 9, 3) := by decide +kernel
theorem dX10_bale_316 : decode cX10_bale 316 = .ok (.aload_n 0, 1) := by decide +kernel
theorem dX10_bale_317 : decode cX10_bale 317 = .ok (.getfield 38, 3) := by decide +kernel
theorem dX10_bale_320 : decode cX10_bale 320 = .ok (.iload_n 2, 1) := by decide +kernel
theorem dX10_bale_321 : decode cX10_bale 321 = .ok (.iaload, 1) := by decide +kernel
theorem dX10_bale_322 : decode cX10_bale 322 = .ok (.iastore, 1) := by decide +kernel
theorem dX10_bale_323 : decode cX10_bale 323 = .ok (.aload_n 0, 1) := by decide +kernel
theorem dX10_bale_324 : decode cX10_bale 324 = .ok (.getfield 29, 3) := by decide +kernel
theorem dX10_bale_327 : decode cX10_bale 327 = .ok (.iload_n 1, 1) := by decide +kernel
theorem dX10_bale_328 : decode cX10_bale 328 = .ok (.iaload, 1) := by decide +kernel
theorem dX10_bale_329 : decode cX10_bale 329 = .ok (.ifCond .le 16, 3) := by decide +kernel
theorem dX10_bale_332 : decode cX10_bale 332 = .ok (.aload_n 0, 1) := by decide +kernel
theorem dX10_bale_333 : decode cX10_bale 333 = .ok (.getfield 29, 3) := by decide +kernel
theorem dX10_bale_336 : decode cX10_bale 336 = .ok (.iload_n 1, 1) := by decide +kernel
theorem dX10_bale_337 : decode cX10_bale 337 = .ok (.dup2, 1) := by decide +kernel
theorem dX10_bale_338 : decode cX10_bale 338 = .ok (.iaload, 1) := by decide +kernel
theorem dX10_bale_339 : decode cX10_bale 339 = .ok (.iconst 1, 1) := by decide +kernel
theorem dX10_bale_340 : decode cX10_bale 340 = .ok (.isub, 1) := by decide +kernel
theorem dX10_bale_341 : decode cX10_bale 341 = .ok (.iastore, 1) := by decide +kernel
theorem dX10_bale_342 : decode cX10_bale 342 = .ok (.goto 28, 3) := by decide +kernel
theorem dX10_bale_345 : decode cX10_bale 345 = .ok (.aload_n 0, 1) := by decide +kernel
theorem dX10_bale_346 : decode cX10_bale 346 = .ok (.getfield 26, 3) := by decide +kernel
theorem dX10_bale_349 : decode cX10_bale 349 = .ok (.iload_n 1, 1) := by decide +kernel
theorem dX10_bale_350 : decode cX10_bale 350 = .ok (.iaload, 1) := by decide +kernel
theorem dX10_bale_351 : decode cX10_bale 351 = .ok (.aload_n 0, 1) := by decide +kernel
theorem dX10_bale_352 : decode cX10_bale 352 = .ok (.getfield 22, 3) := by decide +kernel
theorem dX10_bale_355 : decode cX10_bale 355 = .ok (.iload_n 1, 1) := by decide +kernel
theorem dX10_bale_356 : decode cX10_bale 356 = .ok (.iaload, 1) := by decide +kernel
theorem dX10_bale_357 : decode cX10_bale 357 = .ok (.if_icmp .ge 13, 3) := by decide +kernel
theorem dX10_bale_360 : decode cX10_bale 360 = .ok (.aload_n 0, 1) := by decide +kernel
theorem dX10_bale_361 : decode cX10_bale 361 = .ok (.getfield 26, 3) := by decide +kernel
theorem dX10_bale_364 : decode cX10_bale 364 = .ok (.iload_n 1, 1) := by decide +kernel
theorem dX10_bale_365 : decode cX10_bale 365 = .ok (.dup2, 1) := by decide +kernel
theorem dX10_bale_366 : decode cX10_bale 366 = .ok (.iaload, 1) := by decide +kernel
theorem dX10_bale_367 : decode cX10_bale 367 = .ok (.iconst 1, 1) := by decide +kernel
theorem dX10_bale_368 : decode cX10_bale 368 = .ok (.iadd, 1) := by decide +kernel
theorem dX10_bale_369 : decode cX10_bale 369 = .ok (.iastore, 1) := by decide +kernel
theorem dX10_bale_370 : decode cX10_bale 370 = .ok (.aload_n 0, 1) := by decide +kernel
theorem dX10_bale_371 : decode cX10_bale 371 = .ok (.getfield 32, 3) := by decide +kernel
theorem dX10_bale_374 : decode cX10_bale 374 = .ok (.iload_n 1, 1) := by decide +kernel
theorem dX10_bale_375 : decode cX10_bale 375 = .ok (.dup2, 1) := by decide +kernel
theorem dX10_bale_376 : decode cX10_bale 376 = .ok (.iaload, 1) := by decide +kernel
theorem dX10_bale_377 : decode cX10_bale 377 = .ok (.aload_n 0, 1) := by decide +kernel
theorem dX10_bale_378 : decode cX10_bale 378 = .ok (.getfield 96, 3) := by decide +kernel
theorem dX10_bale_381 : decode cX10_bale 381 = .ok (.iload 5, 2) := by decide +kernel
theorem dX10_bale_383 : decode cX10_bale 383 = .ok (.iaload, 1) := by decide +kernel
theorem dX10_bale_384 : decode cX10_bale 384 = .ok (.iadd, 1) := by decide +kernel
theorem dX10_bale_385 : decode cX10_bale 385 = .ok (.iastore, 1) := by decide +kernel
theorem dX10_bale_386 : decode cX10_bale 386 = .ok (.iconst 5, 1) := by decide +kernel
theorem dX10_bale_387 : decode cX10_bale 387 = .ok (.istore 6, 2) := by decide +kernel
theorem dX10_bale_389 : decode cX10_bale 389 = .ok (.iconst 0, 1) := by decide +kernel
theorem dX10_bale_390 : decode cX10_bale 390 = .ok (.istore 7, 2) := by decide +kernel
theorem dX10_bale_392 : decode cX10_bale 392 = .ok (.iload 7, 2) := by decide +kernel
theorem dX10_bale_394 : decode cX10_bale 394 = .ok (.aload_n 0, 1) := by decide +kernel
theorem dX10_bale_395 : decode cX10_bale 395 = .ok (.getfield 196, 3) := by decide +kernel
theorem dX10_bale_398 : decode cX10_bale 398 = .ok (.if_icmp .ge 50, 3) := by decide +kernel
theorem dX10_bale_401 : decode cX10_bale 401 = .ok (.iload 6, 2) := by decide +kernel
theorem dX10_bale_403 : decode cX10_bale 403 = .ok (.ifCond .le 45, 3) := by decide +kernel
theorem dX10_bale_406 : decode cX10_bale 406 = .ok (.aload_n 0, 1) := by decide +kernel
theorem dX10_bale_407 : decode cX10_bale 407 = .ok (.iload 7, 2) := by decide +kernel
theorem dX10_bale_409 : decode cX10_bale 409 = .ok (.iload_n 1, 1) := by decide +kernel
theorem dX10_bale_410 : decode cX10_bale 410 = .ok (.invokevirtual 205, 3) := by decide +kernel
theorem dX10_bale_413 : decode cX10_bale 413 = .ok (.ifCond .eq 29, 3) := by decide +kernel
theorem dX10_bale_416 : decode cX10_bale 416 = .ok (.aload_n 0, 1) := by decide +kernel
theorem dX10_bale_417 : decode cX10_bale 417 = .ok (.getfield 69, 3) := by decide +kernel
theorem dX10_bale_420 : decode cX10_bale 420 = .ok (.iload 7, 2) := by decide +kernel
theorem dX10_bale_422 : decode cX10_bale 422 = .ok (.iaload, 1) := by decide +kernel
theorem dX10_bale_423 : decode cX10_bale 423 = .ok (.iload_n 2, 1) := by decide +kernel
theorem dX10_bale_424 : decode cX10_bale 424 = .ok (.if_icmp .eq 6, 3) := by decide +kernel
theorem dX10_bale_427 : decode cX10_bale 427 = .ok (.goto 15, 3) := by decide +kernel
theorem dX10_bale_430 : decode cX10_bale 430 = .ok (.aload_n 0, 1) := by decide +kernel
theorem dX10_bale_431 : decode cX10_bale 431 = .ok (.getfield 78, 3) := by decide +kernel
theorem dX10_bale_434 : decode cX10_bale 434 = .ok (.iload 7, 2) := by decide +kernel
theorem dX10_bale_436 : decode cX10_bale 436 = .ok (.iload 5, 2) := by decide +kernel
theorem dX10_bale_438 : decode cX10_bale 438 = .ok (.iastore, 1) := by decide +kernel
theorem dX10_bale_439 : decode cX10_bale 439 = .ok (.iinc 6 (-1), 3) := by decide +kernel
theorem dX10_bale_442 : decode cX10_bale 442 = .ok (.iinc 7 1, 3) := by decide +kernel
theorem dX10_bale_445 : decode cX10_bale 445 = .ok (.goto (-53), 3) := by decide +kernel
theorem dX10_bale_448 : decode cX10_bale 448 = .ok (.aload_n 0, 1) := by decide +kernel
theorem dX10_bale_449 : decode cX10_bale 449 = .ok (.iload 5, 2) := by decide +kernel
theorem dX10_bale_451 : decode cX10_bale 451 = .ok (.invokevirtual 140, 3) := by decide +kernel
theorem dX10_bale_454 : decode cX10_bale 454 = .ok (.ireturn, 1) := by decide +kernel
theorem dX10_isLoose_0 : decode cX10_isLoose 0 = .ok (.aload_n 0, 1) := by decide +kernel
theorem dX10_isLoose_1 : decode cX10_isLoose 1 = .ok (.getfield 66, 3) := by decide +kernel
theorem dX10_isLoose_4 : decode cX10_isLoose 4 = .ok (.iload_n 1, 1) := by decide +kernel
theorem dX10_isLoose_5 : decode cX10_isLoose 5 = .ok (.iaload, 1) := by decide +kernel
theorem dX10_isLoose_6 : decode cX10_isLoose 6 = .ok (.iload_n 2, 1) := by decide +kernel
theorem dX10_isLoose_7 : decode cX10_isLoose 7 = .ok (.if_icmp .ne 18, 3) := by decide +kernel
theorem dX10_isLoose_10 : decode cX10_isLoose 10 = .ok (.aload_n 0, 1) := by decide +kernel
theorem dX10_isLoose_11 : decode cX10_isLoose 11 = .ok (.getfield 78, 3) := by decide +kernel
theorem dX10_isLoose_14 : decode cX10_isLoose 14 = .ok (.iload_n 1, 1) := by decide +kernel
theorem dX10_isLoose_15 : decode cX10_isLoose 15 = .ok (.iaload, 1) := by decide +kernel
theorem dX10_isLoose_16 : decode cX10_isLoose 16 = .ok (.bipush (-2), 2) := by decide +kernel
theorem dX10_isLoose_18 : decode cX10_isLoose 18 = .ok (.if_icmp .ne 7, 3) := by decide +kernel
theorem dX10_isLoose_21 : decode cX10_isLoose 21 = .ok (.iconst 1, 1) := by decide +kernel
theorem dX10_isLoose_22 : decode cX10_isLoose 22 = .ok (.goto 4, 3) := by decide +kernel
theorem dX10_isLoose_25 : decode cX10_isLoose 25 = .ok (.iconst 0, 1) := by decide +kernel
theorem dX10_isLoose_26 : decode cX10_isLoose 26 = .ok (.ireturn, 1) := by decide +kernel
theorem dX10_baleOf_0 : decode cX10_baleOf 0 = .ok (.aload_n 0, 1) := by decide +kernel
theorem dX10_baleOf_1 : decode cX10_baleOf 1 = .ok (.iconst 0, 1) := by decide +kernel
theorem dX10_baleOf_2 : decode cX10_baleOf 2 = .ok (.putfield 1, 3) := by decide +kernel
theorem dX10_baleOf_5 : decode cX10_baleOf 5 = .ok (.iload_n 1, 1) := by decide +kernel
theorem dX10_baleOf_6 : decode cX10_baleOf 6 = .ok (.ifCond .lt 11, 3) := by decide +kernel
theorem dX10_baleOf_9 : decode cX10_baleOf 9 = .ok (.iload_n 1, 1) := by decide +kernel
theorem dX10_baleOf_10 : decode cX10_baleOf 10 = .ok (.aload_n 0, 1) := by decide +kernel
theorem dX10_baleOf_11 : decode cX10_baleOf 11 = .ok (.getfield 211, 3) := by decide +kernel
theorem dX10_baleOf_14 : decode cX10_baleOf 14 = .ok (.if_icmp .lt 5, 3) := by decide +kernel
theorem dX10_baleOf_17 : decode cX10_baleOf 17 = .ok (.iconst (-1), 1) := by decide +kernel
theorem dX10_baleOf_18 : decode cX10_baleOf 18 = .ok (.ireturn, 1) := by decide +kernel
theorem dX10_baleOf_19 : decode cX10_baleOf 19 = .ok (.iload_n 2, 1) := by decide +kernel
theorem dX10_baleOf_20 : decode cX10_baleOf 20 = .ok (.tableswitch 90 0 5 #[40, 47, 54, 61, 68, 83], 40) := by decide +kernel
theorem dX10_baleOf_60 : decode cX10_baleOf 60 = .ok (.aload_n 0, 1) := by decide +kernel
theorem dX10_baleOf_61 : decode cX10_baleOf 61 = .ok (.getfield 84, 3) := by decide +kernel
theorem dX10_baleOf_64 : decode cX10_baleOf 64 = .ok (.iload_n 1, 1) := by decide +kernel
theorem dX10_baleOf_65 : decode cX10_baleOf 65 = .ok (.iaload, 1) := by decide +kernel
theorem dX10_baleOf_66 : decode cX10_baleOf 66 = .ok (.ireturn, 1) := by decide +kernel
theorem dX10_baleOf_67 : decode cX10_baleOf 67 = .ok (.aload_n 0, 1) := by decide +kernel
theorem dX10_baleOf_68 : decode cX10_baleOf 68 = .ok (.getfield 87, 3) := by decide +kernel
theorem dX10_baleOf_71 : decode cX10_baleOf 71 = .ok (.iload_n 1, 1) := by decide +kernel
theorem dX10_baleOf_72 : decode cX10_baleOf 72 = .ok (.iaload, 1) := by decide +kernel
theorem dX10_baleOf_73 : decode cX10_baleOf 73 = .ok (.ireturn, 1) := by decide +kernel
theorem dX10_baleOf_74 : decode cX10_baleOf 74 = .ok (.aload_n 0, 1) := by decide +kernel
theorem dX10_baleOf_75 : decode cX10_baleOf 75 = .ok (.getfield 90, 3) := by decide +kernel
theorem dX10_baleOf_78 : decode cX10_baleOf 78 = .ok (.iload_n 1, 1) := by decide +kernel
theorem dX10_baleOf_79 : decode cX10_baleOf 79 = .ok (.iaload, 1) := by decide +kernel
theorem dX10_baleOf_80 : decode cX10_baleOf 80 = .ok (.ireturn, 1) := by decide +kernel
theorem dX10_baleOf_81 : decode cX10_baleOf 81 = .ok (.aload_n 0, 1) := by decide +kernel
theorem dX10_baleOf_82 : decode cX10_baleOf 82 = .ok (.getfield 93, 3) := by decide +kernel
theorem dX10_baleOf_85 : decode cX10_baleOf 85 = .ok (.iload_n 1, 1) := by decide +kernel
theorem dX10_baleOf_86 : decode cX10_baleOf 86 = .ok (.iaload, 1) := by decide +kernel
theorem dX10_baleOf_87 : decode cX10_baleOf 87 = .ok (.ireturn, 1) := by decide +kernel
theorem dX10_baleOf_88 : decode cX10_baleOf 88 = .ok (.aload_n 0, 1) := by decide +kernel
theorem dX10_baleOf_89 : decode cX10_baleOf 89 = .ok (.getfield 108, 3) := by decide +kernel
theorem dX10_baleOf_92 : decode cX10_baleOf 92 = .ok (.iload_n 1, 1) := by decide +kernel
theorem dX10_baleOf_93 : decode cX10_baleOf 93 = .ok (.baload, 1) := by decide +kernel
theorem dX10_baleOf_94 : decode cX10_baleOf 94 = .ok (.ifCond .eq 7, 3) := by decide +kernel
theorem dX10_baleOf_97 : decode cX10_baleOf 97 = .ok (.iconst 1, 1) := by decide +kernel
theorem dX10_baleOf_98 : decode cX10_baleOf 98 = .ok (.goto 4, 3) := by decide +kernel
theorem dX10_baleOf_101 : decode cX10_baleOf 101 = .ok (.iconst 0, 1) := by decide +kernel
theorem dX10_baleOf_102 : decode cX10_baleOf 102 = .ok (.ireturn, 1) := by decide +kernel
theorem dX10_baleOf_103 : decode cX10_baleOf 103 = .ok (.aload_n 0, 1) := by decide +kernel
theorem dX10_baleOf_104 : decode cX10_baleOf 104 = .ok (.getfield 96, 3) := by decide +kernel
theorem dX10_baleOf_107 : decode cX10_baleOf 107 = .ok (.iload_n 1, 1) := by decide +kernel
theorem dX10_baleOf_108 : decode cX10_baleOf 108 = .ok (.iaload, 1) := by decide +kernel
theorem dX10_baleOf_109 : decode cX10_baleOf 109 = .ok (.ireturn, 1) := by decide +kernel
theorem dX10_baleOf_110 : decode cX10_baleOf 110 = .ok (.iconst (-1), 1) := by decide +kernel
theorem dX10_baleOf_111 : decode cX10_baleOf 111 = .ok (.ireturn, 1) := by decide +kernel
theorem dX10_about_0 : decode cX10_about 0 = .ok (.aload_n 0, 1) := by decide +kernel
theorem dX10_about_1 : decode cX10_about 1 = .ok (.iconst 0, 1) := by decide +kernel
theorem dX10_about_2 : decode cX10_about 2 = .ok (.putfield 1, 3) := by decide +kernel
theorem dX10_about_5 : decode cX10_about 5 = .ok (.aload_n 0, 1) := by decide +kernel
theorem dX10_about_6 : decode cX10_about 6 = .ok (.iload_n 1, 1) := by decide +kernel
theorem dX10_about_7 : decode cX10_about 7 = .ok (.invokevirtual 143, 3) := by decide +kernel
theorem dX10_about_10 : decode cX10_about 10 = .ok (.ifCond .ne 5, 3) := by decide +kernel
theorem dX10_about_13 : decode cX10_about 13 = .ok (.iconst (-1), 1) := by decide +kernel
theorem dX10_about_14 : decode cX10_about 14 = .ok (.ireturn, 1) := by decide +kernel
theorem dX10_about_15 : decode cX10_about 15 = .ok (.iconst 0, 1) := by decide +kernel
theorem dX10_about_16 : decode cX10_about 16 = .ok (.istore_n 3, 1) := by decide +kernel
theorem dX10_about_17 : decode cX10_about 17 = .ok (.iload_n 2, 1) := by decide +kernel
theorem dX10_about_18 : decode cX10_about 18 = .ok (.tableswitch 143 0 5 #[38, 45, 52, 59, 66, 104], 38) := by decide +kernel
theorem dX10_about_56 : decode cX10_about 56 = .ok (.aload_n 0, 1) := by decide +kernel
theorem dX10_about_57 : decode cX10_about 57 = .ok (.getfield 22, 3) := by decide +kernel
theorem dX10_about_60 : decode cX10_about 60 = .ok (.iload_n 1, 1) := by decide +kernel
theorem dX10_about_61 : decode cX10_about 61 = .ok (.iaload, 1) := by decide +kernel
theorem dX10_about_62 : decode cX10_about 62 = .ok (.ireturn, 1) := by decide +kernel
theorem dX10_about_63 : decode cX10_about 63 = .ok (.aload_n 0, 1) := by decide +kernel
theorem dX10_about_64 : decode cX10_about 64 = .ok (.getfield 26, 3) := by decide +kernel
theorem dX10_about_67 : decode cX10_about 67 = .ok (.iload_n 1, 1) := by decide +kernel
theorem dX10_about_68 : decode cX10_about 68 = .ok (.iaload, 1) := by decide +kernel
theorem dX10_about_69 : decode cX10_about 69 = .ok (.ireturn, 1) := by decide +kernel
theorem dX10_about_70 : decode cX10_about 70 = .ok (.aload_n 0, 1) := by decide +kernel
theorem dX10_about_71 : decode cX10_about 71 = .ok (.getfield 29, 3) := by decide +kernel
theorem dX10_about_74 : decode cX10_about 74 = .ok (.iload_n 1, 1) := by decide +kernel
theorem dX10_about_75 : decode cX10_about 75 = .ok (.iaload, 1) := by decide +kernel
theorem dX10_about_76 : decode cX10_about 76 = .ok (.ireturn, 1) := by decide +kernel
theorem dX10_about_77 : decode cX10_about 77 = .ok (.aload_n 0, 1) := by decide +kernel
theorem dX10_about_78 : decode cX10_about 78 = .ok (.getfield 32, 3) := by decide +kernel
theorem dX10_about_81 : decode cX10_about 81 = .ok (.iload_n 1, 1) := by decide +kernel
theorem dX10_about_82 : decode cX10_about 82 = .ok (.iaload, 1) := by decide +kernel
theorem dX10_about_83 : decode cX10_about 83 = .ok (.ireturn, 1) := by decide +kernel
theorem dX10_about_84 : decode cX10_about 84 = .ok (.iconst 0, 1) := by decide +kernel
theorem dX10_about_85 : decode cX10_about 85 = .ok (.istore 4, 2) := by decide +kernel
theorem dX10_about_87 : decode cX10_about 87 = .ok (.iload 4, 2) := by decide +kernel
theorem dX10_about_89 : decode cX10_about 89 = .ok (.aload_n 0, 1) := by decide +kernel
theorem dX10_about_90 : decode cX10_about 90 = .ok (.getfield 196, 3) := by decide +kernel
theorem dX10_about_93 : decode cX10_about 93 = .ok (.if_icmp .ge 27, 3) := by decide +kernel
theorem dX10_about_96 : decode cX10_about 96 = .ok (.iload_n 3, 1) := by decide +kernel
theorem dX10_about_97 : decode cX10_about 97 = .ok (.aload_n 0, 1) := by decide +kernel
theorem dX10_about_98 : decode cX10_about 98 = .ok (.iload 4, 2) := by decide +kernel
theorem dX10_about_100 : decode cX10_about 100 = .ok (.iload_n 1, 1) := by decide +kernel
theorem dX10_about_101 : decode cX10_about 101 = .ok (.invokevirtual 205, 3) := by decide +kernel
theorem dX10_about_104 : decode cX10_about 104 = .ok (.ifCond .eq 7, 3) := by decide +kernel
theorem dX10_about_107 : decode cX10_about 107 = .ok (.iconst 1, 1) := by decide +kernel
theorem dX10_about_108 : decode cX10_about 108 = .ok (.goto 4, 3) := by decide +kernel
theorem dX10_about_111 : decode cX10_about 111 = .ok (.iconst 0, 1) := by decide +kernel
theorem dX10_about_112 : decode cX10_about 112 = .ok (.iadd, 1) := by decide +kernel
theorem dX10_about_113 : decode cX10_about 113 = .ok (.istore_n 3, 1) := by decide +kernel
theorem dX10_about_114 : decode cX10_about 114 = .ok (.iinc 4 1, 3) := by decide +kernel
theorem dX10_about_117 : decode cX10_about 117 = .ok (.goto (-30), 3) := by decide +kernel
theorem dX10_about_120 : decode cX10_about 120 = .ok (.iload_n 3, 1) := by decide +kernel
theorem dX10_about_121 : decode cX10_about 121 = .ok (.ireturn, 1) := by decide +kernel
theorem dX10_about_122 : decode cX10_about 122 = .ok (.iconst 0, 1) := by decide +kernel
theorem dX10_about_123 : decode cX10_about 123 = .ok (.istore 4, 2) := by decide +kernel
theorem dX10_about_125 : decode cX10_about 125 = .ok (.iload 4, 2) := by decide +kernel
theorem dX10_about_127 : decode cX10_about 127 = .ok (.aload_n 0, 1) := by decide +kernel
theorem dX10_about_128 : decode cX10_about 128 = .ok (.getfield 129, 3) := by decide +kernel
theorem dX10_about_131 : decode cX10_about 131 = .ok (.if_icmp .ge 28, 3) := by decide +kernel
theorem dX10_about_134 : decode cX10_about 134 = .ok (.iload_n 3, 1) := by decide +kernel
theorem dX10_about_135 : decode cX10_about 135 = .ok (.aload_n 0, 1) := by decide +kernel
theorem dX10_about_136 : decode cX10_about 136 = .ok (.getfield 45, 3) := by decide +kernel
theorem dX10_about_139 : decode cX10_about 139 = .ok (.iload 4, 2) := by decide +kernel
theorem dX10_about_141 : decode cX10_about 141 = .ok (.iaload, 1) := by decide +kernel
theorem dX10_about_142 : decode cX10_about 142 = .ok (.iload_n 1, 1) := by decide +kernel
theorem dX10_about_143 : decode cX10_about 143 = .ok (.if_icmp .ne 7, 3) := by decide +kernel
theorem dX10_about_146 : decode cX10_about 146 = .ok (.iconst 1, 1) := by decide +kernel
theorem dX10_about_147 : decode cX10_about 147 = .ok (.goto 4, 3) := by decide +kernel
theorem dX10_about_150 : decode cX10_about 150 = .ok (.iconst 0, 1) := by decide +kernel
theorem dX10_about_151 : decode cX10_about 151 = .ok (.iadd, 1) := by decide +kernel
theorem dX10_about_152 : decode cX10_about 152 = .ok (.istore_n 3, 1) := by decide +kernel
theorem dX10_about_153 : decode cX10_about 153 = .ok (.iinc 4 1, 3) := by decide +kernel
theorem dX10_about_156 : decode cX10_about 156 = .ok (.goto (-31), 3) := by decide +kernel
theorem dX10_about_159 : decode cX10_about 159 = .ok (.iload_n 3, 1) := by decide +kernel
theorem dX10_about_160 : decode cX10_about 160 = .ok (.ireturn, 1) := by decide +kernel
theorem dX10_about_161 : decode cX10_about 161 = .ok (.iconst (-1), 1) := by decide +kernel
theorem dX10_about_162 : decode cX10_about 162 = .ok (.ireturn, 1) := by decide +kernel
theorem dX10_chest_0 : decode cX10_chest 0 = .ok (.aload_n 0, 1) := by decide +kernel
theorem dX10_chest_1 : decode cX10_chest 1 = .ok (.iconst 0, 1) := by decide +kernel
theorem dX10_chest_2 : decode cX10_chest 2 = .ok (.putfield 1, 3) := by decide +kernel
theorem dX10_chest_5 : decode cX10_chest 5 = .ok (.iload_n 1, 1) := by decide +kernel
theorem dX10_chest_6 : decode cX10_chest 6 = .ok (.ifCond .lt 11, 3) := by decide +kernel
theorem dX10_chest_9 : decode cX10_chest 9 = .ok (.iload_n 1, 1) := by decide +kernel
theorem dX10_chest_10 : decode cX10_chest 10 = .ok (.aload_n 0, 1) := by decide +kernel
theorem dX10_chest_11 : decode cX10_chest 11 = .ok (.getfield 208, 3) := by decide +kernel
theorem dX10_chest_14 : decode cX10_chest 14 = .ok (.if_icmp .lt 5, 3) := by decide +kernel
theorem dX10_chest_17 : decode cX10_chest 17 = .ok (.iconst (-1), 1) := by decide +kernel
theorem dX10_chest_18 : decode cX10_chest 18 = .ok (.ireturn, 1) := by decide +kernel
theorem dX10_chest_19 : decode cX10_chest 19 = .ok (.iload_n 2, 1) := by decide +kernel
theorem dX10_chest_20 : decode cX10_chest 20 = .ok (.ifCond .ne 12, 3) := by decide +kernel
theorem dX10_chest_23 : decode cX10_chest 23 = .ok (.aload_n 0, 1) := by decide +kernel
theorem dX10_chest_24 : decode cX10_chest 24 = .ok (.getfield 99, 3) := by decide +kernel
theorem dX10_chest_27 : decode cX10_chest 27 = .ok (.iload_n 1, 1) := by decide +kernel
theorem dX10_chest_28 : decode cX10_chest 28 = .ok (.iaload, 1) := by decide +kernel
theorem dX10_chest_29 : decode cX10_chest 29 = .ok (.goto 32, 3) := by decide +kernel
theorem dX10_chest_32 : decode cX10_chest 32 = .ok (.iload_n 2, 1) := by decide +kernel
theorem dX10_chest_33 : decode cX10_chest 33 = .ok (.iconst 1, 1) := by decide +kernel
theorem dX10_chest_34 : decode cX10_chest 34 = .ok (.if_icmp .ne 12, 3) := by decide +kernel
theorem dX10_chest_37 : decode cX10_chest 37 = .ok (.aload_n 0, 1) := by decide +kernel
theorem dX10_chest_38 : decode cX10_chest 38 = .ok (.getfield 102, 3) := by decide +kernel
theorem dX10_chest_41 : decode cX10_chest 41 = .ok (.iload_n 1, 1) := by decide +kernel
theorem dX10_chest_42 : decode cX10_chest 42 = .ok (.iaload, 1) := by decide +kernel
theorem dX10_chest_43 : decode cX10_chest 43 = .ok (.goto 18, 3) := by decide +kernel
theorem dX10_chest_46 : decode cX10_chest 46 = .ok (.iload_n 2, 1) := by decide +kernel
theorem dX10_chest_47 : decode cX10_chest 47 = .ok (.iconst 2, 1) := by decide +kernel
theorem dX10_chest_48 : decode cX10_chest 48 = .ok (.if_icmp .ne 12, 3) := by decide +kernel
theorem dX10_chest_51 : decode cX10_chest 51 = .ok (.aload_n 0, 1) := by decide +kernel
theorem dX10_chest_52 : decode cX10_chest 52 = .ok (.getfield 105, 3) := by decide +kernel
theorem dX10_chest_55 : decode cX10_chest 55 = .ok (.iload_n 1, 1) := by decide +kernel
theorem dX10_chest_56 : decode cX10_chest 56 = .ok (.iaload, 1) := by decide +kernel
theorem dX10_chest_57 : decode cX10_chest 57 = .ok (.goto 4, 3) := by decide +kernel
theorem dX10_chest_60 : decode cX10_chest 60 = .ok (.iconst (-1), 1) := by decide +kernel
theorem dX10_chest_61 : decode cX10_chest 61 = .ok (.ireturn, 1) := by decide +kernel
theorem dX10_chestOf_0 : decode cX10_chestOf 0 = .ok (.aload_n 0, 1) := by decide +kernel
theorem dX10_chestOf_1 : decode cX10_chestOf 1 = .ok (.getfield 63, 3) := by decide +kernel
theorem dX10_chestOf_4 : decode cX10_chestOf 4 = .ok (.iload_n 1, 1) := by decide +kernel
theorem dX10_chestOf_5 : decode cX10_chestOf 5 = .ok (.iaload, 1) := by decide +kernel
theorem dX10_chestOf_6 : decode cX10_chestOf 6 = .ok (.istore_n 2, 1) := by decide +kernel
theorem dX10_chestOf_7 : decode cX10_chestOf 7 = .ok (.iload_n 2, 1) := by decide +kernel
theorem dX10_chestOf_8 : decode cX10_chestOf 8 = .ok (.ifCond .lt 12, 3) := by decide +kernel
theorem dX10_chestOf_11 : decode cX10_chestOf 11 = .ok (.aload_n 0, 1) := by decide +kernel
theorem dX10_chestOf_12 : decode cX10_chestOf 12 = .ok (.getfield 78, 3) := by decide +kernel
theorem dX10_chestOf_15 : decode cX10_chestOf 15 = .ok (.iload_n 2, 1) := by decide +kernel
theorem dX10_chestOf_16 : decode cX10_chestOf 16 = .ok (.iaload, 1) := by decide +kernel
theorem dX10_chestOf_17 : decode cX10_chestOf 17 = .ok (.ifCond .ge 7, 3) := by decide +kernel
theorem dX10_chestOf_20 : decode cX10_chestOf 20 = .ok (.iconst (-1), 1) := by decide +kernel
theorem dX10_chestOf_21 : decode cX10_chestOf 21 = .ok (.goto 14, 3) := by decide +kernel
theorem dX10_chestOf_24 : decode cX10_chestOf 24 = .ok (.aload_n 0, 1) := by decide +kernel
theorem dX10_chestOf_25 : decode cX10_chestOf 25 = .ok (.getfield 93, 3) := by decide +kernel
theorem dX10_chestOf_28 : decode cX10_chestOf 28 = .ok (.aload_n 0, 1) := by decide +kernel
theorem dX10_chestOf_29 : decode cX10_chestOf 29 = .ok (.getfield 78, 3) := by decide +kernel
theorem dX10_chestOf_32 : decode cX10_chestOf 32 = .ok (.iload_n 2, 1) := by decide +kernel
theorem dX10_chestOf_33 : decode cX10_chestOf 33 = .ok (.iaload, 1) := by decide +kernel
theorem dX10_chestOf_34 : decode cX10_chestOf 34 = .ok (.iaload, 1) := by decide +kernel
theorem dX10_chestOf_35 : decode cX10_chestOf 35 = .ok (.ireturn, 1) := by decide +kernel
theorem dX10_share_0 : decode cX10_share 0 = .ok (.aload_n 0, 1) := by decide +kernel
theorem dX10_share_1 : decode cX10_share 1 = .ok (.iconst 0, 1) := by decide +kernel
theorem dX10_share_2 : decode cX10_share 2 = .ok (.putfield 1, 3) := by decide +kernel
theorem dX10_share_5 : decode cX10_share 5 = .ok (.iload_n 1, 1) := by decide +kernel
theorem dX10_share_6 : decode cX10_share 6 = .ok (.ifCond .lt 19, 3) := by decide +kernel
theorem dX10_share_9 : decode cX10_share 9 = .ok (.iload_n 1, 1) := by decide +kernel
theorem dX10_share_10 : decode cX10_share 10 = .ok (.aload_n 0, 1) := by decide +kernel
theorem dX10_share_11 : decode cX10_share 11 = .ok (.getfield 208, 3) := by decide +kernel
theorem dX10_share_14 : decode cX10_share 14 = .ok (.if_icmp .ge 11, 3) := by decide +kernel
theorem dX10_share_17 : decode cX10_share 17 = .ok (.aload_n 0, 1) := by decide +kernel
theorem dX10_share_18 : decode cX10_share 18 = .ok (.iload_n 2, 1) := by decide +kernel
theorem dX10_share_19 : decode cX10_share 19 = .ok (.invokevirtual 157, 3) := by decide +kernel
theorem dX10_share_22 : decode cX10_share 22 = .ok (.ifCond .ne 5, 3) := by decide +kernel
theorem dX10_share_25 : decode cX10_share 25 = .ok (.iconst (-1), 1) := by decide +kernel
theorem dX10_share_26 : decode cX10_share 26 = .ok (.ireturn, 1) := by decide +kernel
theorem dX10_share_27 : decode cX10_share 27 = .ok (.iconst 0, 1) := by decide +kernel
theorem dX10_share_28 : decode cX10_share 28 = .ok (.istore_n 3, 1) := by decide +kernel
theorem dX10_share_29 : decode cX10_share 29 = .ok (.iconst 0, 1) := by decide +kernel
theorem dX10_share_30 : decode cX10_share 30 = .ok (.istore 4, 2) := by decide +kernel
theorem dX10_share_32 : decode cX10_share 32 = .ok (.iload 4, 2) := by decide +kernel
theorem dX10_share_34 : decode cX10_share 34 = .ok (.aload_n 0, 1) := by decide +kernel
theorem dX10_share_35 : decode cX10_share 35 = .ok (.getfield 129, 3) := by decide +kernel
theorem dX10_share_38 : decode cX10_share 38 = .ok (.if_icmp .ge 44, 3) := by decide +kernel
theorem dX10_share_41 : decode cX10_share 41 = .ok (.iload_n 3, 1) := by decide +kernel
theorem dX10_share_42 : decode cX10_share 42 = .ok (.aload_n 0, 1) := by decide +kernel
theorem dX10_share_43 : decode cX10_share 43 = .ok (.getfield 48, 3) := by decide +kernel
theorem dX10_share_46 : decode cX10_share 46 = .ok (.iload 4, 2) := by decide +kernel
theorem dX10_share_48 : decode cX10_share 48 = .ok (.iaload, 1) := by decide +kernel
theorem dX10_share_49 : decode cX10_share 49 = .ok (.iload_n 2, 1) := by decide +kernel
theorem dX10_share_50 : decode cX10_share 50 = .ok (.if_icmp .ne 23, 3) := by decide +kernel
theorem dX10_share_53 : decode cX10_share 53 = .ok (.aload_n 0, 1) := by decide +kernel
theorem dX10_share_54 : decode cX10_share 54 = .ok (.iload 4, 2) := by decide +kernel
theorem dX10_share_56 : decode cX10_share 56 = .ok (.invokevirtual 214, 3) := by decide +kernel
theorem dX10_share_59 : decode cX10_share 59 = .ok (.iload_n 1, 1) := by decide +kernel
theorem dX10_share_60 : decode cX10_share 60 = .ok (.if_icmp .ne 13, 3) := by decide +kernel
theorem dX10_share_63 : decode cX10_share 63 = .ok (.aload_n 0, 1) := by decide +kernel
theorem dX10_share_64 : decode cX10_share 64 = .ok (.getfield 51, 3) := by decide +kernel
theorem dX10_share_67 : decode cX10_share 67 = .ok (.iload 4, 2) := by decide +kernel
theorem dX10_share_69 : decode cX10_share 69 = .ok (.iaload, 1) := by decide +kernel
theorem dX10_share_70 : decode cX10_share 70 = .ok (.goto 4, 3) := by decide +kernel
theorem dX10_share_73 : decode cX10_share 73 = .ok (.iconst 0, 1) := by decide +kernel
theorem dX10_share_74 : decode cX10_share 74 = .ok (.iadd, 1) := by decide +kernel
theorem dX10_share_75 : decode cX10_share 75 = .ok (.istore_n 3, 1) := by decide +kernel
theorem dX10_share_76 : decode cX10_share 76 = .ok (.iinc 4 1, 3) := by decide +kernel
theorem dX10_share_79 : decode cX10_share 79 = .ok (.goto (-47), 3) := by decide +kernel
theorem dX10_share_82 : decode cX10_share 82 = .ok (.iload_n 3, 1) := by decide +kernel
theorem dX10_share_83 : decode cX10_share 83 = .ok (.ireturn, 1) := by decide +kernel
theorem dX10_traced_0 : decode cX10_traced 0 = .ok (.aload_n 0, 1) := by decide +kernel
theorem dX10_traced_1 : decode cX10_traced 1 = .ok (.iconst 0, 1) := by decide +kernel
theorem dX10_traced_2 : decode cX10_traced 2 = .ok (.putfield 1, 3) := by decide +kernel
theorem dX10_traced_5 : decode cX10_traced 5 = .ok (.aload_n 0, 1) := by decide +kernel
theorem dX10_traced_6 : decode cX10_traced 6 = .ok (.iload_n 1, 1) := by decide +kernel
theorem dX10_traced_7 : decode cX10_traced 7 = .ok (.invokevirtual 157, 3) := by decide +kernel
theorem dX10_traced_10 : decode cX10_traced 10 = .ok (.ifCond .ne 5, 3) := by decide +kernel
theorem dX10_traced_13 : decode cX10_traced 13 = .ok (.iconst (-1), 1) := by decide +kernel
theorem dX10_traced_14 : decode cX10_traced 14 = .ok (.ireturn, 1) := by decide +kernel
theorem dX10_traced_15 : decode cX10_traced 15 = .ok (.bipush (-2), 2) := by decide +kernel
theorem dX10_traced_17 : decode cX10_traced 17 = .ok (.istore 4, 2) := by decide +kernel
theorem dX10_traced_19 : decode cX10_traced 19 = .ok (.iconst 0, 1) := by decide +kernel
theorem dX10_traced_20 : decode cX10_traced 20 = .ok (.istore 5, 2) := by decide +kernel
theorem dX10_traced_22 : decode cX10_traced 22 = .ok (.iload 5, 2) := by decide +kernel
theorem dX10_traced_24 : decode cX10_traced 24 = .ok (.aload_n 0, 1) := by decide +kernel
theorem dX10_traced_25 : decode cX10_traced 25 = .ok (.getfield 129, 3) := by decide +kernel
theorem dX10_traced_28 : decode cX10_traced 28 = .ok (.if_icmp .ge 74, 3) := by decide +kernel
theorem dX10_traced_31 : decode cX10_traced 31 = .ok (.aload_n 0, 1) := by decide +kernel
theorem dX10_traced_32 : decode cX10_traced 32 = .ok (.getfield 48, 3) := by decide +kernel
theorem dX10_traced_35 : decode cX10_traced 35 = .ok (.iload 5, 2) := by decide +kernel
theorem dX10_traced_37 : decode cX10_traced 37 = .ok (.iaload, 1) := by decide +kernel
theorem dX10_traced_38 : decode cX10_traced 38 = .ok (.iload_n 1, 1) := by decide +kernel
theorem dX10_traced_39 : decode cX10_traced 39 = .ok (.if_icmp .ne 57, 3) := by decide +kernel
theorem dX10_traced_42 : decode cX10_traced 42 = .ok (.aload_n 0, 1) := by decide +kernel
theorem dX10_traced_43 : decode cX10_traced 43 = .ok (.getfield 60, 3) := by decide +kernel
theorem dX10_traced_46 : decode cX10_traced 46 = .ok (.iload 5, 2) := by decide +kernel
theorem dX10_traced_48 : decode cX10_traced 48 = .ok (.iaload, 1) := by decide +kernel
theorem dX10_traced_49 : decode cX10_traced 49 = .ok (.iload_n 2, 1) := by decide +kernel
theorem dX10_traced_50 : decode cX10_traced 50 = .ok (.iload_n 3, 1) := by decide +kernel
theorem dX10_traced_51 : decode cX10_traced 51 = .ok (.invokestatic 132, 3) := by decide +kernel
theorem dX10_traced_54 : decode cX10_traced 54 = .ok (.ifCond .eq 42, 3) := by decide +kernel
theorem dX10_traced_57 : decode cX10_traced 57 = .ok (.aload_n 0, 1) := by decide +kernel
theorem dX10_traced_58 : decode cX10_traced 58 = .ok (.iload 5, 2) := by decide +kernel
theorem dX10_traced_60 : decode cX10_traced 60 = .ok (.invokevirtual 214, 3) := by decide +kernel
theorem dX10_traced_63 : decode cX10_traced 63 = .ok (.iconst (-1), 1) := by decide +kernel
theorem dX10_traced_64 : decode cX10_traced 64 = .ok (.if_icmp .ne 6, 3) := by decide +kernel
theorem dX10_traced_67 : decode cX10_traced 67 = .ok (.goto 29, 3) := by decide +kernel
theorem dX10_traced_70 : decode cX10_traced 70 = .ok (.iload 4, 2) := by decide +kernel
theorem dX10_traced_72 : decode cX10_traced 72 = .ok (.bipush (-2), 2) := by decide +kernel
theorem dX10_traced_74 : decode cX10_traced 74 = .ok (.if_icmp .eq 14, 3) := by decide +kernel
theorem dX10_traced_77 : decode cX10_traced 77 = .ok (.aload_n 0, 1) := by decide +kernel
theorem dX10_traced_78 : decode cX10_traced 78 = .ok (.iload 5, 2) := by decide +kernel
theorem dX10_traced_80 : decode cX10_traced 80 = .ok (.invokevirtual 214, 3) := by decide +kernel
theorem dX10_traced_83 : decode cX10_traced 83 = .ok (.iload 4, 2) := by decide +kernel
theorem dX10_traced_85 : decode cX10_traced 85 = .ok (.if_icmp .ge 11, 3) := by decide +kernel
theorem dX10_traced_88 : decode cX10_traced 88 = .ok (.aload_n 0, 1) := by decide +kernel
theorem dX10_traced_89 : decode cX10_traced 89 = .ok (.iload 5, 2) := by decide +kernel
theorem dX10_traced_91 : decode cX10_traced 91 = .ok (.invokevirtual 214, 3) := by decide +kernel
theorem dX10_traced_94 : decode cX10_traced 94 = .ok (.istore 4, 2) := by decide +kernel
theorem dX10_traced_96 : decode cX10_traced 96 = .ok (.iinc 5 1, 3) := by decide +kernel
theorem dX10_traced_99 : decode cX10_traced 99 = .ok (.goto (-77), 3) := by decide +kernel
theorem dX10_traced_102 : decode cX10_traced 102 = .ok (.iload 4, 2) := by decide +kernel
theorem dX10_traced_104 : decode cX10_traced 104 = .ok (.ireturn, 1) := by decide +kernel
theorem dX10_count_0 : decode cX10_count 0 = .ok (.aload_n 0, 1) := by decide +kernel
theorem dX10_count_1 : decode cX10_count 1 = .ok (.iconst 0, 1) := by decide +kernel
theorem dX10_count_2 : decode cX10_count 2 = .ok (.putfield 1, 3) := by decide +kernel
theorem dX10_count_5 : decode cX10_count 5 = .ok (.iload_n 1, 1) := by decide +kernel
theorem dX10_count_6 : decode cX10_count 6 = .ok (.tableswitch 89 0 7 #[46, 51, 56, 61, 66, 71, 76, 81], 46) := by decide +kernel
theorem dX10_count_52 : decode cX10_count 52 = .ok (.aload_n 0, 1) := by decide +kernel
theorem dX10_count_53 : decode cX10_count 53 = .ok (.getfield 123, 3) := by decide +kernel
theorem dX10_count_56 : decode cX10_count 56 = .ok (.ireturn, 1) := by decide +kernel
theorem dX10_count_57 : decode cX10_count 57 = .ok (.aload_n 0, 1) := by decide +kernel
theorem dX10_count_58 : decode cX10_count 58 = .ok (.getfield 126, 3) := by decide +kernel
theorem dX10_count_61 : decode cX10_count 61 = .ok (.ireturn, 1) := by decide +kernel
theorem dX10_count_62 : decode cX10_count 62 = .ok (.aload_n 0, 1) := by decide +kernel
theorem dX10_count_63 : decode cX10_count 63 = .ok (.getfield 129, 3) := by decide +kernel
theorem dX10_count_66 : decode cX10_count 66 = .ok (.ireturn, 1) := by decide +kernel
theorem dX10_count_67 : decode cX10_count 67 = .ok (.aload_n 0, 1) := by decide +kernel
theorem dX10_count_68 : decode cX10_count 68 = .ok (.getfield 196, 3) := by decide +kernel
theorem dX10_count_71 : decode cX10_count 71 = .ok (.ireturn, 1) := by decide +kernel
theorem dX10_count_72 : decode cX10_count 72 = .ok (.aload_n 0, 1) := by decide +kernel
theorem dX10_count_73 : decode cX10_count 73 = .ok (.getfield 211, 3) := by decide +kernel
theorem dX10_count_76 : decode cX10_count 76 = .ok (.ireturn, 1) := by decide +kernel
theorem dX10_count_77 : decode cX10_count 77 = .ok (.aload_n 0, 1) := by decide +kernel
theorem dX10_count_78 : decode cX10_count 78 = .ok (.getfield 208, 3) := by decide +kernel
theorem dX10_count_81 : decode cX10_count 81 = .ok (.ireturn, 1) := by decide +kernel
theorem dX10_count_82 : decode cX10_count 82 = .ok (.aload_n 0, 1) := by decide +kernel
theorem dX10_count_83 : decode cX10_count 83 = .ok (.getfield 154, 3) := by decide +kernel
theorem dX10_count_86 : decode cX10_count 86 = .ok (.ireturn, 1) := by decide +kernel
theorem dX10_count_87 : decode cX10_count 87 = .ok (.aload_n 0, 1) := by decide +kernel
theorem dX10_count_88 : decode cX10_count 88 = .ok (.getfield 154, 3) := by decide +kernel
theorem dX10_count_91 : decode cX10_count 91 = .ok (.bipush 60, 2) := by decide +kernel
theorem dX10_count_93 : decode cX10_count 93 = .ok (.idiv, 1) := by decide +kernel
theorem dX10_count_94 : decode cX10_count 94 = .ok (.ireturn, 1) := by decide +kernel
theorem dX10_count_95 : decode cX10_count 95 = .ok (.iconst (-1), 1) := by decide +kernel
theorem dX10_count_96 : decode cX10_count 96 = .ok (.ireturn, 1) := by decide +kernel
theorem dX10_trouble_0 : decode cX10_trouble 0 = .ok (.aload_n 0, 1) := by decide +kernel
theorem dX10_trouble_1 : decode cX10_trouble 1 = .ok (.iconst 0, 1) := by decide +kernel
theorem dX10_trouble_2 : decode cX10_trouble 2 = .ok (.putfield 1, 3) := by decide +kernel
theorem dX10_trouble_5 : decode cX10_trouble 5 = .ok (.aload_n 0, 1) := by decide +kernel
theorem dX10_trouble_6 : decode cX10_trouble 6 = .ok (.getfield 7, 3) := by decide +kernel
theorem dX10_trouble_9 : decode cX10_trouble 9 = .ok (.ireturn, 1) := by decide +kernel
