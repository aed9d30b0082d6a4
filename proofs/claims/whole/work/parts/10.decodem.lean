theorem dM_init_0 : decode cM_init 0 = .ok (.aload_n 0, 1) := by decide +kernel
theorem dM_init_1 : decode cM_init 1 = .ok (.invokespecial 1, 3) := by decide +kernel
theorem dM_init_4 : decode cM_init 4 = .ok (.aload_n 0, 1) := by decide +kernel
theorem dM_init_5 : decode cM_init 5 = .ok (.iconst 2, 1) := by decide +kernel
theorem dM_init_6 : decode cM_init 6 = .ok (.newarray .int, 2) := by decide +kernel
theorem dM_init_8 : decode cM_init 8 = .ok (.putfield 7, 3) := by decide +kernel
theorem dM_init_11 : decode cM_init 11 = .ok (.aload_n 0, 1) := by decide +kernel
theorem dM_init_12 : decode cM_init 12 = .ok (.iconst 2, 1) := by decide +kernel
theorem dM_init_13 : decode cM_init 13 = .ok (.newarray .int, 2) := by decide +kernel
theorem dM_init_15 : decode cM_init 15 = .ok (.putfield 13, 3) := by decide +kernel
theorem dM_init_18 : decode cM_init 18 = .ok (.aload_n 0, 1) := by decide +kernel
theorem dM_init_19 : decode cM_init 19 = .ok (.iconst 2, 1) := by decide +kernel
theorem dM_init_20 : decode cM_init 20 = .ok (.newarray .int, 2) := by decide +kernel
theorem dM_init_22 : decode cM_init 22 = .ok (.putfield 16, 3) := by decide +kernel
theorem dM_init_25 : decode cM_init 25 = .ok (.aload_n 0, 1) := by decide +kernel
theorem dM_init_26 : decode cM_init 26 = .ok (.iconst 2, 1) := by decide +kernel
theorem dM_init_27 : decode cM_init 27 = .ok (.newarray .int, 2) := by decide +kernel
theorem dM_init_29 : decode cM_init 29 = .ok (.putfield 19, 3) := by decide +kernel
theorem dM_init_32 : decode cM_init 32 = .ok (.aload_n 0, 1) := by decide +kernel
theorem dM_init_33 : decode cM_init 33 = .ok (.iconst 2, 1) := by decide +kernel
theorem dM_init_34 : decode cM_init 34 = .ok (.newarray .int, 2) := by decide +kernel
theorem dM_init_36 : decode cM_init 36 = .ok (.putfield 22, 3) := by decide +kernel
theorem dM_init_39 : decode cM_init 39 = .ok (.aload_n 0, 1) := by decide +kernel
theorem dM_init_40 : decode cM_init 40 = .ok (.iconst 2, 1) := by decide +kernel
theorem dM_init_41 : decode cM_init 41 = .ok (.newarray .int, 2) := by decide +kernel
theorem dM_init_43 : decode cM_init 43 = .ok (.dup, 1) := by decide +kernel
theorem dM_init_44 : decode cM_init 44 = .ok (.iconst 0, 1) := by decide +kernel
theorem dM_init_45 : decode cM_init 45 = .ok (.bipush 7, 2) := by decide +kernel
theorem dM_init_47 : decode cM_init 47 = .ok (.iastore, 1) := by decide +kernel
theorem dM_init_48 : decode cM_init 48 = .ok (.dup, 1) := by decide +kernel
theorem dM_init_49 : decode cM_init 49 = .ok (.iconst 1, 1) := by decide +kernel
theorem dM_init_50 : decode cM_init 50 = .ok (.bipush 7, 2) := by decide +kernel
theorem dM_init_52 : decode cM_init 52 = .ok (.iastore, 1) := by decide +kernel
theorem dM_init_53 : decode cM_init 53 = .ok (.putfield 25, 3) := by decide +kernel
theorem dM_init_56 : decode cM_init 56 = .ok (.aload_n 0, 1) := by decide +kernel
theorem dM_init_57 : decode cM_init 57 = .ok (.iconst 2, 1) := by decide +kernel
theorem dM_init_58 : decode cM_init 58 = .ok (.newarray .boolean, 2) := by decide +kernel
theorem dM_init_60 : decode cM_init 60 = .ok (.putfield 28, 3) := by decide +kernel
theorem dM_init_63 : decode cM_init 63 = .ok (.aload_n 0, 1) := by decide +kernel
theorem dM_init_64 : decode cM_init 64 = .ok (.iconst 2, 1) := by decide +kernel
theorem dM_init_65 : decode cM_init 65 = .ok (.newarray .boolean, 2) := by decide +kernel
theorem dM_init_67 : decode cM_init 67 = .ok (.putfield 32, 3) := by decide +kernel
theorem dM_init_70 : decode cM_init 70 = .ok (.aload_n 0, 1) := by decide +kernel
theorem dM_init_71 : decode cM_init 71 = .ok (.iconst 2, 1) := by decide +kernel
theorem dM_init_72 : decode cM_init 72 = .ok (.newarray .boolean, 2) := by decide +kernel
theorem dM_init_74 : decode cM_init 74 = .ok (.putfield 35, 3) := by decide +kernel
theorem dM_init_77 : decode cM_init 77 = .ok (.aload_n 0, 1) := by decide +kernel
theorem dM_init_78 : decode cM_init 78 = .ok (.iconst 2, 1) := by decide +kernel
theorem dM_init_79 : decode cM_init 79 = .ok (.newarray .boolean, 2) := by decide +kernel
theorem dM_init_81 : decode cM_init 81 = .ok (.putfield 38, 3) := by decide +kernel
theorem dM_init_84 : decode cM_init 84 = .ok (.aload_n 0, 1) := by decide +kernel
theorem dM_init_85 : decode cM_init 85 = .ok (.iconst 2, 1) := by decide +kernel
theorem dM_init_86 : decode cM_init 86 = .ok (.newarray .boolean, 2) := by decide +kernel
theorem dM_init_88 : decode cM_init 88 = .ok (.putfield 41, 3) := by decide +kernel
theorem dM_init_91 : decode cM_init 91 = .ok (.aload_n 0, 1) := by decide +kernel
theorem dM_init_92 : decode cM_init 92 = .ok (.iconst 2, 1) := by decide +kernel
theorem dM_init_93 : decode cM_init 93 = .ok (.newarray .boolean, 2) := by decide +kernel
theorem dM_init_95 : decode cM_init 95 = .ok (.putfield 44, 3) := by decide +kernel
theorem dM_init_98 : decode cM_init 98 = .ok (.aload_n 0, 1) := by decide +kernel
theorem dM_init_99 : decode cM_init 99 = .ok (.iconst 2, 1) := by decide +kernel
theorem dM_init_100 : decode cM_init 100 = .ok (.newarray .boolean, 2) := by decide +kernel
theorem dM_init_102 : decode cM_init 102 = .ok (.putfield 47, 3) := by decide +kernel
theorem dM_init_105 : decode cM_init 105 = .ok (.aload_n 0, 1) := by decide +kernel
theorem dM_init_106 : decode cM_init 106 = .ok (.iconst 2, 1) := by decide +kernel
theorem dM_init_107 : decode cM_init 107 = .ok (.newarray .boolean, 2) := by decide +kernel
theorem dM_init_109 : decode cM_init 109 = .ok (.putfield 50, 3) := by decide +kernel
theorem dM_init_112 : decode cM_init 112 = .ok (.aload_n 0, 1) := by decide +kernel
theorem dM_init_113 : decode cM_init 113 = .ok (.iconst 2, 1) := by decide +kernel
theorem dM_init_114 : decode cM_init 114 = .ok (.newarray .boolean, 2) := by decide +kernel
theorem dM_init_116 : decode cM_init 116 = .ok (.putfield 53, 3) := by decide +kernel
theorem dM_init_119 : decode cM_init 119 = .ok (.aload_n 0, 1) := by decide +kernel
theorem dM_init_120 : decode cM_init 120 = .ok (.iconst 2, 1) := by decide +kernel
theorem dM_init_121 : decode cM_init 121 = .ok (.newarray .boolean, 2) := by decide +kernel
theorem dM_init_123 : decode cM_init 123 = .ok (.putfield 56, 3) := by decide +kernel
theorem dM_init_126 : decode cM_init 126 = .ok (.aload_n 0, 1) := by decide +kernel
theorem dM_init_127 : decode cM_init 127 = .ok (.iconst 2, 1) := by decide +kernel
theorem dM_init_128 : decode cM_init 128 = .ok (.newarray .int, 2) := by decide +kernel
theorem dM_init_130 : decode cM_init 130 = .ok (.putfield 59, 3) := by decide +kernel
theorem dM_init_133 : decode cM_init 133 = .ok (.aload_n 0, 1) := by decide +kernel
theorem dM_init_134 : decode cM_init 134 = .ok (.iconst 3, 1) := by decide +kernel
theorem dM_init_135 : decode cM_init 135 = .ok (.newarray .boolean, 2) := by decide +kernel
theorem dM_init_137 : decode cM_init 137 = .ok (.dup, 1) := by decide +kernel
theorem dM_init_138 : decode cM_init 138 = .ok (.iconst 0, 1) := by decide +kernel
theorem dM_init_139 : decode cM_init 139 = .ok (.iconst 1, 1) := by decide +kernel
theorem dM_init_140 : decode cM_init 140 = .ok (.bastore, 1) := by decide +kernel
theorem dM_init_141 : decode cM_init 141 = .ok (.dup, 1) := by decide +kernel
theorem dM_init_142 : decode cM_init 142 = .ok (.iconst 1, 1) := by decide +kernel
theorem dM_init_143 : decode cM_init 143 = .ok (.iconst 1, 1) := by decide +kernel
theorem dM_init_144 : decode cM_init 144 = .ok (.bastore, 1) := by decide +kernel
theorem dM_init_145 : decode cM_init 145 = .ok (.dup, 1) := by decide +kernel
theorem dM_init_146 : decode cM_init 146 = .ok (.iconst 2, 1) := by decide +kernel
theorem dM_init_147 : decode cM_init 147 = .ok (.iconst 1, 1) := by decide +kernel
theorem dM_init_148 : decode cM_init 148 = .ok (.bastore, 1) := by decide +kernel
theorem dM_init_149 : decode cM_init 149 = .ok (.putfield 62, 3) := by decide +kernel
theorem dM_init_152 : decode cM_init 152 = .ok (.aload_n 0, 1) := by decide +kernel
theorem dM_init_153 : decode cM_init 153 = .ok (.iconst 3, 1) := by decide +kernel
theorem dM_init_154 : decode cM_init 154 = .ok (.newarray .boolean, 2) := by decide +kernel
theorem dM_init_156 : decode cM_init 156 = .ok (.putfield 65, 3) := by decide +kernel
theorem dM_init_159 : decode cM_init 159 = .ok (.aload_n 0, 1) := by decide +kernel
theorem dM_init_160 : decode cM_init 160 = .ok (.iconst 3, 1) := by decide +kernel
theorem dM_init_161 : decode cM_init 161 = .ok (.newarray .int, 2) := by decide +kernel
theorem dM_init_163 : decode cM_init 163 = .ok (.dup, 1) := by decide +kernel
theorem dM_init_164 : decode cM_init 164 = .ok (.iconst 0, 1) := by decide +kernel
theorem dM_init_165 : decode cM_init 165 = .ok (.iconst (-1), 1) := by decide +kernel
theorem dM_init_166 : decode cM_init 166 = .ok (.iastore, 1) := by decide +kernel
theorem dM_init_167 : decode cM_init 167 = .ok (.dup, 1) := by decide +kernel
theorem dM_init_168 : decode cM_init 168 = .ok (.iconst 1, 1) := by decide +kernel
theorem dM_init_169 : decode cM_init 169 = .ok (.iconst (-1), 1) := by decide +kernel
theorem dM_init_170 : decode cM_init 170 = .ok (.iastore, 1) := by decide +kernel
theorem dM_init_171 : decode cM_init 171 = .ok (.dup, 1) := by decide +kernel
theorem dM_init_172 : decode cM_init 172 = .ok (.iconst 2, 1) := by decide +kernel
theorem dM_init_173 : decode cM_init 173 = .ok (.iconst (-1), 1) := by decide +kernel
theorem dM_init_174 : decode cM_init 174 = .ok (.iastore, 1) := by decide +kernel
theorem dM_init_175 : decode cM_init 175 = .ok (.putfield 68, 3) := by decide +kernel
theorem dM_init_178 : decode cM_init 178 = .ok (.aload_n 0, 1) := by decide +kernel
theorem dM_init_179 : decode cM_init 179 = .ok (.iconst 3, 1) := by decide +kernel
theorem dM_init_180 : decode cM_init 180 = .ok (.newarray .int, 2) := by decide +kernel
theorem dM_init_182 : decode cM_init 182 = .ok (.putfield 71, 3) := by decide +kernel
theorem dM_init_185 : decode cM_init 185 = .ok (.aload_n 0, 1) := by decide +kernel
theorem dM_init_186 : decode cM_init 186 = .ok (.iconst 3, 1) := by decide +kernel
theorem dM_init_187 : decode cM_init 187 = .ok (.newarray .int, 2) := by decide +kernel
theorem dM_init_189 : decode cM_init 189 = .ok (.putfield 74, 3) := by decide +kernel
theorem dM_init_192 : decode cM_init 192 = .ok (.aload_n 0, 1) := by decide +kernel
theorem dM_init_193 : decode cM_init 193 = .ok (.iconst 3, 1) := by decide +kernel
theorem dM_init_194 : decode cM_init 194 = .ok (.newarray .int, 2) := by decide +kernel
theorem dM_init_196 : decode cM_init 196 = .ok (.putfield 77, 3) := by decide +kernel
theorem dM_init_199 : decode cM_init 199 = .ok (.aload_n 0, 1) := by decide +kernel
theorem dM_init_200 : decode cM_init 200 = .ok (.iconst 3, 1) := by decide +kernel
theorem dM_init_201 : decode cM_init 201 = .ok (.newarray .boolean, 2) := by decide +kernel
theorem dM_init_203 : decode cM_init 203 = .ok (.putfield 80, 3) := by decide +kernel
theorem dM_init_206 : decode cM_init 206 = .ok (.aload_n 0, 1) := by decide +kernel
theorem dM_init_207 : decode cM_init 207 = .ok (.iconst 3, 1) := by decide +kernel
theorem dM_init_208 : decode cM_init 208 = .ok (.newarray .boolean, 2) := by decide +kernel
theorem dM_init_210 : decode cM_init 210 = .ok (.putfield 83, 3) := by decide +kernel
theorem dM_init_213 : decode cM_init 213 = .ok (.aload_n 0, 1) := by decide +kernel
theorem dM_init_214 : decode cM_init 214 = .ok (.iconst 3, 1) := by decide +kernel
theorem dM_init_215 : decode cM_init 215 = .ok (.newarray .boolean, 2) := by decide +kernel
theorem dM_init_217 : decode cM_init 217 = .ok (.putfield 86, 3) := by decide +kernel
theorem dM_init_220 : decode cM_init 220 = .ok (.aload_n 0, 1) := by decide +kernel
theorem dM_init_221 : decode cM_init 221 = .ok (.iconst 3, 1) := by decide +kernel
theorem dM_init_222 : decode cM_init 222 = .ok (.newarray .boolean, 2) := by decide +kernel
theorem dM_init_224 : decode cM_init 224 = .ok (.putfield 89, 3) := by decide +kernel
theorem dM_init_227 : decode cM_init 227 = .ok (.aload_n 0, 1) := by decide +kernel
theorem dM_init_228 : decode cM_init 228 = .ok (.iconst 3, 1) := by decide +kernel
theorem dM_init_229 : decode cM_init 229 = .ok (.newarray .boolean, 2) := by decide +kernel
theorem dM_init_231 : decode cM_init 231 = .ok (.putfield 92, 3) := by decide +kernel
theorem dM_init_234 : decode cM_init 234 = .ok (.aload_n 0, 1) := by decide +kernel
theorem dM_init_235 : decode cM_init 235 = .ok (.iconst 3, 1) := by decide +kernel
theorem dM_init_236 : decode cM_init 236 = .ok (.newarray .int, 2) := by decide +kernel
theorem dM_init_238 : decode cM_init 238 = .ok (.putfield 95, 3) := by decide +kernel
theorem dM_init_241 : decode cM_init 241 = .ok (.aload_n 0, 1) := by decide +kernel
theorem dM_init_242 : decode cM_init 242 = .ok (.iconst 3, 1) := by decide +kernel
theorem dM_init_243 : decode cM_init 243 = .ok (.newarray .boolean, 2) := by decide +kernel
theorem dM_init_245 : decode cM_init 245 = .ok (.putfield 98, 3) := by decide +kernel
theorem dM_init_248 : decode cM_init 248 = .ok (.aload_n 0, 1) := by decide +kernel
theorem dM_init_249 : decode cM_init 249 = .ok (.iconst 3, 1) := by decide +kernel
theorem dM_init_250 : decode cM_init 250 = .ok (.newarray .int, 2) := by decide +kernel
theorem dM_init_252 : decode cM_init 252 = .ok (.dup, 1) := by decide +kernel
theorem dM_init_253 : decode cM_init 253 = .ok (.iconst 0, 1) := by decide +kernel
theorem dM_init_254 : decode cM_init 254 = .ok (.iconst (-1), 1) := by decide +kernel
theorem dM_init_255 : decode cM_init 255 = .ok (.iastore, 1) := by decide +kernel
theorem dM_init_256 : decode cM_init 256 = .ok (.dup, 1) := by decide +kernel
theorem dM_init_257 : decode cM_init 257 = .ok (.iconst 1, 1) := by decide +kernel
theorem dM_init_258 : decode cM_init 258 = .ok (.iconst (-1), 1) := by decide +kernel
theorem dM_init_259 : decode cM_init 259 = .ok (.iastore, 1) := by decide +kernel
theorem dM_init_260 : decode cM_init 260 = .ok (.dup, 1) := by decide +kernel
theorem dM_init_261 : decode cM_init 261 = .ok (.iconst 2, 1) := by decide +kernel
theorem dM_init_262 : decode cM_init 262 = .ok (.iconst (-1), 1) := by decide +kernel
theorem dM_init_263 : decode cM_init 263 = .ok (.iastore, 1) := by decide +kernel
theorem dM_init_264 : decode cM_init 264 = .ok (.putfield 101, 3) := by decide +kernel
theorem dM_init_267 : decode cM_init 267 = .ok (.aload_n 0, 1) := by decide +kernel
theorem dM_init_268 : decode cM_init 268 = .ok (.iconst 3, 1) := by decide +kernel
theorem dM_init_269 : decode cM_init 269 = .ok (.newarray .int, 2) := by decide +kernel
theorem dM_init_271 : decode cM_init 271 = .ok (.dup, 1) := by decide +kernel
theorem dM_init_272 : decode cM_init 272 = .ok (.iconst 0, 1) := by decide +kernel
theorem dM_init_273 : decode cM_init 273 = .ok (.iconst (-1), 1) := by decide +kernel
theorem dM_init_274 : decode cM_init 274 = .ok (.iastore, 1) := by decide +kernel
theorem dM_init_275 : decode cM_init 275 = .ok (.dup, 1) := by decide +kernel
theorem dM_init_276 : decode cM_init 276 = .ok (.iconst 1, 1) := by decide +kernel
theorem dM_init_277 : decode cM_init 277 = .ok (.iconst (-1), 1) := by decide +kernel
theorem dM_init_278 : decode cM_init 278 = .ok (.iastore, 1) := by decide +kernel
theorem dM_init_279 : decode cM_init 279 = .ok (.dup, 1) := by decide +kernel
theorem dM_init_280 : decode cM_init 280 = .ok (.iconst 2, 1) := by decide +kernel
theorem dM_init_281 : decode cM_init 281 = .ok (.iconst (-1), 1) := by decide +kernel
theorem dM_init_282 : decode cM_init 282 = .ok (.iastore, 1) := by decide +kernel
theorem dM_init_283 : decode cM_init 283 = .ok (.putfield 104, 3) := by decide +kernel
theorem dM_init_286 : decode cM_init 286 = .ok (.return_, 1) := by decide +kernel
theorem dM_thrown_0 : decode cM_thrown 0 = .ok (.aload_n 0, 1) := by decide +kernel
theorem dM_thrown_1 : decode cM_thrown 1 = .ok (.getfield 107, 3) := by decide +kernel
theorem dM_thrown_4 : decode cM_thrown 4 = .ok (.ireturn, 1) := by decide +kernel
theorem dM_requests_0 : decode cM_requests 0 = .ok (.aload_n 0, 1) := by decide +kernel
theorem dM_requests_1 : decode cM_requests 1 = .ok (.getfield 32, 3) := by decide +kernel
theorem dM_requests_4 : decode cM_requests 4 = .ok (.iload_n 1, 1) := by decide +kernel
theorem dM_requests_5 : decode cM_requests 5 = .ok (.baload, 1) := by decide +kernel
theorem dM_requests_6 : decode cM_requests 6 = .ok (.ifCond .eq 12, 3) := by decide +kernel
theorem dM_requests_9 : decode cM_requests 9 = .ok (.aload_n 0, 1) := by decide +kernel
theorem dM_requests_10 : decode cM_requests 10 = .ok (.getfield 7, 3) := by decide +kernel
theorem dM_requests_13 : decode cM_requests 13 = .ok (.iload_n 1, 1) := by decide +kernel
theorem dM_requests_14 : decode cM_requests 14 = .ok (.iaload, 1) := by decide +kernel
theorem dM_requests_15 : decode cM_requests 15 = .ok (.goto 16, 3) := by decide +kernel
theorem dM_requests_18 : decode cM_requests 18 = .ok (.aload_n 0, 1) := by decide +kernel
theorem dM_requests_19 : decode cM_requests 19 = .ok (.getfield 7, 3) := by decide +kernel
theorem dM_requests_22 : decode cM_requests 22 = .ok (.iload_n 1, 1) := by decide +kernel
theorem dM_requests_23 : decode cM_requests 23 = .ok (.iaload, 1) := by decide +kernel
theorem dM_requests_24 : decode cM_requests 24 = .ok (.aload_n 0, 1) := by decide +kernel
theorem dM_requests_25 : decode cM_requests 25 = .ok (.getfield 13, 3) := by decide +kernel
theorem dM_requests_28 : decode cM_requests 28 = .ok (.iload_n 1, 1) := by decide +kernel
theorem dM_requests_29 : decode cM_requests 29 = .ok (.iaload, 1) := by decide +kernel
theorem dM_requests_30 : decode cM_requests 30 = .ok (.iand, 1) := by decide +kernel
theorem dM_requests_31 : decode cM_requests 31 = .ok (.ireturn, 1) := by decide +kernel
theorem dM_holds_0 : decode cM_holds 0 = .ok (.aload_n 0, 1) := by decide +kernel
theorem dM_holds_1 : decode cM_holds 1 = .ok (.getfield 19, 3) := by decide +kernel
theorem dM_holds_4 : decode cM_holds 4 = .ok (.iload_n 1, 1) := by decide +kernel
theorem dM_holds_5 : decode cM_holds 5 = .ok (.iaload, 1) := by decide +kernel
theorem dM_holds_6 : decode cM_holds 6 = .ok (.iload_n 2, 1) := by decide +kernel
theorem dM_holds_7 : decode cM_holds 7 = .ok (.ishr, 1) := by decide +kernel
theorem dM_holds_8 : decode cM_holds 8 = .ok (.iconst 1, 1) := by decide +kernel
theorem dM_holds_9 : decode cM_holds 9 = .ok (.iand, 1) := by decide +kernel
theorem dM_holds_10 : decode cM_holds 10 = .ok (.iconst 1, 1) := by decide +kernel
theorem dM_holds_11 : decode cM_holds 11 = .ok (.if_icmp .ne 30, 3) := by decide +kernel
theorem dM_holds_14 : decode cM_holds 14 = .ok (.aload_n 0, 1) := by decide +kernel
theorem dM_holds_15 : decode cM_holds 15 = .ok (.getfield 47, 3) := by decide +kernel
theorem dM_holds_18 : decode cM_holds 18 = .ok (.iload_n 1, 1) := by decide +kernel
theorem dM_holds_19 : decode cM_holds 19 = .ok (.baload, 1) := by decide +kernel
theorem dM_holds_20 : decode cM_holds 20 = .ok (.ifCond .eq 17, 3) := by decide +kernel
theorem dM_holds_23 : decode cM_holds 23 = .ok (.aload_n 0, 1) := by decide +kernel
theorem dM_holds_24 : decode cM_holds 24 = .ok (.getfield 16, 3) := by decide +kernel
theorem dM_holds_27 : decode cM_holds 27 = .ok (.iload_n 1, 1) := by decide +kernel
theorem dM_holds_28 : decode cM_holds 28 = .ok (.iaload, 1) := by decide +kernel
theorem dM_holds_29 : decode cM_holds 29 = .ok (.iload_n 2, 1) := by decide +kernel
theorem dM_holds_30 : decode cM_holds 30 = .ok (.ishr, 1) := by decide +kernel
theorem dM_holds_31 : decode cM_holds 31 = .ok (.iconst 1, 1) := by decide +kernel
theorem dM_holds_32 : decode cM_holds 32 = .ok (.iand, 1) := by decide +kernel
theorem dM_holds_33 : decode cM_holds 33 = .ok (.iconst 1, 1) := by decide +kernel
theorem dM_holds_34 : decode cM_holds 34 = .ok (.if_icmp .eq 7, 3) := by decide +kernel
theorem dM_holds_37 : decode cM_holds 37 = .ok (.iconst 1, 1) := by decide +kernel
theorem dM_holds_38 : decode cM_holds 38 = .ok (.goto 4, 3) := by decide +kernel
theorem dM_holds_41 : decode cM_holds 41 = .ok (.iconst 0, 1) := by decide +kernel
theorem dM_holds_42 : decode cM_holds 42 = .ok (.ireturn, 1) := by decide +kernel
theorem dM_choice_0 : decode cM_choice 0 = .ok (.iconst 1, 1) := by decide +kernel
theorem dM_choice_1 : decode cM_choice 1 = .ok (.istore_n 2, 1) := by decide +kernel
theorem dM_choice_2 : decode cM_choice 2 = .ok (.iload_n 2, 1) := by decide +kernel
theorem dM_choice_3 : decode cM_choice 3 = .ok (.bipush 8, 2) := by decide +kernel
theorem dM_choice_5 : decode cM_choice 5 = .ok (.if_icmp .gt 107, 3) := by decide +kernel
theorem dM_choice_8 : decode cM_choice 8 = .ok (.aload_n 0, 1) := by decide +kernel
theorem dM_choice_9 : decode cM_choice 9 = .ok (.getfield 28, 3) := by decide +kernel
theorem dM_choice_12 : decode cM_choice 12 = .ok (.iload_n 1, 1) := by decide +kernel
theorem dM_choice_13 : decode cM_choice 13 = .ok (.baload, 1) := by decide +kernel
theorem dM_choice_14 : decode cM_choice 14 = .ok (.ifCond .eq 98, 3) := by decide +kernel
theorem dM_choice_17 : decode cM_choice 17 = .ok (.aload_n 0, 1) := by decide +kernel
theorem dM_choice_18 : decode cM_choice 18 = .ok (.getfield 25, 3) := by decide +kernel
theorem dM_choice_21 : decode cM_choice 21 = .ok (.iload_n 1, 1) := by decide +kernel
theorem dM_choice_22 : decode cM_choice 22 = .ok (.iaload, 1) := by decide +kernel
theorem dM_choice_23 : decode cM_choice 23 = .ok (.iload_n 2, 1) := by decide +kernel
theorem dM_choice_24 : decode cM_choice 24 = .ok (.iadd, 1) := by decide +kernel
theorem dM_choice_25 : decode cM_choice 25 = .ok (.bipush 8, 2) := by decide +kernel
theorem dM_choice_27 : decode cM_choice 27 = .ok (.irem, 1) := by decide +kernel
theorem dM_choice_28 : decode cM_choice 28 = .ok (.istore_n 3, 1) := by decide +kernel
theorem dM_choice_29 : decode cM_choice 29 = .ok (.aload_n 0, 1) := by decide +kernel
theorem dM_choice_30 : decode cM_choice 30 = .ok (.iload_n 1, 1) := by decide +kernel
theorem dM_choice_31 : decode cM_choice 31 = .ok (.iload_n 3, 1) := by decide +kernel
theorem dM_choice_32 : decode cM_choice 32 = .ok (.invokevirtual 111, 3) := by decide +kernel
theorem dM_choice_35 : decode cM_choice 35 = .ok (.istore 4, 2) := by decide +kernel
theorem dM_choice_37 : decode cM_choice 37 = .ok (.aload_n 0, 1) := by decide +kernel
theorem dM_choice_38 : decode cM_choice 38 = .ok (.iload_n 1, 1) := by decide +kernel
theorem dM_choice_39 : decode cM_choice 39 = .ok (.invokevirtual 115, 3) := by decide +kernel
theorem dM_choice_42 : decode cM_choice 42 = .ok (.aload_n 0, 1) := by decide +kernel
theorem dM_choice_43 : decode cM_choice 43 = .ok (.getfield 16, 3) := by decide +kernel
theorem dM_choice_46 : decode cM_choice 46 = .ok (.iload_n 1, 1) := by decide +kernel
theorem dM_choice_47 : decode cM_choice 47 = .ok (.iaload, 1) := by decide +kernel
theorem dM_choice_48 : decode cM_choice 48 = .ok (.iconst (-1), 1) := by decide +kernel
theorem dM_choice_49 : decode cM_choice 49 = .ok (.ixor, 1) := by decide +kernel
theorem dM_choice_50 : decode cM_choice 50 = .ok (.iand, 1) := by decide +kernel
theorem dM_choice_51 : decode cM_choice 51 = .ok (.iload_n 3, 1) := by decide +kernel
theorem dM_choice_52 : decode cM_choice 52 = .ok (.bipush 8, 2) := by decide +kernel
theorem dM_choice_54 : decode cM_choice 54 = .ok (.irem, 1) := by decide +kernel
theorem dM_choice_55 : decode cM_choice 55 = .ok (.ishr, 1) := by decide +kernel
theorem dM_choice_56 : decode cM_choice 56 = .ok (.bipush 31, 2) := by decide +kernel
theorem dM_choice_58 : decode cM_choice 58 = .ok (.ishl, 1) := by decide +kernel
theorem dM_choice_59 : decode cM_choice 59 = .ok (.ifCond .eq 7, 3) := by decide +kernel
theorem dM_choice_62 : decode cM_choice 62 = .ok (.iconst 1, 1) := by decide +kernel
theorem dM_choice_63 : decode cM_choice 63 = .ok (.goto 4, 3) := by decide +kernel
theorem dM_choice_66 : decode cM_choice 66 = .ok (.iconst 0, 1) := by decide +kernel
theorem dM_choice_67 : decode cM_choice 67 = .ok (.istore 5, 2) := by decide +kernel
theorem dM_choice_69 : decode cM_choice 69 = .ok (.iload 5, 2) := by decide +kernel
theorem dM_choice_71 : decode cM_choice 71 = .ok (.ifCond .eq 28, 3) := by decide +kernel
theorem dM_choice_74 : decode cM_choice 74 = .ok (.iload 4, 2) := by decide +kernel
theorem dM_choice_76 : decode cM_choice 76 = .ok (.ifCond .eq 21, 3) := by decide +kernel
theorem dM_choice_79 : decode cM_choice 79 = .ok (.aload_n 0, 1) := by decide +kernel
theorem dM_choice_80 : decode cM_choice 80 = .ok (.getfield 44, 3) := by decide +kernel
theorem dM_choice_83 : decode cM_choice 83 = .ok (.iload_n 1, 1) := by decide +kernel
theorem dM_choice_84 : decode cM_choice 84 = .ok (.baload, 1) := by decide +kernel
theorem dM_choice_85 : decode cM_choice 85 = .ok (.ifCond .eq 14, 3) := by decide +kernel
theorem dM_choice_88 : decode cM_choice 88 = .ok (.iload_n 1, 1) := by decide +kernel
theorem dM_choice_89 : decode cM_choice 89 = .ok (.ifCond .ne 10, 3) := by decide +kernel
theorem dM_choice_92 : decode cM_choice 92 = .ok (.iload_n 3, 1) := by decide +kernel
theorem dM_choice_93 : decode cM_choice 93 = .ok (.iconst 2, 1) := by decide +kernel
theorem dM_choice_94 : decode cM_choice 94 = .ok (.if_icmp .ne 5, 3) := by decide +kernel
theorem dM_choice_97 : decode cM_choice 97 = .ok (.iload_n 3, 1) := by decide +kernel
theorem dM_choice_98 : decode cM_choice 98 = .ok (.ireturn, 1) := by decide +kernel
theorem dM_choice_99 : decode cM_choice 99 = .ok (.iload 4, 2) := by decide +kernel
theorem dM_choice_101 : decode cM_choice 101 = .ok (.ifCond .eq 5, 3) := by decide +kernel
theorem dM_choice_104 : decode cM_choice 104 = .ok (.iconst (-1), 1) := by decide +kernel
theorem dM_choice_105 : decode cM_choice 105 = .ok (.ireturn, 1) := by decide +kernel
theorem dM_choice_106 : decode cM_choice 106 = .ok (.iinc 2 1, 3) := by decide +kernel
theorem dM_choice_109 : decode cM_choice 109 = .ok (.goto (-107), 3) := by decide +kernel
theorem dM_choice_112 : decode cM_choice 112 = .ok (.iconst (-1), 1) := by decide +kernel
theorem dM_choice_113 : decode cM_choice 113 = .ok (.ireturn, 1) := by decide +kernel
theorem dM_serve_0 : decode cM_serve 0 = .ok (.aload_n 0, 1) := by decide +kernel
theorem dM_serve_1 : decode cM_serve 1 = .ok (.getfield 13, 3) := by decide +kernel
theorem dM_serve_4 : decode cM_serve 4 = .ok (.iload_n 1, 1) := by decide +kernel
theorem dM_serve_5 : decode cM_serve 5 = .ok (.aload_n 0, 1) := by decide +kernel
theorem dM_serve_6 : decode cM_serve 6 = .ok (.getfield 13, 3) := by decide +kernel
theorem dM_serve_9 : decode cM_serve 9 = .ok (.iload_n 1, 1) := by decide +kernel
theorem dM_serve_10 : decode cM_serve 10 = .ok (.iaload, 1) := by decide +kernel
theorem dM_serve_11 : decode cM_serve 11 = .ok (.iconst 1, 1) := by decide +kernel
theorem dM_serve_12 : decode cM_serve 12 = .ok (.iload_n 2, 1) := by decide +kernel
theorem dM_serve_13 : decode cM_serve 13 = .ok (.ishl, 1) := by decide +kernel
theorem dM_serve_14 : decode cM_serve 14 = .ok (.iconst (-1), 1) := by decide +kernel
theorem dM_serve_15 : decode cM_serve 15 = .ok (.ixor, 1) := by decide +kernel
theorem dM_serve_16 : decode cM_serve 16 = .ok (.iand, 1) := by decide +kernel
theorem dM_serve_17 : decode cM_serve 17 = .ok (.iastore, 1) := by decide +kernel
theorem dM_serve_18 : decode cM_serve 18 = .ok (.aload_n 0, 1) := by decide +kernel
theorem dM_serve_19 : decode cM_serve 19 = .ok (.getfield 41, 3) := by decide +kernel
theorem dM_serve_22 : decode cM_serve 22 = .ok (.iload_n 1, 1) := by decide +kernel
theorem dM_serve_23 : decode cM_serve 23 = .ok (.baload, 1) := by decide +kernel
theorem dM_serve_24 : decode cM_serve 24 = .ok (.ifCond .ne 22, 3) := by decide +kernel
theorem dM_serve_27 : decode cM_serve 27 = .ok (.aload_n 0, 1) := by decide +kernel
theorem dM_serve_28 : decode cM_serve 28 = .ok (.getfield 19, 3) := by decide +kernel
theorem dM_serve_31 : decode cM_serve 31 = .ok (.iload_n 1, 1) := by decide +kernel
theorem dM_serve_32 : decode cM_serve 32 = .ok (.aload_n 0, 1) := by decide +kernel
theorem dM_serve_33 : decode cM_serve 33 = .ok (.getfield 19, 3) := by decide +kernel
theorem dM_serve_36 : decode cM_serve 36 = .ok (.iload_n 1, 1) := by decide +kernel
theorem dM_serve_37 : decode cM_serve 37 = .ok (.iaload, 1) := by decide +kernel
theorem dM_serve_38 : decode cM_serve 38 = .ok (.iconst 1, 1) := by decide +kernel
theorem dM_serve_39 : decode cM_serve 39 = .ok (.iload_n 2, 1) := by decide +kernel
theorem dM_serve_40 : decode cM_serve 40 = .ok (.ishl, 1) := by decide +kernel
theorem dM_serve_41 : decode cM_serve 41 = .ok (.ior, 1) := by decide +kernel
theorem dM_serve_42 : decode cM_serve 42 = .ok (.iastore, 1) := by decide +kernel
theorem dM_serve_43 : decode cM_serve 43 = .ok (.goto 19, 3) := by decide +kernel
theorem dM_serve_46 : decode cM_serve 46 = .ok (.aload_n 0, 1) := by decide +kernel
theorem dM_serve_47 : decode cM_serve 47 = .ok (.getfield 50, 3) := by decide +kernel
theorem dM_serve_50 : decode cM_serve 50 = .ok (.iload_n 1, 1) := by decide +kernel
theorem dM_serve_51 : decode cM_serve 51 = .ok (.baload, 1) := by decide +kernel
theorem dM_serve_52 : decode cM_serve 52 = .ok (.ifCond .eq 10, 3) := by decide +kernel
theorem dM_serve_55 : decode cM_serve 55 = .ok (.aload_n 0, 1) := by decide +kernel
theorem dM_serve_56 : decode cM_serve 56 = .ok (.getfield 25, 3) := by decide +kernel
theorem dM_serve_59 : decode cM_serve 59 = .ok (.iload_n 1, 1) := by decide +kernel
theorem dM_serve_60 : decode cM_serve 60 = .ok (.iload_n 2, 1) := by decide +kernel
theorem dM_serve_61 : decode cM_serve 61 = .ok (.iastore, 1) := by decide +kernel
theorem dM_serve_62 : decode cM_serve 62 = .ok (.return_, 1) := by decide +kernel
theorem dM_set_0 : decode cM_set 0 = .ok (.aload_n 0, 1) := by decide +kernel
theorem dM_set_1 : decode cM_set 1 = .ok (.getfield 7, 3) := by decide +kernel
theorem dM_set_4 : decode cM_set 4 = .ok (.iload_n 1, 1) := by decide +kernel
theorem dM_set_5 : decode cM_set 5 = .ok (.iaload, 1) := by decide +kernel
theorem dM_set_6 : decode cM_set 6 = .ok (.iload_n 2, 1) := by decide +kernel
theorem dM_set_7 : decode cM_set 7 = .ok (.ishr, 1) := by decide +kernel
theorem dM_set_8 : decode cM_set 8 = .ok (.iconst 1, 1) := by decide +kernel
theorem dM_set_9 : decode cM_set 9 = .ok (.iand, 1) := by decide +kernel
theorem dM_set_10 : decode cM_set 10 = .ok (.iconst 1, 1) := by decide +kernel
theorem dM_set_11 : decode cM_set 11 = .ok (.if_icmp .ne 7, 3) := by decide +kernel
theorem dM_set_14 : decode cM_set 14 = .ok (.iconst 1, 1) := by decide +kernel
theorem dM_set_15 : decode cM_set 15 = .ok (.goto 4, 3) := by decide +kernel
theorem dM_set_18 : decode cM_set 18 = .ok (.iconst 0, 1) := by decide +kernel
theorem dM_set_19 : decode cM_set 19 = .ok (.istore 4, 2) := by decide +kernel
theorem dM_set_21 : decode cM_set 21 = .ok (.iload_n 3, 1) := by decide +kernel
theorem dM_set_22 : decode cM_set 22 = .ok (.ifCond .eq 24, 3) := by decide +kernel
theorem dM_set_25 : decode cM_set 25 = .ok (.iload 4, 2) := by decide +kernel
theorem dM_set_27 : decode cM_set 27 = .ok (.ifCond .ne 19, 3) := by decide +kernel
theorem dM_set_30 : decode cM_set 30 = .ok (.aload_n 0, 1) := by decide +kernel
theorem dM_set_31 : decode cM_set 31 = .ok (.getfield 13, 3) := by decide +kernel
theorem dM_set_34 : decode cM_set 34 = .ok (.iload_n 1, 1) := by decide +kernel
theorem dM_set_35 : decode cM_set 35 = .ok (.aload_n 0, 1) := by decide +kernel
theorem dM_set_36 : decode cM_set 36 = .ok (.getfield 13, 3) := by decide +kernel
theorem dM_set_39 : decode cM_set 39 = .ok (.iload_n 1, 1) := by decide +kernel
theorem dM_set_40 : decode cM_set 40 = .ok (.iaload, 1) := by decide +kernel
theorem dM_set_41 : decode cM_set 41 = .ok (.iconst 1, 1) := by decide +kernel
theorem dM_set_42 : decode cM_set 42 = .ok (.iload_n 2, 1) := by decide +kernel
theorem dM_set_43 : decode cM_set 43 = .ok (.ishl, 1) := by decide +kernel
theorem dM_set_44 : decode cM_set 44 = .ok (.ior, 1) := by decide +kernel
theorem dM_set_45 : decode cM_set 45 = .ok (.iastore, 1) := by decide +kernel
theorem dM_set_46 : decode cM_set 46 = .ok (.aload_n 0, 1) := by decide +kernel
theorem dM_set_47 : decode cM_set 47 = .ok (.getfield 7, 3) := by decide +kernel
theorem dM_set_50 : decode cM_set 50 = .ok (.iload_n 1, 1) := by decide +kernel
theorem dM_set_51 : decode cM_set 51 = .ok (.iload_n 3, 1) := by decide +kernel
theorem dM_set_52 : decode cM_set 52 = .ok (.ifCond .eq 16, 3) := by decide +kernel
theorem dM_set_55 : decode cM_set 55 = .ok (.aload_n 0, 1) := by decide +kernel
theorem dM_set_56 : decode cM_set 56 = .ok (.getfield 7, 3) := by decide +kernel
theorem dM_set_59 : decode cM_set 59 = .ok (.iload_n 1, 1) := by decide +kernel
theorem dM_set_60 : decode cM_set 60 = .ok (.iaload, 1) := by decide +kernel
theorem dM_set_61 : decode cM_set 61 = .ok (.iconst 1, 1) := by decide +kernel
theorem dM_set_62 : decode cM_set 62 = .ok (.iload_n 2, 1) := by decide +kernel
theorem dM_set_63 : decode cM_set 63 = .ok (.ishl, 1) := by decide +kernel
theorem dM_set_64 : decode cM_set 64 = .ok (.ior, 1) := by decide +kernel
theorem dM_set_65 : decode cM_set 65 = .ok (.goto 15, 3) := by decide +kernel
theorem dM_set_68 : decode cM_set 68 = .ok (.aload_n 0, 1) := by decide +kernel
theorem dM_set_69 : decode cM_set 69 = .ok (.getfield 7, 3) := by decide +kernel
theorem dM_set_72 : decode cM_set 72 = .ok (.iload_n 1, 1) := by decide +kernel
theorem dM_set_73 : decode cM_set 73 = .ok (.iaload, 1) := by decide +kernel
theorem dM_set_74 : decode cM_set 74 = .ok (.iconst 1, 1) := by decide +kernel
theorem dM_set_75 : decode cM_set 75 = .ok (.iload_n 2, 1) := by decide +kernel
theorem dM_set_76 : decode cM_set 76 = .ok (.ishl, 1) := by decide +kernel
theorem dM_set_77 : decode cM_set 77 = .ok (.iconst (-1), 1) := by decide +kernel
theorem dM_set_78 : decode cM_set 78 = .ok (.ixor, 1) := by decide +kernel
theorem dM_set_79 : decode cM_set 79 = .ok (.iand, 1) := by decide +kernel
theorem dM_set_80 : decode cM_set 80 = .ok (.iastore, 1) := by decide +kernel
theorem dM_set_81 : decode cM_set 81 = .ok (.return_, 1) := by decide +kernel
theorem dM_follow_0 : decode cM_follow 0 = .ok (.aload_n 0, 1) := by decide +kernel
theorem dM_follow_1 : decode cM_follow 1 = .ok (.iconst 0, 1) := by decide +kernel
theorem dM_follow_2 : decode cM_follow 2 = .ok (.iconst 0, 1) := by decide +kernel
theorem dM_follow_3 : decode cM_follow 3 = .ok (.aload_n 0, 1) := by decide +kernel
theorem dM_follow_4 : decode cM_follow 4 = .ok (.getfield 65, 3) := by decide +kernel
theorem dM_follow_7 : decode cM_follow 7 = .ok (.iconst 0, 1) := by decide +kernel
theorem dM_follow_8 : decode cM_follow 8 = .ok (.baload, 1) := by decide +kernel
theorem dM_follow_9 : decode cM_follow 9 = .ok (.invokevirtual 119, 3) := by decide +kernel
theorem dM_follow_12 : decode cM_follow 12 = .ok (.aload_n 0, 1) := by decide +kernel
theorem dM_follow_13 : decode cM_follow 13 = .ok (.iconst 0, 1) := by decide +kernel
theorem dM_follow_14 : decode cM_follow 14 = .ok (.iconst 2, 1) := by decide +kernel
theorem dM_follow_15 : decode cM_follow 15 = .ok (.aload_n 0, 1) := by decide +kernel
theorem dM_follow_16 : decode cM_follow 16 = .ok (.iconst 1, 1) := by decide +kernel
theorem dM_follow_17 : decode cM_follow 17 = .ok (.invokevirtual 123, 3) := by decide +kernel
theorem dM_follow_20 : decode cM_follow 20 = .ok (.ifCond .lt 7, 3) := by decide +kernel
theorem dM_follow_23 : decode cM_follow 23 = .ok (.iconst 1, 1) := by decide +kernel
theorem dM_follow_24 : decode cM_follow 24 = .ok (.goto 4, 3) := by decide +kernel
theorem dM_follow_27 : decode cM_follow 27 = .ok (.iconst 0, 1) := by decide +kernel
theorem dM_follow_28 : decode cM_follow 28 = .ok (.invokevirtual 119, 3) := by decide +kernel
theorem dM_follow_31 : decode cM_follow 31 = .ok (.return_, 1) := by decide +kernel
theorem dM_firstHeld_0 : decode cM_firstHeld 0 = .ok (.iconst 1, 1) := by decide +kernel
theorem dM_firstHeld_1 : decode cM_firstHeld 1 = .ok (.istore_n 2, 1) := by decide +kernel
theorem dM_firstHeld_2 : decode cM_firstHeld 2 = .ok (.iload_n 2, 1) := by decide +kernel
theorem dM_firstHeld_3 : decode cM_firstHeld 3 = .ok (.bipush 8, 2) := by decide +kernel
theorem dM_firstHeld_5 : decode cM_firstHeld 5 = .ok (.if_icmp .gt 32, 3) := by decide +kernel
theorem dM_firstHeld_8 : decode cM_firstHeld 8 = .ok (.aload_n 0, 1) := by decide +kernel
theorem dM_firstHeld_9 : decode cM_firstHeld 9 = .ok (.getfield 25, 3) := by decide +kernel
theorem dM_firstHeld_12 : decode cM_firstHeld 12 = .ok (.iload_n 1, 1) := by decide +kernel
theorem dM_firstHeld_13 : decode cM_firstHeld 13 = .ok (.iaload, 1) := by decide +kernel
theorem dM_firstHeld_14 : decode cM_firstHeld 14 = .ok (.iload_n 2, 1) := by decide +kernel
theorem dM_firstHeld_15 : decode cM_firstHeld 15 = .ok (.iadd, 1) := by decide +kernel
theorem dM_firstHeld_16 : decode cM_firstHeld 16 = .ok (.bipush 8, 2) := by decide +kernel
theorem dM_firstHeld_18 : decode cM_firstHeld 18 = .ok (.irem, 1) := by decide +kernel
theorem dM_firstHeld_19 : decode cM_firstHeld 19 = .ok (.istore_n 3, 1) := by decide +kernel
theorem dM_firstHeld_20 : decode cM_firstHeld 20 = .ok (.aload_n 0, 1) := by decide +kernel
theorem dM_firstHeld_21 : decode cM_firstHeld 21 = .ok (.iload_n 1, 1) := by decide +kernel
theorem dM_firstHeld_22 : decode cM_firstHeld 22 = .ok (.iload_n 3, 1) := by decide +kernel
theorem dM_firstHeld_23 : decode cM_firstHeld 23 = .ok (.invokevirtual 111, 3) := by decide +kernel
theorem dM_firstHeld_26 : decode cM_firstHeld 26 = .ok (.ifCond .eq 5, 3) := by decide +kernel
theorem dM_firstHeld_29 : decode cM_firstHeld 29 = .ok (.iload_n 3, 1) := by decide +kernel
theorem dM_firstHeld_30 : decode cM_firstHeld 30 = .ok (.ireturn, 1) := by decide +kernel
theorem dM_firstHeld_31 : decode cM_firstHeld 31 = .ok (.iinc 2 1, 3) := by decide +kernel
theorem dM_firstHeld_34 : decode cM_firstHeld 34 = .ok (.goto (-32), 3) := by decide +kernel
theorem dM_firstHeld_37 : decode cM_firstHeld 37 = .ok (.iconst (-1), 1) := by decide +kernel
theorem dM_firstHeld_38 : decode cM_firstHeld 38 = .ok (.ireturn, 1) := by decide +kernel
theorem dM_begin_0 : decode cM_begin 0 = .ok (.aload_n 0, 1) := by decide +kernel
theorem dM_begin_1 : decode cM_begin 1 = .ok (.getfield 28, 3) := by decide +kernel
theorem dM_begin_4 : decode cM_begin 4 = .ok (.iload_n 1, 1) := by decide +kernel
theorem dM_begin_5 : decode cM_begin 5 = .ok (.iconst 0, 1) := by decide +kernel
theorem dM_begin_6 : decode cM_begin 6 = .ok (.bastore, 1) := by decide +kernel
theorem dM_begin_7 : decode cM_begin 7 = .ok (.aload_n 0, 1) := by decide +kernel
theorem dM_begin_8 : decode cM_begin 8 = .ok (.getfield 13, 3) := by decide +kernel
theorem dM_begin_11 : decode cM_begin 11 = .ok (.iload_n 1, 1) := by decide +kernel
theorem dM_begin_12 : decode cM_begin 12 = .ok (.iconst 0, 1) := by decide +kernel
theorem dM_begin_13 : decode cM_begin 13 = .ok (.iastore, 1) := by decide +kernel
theorem dM_begin_14 : decode cM_begin 14 = .ok (.aload_n 0, 1) := by decide +kernel
theorem dM_begin_15 : decode cM_begin 15 = .ok (.getfield 16, 3) := by decide +kernel
theorem dM_begin_18 : decode cM_begin 18 = .ok (.iload_n 1, 1) := by decide +kernel
theorem dM_begin_19 : decode cM_begin 19 = .ok (.iconst 0, 1) := by decide +kernel
theorem dM_begin_20 : decode cM_begin 20 = .ok (.iastore, 1) := by decide +kernel
theorem dM_begin_21 : decode cM_begin 21 = .ok (.aload_n 0, 1) := by decide +kernel
theorem dM_begin_22 : decode cM_begin 22 = .ok (.getfield 19, 3) := by decide +kernel
theorem dM_begin_25 : decode cM_begin 25 = .ok (.iload_n 1, 1) := by decide +kernel
theorem dM_begin_26 : decode cM_begin 26 = .ok (.iconst 0, 1) := by decide +kernel
theorem dM_begin_27 : decode cM_begin 27 = .ok (.iastore, 1) := by decide +kernel
theorem dM_begin_28 : decode cM_begin 28 = .ok (.aload_n 0, 1) := by decide +kernel
theorem dM_begin_29 : decode cM_begin 29 = .ok (.getfield 25, 3) := by decide +kernel
theorem dM_begin_32 : decode cM_begin 32 = .ok (.iload_n 1, 1) := by decide +kernel
theorem dM_begin_33 : decode cM_begin 33 = .ok (.bipush 7, 2) := by decide +kernel
theorem dM_begin_35 : decode cM_begin 35 = .ok (.iastore, 1) := by decide +kernel
theorem dM_begin_36 : decode cM_begin 36 = .ok (.aload_n 0, 1) := by decide +kernel
theorem dM_begin_37 : decode cM_begin 37 = .ok (.getfield 41, 3) := by decide +kernel
theorem dM_begin_40 : decode cM_begin 40 = .ok (.iload_n 1, 1) := by decide +kernel
theorem dM_begin_41 : decode cM_begin 41 = .ok (.iconst 0, 1) := by decide +kernel
theorem dM_begin_42 : decode cM_begin 42 = .ok (.bastore, 1) := by decide +kernel
theorem dM_begin_43 : decode cM_begin 43 = .ok (.aload_n 0, 1) := by decide +kernel
theorem dM_begin_44 : decode cM_begin 44 = .ok (.getfield 44, 3) := by decide +kernel
theorem dM_begin_47 : decode cM_begin 47 = .ok (.iload_n 1, 1) := by decide +kernel
theorem dM_begin_48 : decode cM_begin 48 = .ok (.iconst 0, 1) := by decide +kernel
theorem dM_begin_49 : decode cM_begin 49 = .ok (.bastore, 1) := by decide +kernel
theorem dM_begin_50 : decode cM_begin 50 = .ok (.aload_n 0, 1) := by decide +kernel
theorem dM_begin_51 : decode cM_begin 51 = .ok (.getfield 47, 3) := by decide +kernel
theorem dM_begin_54 : decode cM_begin 54 = .ok (.iload_n 1, 1) := by decide +kernel
theorem dM_begin_55 : decode cM_begin 55 = .ok (.iconst 0, 1) := by decide +kernel
theorem dM_begin_56 : decode cM_begin 56 = .ok (.bastore, 1) := by decide +kernel
theorem dM_begin_57 : decode cM_begin 57 = .ok (.aload_n 0, 1) := by decide +kernel
theorem dM_begin_58 : decode cM_begin 58 = .ok (.getfield 50, 3) := by decide +kernel
theorem dM_begin_61 : decode cM_begin 61 = .ok (.iload_n 1, 1) := by decide +kernel
theorem dM_begin_62 : decode cM_begin 62 = .ok (.iconst 0, 1) := by decide +kernel
theorem dM_begin_63 : decode cM_begin 63 = .ok (.bastore, 1) := by decide +kernel
theorem dM_begin_64 : decode cM_begin 64 = .ok (.aload_n 0, 1) := by decide +kernel
theorem dM_begin_65 : decode cM_begin 65 = .ok (.getfield 53, 3) := by decide +kernel
theorem dM_begin_68 : decode cM_begin 68 = .ok (.iload_n 1, 1) := by decide +kernel
theorem dM_begin_69 : decode cM_begin 69 = .ok (.iconst 0, 1) := by decide +kernel
theorem dM_begin_70 : decode cM_begin 70 = .ok (.bastore, 1) := by decide +kernel
theorem dM_begin_71 : decode cM_begin 71 = .ok (.aload_n 0, 1) := by decide +kernel
theorem dM_begin_72 : decode cM_begin 72 = .ok (.getfield 56, 3) := by decide +kernel
theorem dM_begin_75 : decode cM_begin 75 = .ok (.iload_n 1, 1) := by decide +kernel
theorem dM_begin_76 : decode cM_begin 76 = .ok (.iconst 0, 1) := by decide +kernel
theorem dM_begin_77 : decode cM_begin 77 = .ok (.bastore, 1) := by decide +kernel
theorem dM_begin_78 : decode cM_begin 78 = .ok (.aload_n 0, 1) := by decide +kernel
theorem dM_begin_79 : decode cM_begin 79 = .ok (.getfield 32, 3) := by decide +kernel
theorem dM_begin_82 : decode cM_begin 82 = .ok (.iload_n 1, 1) := by decide +kernel
theorem dM_begin_83 : decode cM_begin 83 = .ok (.iload_n 2, 1) := by decide +kernel
theorem dM_begin_84 : decode cM_begin 84 = .ok (.bipush 8, 2) := by decide +kernel
theorem dM_begin_86 : decode cM_begin 86 = .ok (.iand, 1) := by decide +kernel
theorem dM_begin_87 : decode cM_begin 87 = .ok (.ifCond .eq 7, 3) := by decide +kernel
theorem dM_begin_90 : decode cM_begin 90 = .ok (.iconst 1, 1) := by decide +kernel
theorem dM_begin_91 : decode cM_begin 91 = .ok (.goto 4, 3) := by decide +kernel
theorem dM_begin_94 : decode cM_begin 94 = .ok (.iconst 0, 1) := by decide +kernel
theorem dM_begin_95 : decode cM_begin 95 = .ok (.bastore, 1) := by decide +kernel
theorem dM_begin_96 : decode cM_begin 96 = .ok (.aload_n 0, 1) := by decide +kernel
theorem dM_begin_97 : decode cM_begin 97 = .ok (.getfield 35, 3) := by decide +kernel
theorem dM_begin_100 : decode cM_begin 100 = .ok (.iload_n 1, 1) := by decide +kernel
theorem dM_begin_101 : decode cM_begin 101 = .ok (.iload_n 2, 1) := by decide +kernel
theorem dM_begin_102 : decode cM_begin 102 = .ok (.iconst 2, 1) := by decide +kernel
theorem dM_begin_103 : decode cM_begin 103 = .ok (.iand, 1) := by decide +kernel
theorem dM_begin_104 : decode cM_begin 104 = .ok (.ifCond .eq 7, 3) := by decide +kernel
theorem dM_begin_107 : decode cM_begin 107 = .ok (.iconst 1, 1) := by decide +kernel
theorem dM_begin_108 : decode cM_begin 108 = .ok (.goto 4, 3) := by decide +kernel
theorem dM_begin_111 : decode cM_begin 111 = .ok (.iconst 0, 1) := by decide +kernel
theorem dM_begin_112 : decode cM_begin 112 = .ok (.bastore, 1) := by decide +kernel
theorem dM_begin_113 : decode cM_begin 113 = .ok (.aload_n 0, 1) := by decide +kernel
theorem dM_begin_114 : decode cM_begin 114 = .ok (.getfield 38, 3) := by decide +kernel
theorem dM_begin_117 : decode cM_begin 117 = .ok (.iload_n 1, 1) := by decide +kernel
theorem dM_begin_118 : decode cM_begin 118 = .ok (.iload_n 2, 1) := by decide +kernel
theorem dM_begin_119 : decode cM_begin 119 = .ok (.iconst 1, 1) := by decide +kernel
theorem dM_begin_120 : decode cM_begin 120 = .ok (.iand, 1) := by decide +kernel
theorem dM_begin_121 : decode cM_begin 121 = .ok (.ifCond .eq 7, 3) := by decide +kernel
theorem dM_begin_124 : decode cM_begin 124 = .ok (.iconst 1, 1) := by decide +kernel
theorem dM_begin_125 : decode cM_begin 125 = .ok (.goto 4, 3) := by decide +kernel
theorem dM_begin_128 : decode cM_begin 128 = .ok (.iconst 0, 1) := by decide +kernel
theorem dM_begin_129 : decode cM_begin 129 = .ok (.bastore, 1) := by decide +kernel
theorem dM_begin_130 : decode cM_begin 130 = .ok (.aload_n 0, 1) := by decide +kernel
theorem dM_begin_131 : decode cM_begin 131 = .ok (.getfield 59, 3) := by decide +kernel
theorem dM_begin_134 : decode cM_begin 134 = .ok (.iload_n 1, 1) := by decide +kernel
theorem dM_begin_135 : decode cM_begin 135 = .ok (.iconst 2, 1) := by decide +kernel
theorem dM_begin_136 : decode cM_begin 136 = .ok (.iastore, 1) := by decide +kernel
theorem dM_begin_137 : decode cM_begin 137 = .ok (.return_, 1) := by decide +kernel
theorem dM_rule_0 : decode cM_rule 0 = .ok (.iload_n 2, 1) := by decide +kernel
theorem dM_rule_1 : decode cM_rule 1 = .ok (.iconst 5, 1) := by decide +kernel
theorem dM_rule_2 : decode cM_rule 2 = .ok (.ishr, 1) := by decide +kernel
theorem dM_rule_3 : decode cM_rule 3 = .ok (.istore_n 3, 1) := by decide +kernel
theorem dM_rule_4 : decode cM_rule 4 = .ok (.iload_n 2, 1) := by decide +kernel
theorem dM_rule_5 : decode cM_rule 5 = .ok (.bipush 7, 2) := by decide +kernel
theorem dM_rule_7 : decode cM_rule 7 = .ok (.iand, 1) := by decide +kernel
theorem dM_rule_8 : decode cM_rule 8 = .ok (.istore 4, 2) := by decide +kernel
theorem dM_rule_10 : decode cM_rule 10 = .ok (.iload_n 3, 1) := by decide +kernel
theorem dM_rule_11 : decode cM_rule 11 = .ok (.iconst 1, 1) := by decide +kernel
theorem dM_rule_12 : decode cM_rule 12 = .ok (.if_icmp .eq 8, 3) := by decide +kernel
theorem dM_rule_15 : decode cM_rule 15 = .ok (.iload_n 3, 1) := by decide +kernel
theorem dM_rule_16 : decode cM_rule 16 = .ok (.iconst 5, 1) := by decide +kernel
theorem dM_rule_17 : decode cM_rule 17 = .ok (.if_icmp .ne 59, 3) := by decide +kernel
theorem dM_rule_20 : decode cM_rule 20 = .ok (.aload_n 0, 1) := by decide +kernel
theorem dM_rule_21 : decode cM_rule 21 = .ok (.iload_n 1, 1) := by decide +kernel
theorem dM_rule_22 : decode cM_rule 22 = .ok (.invokevirtual 126, 3) := by decide +kernel
theorem dM_rule_25 : decode cM_rule 25 = .ok (.istore 5, 2) := by decide +kernel
theorem dM_rule_27 : decode cM_rule 27 = .ok (.iload 5, 2) := by decide +kernel
theorem dM_rule_29 : decode cM_rule 29 = .ok (.ifCond .lt 44, 3) := by decide +kernel
theorem dM_rule_32 : decode cM_rule 32 = .ok (.aload_n 0, 1) := by decide +kernel
theorem dM_rule_33 : decode cM_rule 33 = .ok (.getfield 19, 3) := by decide +kernel
theorem dM_rule_36 : decode cM_rule 36 = .ok (.iload_n 1, 1) := by decide +kernel
theorem dM_rule_37 : decode cM_rule 37 = .ok (.aload_n 0, 1) := by decide +kernel
theorem dM_rule_38 : decode cM_rule 38 = .ok (.getfield 19, 3) := by decide +kernel
theorem dM_rule_41 : decode cM_rule 41 = .ok (.iload_n 1, 1) := by decide +kernel
theorem dM_rule_42 : decode cM_rule 42 = .ok (.iaload, 1) := by decide +kernel
theorem dM_rule_43 : decode cM_rule 43 = .ok (.iconst 1, 1) := by decide +kernel
theorem dM_rule_44 : decode cM_rule 44 = .ok (.iload 5, 2) := by decide +kernel
theorem dM_rule_46 : decode cM_rule 46 = .ok (.ishl, 1) := by decide +kernel
theorem dM_rule_47 : decode cM_rule 47 = .ok (.iconst (-1), 1) := by decide +kernel
theorem dM_rule_48 : decode cM_rule 48 = .ok (.ixor, 1) := by decide +kernel
theorem dM_rule_49 : decode cM_rule 49 = .ok (.iand, 1) := by decide +kernel
theorem dM_rule_50 : decode cM_rule 50 = .ok (.iastore, 1) := by decide +kernel
theorem dM_rule_51 : decode cM_rule 51 = .ok (.aload_n 0, 1) := by decide +kernel
theorem dM_rule_52 : decode cM_rule 52 = .ok (.getfield 25, 3) := by decide +kernel
theorem dM_rule_55 : decode cM_rule 55 = .ok (.iload_n 1, 1) := by decide +kernel
theorem dM_rule_56 : decode cM_rule 56 = .ok (.iload_n 3, 1) := by decide +kernel
theorem dM_rule_57 : decode cM_rule 57 = .ok (.iconst 5, 1) := by decide +kernel
theorem dM_rule_58 : decode cM_rule 58 = .ok (.if_icmp .ne 8, 3) := by decide +kernel
theorem dM_rule_61 : decode cM_rule 61 = .ok (.iload 5, 2) := by decide +kernel
theorem dM_rule_63 : decode cM_rule 63 = .ok (.goto 9, 3) := by decide +kernel
theorem dM_rule_66 : decode cM_rule 66 = .ok (.aload_n 0, 1) := by decide +kernel
theorem dM_rule_67 : decode cM_rule 67 = .ok (.getfield 25, 3) := by decide +kernel
theorem dM_rule_70 : decode cM_rule 70 = .ok (.iload_n 1, 1) := by decide +kernel
theorem dM_rule_71 : decode cM_rule 71 = .ok (.iaload, 1) := by decide +kernel
theorem dM_rule_72 : decode cM_rule 72 = .ok (.iastore, 1) := by decide +kernel
theorem dM_rule_73 : decode cM_rule 73 = .ok (.goto 97, 3) := by decide +kernel
theorem dM_rule_76 : decode cM_rule 76 = .ok (.iload_n 3, 1) := by decide +kernel
theorem dM_rule_77 : decode cM_rule 77 = .ok (.iconst 3, 1) := by decide +kernel
theorem dM_rule_78 : decode cM_rule 78 = .ok (.if_icmp .eq 9, 3) := by decide +kernel
theorem dM_rule_81 : decode cM_rule 81 = .ok (.iload_n 3, 1) := by decide +kernel
theorem dM_rule_82 : decode cM_rule 82 = .ok (.bipush 7, 2) := by decide +kernel
theorem dM_rule_84 : decode cM_rule 84 = .ok (.if_icmp .ne 48, 3) := by decide +kernel
theorem dM_rule_87 : decode cM_rule 87 = .ok (.aload_n 0, 1) := by decide +kernel
theorem dM_rule_88 : decode cM_rule 88 = .ok (.getfield 19, 3) := by decide +kernel
theorem dM_rule_91 : decode cM_rule 91 = .ok (.iload_n 1, 1) := by decide +kernel
theorem dM_rule_92 : decode cM_rule 92 = .ok (.aload_n 0, 1) := by decide +kernel
theorem dM_rule_93 : decode cM_rule 93 = .ok (.getfield 19, 3) := by decide +kernel
theorem dM_rule_96 : decode cM_rule 96 = .ok (.iload_n 1, 1) := by decide +kernel
theorem dM_rule_97 : decode cM_rule 97 = .ok (.iaload, 1) := by decide +kernel
theorem dM_rule_98 : decode cM_rule 98 = .ok (.iconst 1, 1) := by decide +kernel
theorem dM_rule_99 : decode cM_rule 99 = .ok (.iload 4, 2) := by decide +kernel
theorem dM_rule_101 : decode cM_rule 101 = .ok (.ishl, 1) := by decide +kernel
theorem dM_rule_102 : decode cM_rule 102 = .ok (.iconst (-1), 1) := by decide +kernel
theorem dM_rule_103 : decode cM_rule 103 = .ok (.ixor, 1) := by decide +kernel
theorem dM_rule_104 : decode cM_rule 104 = .ok (.iand, 1) := by decide +kernel
theorem dM_rule_105 : decode cM_rule 105 = .ok (.iastore, 1) := by decide +kernel
theorem dM_rule_106 : decode cM_rule 106 = .ok (.aload_n 0, 1) := by decide +kernel
theorem dM_rule_107 : decode cM_rule 107 = .ok (.getfield 25, 3) := by decide +kernel
theorem dM_rule_110 : decode cM_rule 110 = .ok (.iload_n 1, 1) := by decide +kernel
theorem dM_rule_111 : decode cM_rule 111 = .ok (.iload_n 3, 1) := by decide +kernel
theorem dM_rule_112 : decode cM_rule 112 = .ok (.bipush 7, 2) := by decide +kernel
theorem dM_rule_114 : decode cM_rule 114 = .ok (.if_icmp .ne 8, 3) := by decide +kernel
theorem dM_rule_117 : decode cM_rule 117 = .ok (.iload 4, 2) := by decide +kernel
theorem dM_rule_119 : decode cM_rule 119 = .ok (.goto 9, 3) := by decide +kernel
theorem dM_rule_122 : decode cM_rule 122 = .ok (.aload_n 0, 1) := by decide +kernel
theorem dM_rule_123 : decode cM_rule 123 = .ok (.getfield 25, 3) := by decide +kernel
theorem dM_rule_126 : decode cM_rule 126 = .ok (.iload_n 1, 1) := by decide +kernel
theorem dM_rule_127 : decode cM_rule 127 = .ok (.iaload, 1) := by decide +kernel
theorem dM_rule_128 : decode cM_rule 128 = .ok (.iastore, 1) := by decide +kernel
theorem dM_rule_129 : decode cM_rule 129 = .ok (.goto 41, 3) := by decide +kernel
theorem dM_rule_132 : decode cM_rule 132 = .ok (.iload_n 3, 1) := by decide +kernel
theorem dM_rule_133 : decode cM_rule 133 = .ok (.bipush 6, 2) := by decide +kernel
theorem dM_rule_135 : decode cM_rule 135 = .ok (.if_icmp .ne 14, 3) := by decide +kernel
theorem dM_rule_138 : decode cM_rule 138 = .ok (.aload_n 0, 1) := by decide +kernel
theorem dM_rule_139 : decode cM_rule 139 = .ok (.getfield 25, 3) := by decide +kernel
theorem dM_rule_142 : decode cM_rule 142 = .ok (.iload_n 1, 1) := by decide +kernel
theorem dM_rule_143 : decode cM_rule 143 = .ok (.iload 4, 2) := by decide +kernel
theorem dM_rule_145 : decode cM_rule 145 = .ok (.iastore, 1) := by decide +kernel
theorem dM_rule_146 : decode cM_rule 146 = .ok (.goto 24, 3) := by decide +kernel
theorem dM_rule_149 : decode cM_rule 149 = .ok (.iload_n 3, 1) := by decide +kernel
theorem dM_rule_150 : decode cM_rule 150 = .ok (.iconst 2, 1) := by decide +kernel
theorem dM_rule_151 : decode cM_rule 151 = .ok (.if_icmp .eq 19, 3) := by decide +kernel
theorem dM_rule_154 : decode cM_rule 154 = .ok (.aload_n 0, 1) := by decide +kernel
theorem dM_rule_155 : decode cM_rule 155 = .ok (.getfield 50, 3) := by decide +kernel
theorem dM_rule_158 : decode cM_rule 158 = .ok (.iload_n 1, 1) := by decide +kernel
theorem dM_rule_159 : decode cM_rule 159 = .ok (.iload_n 3, 1) := by decide +kernel
theorem dM_rule_160 : decode cM_rule 160 = .ok (.iconst 4, 1) := by decide +kernel
theorem dM_rule_161 : decode cM_rule 161 = .ok (.if_icmp .ne 7, 3) := by decide +kernel
theorem dM_rule_164 : decode cM_rule 164 = .ok (.iconst 1, 1) := by decide +kernel
theorem dM_rule_165 : decode cM_rule 165 = .ok (.goto 4, 3) := by decide +kernel
theorem dM_rule_168 : decode cM_rule 168 = .ok (.iconst 0, 1) := by decide +kernel
theorem dM_rule_169 : decode cM_rule 169 = .ok (.bastore, 1) := by decide +kernel
theorem dM_rule_170 : decode cM_rule 170 = .ok (.return_, 1) := by decide +kernel
theorem dM_writeFirst_0 : decode cM_writeFirst 0 = .ok (.iload_n 2, 1) := by decide +kernel
theorem dM_writeFirst_1 : decode cM_writeFirst 1 = .ok (.bipush 16, 2) := by decide +kernel
theorem dM_writeFirst_3 : decode cM_writeFirst 3 = .ok (.iand, 1) := by decide +kernel
theorem dM_writeFirst_4 : decode cM_writeFirst 4 = .ok (.ifCond .eq 12, 3) := by decide +kernel
theorem dM_writeFirst_7 : decode cM_writeFirst 7 = .ok (.aload_n 0, 1) := by decide +kernel
theorem dM_writeFirst_8 : decode cM_writeFirst 8 = .ok (.iload_n 1, 1) := by decide +kernel
theorem dM_writeFirst_9 : decode cM_writeFirst 9 = .ok (.iload_n 2, 1) := by decide +kernel
theorem dM_writeFirst_10 : decode cM_writeFirst 10 = .ok (.invokevirtual 129, 3) := by decide +kernel
theorem dM_writeFirst_13 : decode cM_writeFirst 13 = .ok (.goto 110, 3) := by decide +kernel
theorem dM_writeFirst_16 : decode cM_writeFirst 16 = .ok (.aload_n 0, 1) := by decide +kernel
theorem dM_writeFirst_17 : decode cM_writeFirst 17 = .ok (.getfield 28, 3) := by decide +kernel
theorem dM_writeFirst_20 : decode cM_writeFirst 20 = .ok (.iload_n 1, 1) := by decide +kernel
theorem dM_writeFirst_21 : decode cM_writeFirst 21 = .ok (.baload, 1) := by decide +kernel
theorem dM_writeFirst_22 : decode cM_writeFirst 22 = .ok (.ifCond .eq 19, 3) := by decide +kernel
theorem dM_writeFirst_25 : decode cM_writeFirst 25 = .ok (.iload_n 2, 1) := by decide +kernel
theorem dM_writeFirst_26 : decode cM_writeFirst 26 = .ok (.bipush 8, 2) := by decide +kernel
theorem dM_writeFirst_28 : decode cM_writeFirst 28 = .ok (.iand, 1) := by decide +kernel
theorem dM_writeFirst_29 : decode cM_writeFirst 29 = .ok (.ifCond .ne 12, 3) := by decide +kernel
theorem dM_writeFirst_32 : decode cM_writeFirst 32 = .ok (.aload_n 0, 1) := by decide +kernel
theorem dM_writeFirst_33 : decode cM_writeFirst 33 = .ok (.iload_n 1, 1) := by decide +kernel
theorem dM_writeFirst_34 : decode cM_writeFirst 34 = .ok (.iload_n 2, 1) := by decide +kernel
theorem dM_writeFirst_35 : decode cM_writeFirst 35 = .ok (.invokevirtual 133, 3) := by decide +kernel
theorem dM_writeFirst_38 : decode cM_writeFirst 38 = .ok (.goto 85, 3) := by decide +kernel
theorem dM_writeFirst_41 : decode cM_writeFirst 41 = .ok (.aload_n 0, 1) := by decide +kernel
theorem dM_writeFirst_42 : decode cM_writeFirst 42 = .ok (.getfield 28, 3) := by decide +kernel
theorem dM_writeFirst_45 : decode cM_writeFirst 45 = .ok (.iload_n 1, 1) := by decide +kernel
theorem dM_writeFirst_46 : decode cM_writeFirst 46 = .ok (.baload, 1) := by decide +kernel
theorem dM_writeFirst_47 : decode cM_writeFirst 47 = .ok (.ifCond .eq 76, 3) := by decide +kernel
theorem dM_writeFirst_50 : decode cM_writeFirst 50 = .ok (.aload_n 0, 1) := by decide +kernel
theorem dM_writeFirst_51 : decode cM_writeFirst 51 = .ok (.getfield 47, 3) := by decide +kernel
theorem dM_writeFirst_54 : decode cM_writeFirst 54 = .ok (.iload_n 1, 1) := by decide +kernel
theorem dM_writeFirst_55 : decode cM_writeFirst 55 = .ok (.iload_n 2, 1) := by decide +kernel
theorem dM_writeFirst_56 : decode cM_writeFirst 56 = .ok (.bipush 64, 2) := by decide +kernel
theorem dM_writeFirst_58 : decode cM_writeFirst 58 = .ok (.iand, 1) := by decide +kernel
theorem dM_writeFirst_59 : decode cM_writeFirst 59 = .ok (.ifCond .eq 18, 3) := by decide +kernel
theorem dM_writeFirst_62 : decode cM_writeFirst 62 = .ok (.iload_n 2, 1) := by decide +kernel
theorem dM_writeFirst_63 : decode cM_writeFirst 63 = .ok (.bipush 32, 2) := by decide +kernel
theorem dM_writeFirst_65 : decode cM_writeFirst 65 = .ok (.iand, 1) := by decide +kernel
theorem dM_writeFirst_66 : decode cM_writeFirst 66 = .ok (.ifCond .eq 7, 3) := by decide +kernel
theorem dM_writeFirst_69 : decode cM_writeFirst 69 = .ok (.iconst 1, 1) := by decide +kernel
theorem dM_writeFirst_70 : decode cM_writeFirst 70 = .ok (.goto 13, 3) := by decide +kernel
theorem dM_writeFirst_73 : decode cM_writeFirst 73 = .ok (.iconst 0, 1) := by decide +kernel
theorem dM_writeFirst_74 : decode cM_writeFirst 74 = .ok (.goto 9, 3) := by decide +kernel
theorem dM_writeFirst_77 : decode cM_writeFirst 77 = .ok (.aload_n 0, 1) := by decide +kernel
theorem dM_writeFirst_78 : decode cM_writeFirst 78 = .ok (.getfield 47, 3) := by decide +kernel
theorem dM_writeFirst_81 : decode cM_writeFirst 81 = .ok (.iload_n 1, 1) := by decide +kernel
theorem dM_writeFirst_82 : decode cM_writeFirst 82 = .ok (.baload, 1) := by decide +kernel
theorem dM_writeFirst_83 : decode cM_writeFirst 83 = .ok (.bastore, 1) := by decide +kernel
theorem dM_writeFirst_84 : decode cM_writeFirst 84 = .ok (.iload_n 2, 1) := by decide +kernel
theorem dM_writeFirst_85 : decode cM_writeFirst 85 = .ok (.iconst 4, 1) := by decide +kernel
theorem dM_writeFirst_86 : decode cM_writeFirst 86 = .ok (.iand, 1) := by decide +kernel
theorem dM_writeFirst_87 : decode cM_writeFirst 87 = .ok (.ifCond .eq 13, 3) := by decide +kernel
theorem dM_writeFirst_90 : decode cM_writeFirst 90 = .ok (.aload_n 0, 1) := by decide +kernel
theorem dM_writeFirst_91 : decode cM_writeFirst 91 = .ok (.getfield 53, 3) := by decide +kernel
theorem dM_writeFirst_94 : decode cM_writeFirst 94 = .ok (.iload_n 1, 1) := by decide +kernel
theorem dM_writeFirst_95 : decode cM_writeFirst 95 = .ok (.iconst 1, 1) := by decide +kernel
theorem dM_writeFirst_96 : decode cM_writeFirst 96 = .ok (.bastore, 1) := by decide +kernel
theorem dM_writeFirst_97 : decode cM_writeFirst 97 = .ok (.goto 26, 3) := by decide +kernel
theorem dM_writeFirst_100 : decode cM_writeFirst 100 = .ok (.iload_n 2, 1) := by decide +kernel
theorem dM_writeFirst_101 : decode cM_writeFirst 101 = .ok (.iconst 2, 1) := by decide +kernel
theorem dM_writeFirst_102 : decode cM_writeFirst 102 = .ok (.iand, 1) := by decide +kernel
theorem dM_writeFirst_103 : decode cM_writeFirst 103 = .ok (.ifCond .eq 20, 3) := by decide +kernel
theorem dM_writeFirst_106 : decode cM_writeFirst 106 = .ok (.aload_n 0, 1) := by decide +kernel
theorem dM_writeFirst_107 : decode cM_writeFirst 107 = .ok (.getfield 56, 3) := by decide +kernel
theorem dM_writeFirst_110 : decode cM_writeFirst 110 = .ok (.iload_n 1, 1) := by decide +kernel
theorem dM_writeFirst_111 : decode cM_writeFirst 111 = .ok (.iload_n 2, 1) := by decide +kernel
theorem dM_writeFirst_112 : decode cM_writeFirst 112 = .ok (.iconst 1, 1) := by decide +kernel
theorem dM_writeFirst_113 : decode cM_writeFirst 113 = .ok (.iand, 1) := by decide +kernel
theorem dM_writeFirst_114 : decode cM_writeFirst 114 = .ok (.ifCond .eq 7, 3) := by decide +kernel
theorem dM_writeFirst_117 : decode cM_writeFirst 117 = .ok (.iconst 1, 1) := by decide +kernel
theorem dM_writeFirst_118 : decode cM_writeFirst 118 = .ok (.goto 4, 3) := by decide +kernel
theorem dM_writeFirst_121 : decode cM_writeFirst 121 = .ok (.iconst 0, 1) := by decide +kernel
theorem dM_writeFirst_122 : decode cM_writeFirst 122 = .ok (.bastore, 1) := by decide +kernel
theorem dM_writeFirst_123 : decode cM_writeFirst 123 = .ok (.return_, 1) := by decide +kernel
theorem dM_writeSecond_0 : decode cM_writeSecond 0 = .ok (.aload_n 0, 1) := by decide +kernel
theorem dM_writeSecond_1 : decode cM_writeSecond 1 = .ok (.getfield 28, 3) := by decide +kernel
theorem dM_writeSecond_4 : decode cM_writeSecond 4 = .ok (.iload_n 1, 1) := by decide +kernel
theorem dM_writeSecond_5 : decode cM_writeSecond 5 = .ok (.baload, 1) := by decide +kernel
theorem dM_writeSecond_6 : decode cM_writeSecond 6 = .ok (.ifCond .eq 11, 3) := by decide +kernel
theorem dM_writeSecond_9 : decode cM_writeSecond 9 = .ok (.aload_n 0, 1) := by decide +kernel
theorem dM_writeSecond_10 : decode cM_writeSecond 10 = .ok (.getfield 16, 3) := by decide +kernel
theorem dM_writeSecond_13 : decode cM_writeSecond 13 = .ok (.iload_n 1, 1) := by decide +kernel
theorem dM_writeSecond_14 : decode cM_writeSecond 14 = .ok (.iload_n 2, 1) := by decide +kernel
theorem dM_writeSecond_15 : decode cM_writeSecond 15 = .ok (.iastore, 1) := by decide +kernel
theorem dM_writeSecond_16 : decode cM_writeSecond 16 = .ok (.return_, 1) := by decide +kernel
theorem dM_writeSecond_17 : decode cM_writeSecond 17 = .ok (.aload_n 0, 1) := by decide +kernel
theorem dM_writeSecond_18 : decode cM_writeSecond 18 = .ok (.getfield 59, 3) := by decide +kernel
theorem dM_writeSecond_21 : decode cM_writeSecond 21 = .ok (.iload_n 1, 1) := by decide +kernel
theorem dM_writeSecond_22 : decode cM_writeSecond 22 = .ok (.iaload, 1) := by decide +kernel
theorem dM_writeSecond_23 : decode cM_writeSecond 23 = .ok (.istore_n 3, 1) := by decide +kernel
theorem dM_writeSecond_24 : decode cM_writeSecond 24 = .ok (.iload_n 3, 1) := by decide +kernel
theorem dM_writeSecond_25 : decode cM_writeSecond 25 = .ok (.ifCond .ne 4, 3) := by decide +kernel
theorem dM_writeSecond_28 : decode cM_writeSecond 28 = .ok (.return_, 1) := by decide +kernel
theorem dM_writeSecond_29 : decode cM_writeSecond 29 = .ok (.iload_n 3, 1) := by decide +kernel
theorem dM_writeSecond_30 : decode cM_writeSecond 30 = .ok (.iconst 2, 1) := by decide +kernel
theorem dM_writeSecond_31 : decode cM_writeSecond 31 = .ok (.if_icmp .ne 17, 3) := by decide +kernel
theorem dM_writeSecond_34 : decode cM_writeSecond 34 = .ok (.aload_n 0, 1) := by decide +kernel
theorem dM_writeSecond_35 : decode cM_writeSecond 35 = .ok (.getfield 22, 3) := by decide +kernel
theorem dM_writeSecond_38 : decode cM_writeSecond 38 = .ok (.iload_n 1, 1) := by decide +kernel
theorem dM_writeSecond_39 : decode cM_writeSecond 39 = .ok (.iload_n 2, 1) := by decide +kernel
theorem dM_writeSecond_40 : decode cM_writeSecond 40 = .ok (.sipush 248, 3) := by decide +kernel
theorem dM_writeSecond_43 : decode cM_writeSecond 43 = .ok (.iand, 1) := by decide +kernel
theorem dM_writeSecond_44 : decode cM_writeSecond 44 = .ok (.iastore, 1) := by decide +kernel
theorem dM_writeSecond_45 : decode cM_writeSecond 45 = .ok (.goto 43, 3) := by decide +kernel
theorem dM_writeSecond_48 : decode cM_writeSecond 48 = .ok (.iload_n 3, 1) := by decide +kernel
theorem dM_writeSecond_49 : decode cM_writeSecond 49 = .ok (.iconst 4, 1) := by decide +kernel
theorem dM_writeSecond_50 : decode cM_writeSecond 50 = .ok (.if_icmp .ne 38, 3) := by decide +kernel
theorem dM_writeSecond_53 : decode cM_writeSecond 53 = .ok (.aload_n 0, 1) := by decide +kernel
theorem dM_writeSecond_54 : decode cM_writeSecond 54 = .ok (.getfield 41, 3) := by decide +kernel
theorem dM_writeSecond_57 : decode cM_writeSecond 57 = .ok (.iload_n 1, 1) := by decide +kernel
theorem dM_writeSecond_58 : decode cM_writeSecond 58 = .ok (.iload_n 2, 1) := by decide +kernel
theorem dM_writeSecond_59 : decode cM_writeSecond 59 = .ok (.iconst 2, 1) := by decide +kernel
theorem dM_writeSecond_60 : decode cM_writeSecond 60 = .ok (.iand, 1) := by decide +kernel
theorem dM_writeSecond_61 : decode cM_writeSecond 61 = .ok (.ifCond .eq 7, 3) := by decide +kernel
theorem dM_writeSecond_64 : decode cM_writeSecond 64 = .ok (.iconst 1, 1) := by decide +kernel
theorem dM_writeSecond_65 : decode cM_writeSecond 65 = .ok (.goto 4, 3) := by decide +kernel
theorem dM_writeSecond_68 : decode cM_writeSecond 68 = .ok (.iconst 0, 1) := by decide +kernel
theorem dM_writeSecond_69 : decode cM_writeSecond 69 = .ok (.bastore, 1) := by decide +kernel
theorem dM_writeSecond_70 : decode cM_writeSecond 70 = .ok (.aload_n 0, 1) := by decide +kernel
theorem dM_writeSecond_71 : decode cM_writeSecond 71 = .ok (.getfield 44, 3) := by decide +kernel
theorem dM_writeSecond_74 : decode cM_writeSecond 74 = .ok (.iload_n 1, 1) := by decide +kernel
theorem dM_writeSecond_75 : decode cM_writeSecond 75 = .ok (.iload_n 2, 1) := by decide +kernel
theorem dM_writeSecond_76 : decode cM_writeSecond 76 = .ok (.bipush 16, 2) := by decide +kernel
theorem dM_writeSecond_78 : decode cM_writeSecond 78 = .ok (.iand, 1) := by decide +kernel
theorem dM_writeSecond_79 : decode cM_writeSecond 79 = .ok (.ifCond .eq 7, 3) := by decide +kernel
theorem dM_writeSecond_82 : decode cM_writeSecond 82 = .ok (.iconst 1, 1) := by decide +kernel
theorem dM_writeSecond_83 : decode cM_writeSecond 83 = .ok (.goto 4, 3) := by decide +kernel
theorem dM_writeSecond_86 : decode cM_writeSecond 86 = .ok (.iconst 0, 1) := by decide +kernel
theorem dM_writeSecond_87 : decode cM_writeSecond 87 = .ok (.bastore, 1) := by decide +kernel
theorem dM_writeSecond_88 : decode cM_writeSecond 88 = .ok (.aload_n 0, 1) := by decide +kernel
theorem dM_writeSecond_89 : decode cM_writeSecond 89 = .ok (.getfield 59, 3) := by decide +kernel
theorem dM_writeSecond_92 : decode cM_writeSecond 92 = .ok (.iload_n 1, 1) := by decide +kernel
theorem dM_writeSecond_93 : decode cM_writeSecond 93 = .ok (.iload_n 3, 1) := by decide +kernel
theorem dM_writeSecond_94 : decode cM_writeSecond 94 = .ok (.iconst 2, 1) := by decide +kernel
theorem dM_writeSecond_95 : decode cM_writeSecond 95 = .ok (.if_icmp .ne 16, 3) := by decide +kernel
theorem dM_writeSecond_98 : decode cM_writeSecond 98 = .ok (.aload_n 0, 1) := by decide +kernel
theorem dM_writeSecond_99 : decode cM_writeSecond 99 = .ok (.getfield 35, 3) := by decide +kernel
theorem dM_writeSecond_102 : decode cM_writeSecond 102 = .ok (.iload_n 1, 1) := by decide +kernel
theorem dM_writeSecond_103 : decode cM_writeSecond 103 = .ok (.baload, 1) := by decide +kernel
theorem dM_writeSecond_104 : decode cM_writeSecond 104 = .ok (.ifCond .ne 7, 3) := by decide +kernel
theorem dM_writeSecond_107 : decode cM_writeSecond 107 = .ok (.iconst 3, 1) := by decide +kernel
theorem dM_writeSecond_108 : decode cM_writeSecond 108 = .ok (.goto 22, 3) := by decide +kernel
theorem dM_writeSecond_111 : decode cM_writeSecond 111 = .ok (.iload_n 3, 1) := by decide +kernel
theorem dM_writeSecond_112 : decode cM_writeSecond 112 = .ok (.iconst 4, 1) := by decide +kernel
theorem dM_writeSecond_113 : decode cM_writeSecond 113 = .ok (.if_icmp .ge 16, 3) := by decide +kernel
theorem dM_writeSecond_116 : decode cM_writeSecond 116 = .ok (.aload_n 0, 1) := by decide +kernel
theorem dM_writeSecond_117 : decode cM_writeSecond 117 = .ok (.getfield 38, 3) := by decide +kernel
theorem dM_writeSecond_120 : decode cM_writeSecond 120 = .ok (.iload_n 1, 1) := by decide +kernel
theorem dM_writeSecond_121 : decode cM_writeSecond 121 = .ok (.baload, 1) := by decide +kernel
theorem dM_writeSecond_122 : decode cM_writeSecond 122 = .ok (.ifCond .eq 7, 3) := by decide +kernel
theorem dM_writeSecond_125 : decode cM_writeSecond 125 = .ok (.iconst 4, 1) := by decide +kernel
theorem dM_writeSecond_126 : decode cM_writeSecond 126 = .ok (.goto 4, 3) := by decide +kernel
theorem dM_writeSecond_129 : decode cM_writeSecond 129 = .ok (.iconst 0, 1) := by decide +kernel
theorem dM_writeSecond_130 : decode cM_writeSecond 130 = .ok (.iastore, 1) := by decide +kernel
theorem dM_writeSecond_131 : decode cM_writeSecond 131 = .ok (.aload_n 0, 1) := by decide +kernel
theorem dM_writeSecond_132 : decode cM_writeSecond 132 = .ok (.getfield 28, 3) := by decide +kernel
theorem dM_writeSecond_135 : decode cM_writeSecond 135 = .ok (.iload_n 1, 1) := by decide +kernel
theorem dM_writeSecond_136 : decode cM_writeSecond 136 = .ok (.aload_n 0, 1) := by decide +kernel
theorem dM_writeSecond_137 : decode cM_writeSecond 137 = .ok (.getfield 59, 3) := by decide +kernel
theorem dM_writeSecond_140 : decode cM_writeSecond 140 = .ok (.iload_n 1, 1) := by decide +kernel
theorem dM_writeSecond_141 : decode cM_writeSecond 141 = .ok (.iaload, 1) := by decide +kernel
theorem dM_writeSecond_142 : decode cM_writeSecond 142 = .ok (.ifCond .ne 7, 3) := by decide +kernel
theorem dM_writeSecond_145 : decode cM_writeSecond 145 = .ok (.iconst 1, 1) := by decide +kernel
theorem dM_writeSecond_146 : decode cM_writeSecond 146 = .ok (.goto 4, 3) := by decide +kernel
theorem dM_writeSecond_149 : decode cM_writeSecond 149 = .ok (.iconst 0, 1) := by decide +kernel
theorem dM_writeSecond_150 : decode cM_writeSecond 150 = .ok (.bastore, 1) := by decide +kernel
theorem dM_writeSecond_151 : decode cM_writeSecond 151 = .ok (.return_, 1) := by decide +kernel
theorem dM_readFirst_0 : decode cM_readFirst 0 = .ok (.aload_n 0, 1) := by decide +kernel
theorem dM_readFirst_1 : decode cM_readFirst 1 = .ok (.getfield 53, 3) := by decide +kernel
theorem dM_readFirst_4 : decode cM_readFirst 4 = .ok (.iload_n 1, 1) := by decide +kernel
theorem dM_readFirst_5 : decode cM_readFirst 5 = .ok (.baload, 1) := by decide +kernel
theorem dM_readFirst_6 : decode cM_readFirst 6 = .ok (.ifCond .ne 27, 3) := by decide +kernel
theorem dM_readFirst_9 : decode cM_readFirst 9 = .ok (.aload_n 0, 1) := by decide +kernel
theorem dM_readFirst_10 : decode cM_readFirst 10 = .ok (.getfield 56, 3) := by decide +kernel
theorem dM_readFirst_13 : decode cM_readFirst 13 = .ok (.iload_n 1, 1) := by decide +kernel
theorem dM_readFirst_14 : decode cM_readFirst 14 = .ok (.baload, 1) := by decide +kernel
theorem dM_readFirst_15 : decode cM_readFirst 15 = .ok (.ifCond .eq 12, 3) := by decide +kernel
theorem dM_readFirst_18 : decode cM_readFirst 18 = .ok (.aload_n 0, 1) := by decide +kernel
theorem dM_readFirst_19 : decode cM_readFirst 19 = .ok (.getfield 19, 3) := by decide +kernel
theorem dM_readFirst_22 : decode cM_readFirst 22 = .ok (.iload_n 1, 1) := by decide +kernel
theorem dM_readFirst_23 : decode cM_readFirst 23 = .ok (.iaload, 1) := by decide +kernel
theorem dM_readFirst_24 : decode cM_readFirst 24 = .ok (.goto 8, 3) := by decide +kernel
theorem dM_readFirst_27 : decode cM_readFirst 27 = .ok (.aload_n 0, 1) := by decide +kernel
theorem dM_readFirst_28 : decode cM_readFirst 28 = .ok (.iload_n 1, 1) := by decide +kernel
theorem dM_readFirst_29 : decode cM_readFirst 29 = .ok (.invokevirtual 115, 3) := by decide +kernel
theorem dM_readFirst_32 : decode cM_readFirst 32 = .ok (.ireturn, 1) := by decide +kernel
theorem dM_readFirst_33 : decode cM_readFirst 33 = .ok (.aload_n 0, 1) := by decide +kernel
theorem dM_readFirst_34 : decode cM_readFirst 34 = .ok (.getfield 53, 3) := by decide +kernel
theorem dM_readFirst_37 : decode cM_readFirst 37 = .ok (.iload_n 1, 1) := by decide +kernel
theorem dM_readFirst_38 : decode cM_readFirst 38 = .ok (.iconst 0, 1) := by decide +kernel
theorem dM_readFirst_39 : decode cM_readFirst 39 = .ok (.bastore, 1) := by decide +kernel
theorem dM_readFirst_40 : decode cM_readFirst 40 = .ok (.aload_n 0, 1) := by decide +kernel
theorem dM_readFirst_41 : decode cM_readFirst 41 = .ok (.iload_n 1, 1) := by decide +kernel
theorem dM_readFirst_42 : decode cM_readFirst 42 = .ok (.invokevirtual 123, 3) := by decide +kernel
theorem dM_readFirst_45 : decode cM_readFirst 45 = .ok (.istore_n 2, 1) := by decide +kernel
theorem dM_readFirst_46 : decode cM_readFirst 46 = .ok (.iload_n 2, 1) := by decide +kernel
theorem dM_readFirst_47 : decode cM_readFirst 47 = .ok (.ifCond .ge 5, 3) := by decide +kernel
theorem dM_readFirst_50 : decode cM_readFirst 50 = .ok (.iconst 0, 1) := by decide +kernel
theorem dM_readFirst_51 : decode cM_readFirst 51 = .ok (.ireturn, 1) := by decide +kernel
theorem dM_readFirst_52 : decode cM_readFirst 52 = .ok (.aload_n 0, 1) := by decide +kernel
theorem dM_readFirst_53 : decode cM_readFirst 53 = .ok (.iload_n 1, 1) := by decide +kernel
theorem dM_readFirst_54 : decode cM_readFirst 54 = .ok (.iload_n 2, 1) := by decide +kernel
theorem dM_readFirst_55 : decode cM_readFirst 55 = .ok (.invokevirtual 136, 3) := by decide +kernel
theorem dM_readFirst_58 : decode cM_readFirst 58 = .ok (.sipush 128, 3) := by decide +kernel
theorem dM_readFirst_61 : decode cM_readFirst 61 = .ok (.iload_n 2, 1) := by decide +kernel
theorem dM_readFirst_62 : decode cM_readFirst 62 = .ok (.iadd, 1) := by decide +kernel
theorem dM_readFirst_63 : decode cM_readFirst 63 = .ok (.ireturn, 1) := by decide +kernel
theorem dM_latch_0 : decode cM_latch 0 = .ok (.aload_n 0, 1) := by decide +kernel
theorem dM_latch_1 : decode cM_latch 1 = .ok (.getfield 101, 3) := by decide +kernel
theorem dM_latch_4 : decode cM_latch 4 = .ok (.iload_n 1, 1) := by decide +kernel
theorem dM_latch_5 : decode cM_latch 5 = .ok (.aload_n 0, 1) := by decide +kernel
theorem dM_latch_6 : decode cM_latch 6 = .ok (.getfield 101, 3) := by decide +kernel
theorem dM_latch_9 : decode cM_latch 9 = .ok (.iload_n 1, 1) := by decide +kernel
theorem dM_latch_10 : decode cM_latch 10 = .ok (.iaload, 1) := by decide +kernel
theorem dM_latch_11 : decode cM_latch 11 = .ok (.ifCond .ge 12, 3) := by decide +kernel
theorem dM_latch_14 : decode cM_latch 14 = .ok (.aload_n 0, 1) := by decide +kernel
theorem dM_latch_15 : decode cM_latch 15 = .ok (.getfield 77, 3) := by decide +kernel
theorem dM_latch_18 : decode cM_latch 18 = .ok (.iload_n 1, 1) := by decide +kernel
theorem dM_latch_19 : decode cM_latch 19 = .ok (.iaload, 1) := by decide +kernel
theorem dM_latch_20 : decode cM_latch 20 = .ok (.goto 9, 3) := by decide +kernel
theorem dM_latch_23 : decode cM_latch 23 = .ok (.aload_n 0, 1) := by decide +kernel
theorem dM_latch_24 : decode cM_latch 24 = .ok (.getfield 101, 3) := by decide +kernel
theorem dM_latch_27 : decode cM_latch 27 = .ok (.iload_n 1, 1) := by decide +kernel
theorem dM_latch_28 : decode cM_latch 28 = .ok (.iaload, 1) := by decide +kernel
theorem dM_latch_29 : decode cM_latch 29 = .ok (.iastore, 1) := by decide +kernel
theorem dM_latch_30 : decode cM_latch 30 = .ok (.return_, 1) := by decide +kernel
theorem dM_latchStatus_0 : decode cM_latchStatus 0 = .ok (.aload_n 0, 1) := by decide +kernel
theorem dM_latchStatus_1 : decode cM_latchStatus 1 = .ok (.getfield 65, 3) := by decide +kernel
theorem dM_latchStatus_4 : decode cM_latchStatus 4 = .ok (.iload_n 1, 1) := by decide +kernel
theorem dM_latchStatus_5 : decode cM_latchStatus 5 = .ok (.baload, 1) := by decide +kernel
theorem dM_latchStatus_6 : decode cM_latchStatus 6 = .ok (.ifCond .eq 9, 3) := by decide +kernel
theorem dM_latchStatus_9 : decode cM_latchStatus 9 = .ok (.sipush 128, 3) := by decide +kernel
theorem dM_latchStatus_12 : decode cM_latchStatus 12 = .ok (.goto 4, 3) := by decide +kernel
theorem dM_latchStatus_15 : decode cM_latchStatus 15 = .ok (.iconst 0, 1) := by decide +kernel
theorem dM_latchStatus_16 : decode cM_latchStatus 16 = .ok (.aload_n 0, 1) := by decide +kernel
theorem dM_latchStatus_17 : decode cM_latchStatus 17 = .ok (.getfield 89, 3) := by decide +kernel
theorem dM_latchStatus_20 : decode cM_latchStatus 20 = .ok (.iload_n 1, 1) := by decide +kernel
theorem dM_latchStatus_21 : decode cM_latchStatus 21 = .ok (.baload, 1) := by decide +kernel
theorem dM_latchStatus_22 : decode cM_latchStatus 22 = .ok (.ifCond .eq 8, 3) := by decide +kernel
theorem dM_latchStatus_25 : decode cM_latchStatus 25 = .ok (.bipush 64, 2) := by decide +kernel
theorem dM_latchStatus_27 : decode cM_latchStatus 27 = .ok (.goto 4, 3) := by decide +kernel
theorem dM_latchStatus_30 : decode cM_latchStatus 30 = .ok (.iconst 0, 1) := by decide +kernel
theorem dM_latchStatus_31 : decode cM_latchStatus 31 = .ok (.iadd, 1) := by decide +kernel
theorem dM_latchStatus_32 : decode cM_latchStatus 32 = .ok (.bipush 16, 2) := by decide +kernel
theorem dM_latchStatus_34 : decode cM_latchStatus 34 = .ok (.aload_n 0, 1) := by decide +kernel
theorem dM_latchStatus_35 : decode cM_latchStatus 35 = .ok (.getfield 71, 3) := by decide +kernel
theorem dM_latchStatus_38 : decode cM_latchStatus 38 = .ok (.iload_n 1, 1) := by decide +kernel
theorem dM_latchStatus_39 : decode cM_latchStatus 39 = .ok (.iaload, 1) := by decide +kernel
theorem dM_latchStatus_40 : decode cM_latchStatus 40 = .ok (.imul, 1) := by decide +kernel
theorem dM_latchStatus_41 : decode cM_latchStatus 41 = .ok (.iadd, 1) := by decide +kernel
theorem dM_latchStatus_42 : decode cM_latchStatus 42 = .ok (.iconst 2, 1) := by decide +kernel
theorem dM_latchStatus_43 : decode cM_latchStatus 43 = .ok (.aload_n 0, 1) := by decide +kernel
theorem dM_latchStatus_44 : decode cM_latchStatus 44 = .ok (.getfield 68, 3) := by decide +kernel
theorem dM_latchStatus_47 : decode cM_latchStatus 47 = .ok (.iload_n 1, 1) := by decide +kernel
theorem dM_latchStatus_48 : decode cM_latchStatus 48 = .ok (.iaload, 1) := by decide +kernel
theorem dM_latchStatus_49 : decode cM_latchStatus 49 = .ok (.imul, 1) := by decide +kernel
theorem dM_latchStatus_50 : decode cM_latchStatus 50 = .ok (.iadd, 1) := by decide +kernel
theorem dM_latchStatus_51 : decode cM_latchStatus 51 = .ok (.istore_n 2, 1) := by decide +kernel
theorem dM_latchStatus_52 : decode cM_latchStatus 52 = .ok (.aload_n 0, 1) := by decide +kernel
theorem dM_latchStatus_53 : decode cM_latchStatus 53 = .ok (.getfield 104, 3) := by decide +kernel
theorem dM_latchStatus_56 : decode cM_latchStatus 56 = .ok (.iload_n 1, 1) := by decide +kernel
theorem dM_latchStatus_57 : decode cM_latchStatus 57 = .ok (.aload_n 0, 1) := by decide +kernel
theorem dM_latchStatus_58 : decode cM_latchStatus 58 = .ok (.getfield 104, 3) := by decide +kernel
theorem dM_latchStatus_61 : decode cM_latchStatus 61 = .ok (.iload_n 1, 1) := by decide +kernel
theorem dM_latchStatus_62 : decode cM_latchStatus 62 = .ok (.iaload, 1) := by decide +kernel
theorem dM_latchStatus_63 : decode cM_latchStatus 63 = .ok (.ifCond .ge 7, 3) := by decide +kernel
theorem dM_latchStatus_66 : decode cM_latchStatus 66 = .ok (.iload_n 2, 1) := by decide +kernel
theorem dM_latchStatus_67 : decode cM_latchStatus 67 = .ok (.goto 9, 3) := by decide +kernel
theorem dM_latchStatus_70 : decode cM_latchStatus 70 = .ok (.aload_n 0, 1) := by decide +kernel
theorem dM_latchStatus_71 : decode cM_latchStatus 71 = .ok (.getfield 104, 3) := by decide +kernel
theorem dM_latchStatus_74 : decode cM_latchStatus 74 = .ok (.iload_n 1, 1) := by decide +kernel
theorem dM_latchStatus_75 : decode cM_latchStatus 75 = .ok (.iaload, 1) := by decide +kernel
theorem dM_latchStatus_76 : decode cM_latchStatus 76 = .ok (.iastore, 1) := by decide +kernel
theorem dM_latchStatus_77 : decode cM_latchStatus 77 = .ok (.return_, 1) := by decide +kernel
theorem dM_control_0 : decode cM_control 0 = .ok (.iload_n 1, 1) := by decide +kernel
theorem dM_control_1 : decode cM_control 1 = .ok (.bipush 6, 2) := by decide +kernel
theorem dM_control_3 : decode cM_control 3 = .ok (.ishr, 1) := by decide +kernel
theorem dM_control_4 : decode cM_control 4 = .ok (.istore_n 2, 1) := by decide +kernel
theorem dM_control_5 : decode cM_control 5 = .ok (.iload_n 1, 1) := by decide +kernel
theorem dM_control_6 : decode cM_control 6 = .ok (.iconst 4, 1) := by decide +kernel
theorem dM_control_7 : decode cM_control 7 = .ok (.ishr, 1) := by decide +kernel
theorem dM_control_8 : decode cM_control 8 = .ok (.iconst 3, 1) := by decide +kernel
theorem dM_control_9 : decode cM_control 9 = .ok (.iand, 1) := by decide +kernel
theorem dM_control_10 : decode cM_control 10 = .ok (.istore_n 3, 1) := by decide +kernel
theorem dM_control_11 : decode cM_control 11 = .ok (.iload_n 2, 1) := by decide +kernel
theorem dM_control_12 : decode cM_control 12 = .ok (.iconst 3, 1) := by decide +kernel
theorem dM_control_13 : decode cM_control 13 = .ok (.if_icmp .ne 86, 3) := by decide +kernel
theorem dM_control_16 : decode cM_control 16 = .ok (.iconst 0, 1) := by decide +kernel
theorem dM_control_17 : decode cM_control 17 = .ok (.istore 4, 2) := by decide +kernel
theorem dM_control_19 : decode cM_control 19 = .ok (.iload 4, 2) := by decide +kernel
theorem dM_control_21 : decode cM_control 21 = .ok (.iconst 3, 1) := by decide +kernel
theorem dM_control_22 : decode cM_control 22 = .ok (.if_icmp .ge 74, 3) := by decide +kernel
theorem dM_control_25 : decode cM_control 25 = .ok (.iload_n 1, 1) := by decide +kernel
theorem dM_control_26 : decode cM_control 26 = .ok (.iconst 1, 1) := by decide +kernel
theorem dM_control_27 : decode cM_control 27 = .ok (.iload 4, 2) := by decide +kernel
theorem dM_control_29 : decode cM_control 29 = .ok (.iadd, 1) := by decide +kernel
theorem dM_control_30 : decode cM_control 30 = .ok (.ishr, 1) := by decide +kernel
theorem dM_control_31 : decode cM_control 31 = .ok (.iconst 1, 1) := by decide +kernel
theorem dM_control_32 : decode cM_control 32 = .ok (.iand, 1) := by decide +kernel
theorem dM_control_33 : decode cM_control 33 = .ok (.iconst 1, 1) := by decide +kernel
theorem dM_control_34 : decode cM_control 34 = .ok (.if_icmp .ne 17, 3) := by decide +kernel
theorem dM_control_37 : decode cM_control 37 = .ok (.aload_n 0, 1) := by decide +kernel
theorem dM_control_38 : decode cM_control 38 = .ok (.getfield 68, 3) := by decide +kernel
theorem dM_control_41 : decode cM_control 41 = .ok (.iload 4, 2) := by decide +kernel
theorem dM_control_43 : decode cM_control 43 = .ok (.iaload, 1) := by decide +kernel
theorem dM_control_44 : decode cM_control 44 = .ok (.ifCond .lt 7, 3) := by decide +kernel
theorem dM_control_47 : decode cM_control 47 = .ok (.iconst 1, 1) := by decide +kernel
theorem dM_control_48 : decode cM_control 48 = .ok (.goto 4, 3) := by decide +kernel
theorem dM_control_51 : decode cM_control 51 = .ok (.iconst 0, 1) := by decide +kernel
theorem dM_control_52 : decode cM_control 52 = .ok (.istore 5, 2) := by decide +kernel
theorem dM_control_54 : decode cM_control 54 = .ok (.iload 5, 2) := by decide +kernel
theorem dM_control_56 : decode cM_control 56 = .ok (.ifCond .eq 16, 3) := by decide +kernel
theorem dM_control_59 : decode cM_control 59 = .ok (.iload_n 1, 1) := by decide +kernel
theorem dM_control_60 : decode cM_control 60 = .ok (.bipush 32, 2) := by decide +kernel
theorem dM_control_62 : decode cM_control 62 = .ok (.iand, 1) := by decide +kernel
theorem dM_control_63 : decode cM_control 63 = .ok (.ifCond .ne 9, 3) := by decide +kernel
theorem dM_control_66 : decode cM_control 66 = .ok (.aload_n 0, 1) := by decide +kernel
theorem dM_control_67 : decode cM_control 67 = .ok (.iload 4, 2) := by decide +kernel
theorem dM_control_69 : decode cM_control 69 = .ok (.invokevirtual 139, 3) := by decide +kernel
theorem dM_control_72 : decode cM_control 72 = .ok (.iload 5, 2) := by decide +kernel
theorem dM_control_74 : decode cM_control 74 = .ok (.ifCond .eq 16, 3) := by decide +kernel
theorem dM_control_77 : decode cM_control 77 = .ok (.iload_n 1, 1) := by decide +kernel
theorem dM_control_78 : decode cM_control 78 = .ok (.bipush 16, 2) := by decide +kernel
theorem dM_control_80 : decode cM_control 80 = .ok (.iand, 1) := by decide +kernel
theorem dM_control_81 : decode cM_control 81 = .ok (.ifCond .ne 9, 3) := by decide +kernel
theorem dM_control_84 : decode cM_control 84 = .ok (.aload_n 0, 1) := by decide +kernel
theorem dM_control_85 : decode cM_control 85 = .ok (.iload 4, 2) := by decide +kernel
theorem dM_control_87 : decode cM_control 87 = .ok (.invokevirtual 143, 3) := by decide +kernel
theorem dM_control_90 : decode cM_control 90 = .ok (.iinc 4 1, 3) := by decide +kernel
theorem dM_control_93 : decode cM_control 93 = .ok (.goto (-74), 3) := by decide +kernel
theorem dM_control_96 : decode cM_control 96 = .ok (.goto 143, 3) := by decide +kernel
theorem dM_control_99 : decode cM_control 99 = .ok (.iload_n 3, 1) := by decide +kernel
theorem dM_control_100 : decode cM_control 100 = .ok (.ifCond .ne 20, 3) := by decide +kernel
theorem dM_control_103 : decode cM_control 103 = .ok (.aload_n 0, 1) := by decide +kernel
theorem dM_control_104 : decode cM_control 104 = .ok (.getfield 68, 3) := by decide +kernel
theorem dM_control_107 : decode cM_control 107 = .ok (.iload_n 2, 1) := by decide +kernel
theorem dM_control_108 : decode cM_control 108 = .ok (.iaload, 1) := by decide +kernel
theorem dM_control_109 : decode cM_control 109 = .ok (.ifCond .lt 130, 3) := by decide +kernel
theorem dM_control_112 : decode cM_control 112 = .ok (.aload_n 0, 1) := by decide +kernel
theorem dM_control_113 : decode cM_control 113 = .ok (.iload_n 2, 1) := by decide +kernel
theorem dM_control_114 : decode cM_control 114 = .ok (.invokevirtual 139, 3) := by decide +kernel
theorem dM_control_117 : decode cM_control 117 = .ok (.goto 122, 3) := by decide +kernel
theorem dM_control_120 : decode cM_control 120 = .ok (.iload_n 1, 1) := by decide +kernel
theorem dM_control_121 : decode cM_control 121 = .ok (.iconst 1, 1) := by decide +kernel
theorem dM_control_122 : decode cM_control 122 = .ok (.ishr, 1) := by decide +kernel
theorem dM_control_123 : decode cM_control 123 = .ok (.bipush 7, 2) := by decide +kernel
theorem dM_control_125 : decode cM_control 125 = .ok (.iand, 1) := by decide +kernel
theorem dM_control_126 : decode cM_control 126 = .ok (.istore 4, 2) := by decide +kernel
theorem dM_control_128 : decode cM_control 128 = .ok (.aload_n 0, 1) := by decide +kernel
theorem dM_control_129 : decode cM_control 129 = .ok (.getfield 71, 3) := by decide +kernel
theorem dM_control_132 : decode cM_control 132 = .ok (.iload_n 2, 1) := by decide +kernel
theorem dM_control_133 : decode cM_control 133 = .ok (.iload_n 3, 1) := by decide +kernel
theorem dM_control_134 : decode cM_control 134 = .ok (.iastore, 1) := by decide +kernel
theorem dM_control_135 : decode cM_control 135 = .ok (.aload_n 0, 1) := by decide +kernel
theorem dM_control_136 : decode cM_control 136 = .ok (.getfield 68, 3) := by decide +kernel
theorem dM_control_139 : decode cM_control 139 = .ok (.iload_n 2, 1) := by decide +kernel
theorem dM_control_140 : decode cM_control 140 = .ok (.iload 4, 2) := by decide +kernel
theorem dM_control_142 : decode cM_control 142 = .ok (.iconst 5, 1) := by decide +kernel
theorem dM_control_143 : decode cM_control 143 = .ok (.if_icmp .le 10, 3) := by decide +kernel
theorem dM_control_146 : decode cM_control 146 = .ok (.iload 4, 2) := by decide +kernel
theorem dM_control_148 : decode cM_control 148 = .ok (.iconst 4, 1) := by decide +kernel
theorem dM_control_149 : decode cM_control 149 = .ok (.isub, 1) := by decide +kernel
theorem dM_control_150 : decode cM_control 150 = .ok (.goto 5, 3) := by decide +kernel
theorem dM_control_153 : decode cM_control 153 = .ok (.iload 4, 2) := by decide +kernel
theorem dM_control_155 : decode cM_control 155 = .ok (.iastore, 1) := by decide +kernel
theorem dM_control_156 : decode cM_control 156 = .ok (.aload_n 0, 1) := by decide +kernel
theorem dM_control_157 : decode cM_control 157 = .ok (.getfield 74, 3) := by decide +kernel
theorem dM_control_160 : decode cM_control 160 = .ok (.iload_n 2, 1) := by decide +kernel
theorem dM_control_161 : decode cM_control 161 = .ok (.iconst 0, 1) := by decide +kernel
theorem dM_control_162 : decode cM_control 162 = .ok (.iastore, 1) := by decide +kernel
theorem dM_control_163 : decode cM_control 163 = .ok (.aload_n 0, 1) := by decide +kernel
theorem dM_control_164 : decode cM_control 164 = .ok (.getfield 80, 3) := by decide +kernel
theorem dM_control_167 : decode cM_control 167 = .ok (.iload_n 2, 1) := by decide +kernel
theorem dM_control_168 : decode cM_control 168 = .ok (.iconst 0, 1) := by decide +kernel
theorem dM_control_169 : decode cM_control 169 = .ok (.bastore, 1) := by decide +kernel
theorem dM_control_170 : decode cM_control 170 = .ok (.aload_n 0, 1) := by decide +kernel
theorem dM_control_171 : decode cM_control 171 = .ok (.getfield 83, 3) := by decide +kernel
theorem dM_control_174 : decode cM_control 174 = .ok (.iload_n 2, 1) := by decide +kernel
theorem dM_control_175 : decode cM_control 175 = .ok (.iconst 0, 1) := by decide +kernel
theorem dM_control_176 : decode cM_control 176 = .ok (.bastore, 1) := by decide +kernel
theorem dM_control_177 : decode cM_control 177 = .ok (.aload_n 0, 1) := by decide +kernel
theorem dM_control_178 : decode cM_control 178 = .ok (.getfield 86, 3) := by decide +kernel
theorem dM_control_181 : decode cM_control 181 = .ok (.iload_n 2, 1) := by decide +kernel
theorem dM_control_182 : decode cM_control 182 = .ok (.iconst 0, 1) := by decide +kernel
theorem dM_control_183 : decode cM_control 183 = .ok (.bastore, 1) := by decide +kernel
theorem dM_control_184 : decode cM_control 184 = .ok (.aload_n 0, 1) := by decide +kernel
theorem dM_control_185 : decode cM_control 185 = .ok (.getfield 101, 3) := by decide +kernel
theorem dM_control_188 : decode cM_control 188 = .ok (.iload_n 2, 1) := by decide +kernel
theorem dM_control_189 : decode cM_control 189 = .ok (.iconst (-1), 1) := by decide +kernel
theorem dM_control_190 : decode cM_control 190 = .ok (.iastore, 1) := by decide +kernel
theorem dM_control_191 : decode cM_control 191 = .ok (.aload_n 0, 1) := by decide +kernel
theorem dM_control_192 : decode cM_control 192 = .ok (.getfield 104, 3) := by decide +kernel
theorem dM_control_195 : decode cM_control 195 = .ok (.iload_n 2, 1) := by decide +kernel
theorem dM_control_196 : decode cM_control 196 = .ok (.iconst (-1), 1) := by decide +kernel
theorem dM_control_197 : decode cM_control 197 = .ok (.iastore, 1) := by decide +kernel
theorem dM_control_198 : decode cM_control 198 = .ok (.aload_n 0, 1) := by decide +kernel
theorem dM_control_199 : decode cM_control 199 = .ok (.getfield 92, 3) := by decide +kernel
theorem dM_control_202 : decode cM_control 202 = .ok (.iload_n 2, 1) := by decide +kernel
theorem dM_control_203 : decode cM_control 203 = .ok (.iconst 0, 1) := by decide +kernel
theorem dM_control_204 : decode cM_control 204 = .ok (.bastore, 1) := by decide +kernel
theorem dM_control_205 : decode cM_control 205 = .ok (.aload_n 0, 1) := by decide +kernel
theorem dM_control_206 : decode cM_control 206 = .ok (.getfield 98, 3) := by decide +kernel
theorem dM_control_209 : decode cM_control 209 = .ok (.iload_n 2, 1) := by decide +kernel
theorem dM_control_210 : decode cM_control 210 = .ok (.iconst 0, 1) := by decide +kernel
theorem dM_control_211 : decode cM_control 211 = .ok (.bastore, 1) := by decide +kernel
theorem dM_control_212 : decode cM_control 212 = .ok (.aload_n 0, 1) := by decide +kernel
theorem dM_control_213 : decode cM_control 213 = .ok (.getfield 89, 3) := by decide +kernel
theorem dM_control_216 : decode cM_control 216 = .ok (.iload_n 2, 1) := by decide +kernel
theorem dM_control_217 : decode cM_control 217 = .ok (.iconst 1, 1) := by decide +kernel
theorem dM_control_218 : decode cM_control 218 = .ok (.bastore, 1) := by decide +kernel
theorem dM_control_219 : decode cM_control 219 = .ok (.aload_n 0, 1) := by decide +kernel
theorem dM_control_220 : decode cM_control 220 = .ok (.getfield 65, 3) := by decide +kernel
theorem dM_control_223 : decode cM_control 223 = .ok (.iload_n 2, 1) := by decide +kernel
theorem dM_control_224 : decode cM_control 224 = .ok (.aload_n 0, 1) := by decide +kernel
theorem dM_control_225 : decode cM_control 225 = .ok (.getfield 68, 3) := by decide +kernel
theorem dM_control_228 : decode cM_control 228 = .ok (.iload_n 2, 1) := by decide +kernel
theorem dM_control_229 : decode cM_control 229 = .ok (.iaload, 1) := by decide +kernel
theorem dM_control_230 : decode cM_control 230 = .ok (.ifCond .eq 7, 3) := by decide +kernel
theorem dM_control_233 : decode cM_control 233 = .ok (.iconst 1, 1) := by decide +kernel
theorem dM_control_234 : decode cM_control 234 = .ok (.goto 4, 3) := by decide +kernel
theorem dM_control_237 : decode cM_control 237 = .ok (.iconst 0, 1) := by decide +kernel
theorem dM_control_238 : decode cM_control 238 = .ok (.bastore, 1) := by decide +kernel
theorem dM_control_239 : decode cM_control 239 = .ok (.return_, 1) := by decide +kernel
theorem dM_writeCounter_0 : decode cM_writeCounter 0 = .ok (.aload_n 0, 1) := by decide +kernel
theorem dM_writeCounter_1 : decode cM_writeCounter 1 = .ok (.getfield 71, 3) := by decide +kernel
theorem dM_writeCounter_4 : decode cM_writeCounter 4 = .ok (.iload_n 1, 1) := by decide +kernel
theorem dM_writeCounter_5 : decode cM_writeCounter 5 = .ok (.iaload, 1) := by decide +kernel
theorem dM_writeCounter_6 : decode cM_writeCounter 6 = .ok (.iconst 3, 1) := by decide +kernel
theorem dM_writeCounter_7 : decode cM_writeCounter 7 = .ok (.if_icmp .ne 47, 3) := by decide +kernel
theorem dM_writeCounter_10 : decode cM_writeCounter 10 = .ok (.aload_n 0, 1) := by decide +kernel
theorem dM_writeCounter_11 : decode cM_writeCounter 11 = .ok (.getfield 92, 3) := by decide +kernel
theorem dM_writeCounter_14 : decode cM_writeCounter 14 = .ok (.iload_n 1, 1) := by decide +kernel
theorem dM_writeCounter_15 : decode cM_writeCounter 15 = .ok (.baload, 1) := by decide +kernel
theorem dM_writeCounter_16 : decode cM_writeCounter 16 = .ok (.ifCond .ne 38, 3) := by decide +kernel
theorem dM_writeCounter_19 : decode cM_writeCounter 19 = .ok (.aload_n 0, 1) := by decide +kernel
theorem dM_writeCounter_20 : decode cM_writeCounter 20 = .ok (.getfield 92, 3) := by decide +kernel
theorem dM_writeCounter_23 : decode cM_writeCounter 23 = .ok (.iload_n 1, 1) := by decide +kernel
theorem dM_writeCounter_24 : decode cM_writeCounter 24 = .ok (.iconst 1, 1) := by decide +kernel
theorem dM_writeCounter_25 : decode cM_writeCounter 25 = .ok (.bastore, 1) := by decide +kernel
theorem dM_writeCounter_26 : decode cM_writeCounter 26 = .ok (.aload_n 0, 1) := by decide +kernel
theorem dM_writeCounter_27 : decode cM_writeCounter 27 = .ok (.getfield 95, 3) := by decide +kernel
theorem dM_writeCounter_30 : decode cM_writeCounter 30 = .ok (.iload_n 1, 1) := by decide +kernel
theorem dM_writeCounter_31 : decode cM_writeCounter 31 = .ok (.iload_n 2, 1) := by decide +kernel
theorem dM_writeCounter_32 : decode cM_writeCounter 32 = .ok (.iastore, 1) := by decide +kernel
theorem dM_writeCounter_33 : decode cM_writeCounter 33 = .ok (.aload_n 0, 1) := by decide +kernel
theorem dM_writeCounter_34 : decode cM_writeCounter 34 = .ok (.getfield 86, 3) := by decide +kernel
theorem dM_writeCounter_37 : decode cM_writeCounter 37 = .ok (.iload_n 1, 1) := by decide +kernel
theorem dM_writeCounter_38 : decode cM_writeCounter 38 = .ok (.aload_n 0, 1) := by decide +kernel
theorem dM_writeCounter_39 : decode cM_writeCounter 39 = .ok (.getfield 68, 3) := by decide +kernel
theorem dM_writeCounter_42 : decode cM_writeCounter 42 = .ok (.iload_n 1, 1) := by decide +kernel
theorem dM_writeCounter_43 : decode cM_writeCounter 43 = .ok (.iaload, 1) := by decide +kernel
theorem dM_writeCounter_44 : decode cM_writeCounter 44 = .ok (.ifCond .ne 7, 3) := by decide +kernel
theorem dM_writeCounter_47 : decode cM_writeCounter 47 = .ok (.iconst 1, 1) := by decide +kernel
theorem dM_writeCounter_48 : decode cM_writeCounter 48 = .ok (.goto 4, 3) := by decide +kernel
theorem dM_writeCounter_51 : decode cM_writeCounter 51 = .ok (.iconst 0, 1) := by decide +kernel
theorem dM_writeCounter_52 : decode cM_writeCounter 52 = .ok (.bastore, 1) := by decide +kernel
theorem dM_writeCounter_53 : decode cM_writeCounter 53 = .ok (.return_, 1) := by decide +kernel
theorem dM_writeCounter_54 : decode cM_writeCounter 54 = .ok (.aload_n 0, 1) := by decide +kernel
theorem dM_writeCounter_55 : decode cM_writeCounter 55 = .ok (.getfield 71, 3) := by decide +kernel
theorem dM_writeCounter_58 : decode cM_writeCounter 58 = .ok (.iload_n 1, 1) := by decide +kernel
theorem dM_writeCounter_59 : decode cM_writeCounter 59 = .ok (.iaload, 1) := by decide +kernel
theorem dM_writeCounter_60 : decode cM_writeCounter 60 = .ok (.iconst 1, 1) := by decide +kernel
theorem dM_writeCounter_61 : decode cM_writeCounter 61 = .ok (.if_icmp .ne 7, 3) := by decide +kernel
theorem dM_writeCounter_64 : decode cM_writeCounter 64 = .ok (.iload_n 2, 1) := by decide +kernel
theorem dM_writeCounter_65 : decode cM_writeCounter 65 = .ok (.goto 33, 3) := by decide +kernel
theorem dM_writeCounter_68 : decode cM_writeCounter 68 = .ok (.aload_n 0, 1) := by decide +kernel
theorem dM_writeCounter_69 : decode cM_writeCounter 69 = .ok (.getfield 71, 3) := by decide +kernel
theorem dM_writeCounter_72 : decode cM_writeCounter 72 = .ok (.iload_n 1, 1) := by decide +kernel
theorem dM_writeCounter_73 : decode cM_writeCounter 73 = .ok (.iaload, 1) := by decide +kernel
theorem dM_writeCounter_74 : decode cM_writeCounter 74 = .ok (.iconst 2, 1) := by decide +kernel
theorem dM_writeCounter_75 : decode cM_writeCounter 75 = .ok (.if_icmp .ne 11, 3) := by decide +kernel
theorem dM_writeCounter_78 : decode cM_writeCounter 78 = .ok (.sipush 256, 3) := by decide +kernel
theorem dM_writeCounter_81 : decode cM_writeCounter 81 = .ok (.iload_n 2, 1) := by decide +kernel
theorem dM_writeCounter_82 : decode cM_writeCounter 82 = .ok (.imul, 1) := by decide +kernel
theorem dM_writeCounter_83 : decode cM_writeCounter 83 = .ok (.goto 15, 3) := by decide +kernel
theorem dM_writeCounter_86 : decode cM_writeCounter 86 = .ok (.sipush 256, 3) := by decide +kernel
theorem dM_writeCounter_89 : decode cM_writeCounter 89 = .ok (.iload_n 2, 1) := by decide +kernel
theorem dM_writeCounter_90 : decode cM_writeCounter 90 = .ok (.imul, 1) := by decide +kernel
theorem dM_writeCounter_91 : decode cM_writeCounter 91 = .ok (.aload_n 0, 1) := by decide +kernel
theorem dM_writeCounter_92 : decode cM_writeCounter 92 = .ok (.getfield 95, 3) := by decide +kernel
theorem dM_writeCounter_95 : decode cM_writeCounter 95 = .ok (.iload_n 1, 1) := by decide +kernel
theorem dM_writeCounter_96 : decode cM_writeCounter 96 = .ok (.iaload, 1) := by decide +kernel
theorem dM_writeCounter_97 : decode cM_writeCounter 97 = .ok (.iadd, 1) := by decide +kernel
theorem dM_writeCounter_98 : decode cM_writeCounter 98 = .ok (.istore_n 3, 1) := by decide +kernel
theorem dM_writeCounter_99 : decode cM_writeCounter 99 = .ok (.aload_n 0, 1) := by decide +kernel
theorem dM_writeCounter_100 : decode cM_writeCounter 100 = .ok (.getfield 92, 3) := by decide +kernel
theorem dM_writeCounter_103 : decode cM_writeCounter 103 = .ok (.iload_n 1, 1) := by decide +kernel
theorem dM_writeCounter_104 : decode cM_writeCounter 104 = .ok (.iconst 0, 1) := by decide +kernel
theorem dM_writeCounter_105 : decode cM_writeCounter 105 = .ok (.bastore, 1) := by decide +kernel
theorem dM_writeCounter_106 : decode cM_writeCounter 106 = .ok (.aload_n 0, 1) := by decide +kernel
theorem dM_writeCounter_107 : decode cM_writeCounter 107 = .ok (.getfield 86, 3) := by decide +kernel
theorem dM_writeCounter_110 : decode cM_writeCounter 110 = .ok (.iload_n 1, 1) := by decide +kernel
theorem dM_writeCounter_111 : decode cM_writeCounter 111 = .ok (.iconst 0, 1) := by decide +kernel
theorem dM_writeCounter_112 : decode cM_writeCounter 112 = .ok (.bastore, 1) := by decide +kernel
theorem dM_writeCounter_113 : decode cM_writeCounter 113 = .ok (.aload_n 0, 1) := by decide +kernel
theorem dM_writeCounter_114 : decode cM_writeCounter 114 = .ok (.getfield 74, 3) := by decide +kernel
theorem dM_writeCounter_117 : decode cM_writeCounter 117 = .ok (.iload_n 1, 1) := by decide +kernel
theorem dM_writeCounter_118 : decode cM_writeCounter 118 = .ok (.iaload, 1) := by decide +kernel
theorem dM_writeCounter_119 : decode cM_writeCounter 119 = .ok (.ifCond .ne 7, 3) := by decide +kernel
theorem dM_writeCounter_122 : decode cM_writeCounter 122 = .ok (.iconst 1, 1) := by decide +kernel
theorem dM_writeCounter_123 : decode cM_writeCounter 123 = .ok (.goto 4, 3) := by decide +kernel
theorem dM_writeCounter_126 : decode cM_writeCounter 126 = .ok (.iconst 0, 1) := by decide +kernel
theorem dM_writeCounter_127 : decode cM_writeCounter 127 = .ok (.istore 4, 2) := by decide +kernel
theorem dM_writeCounter_129 : decode cM_writeCounter 129 = .ok (.aload_n 0, 1) := by decide +kernel
theorem dM_writeCounter_130 : decode cM_writeCounter 130 = .ok (.getfield 74, 3) := by decide +kernel
theorem dM_writeCounter_133 : decode cM_writeCounter 133 = .ok (.iload_n 1, 1) := by decide +kernel
theorem dM_writeCounter_134 : decode cM_writeCounter 134 = .ok (.iload_n 3, 1) := by decide +kernel
theorem dM_writeCounter_135 : decode cM_writeCounter 135 = .ok (.ifCond .ne 8, 3) := by decide +kernel
theorem dM_writeCounter_138 : decode cM_writeCounter 138 = .ok (.ldc 146, 2) := by decide +kernel
theorem dM_writeCounter_140 : decode cM_writeCounter 140 = .ok (.goto 4, 3) := by decide +kernel
theorem dM_writeCounter_143 : decode cM_writeCounter 143 = .ok (.iload_n 3, 1) := by decide +kernel
theorem dM_writeCounter_144 : decode cM_writeCounter 144 = .ok (.iastore, 1) := by decide +kernel
theorem dM_writeCounter_145 : decode cM_writeCounter 145 = .ok (.aload_n 0, 1) := by decide +kernel
theorem dM_writeCounter_146 : decode cM_writeCounter 146 = .ok (.getfield 89, 3) := by decide +kernel
theorem dM_writeCounter_149 : decode cM_writeCounter 149 = .ok (.iload_n 1, 1) := by decide +kernel
theorem dM_writeCounter_150 : decode cM_writeCounter 150 = .ok (.iconst 1, 1) := by decide +kernel
theorem dM_writeCounter_151 : decode cM_writeCounter 151 = .ok (.bastore, 1) := by decide +kernel
theorem dM_writeCounter_152 : decode cM_writeCounter 152 = .ok (.aload_n 0, 1) := by decide +kernel
theorem dM_writeCounter_153 : decode cM_writeCounter 153 = .ok (.getfield 68, 3) := by decide +kernel
theorem dM_writeCounter_156 : decode cM_writeCounter 156 = .ok (.iload_n 1, 1) := by decide +kernel
theorem dM_writeCounter_157 : decode cM_writeCounter 157 = .ok (.iaload, 1) := by decide +kernel
theorem dM_writeCounter_158 : decode cM_writeCounter 158 = .ok (.istore 5, 2) := by decide +kernel
theorem dM_writeCounter_160 : decode cM_writeCounter 160 = .ok (.aload_n 0, 1) := by decide +kernel
theorem dM_writeCounter_161 : decode cM_writeCounter 161 = .ok (.getfield 83, 3) := by decide +kernel
theorem dM_writeCounter_164 : decode cM_writeCounter 164 = .ok (.iload_n 1, 1) := by decide +kernel
theorem dM_writeCounter_165 : decode cM_writeCounter 165 = .ok (.aload_n 0, 1) := by decide +kernel
theorem dM_writeCounter_166 : decode cM_writeCounter 166 = .ok (.getfield 83, 3) := by decide +kernel
theorem dM_writeCounter_169 : decode cM_writeCounter 169 = .ok (.iload_n 1, 1) := by decide +kernel
theorem dM_writeCounter_170 : decode cM_writeCounter 170 = .ok (.baload, 1) := by decide +kernel
theorem dM_writeCounter_171 : decode cM_writeCounter 171 = .ok (.ifCond .ne 31, 3) := by decide +kernel
theorem dM_writeCounter_174 : decode cM_writeCounter 174 = .ok (.iload 5, 2) := by decide +kernel
theorem dM_writeCounter_176 : decode cM_writeCounter 176 = .ok (.ifCond .eq 26, 3) := by decide +kernel
theorem dM_writeCounter_179 : decode cM_writeCounter 179 = .ok (.iload 5, 2) := by decide +kernel
theorem dM_writeCounter_181 : decode cM_writeCounter 181 = .ok (.iconst 4, 1) := by decide +kernel
theorem dM_writeCounter_182 : decode cM_writeCounter 182 = .ok (.if_icmp .eq 20, 3) := by decide +kernel
theorem dM_writeCounter_185 : decode cM_writeCounter 185 = .ok (.iload 5, 2) := by decide +kernel
theorem dM_writeCounter_187 : decode cM_writeCounter 187 = .ok (.iconst 2, 1) := by decide +kernel
theorem dM_writeCounter_188 : decode cM_writeCounter 188 = .ok (.if_icmp .eq 9, 3) := by decide +kernel
theorem dM_writeCounter_191 : decode cM_writeCounter 191 = .ok (.iload 5, 2) := by decide +kernel
theorem dM_writeCounter_193 : decode cM_writeCounter 193 = .ok (.iconst 3, 1) := by decide +kernel
theorem dM_writeCounter_194 : decode cM_writeCounter 194 = .ok (.if_icmp .ne 12, 3) := by decide +kernel
theorem dM_writeCounter_197 : decode cM_writeCounter 197 = .ok (.iload 4, 2) := by decide +kernel
theorem dM_writeCounter_199 : decode cM_writeCounter 199 = .ok (.ifCond .eq 7, 3) := by decide +kernel
theorem dM_writeCounter_202 : decode cM_writeCounter 202 = .ok (.iconst 1, 1) := by decide +kernel
theorem dM_writeCounter_203 : decode cM_writeCounter 203 = .ok (.goto 4, 3) := by decide +kernel
theorem dM_writeCounter_206 : decode cM_writeCounter 206 = .ok (.iconst 0, 1) := by decide +kernel
theorem dM_writeCounter_207 : decode cM_writeCounter 207 = .ok (.bastore, 1) := by decide +kernel
theorem dM_writeCounter_208 : decode cM_writeCounter 208 = .ok (.aload_n 0, 1) := by decide +kernel
theorem dM_writeCounter_209 : decode cM_writeCounter 209 = .ok (.getfield 65, 3) := by decide +kernel
theorem dM_writeCounter_212 : decode cM_writeCounter 212 = .ok (.iload_n 1, 1) := by decide +kernel
theorem dM_writeCounter_213 : decode cM_writeCounter 213 = .ok (.iload 5, 2) := by decide +kernel
theorem dM_writeCounter_215 : decode cM_writeCounter 215 = .ok (.ifCond .eq 16, 3) := by decide +kernel
theorem dM_writeCounter_218 : decode cM_writeCounter 218 = .ok (.aload_n 0, 1) := by decide +kernel
theorem dM_writeCounter_219 : decode cM_writeCounter 219 = .ok (.getfield 65, 3) := by decide +kernel
theorem dM_writeCounter_222 : decode cM_writeCounter 222 = .ok (.iload_n 1, 1) := by decide +kernel
theorem dM_writeCounter_223 : decode cM_writeCounter 223 = .ok (.baload, 1) := by decide +kernel
theorem dM_writeCounter_224 : decode cM_writeCounter 224 = .ok (.ifCond .eq 7, 3) := by decide +kernel
theorem dM_writeCounter_227 : decode cM_writeCounter 227 = .ok (.iconst 1, 1) := by decide +kernel
theorem dM_writeCounter_228 : decode cM_writeCounter 228 = .ok (.goto 4, 3) := by decide +kernel
theorem dM_writeCounter_231 : decode cM_writeCounter 231 = .ok (.iconst 0, 1) := by decide +kernel
theorem dM_writeCounter_232 : decode cM_writeCounter 232 = .ok (.bastore, 1) := by decide +kernel
theorem dM_writeCounter_233 : decode cM_writeCounter 233 = .ok (.return_, 1) := by decide +kernel
theorem dM_readCounter_0 : decode cM_readCounter 0 = .ok (.aload_n 0, 1) := by decide +kernel
theorem dM_readCounter_1 : decode cM_readCounter 1 = .ok (.getfield 104, 3) := by decide +kernel
theorem dM_readCounter_4 : decode cM_readCounter 4 = .ok (.iload_n 1, 1) := by decide +kernel
theorem dM_readCounter_5 : decode cM_readCounter 5 = .ok (.iaload, 1) := by decide +kernel
theorem dM_readCounter_6 : decode cM_readCounter 6 = .ok (.ifCond .lt 19, 3) := by decide +kernel
theorem dM_readCounter_9 : decode cM_readCounter 9 = .ok (.aload_n 0, 1) := by decide +kernel
theorem dM_readCounter_10 : decode cM_readCounter 10 = .ok (.getfield 104, 3) := by decide +kernel
theorem dM_readCounter_13 : decode cM_readCounter 13 = .ok (.iload_n 1, 1) := by decide +kernel
theorem dM_readCounter_14 : decode cM_readCounter 14 = .ok (.iaload, 1) := by decide +kernel
theorem dM_readCounter_15 : decode cM_readCounter 15 = .ok (.istore_n 2, 1) := by decide +kernel
theorem dM_readCounter_16 : decode cM_readCounter 16 = .ok (.aload_n 0, 1) := by decide +kernel
theorem dM_readCounter_17 : decode cM_readCounter 17 = .ok (.getfield 104, 3) := by decide +kernel
theorem dM_readCounter_20 : decode cM_readCounter 20 = .ok (.iload_n 1, 1) := by decide +kernel
theorem dM_readCounter_21 : decode cM_readCounter 21 = .ok (.iconst (-1), 1) := by decide +kernel
theorem dM_readCounter_22 : decode cM_readCounter 22 = .ok (.iastore, 1) := by decide +kernel
theorem dM_readCounter_23 : decode cM_readCounter 23 = .ok (.iload_n 2, 1) := by decide +kernel
theorem dM_readCounter_24 : decode cM_readCounter 24 = .ok (.ireturn, 1) := by decide +kernel
theorem dM_readCounter_25 : decode cM_readCounter 25 = .ok (.aload_n 0, 1) := by decide +kernel
theorem dM_readCounter_26 : decode cM_readCounter 26 = .ok (.getfield 101, 3) := by decide +kernel
theorem dM_readCounter_29 : decode cM_readCounter 29 = .ok (.iload_n 1, 1) := by decide +kernel
theorem dM_readCounter_30 : decode cM_readCounter 30 = .ok (.iaload, 1) := by decide +kernel
theorem dM_readCounter_31 : decode cM_readCounter 31 = .ok (.ifCond .ge 12, 3) := by decide +kernel
theorem dM_readCounter_34 : decode cM_readCounter 34 = .ok (.aload_n 0, 1) := by decide +kernel
theorem dM_readCounter_35 : decode cM_readCounter 35 = .ok (.getfield 77, 3) := by decide +kernel
theorem dM_readCounter_38 : decode cM_readCounter 38 = .ok (.iload_n 1, 1) := by decide +kernel
theorem dM_readCounter_39 : decode cM_readCounter 39 = .ok (.iaload, 1) := by decide +kernel
theorem dM_readCounter_40 : decode cM_readCounter 40 = .ok (.goto 9, 3) := by decide +kernel
theorem dM_readCounter_43 : decode cM_readCounter 43 = .ok (.aload_n 0, 1) := by decide +kernel
theorem dM_readCounter_44 : decode cM_readCounter 44 = .ok (.getfield 101, 3) := by decide +kernel
theorem dM_readCounter_47 : decode cM_readCounter 47 = .ok (.iload_n 1, 1) := by decide +kernel
theorem dM_readCounter_48 : decode cM_readCounter 48 = .ok (.iaload, 1) := by decide +kernel
theorem dM_readCounter_49 : decode cM_readCounter 49 = .ok (.istore_n 2, 1) := by decide +kernel
theorem dM_readCounter_50 : decode cM_readCounter 50 = .ok (.aload_n 0, 1) := by decide +kernel
theorem dM_readCounter_51 : decode cM_readCounter 51 = .ok (.getfield 71, 3) := by decide +kernel
theorem dM_readCounter_54 : decode cM_readCounter 54 = .ok (.iload_n 1, 1) := by decide +kernel
theorem dM_readCounter_55 : decode cM_readCounter 55 = .ok (.iaload, 1) := by decide +kernel
theorem dM_readCounter_56 : decode cM_readCounter 56 = .ok (.iconst 2, 1) := by decide +kernel
theorem dM_readCounter_57 : decode cM_readCounter 57 = .ok (.if_icmp .eq 22, 3) := by decide +kernel
theorem dM_readCounter_60 : decode cM_readCounter 60 = .ok (.aload_n 0, 1) := by decide +kernel
theorem dM_readCounter_61 : decode cM_readCounter 61 = .ok (.getfield 71, 3) := by decide +kernel
theorem dM_readCounter_64 : decode cM_readCounter 64 = .ok (.iload_n 1, 1) := by decide +kernel
theorem dM_readCounter_65 : decode cM_readCounter 65 = .ok (.iaload, 1) := by decide +kernel
theorem dM_readCounter_66 : decode cM_readCounter 66 = .ok (.iconst 3, 1) := by decide +kernel
theorem dM_readCounter_67 : decode cM_readCounter 67 = .ok (.if_icmp .ne 16, 3) := by decide +kernel
theorem dM_readCounter_70 : decode cM_readCounter 70 = .ok (.aload_n 0, 1) := by decide +kernel
theorem dM_readCounter_71 : decode cM_readCounter 71 = .ok (.getfield 98, 3) := by decide +kernel
theorem dM_readCounter_74 : decode cM_readCounter 74 = .ok (.iload_n 1, 1) := by decide +kernel
theorem dM_readCounter_75 : decode cM_readCounter 75 = .ok (.baload, 1) := by decide +kernel
theorem dM_readCounter_76 : decode cM_readCounter 76 = .ok (.ifCond .eq 7, 3) := by decide +kernel
theorem dM_readCounter_79 : decode cM_readCounter 79 = .ok (.iconst 1, 1) := by decide +kernel
theorem dM_readCounter_80 : decode cM_readCounter 80 = .ok (.goto 4, 3) := by decide +kernel
theorem dM_readCounter_83 : decode cM_readCounter 83 = .ok (.iconst 0, 1) := by decide +kernel
theorem dM_readCounter_84 : decode cM_readCounter 84 = .ok (.istore_n 3, 1) := by decide +kernel
theorem dM_readCounter_85 : decode cM_readCounter 85 = .ok (.aload_n 0, 1) := by decide +kernel
theorem dM_readCounter_86 : decode cM_readCounter 86 = .ok (.getfield 71, 3) := by decide +kernel
theorem dM_readCounter_89 : decode cM_readCounter 89 = .ok (.iload_n 1, 1) := by decide +kernel
theorem dM_readCounter_90 : decode cM_readCounter 90 = .ok (.iaload, 1) := by decide +kernel
theorem dM_readCounter_91 : decode cM_readCounter 91 = .ok (.iconst 3, 1) := by decide +kernel
theorem dM_readCounter_92 : decode cM_readCounter 92 = .ok (.if_icmp .ne 12, 3) := by decide +kernel
theorem dM_readCounter_95 : decode cM_readCounter 95 = .ok (.aload_n 0, 1) := by decide +kernel
theorem dM_readCounter_96 : decode cM_readCounter 96 = .ok (.getfield 98, 3) := by decide +kernel
theorem dM_readCounter_99 : decode cM_readCounter 99 = .ok (.iload_n 1, 1) := by decide +kernel
theorem dM_readCounter_100 : decode cM_readCounter 100 = .ok (.baload, 1) := by decide +kernel
theorem dM_readCounter_101 : decode cM_readCounter 101 = .ok (.ifCond .eq 7, 3) := by decide +kernel
theorem dM_readCounter_104 : decode cM_readCounter 104 = .ok (.iconst 1, 1) := by decide +kernel
theorem dM_readCounter_105 : decode cM_readCounter 105 = .ok (.goto 4, 3) := by decide +kernel
theorem dM_readCounter_108 : decode cM_readCounter 108 = .ok (.iconst 0, 1) := by decide +kernel
theorem dM_readCounter_109 : decode cM_readCounter 109 = .ok (.istore 4, 2) := by decide +kernel
theorem dM_readCounter_111 : decode cM_readCounter 111 = .ok (.aload_n 0, 1) := by decide +kernel
theorem dM_readCounter_112 : decode cM_readCounter 112 = .ok (.getfield 98, 3) := by decide +kernel
theorem dM_readCounter_115 : decode cM_readCounter 115 = .ok (.iload_n 1, 1) := by decide +kernel
theorem dM_readCounter_116 : decode cM_readCounter 116 = .ok (.aload_n 0, 1) := by decide +kernel
theorem dM_readCounter_117 : decode cM_readCounter 117 = .ok (.getfield 71, 3) := by decide +kernel
theorem dM_readCounter_120 : decode cM_readCounter 120 = .ok (.iload_n 1, 1) := by decide +kernel
theorem dM_readCounter_121 : decode cM_readCounter 121 = .ok (.iaload, 1) := by decide +kernel
theorem dM_readCounter_122 : decode cM_readCounter 122 = .ok (.iconst 3, 1) := by decide +kernel
theorem dM_readCounter_123 : decode cM_readCounter 123 = .ok (.if_icmp .ne 16, 3) := by decide +kernel
theorem dM_readCounter_126 : decode cM_readCounter 126 = .ok (.aload_n 0, 1) := by decide +kernel
theorem dM_readCounter_127 : decode cM_readCounter 127 = .ok (.getfield 98, 3) := by decide +kernel
theorem dM_readCounter_130 : decode cM_readCounter 130 = .ok (.iload_n 1, 1) := by decide +kernel
theorem dM_readCounter_131 : decode cM_readCounter 131 = .ok (.baload, 1) := by decide +kernel
theorem dM_readCounter_132 : decode cM_readCounter 132 = .ok (.ifCond .ne 7, 3) := by decide +kernel
theorem dM_readCounter_135 : decode cM_readCounter 135 = .ok (.iconst 1, 1) := by decide +kernel
theorem dM_readCounter_136 : decode cM_readCounter 136 = .ok (.goto 4, 3) := by decide +kernel
theorem dM_readCounter_139 : decode cM_readCounter 139 = .ok (.iconst 0, 1) := by decide +kernel
theorem dM_readCounter_140 : decode cM_readCounter 140 = .ok (.bastore, 1) := by decide +kernel
theorem dM_readCounter_141 : decode cM_readCounter 141 = .ok (.aload_n 0, 1) := by decide +kernel
theorem dM_readCounter_142 : decode cM_readCounter 142 = .ok (.getfield 101, 3) := by decide +kernel
theorem dM_readCounter_145 : decode cM_readCounter 145 = .ok (.iload_n 1, 1) := by decide +kernel
theorem dM_readCounter_146 : decode cM_readCounter 146 = .ok (.iload 4, 2) := by decide +kernel
theorem dM_readCounter_148 : decode cM_readCounter 148 = .ok (.ifCond .eq 7, 3) := by decide +kernel
theorem dM_readCounter_151 : decode cM_readCounter 151 = .ok (.iconst (-1), 1) := by decide +kernel
theorem dM_readCounter_152 : decode cM_readCounter 152 = .ok (.goto 9, 3) := by decide +kernel
theorem dM_readCounter_155 : decode cM_readCounter 155 = .ok (.aload_n 0, 1) := by decide +kernel
theorem dM_readCounter_156 : decode cM_readCounter 156 = .ok (.getfield 101, 3) := by decide +kernel
theorem dM_readCounter_159 : decode cM_readCounter 159 = .ok (.iload_n 1, 1) := by decide +kernel
theorem dM_readCounter_160 : decode cM_readCounter 160 = .ok (.iaload, 1) := by decide +kernel
theorem dM_readCounter_161 : decode cM_readCounter 161 = .ok (.iastore, 1) := by decide +kernel
theorem dM_readCounter_162 : decode cM_readCounter 162 = .ok (.iload_n 3, 1) := by decide +kernel
theorem dM_readCounter_163 : decode cM_readCounter 163 = .ok (.ifCond .eq 11, 3) := by decide +kernel
theorem dM_readCounter_166 : decode cM_readCounter 166 = .ok (.iload_n 2, 1) := by decide +kernel
theorem dM_readCounter_167 : decode cM_readCounter 167 = .ok (.sipush 256, 3) := by decide +kernel
theorem dM_readCounter_170 : decode cM_readCounter 170 = .ok (.idiv, 1) := by decide +kernel
theorem dM_readCounter_171 : decode cM_readCounter 171 = .ok (.goto 8, 3) := by decide +kernel
theorem dM_readCounter_174 : decode cM_readCounter 174 = .ok (.iload_n 2, 1) := by decide +kernel
theorem dM_readCounter_175 : decode cM_readCounter 175 = .ok (.sipush 256, 3) := by decide +kernel
theorem dM_readCounter_178 : decode cM_readCounter 178 = .ok (.irem, 1) := by decide +kernel
theorem dM_readCounter_179 : decode cM_readCounter 179 = .ok (.ireturn, 1) := by decide +kernel
theorem dM_put_0 : decode cM_put 0 = .ok (.aload_n 0, 1) := by decide +kernel
theorem dM_put_1 : decode cM_put 1 = .ok (.getfield 77, 3) := by decide +kernel
theorem dM_put_4 : decode cM_put 4 = .ok (.iload_n 1, 1) := by decide +kernel
theorem dM_put_5 : decode cM_put 5 = .ok (.iload_n 2, 1) := by decide +kernel
theorem dM_put_6 : decode cM_put 6 = .ok (.ldc 147, 2) := by decide +kernel
theorem dM_put_8 : decode cM_put 8 = .ok (.iand, 1) := by decide +kernel
theorem dM_put_9 : decode cM_put 9 = .ok (.iastore, 1) := by decide +kernel
theorem dM_put_10 : decode cM_put 10 = .ok (.return_, 1) := by decide +kernel
theorem dM_step_0 : decode cM_step 0 = .ok (.aload_n 0, 1) := by decide +kernel
theorem dM_step_1 : decode cM_step 1 = .ok (.getfield 68, 3) := by decide +kernel
theorem dM_step_4 : decode cM_step 4 = .ok (.iload_n 1, 1) := by decide +kernel
theorem dM_step_5 : decode cM_step 5 = .ok (.iaload, 1) := by decide +kernel
theorem dM_step_6 : decode cM_step 6 = .ok (.istore_n 2, 1) := by decide +kernel
theorem dM_step_7 : decode cM_step 7 = .ok (.iload_n 2, 1) := by decide +kernel
theorem dM_step_8 : decode cM_step 8 = .ok (.iconst 2, 1) := by decide +kernel
theorem dM_step_9 : decode cM_step 9 = .ok (.if_icmp .ge 48, 3) := by decide +kernel
theorem dM_step_12 : decode cM_step 12 = .ok (.aload_n 0, 1) := by decide +kernel
theorem dM_step_13 : decode cM_step 13 = .ok (.iload_n 1, 1) := by decide +kernel
theorem dM_step_14 : decode cM_step 14 = .ok (.aload_n 0, 1) := by decide +kernel
theorem dM_step_15 : decode cM_step 15 = .ok (.getfield 77, 3) := by decide +kernel
theorem dM_step_18 : decode cM_step 18 = .ok (.iload_n 1, 1) := by decide +kernel
theorem dM_step_19 : decode cM_step 19 = .ok (.iaload, 1) := by decide +kernel
theorem dM_step_20 : decode cM_step 20 = .ok (.iconst 1, 1) := by decide +kernel
theorem dM_step_21 : decode cM_step 21 = .ok (.isub, 1) := by decide +kernel
theorem dM_step_22 : decode cM_step 22 = .ok (.invokevirtual 148, 3) := by decide +kernel
theorem dM_step_25 : decode cM_step 25 = .ok (.aload_n 0, 1) := by decide +kernel
theorem dM_step_26 : decode cM_step 26 = .ok (.getfield 65, 3) := by decide +kernel
theorem dM_step_29 : decode cM_step 29 = .ok (.iload_n 1, 1) := by decide +kernel
theorem dM_step_30 : decode cM_step 30 = .ok (.aload_n 0, 1) := by decide +kernel
theorem dM_step_31 : decode cM_step 31 = .ok (.getfield 65, 3) := by decide +kernel
theorem dM_step_34 : decode cM_step 34 = .ok (.iload_n 1, 1) := by decide +kernel
theorem dM_step_35 : decode cM_step 35 = .ok (.baload, 1) := by decide +kernel
theorem dM_step_36 : decode cM_step 36 = .ok (.ifCond .ne 12, 3) := by decide +kernel
theorem dM_step_39 : decode cM_step 39 = .ok (.aload_n 0, 1) := by decide +kernel
theorem dM_step_40 : decode cM_step 40 = .ok (.getfield 77, 3) := by decide +kernel
theorem dM_step_43 : decode cM_step 43 = .ok (.iload_n 1, 1) := by decide +kernel
theorem dM_step_44 : decode cM_step 44 = .ok (.iaload, 1) := by decide +kernel
theorem dM_step_45 : decode cM_step 45 = .ok (.ifCond .ne 7, 3) := by decide +kernel
theorem dM_step_48 : decode cM_step 48 = .ok (.iconst 1, 1) := by decide +kernel
theorem dM_step_49 : decode cM_step 49 = .ok (.goto 4, 3) := by decide +kernel
theorem dM_step_52 : decode cM_step 52 = .ok (.iconst 0, 1) := by decide +kernel
theorem dM_step_53 : decode cM_step 53 = .ok (.bastore, 1) := by decide +kernel
theorem dM_step_54 : decode cM_step 54 = .ok (.goto 160, 3) := by decide +kernel
theorem dM_step_57 : decode cM_step 57 = .ok (.iload_n 2, 1) := by decide +kernel
theorem dM_step_58 : decode cM_step 58 = .ok (.iconst 2, 1) := by decide +kernel
theorem dM_step_59 : decode cM_step 59 = .ok (.if_icmp .ne 87, 3) := by decide +kernel
theorem dM_step_62 : decode cM_step 62 = .ok (.aload_n 0, 1) := by decide +kernel
theorem dM_step_63 : decode cM_step 63 = .ok (.getfield 77, 3) := by decide +kernel
theorem dM_step_66 : decode cM_step 66 = .ok (.iload_n 1, 1) := by decide +kernel
theorem dM_step_67 : decode cM_step 67 = .ok (.iaload, 1) := by decide +kernel
theorem dM_step_68 : decode cM_step 68 = .ok (.iconst 1, 1) := by decide +kernel
theorem dM_step_69 : decode cM_step 69 = .ok (.if_icmp .ne 31, 3) := by decide +kernel
theorem dM_step_72 : decode cM_step 72 = .ok (.aload_n 0, 1) := by decide +kernel
theorem dM_step_73 : decode cM_step 73 = .ok (.iload_n 1, 1) := by decide +kernel
theorem dM_step_74 : decode cM_step 74 = .ok (.aload_n 0, 1) := by decide +kernel
theorem dM_step_75 : decode cM_step 75 = .ok (.getfield 74, 3) := by decide +kernel
theorem dM_step_78 : decode cM_step 78 = .ok (.iload_n 1, 1) := by decide +kernel
theorem dM_step_79 : decode cM_step 79 = .ok (.iaload, 1) := by decide +kernel
theorem dM_step_80 : decode cM_step 80 = .ok (.invokevirtual 148, 3) := by decide +kernel
theorem dM_step_83 : decode cM_step 83 = .ok (.aload_n 0, 1) := by decide +kernel
theorem dM_step_84 : decode cM_step 84 = .ok (.getfield 89, 3) := by decide +kernel
theorem dM_step_87 : decode cM_step 87 = .ok (.iload_n 1, 1) := by decide +kernel
theorem dM_step_88 : decode cM_step 88 = .ok (.iconst 0, 1) := by decide +kernel
theorem dM_step_89 : decode cM_step 89 = .ok (.bastore, 1) := by decide +kernel
theorem dM_step_90 : decode cM_step 90 = .ok (.aload_n 0, 1) := by decide +kernel
theorem dM_step_91 : decode cM_step 91 = .ok (.getfield 65, 3) := by decide +kernel
theorem dM_step_94 : decode cM_step 94 = .ok (.iload_n 1, 1) := by decide +kernel
theorem dM_step_95 : decode cM_step 95 = .ok (.iconst 1, 1) := by decide +kernel
theorem dM_step_96 : decode cM_step 96 = .ok (.bastore, 1) := by decide +kernel
theorem dM_step_97 : decode cM_step 97 = .ok (.goto 16, 3) := by decide +kernel
theorem dM_step_100 : decode cM_step 100 = .ok (.aload_n 0, 1) := by decide +kernel
theorem dM_step_101 : decode cM_step 101 = .ok (.iload_n 1, 1) := by decide +kernel
theorem dM_step_102 : decode cM_step 102 = .ok (.aload_n 0, 1) := by decide +kernel
theorem dM_step_103 : decode cM_step 103 = .ok (.getfield 77, 3) := by decide +kernel
theorem dM_step_106 : decode cM_step 106 = .ok (.iload_n 1, 1) := by decide +kernel
theorem dM_step_107 : decode cM_step 107 = .ok (.iaload, 1) := by decide +kernel
theorem dM_step_108 : decode cM_step 108 = .ok (.iconst 1, 1) := by decide +kernel
theorem dM_step_109 : decode cM_step 109 = .ok (.isub, 1) := by decide +kernel
theorem dM_step_110 : decode cM_step 110 = .ok (.invokevirtual 148, 3) := by decide +kernel
theorem dM_step_113 : decode cM_step 113 = .ok (.aload_n 0, 1) := by decide +kernel
theorem dM_step_114 : decode cM_step 114 = .ok (.getfield 65, 3) := by decide +kernel
theorem dM_step_117 : decode cM_step 117 = .ok (.iload_n 1, 1) := by decide +kernel
theorem dM_step_118 : decode cM_step 118 = .ok (.aload_n 0, 1) := by decide +kernel
theorem dM_step_119 : decode cM_step 119 = .ok (.getfield 65, 3) := by decide +kernel
theorem dM_step_122 : decode cM_step 122 = .ok (.iload_n 1, 1) := by decide +kernel
theorem dM_step_123 : decode cM_step 123 = .ok (.baload, 1) := by decide +kernel
theorem dM_step_124 : decode cM_step 124 = .ok (.ifCond .eq 17, 3) := by decide +kernel
theorem dM_step_127 : decode cM_step 127 = .ok (.aload_n 0, 1) := by decide +kernel
theorem dM_step_128 : decode cM_step 128 = .ok (.getfield 77, 3) := by decide +kernel
theorem dM_step_131 : decode cM_step 131 = .ok (.iload_n 1, 1) := by decide +kernel
theorem dM_step_132 : decode cM_step 132 = .ok (.iaload, 1) := by decide +kernel
theorem dM_step_133 : decode cM_step 133 = .ok (.iconst 1, 1) := by decide +kernel
theorem dM_step_134 : decode cM_step 134 = .ok (.if_icmp .eq 7, 3) := by decide +kernel
theorem dM_step_137 : decode cM_step 137 = .ok (.iconst 1, 1) := by decide +kernel
theorem dM_step_138 : decode cM_step 138 = .ok (.goto 4, 3) := by decide +kernel
theorem dM_step_141 : decode cM_step 141 = .ok (.iconst 0, 1) := by decide +kernel
theorem dM_step_142 : decode cM_step 142 = .ok (.bastore, 1) := by decide +kernel
theorem dM_step_143 : decode cM_step 143 = .ok (.goto 71, 3) := by decide +kernel
theorem dM_step_146 : decode cM_step 146 = .ok (.iload_n 2, 1) := by decide +kernel
theorem dM_step_147 : decode cM_step 147 = .ok (.iconst 3, 1) := by decide +kernel
theorem dM_step_148 : decode cM_step 148 = .ok (.if_icmp .ne 33, 3) := by decide +kernel
theorem dM_step_151 : decode cM_step 151 = .ok (.aload_n 0, 1) := by decide +kernel
theorem dM_step_152 : decode cM_step 152 = .ok (.iload_n 1, 1) := by decide +kernel
theorem dM_step_153 : decode cM_step 153 = .ok (.aload_n 0, 1) := by decide +kernel
theorem dM_step_154 : decode cM_step 154 = .ok (.getfield 77, 3) := by decide +kernel
theorem dM_step_157 : decode cM_step 157 = .ok (.iload_n 1, 1) := by decide +kernel
theorem dM_step_158 : decode cM_step 158 = .ok (.iaload, 1) := by decide +kernel
theorem dM_step_159 : decode cM_step 159 = .ok (.iconst 2, 1) := by decide +kernel
theorem dM_step_160 : decode cM_step 160 = .ok (.isub, 1) := by decide +kernel
theorem dM_step_161 : decode cM_step 161 = .ok (.invokevirtual 148, 3) := by decide +kernel
theorem dM_step_164 : decode cM_step 164 = .ok (.aload_n 0, 1) := by decide +kernel
theorem dM_step_165 : decode cM_step 165 = .ok (.getfield 77, 3) := by decide +kernel
theorem dM_step_168 : decode cM_step 168 = .ok (.iload_n 1, 1) := by decide +kernel
theorem dM_step_169 : decode cM_step 169 = .ok (.iaload, 1) := by decide +kernel
theorem dM_step_170 : decode cM_step 170 = .ok (.ifCond .ne 44, 3) := by decide +kernel
theorem dM_step_173 : decode cM_step 173 = .ok (.aload_n 0, 1) := by decide +kernel
theorem dM_step_174 : decode cM_step 174 = .ok (.iload_n 1, 1) := by decide +kernel
theorem dM_step_175 : decode cM_step 175 = .ok (.invokevirtual 151, 3) := by decide +kernel
theorem dM_step_178 : decode cM_step 178 = .ok (.goto 36, 3) := by decide +kernel
theorem dM_step_181 : decode cM_step 181 = .ok (.aload_n 0, 1) := by decide +kernel
theorem dM_step_182 : decode cM_step 182 = .ok (.iload_n 1, 1) := by decide +kernel
theorem dM_step_183 : decode cM_step 183 = .ok (.aload_n 0, 1) := by decide +kernel
theorem dM_step_184 : decode cM_step 184 = .ok (.getfield 77, 3) := by decide +kernel
theorem dM_step_187 : decode cM_step 187 = .ok (.iload_n 1, 1) := by decide +kernel
theorem dM_step_188 : decode cM_step 188 = .ok (.iaload, 1) := by decide +kernel
theorem dM_step_189 : decode cM_step 189 = .ok (.iconst 1, 1) := by decide +kernel
theorem dM_step_190 : decode cM_step 190 = .ok (.isub, 1) := by decide +kernel
theorem dM_step_191 : decode cM_step 191 = .ok (.invokevirtual 148, 3) := by decide +kernel
theorem dM_step_194 : decode cM_step 194 = .ok (.aload_n 0, 1) := by decide +kernel
theorem dM_step_195 : decode cM_step 195 = .ok (.getfield 65, 3) := by decide +kernel
theorem dM_step_198 : decode cM_step 198 = .ok (.iload_n 1, 1) := by decide +kernel
theorem dM_step_199 : decode cM_step 199 = .ok (.aload_n 0, 1) := by decide +kernel
theorem dM_step_200 : decode cM_step 200 = .ok (.getfield 77, 3) := by decide +kernel
theorem dM_step_203 : decode cM_step 203 = .ok (.iload_n 1, 1) := by decide +kernel
theorem dM_step_204 : decode cM_step 204 = .ok (.iaload, 1) := by decide +kernel
theorem dM_step_205 : decode cM_step 205 = .ok (.ifCond .eq 7, 3) := by decide +kernel
theorem dM_step_208 : decode cM_step 208 = .ok (.iconst 1, 1) := by decide +kernel
theorem dM_step_209 : decode cM_step 209 = .ok (.goto 4, 3) := by decide +kernel
theorem dM_step_212 : decode cM_step 212 = .ok (.iconst 0, 1) := by decide +kernel
theorem dM_step_213 : decode cM_step 213 = .ok (.bastore, 1) := by decide +kernel
theorem dM_step_214 : decode cM_step 214 = .ok (.return_, 1) := by decide +kernel
theorem dM_turn_0 : decode cM_turn 0 = .ok (.aload_n 0, 1) := by decide +kernel
theorem dM_turn_1 : decode cM_turn 1 = .ok (.getfield 65, 3) := by decide +kernel
theorem dM_turn_4 : decode cM_turn 4 = .ok (.iload_n 1, 1) := by decide +kernel
theorem dM_turn_5 : decode cM_turn 5 = .ok (.aload_n 0, 1) := by decide +kernel
theorem dM_turn_6 : decode cM_turn 6 = .ok (.getfield 65, 3) := by decide +kernel
theorem dM_turn_9 : decode cM_turn 9 = .ok (.iload_n 1, 1) := by decide +kernel
theorem dM_turn_10 : decode cM_turn 10 = .ok (.baload, 1) := by decide +kernel
theorem dM_turn_11 : decode cM_turn 11 = .ok (.ifCond .ne 7, 3) := by decide +kernel
theorem dM_turn_14 : decode cM_turn 14 = .ok (.iconst 1, 1) := by decide +kernel
theorem dM_turn_15 : decode cM_turn 15 = .ok (.goto 4, 3) := by decide +kernel
theorem dM_turn_18 : decode cM_turn 18 = .ok (.iconst 0, 1) := by decide +kernel
theorem dM_turn_19 : decode cM_turn 19 = .ok (.bastore, 1) := by decide +kernel
theorem dM_turn_20 : decode cM_turn 20 = .ok (.aload_n 0, 1) := by decide +kernel
theorem dM_turn_21 : decode cM_turn 21 = .ok (.getfield 65, 3) := by decide +kernel
theorem dM_turn_24 : decode cM_turn 24 = .ok (.iload_n 1, 1) := by decide +kernel
theorem dM_turn_25 : decode cM_turn 25 = .ok (.baload, 1) := by decide +kernel
theorem dM_turn_26 : decode cM_turn 26 = .ok (.ifCond .eq 16, 3) := by decide +kernel
theorem dM_turn_29 : decode cM_turn 29 = .ok (.aload_n 0, 1) := by decide +kernel
theorem dM_turn_30 : decode cM_turn 30 = .ok (.getfield 74, 3) := by decide +kernel
theorem dM_turn_33 : decode cM_turn 33 = .ok (.iload_n 1, 1) := by decide +kernel
theorem dM_turn_34 : decode cM_turn 34 = .ok (.iaload, 1) := by decide +kernel
theorem dM_turn_35 : decode cM_turn 35 = .ok (.iconst 1, 1) := by decide +kernel
theorem dM_turn_36 : decode cM_turn 36 = .ok (.iadd, 1) := by decide +kernel
theorem dM_turn_37 : decode cM_turn 37 = .ok (.iconst 2, 1) := by decide +kernel
theorem dM_turn_38 : decode cM_turn 38 = .ok (.idiv, 1) := by decide +kernel
theorem dM_turn_39 : decode cM_turn 39 = .ok (.goto 11, 3) := by decide +kernel
theorem dM_turn_42 : decode cM_turn 42 = .ok (.aload_n 0, 1) := by decide +kernel
theorem dM_turn_43 : decode cM_turn 43 = .ok (.getfield 74, 3) := by decide +kernel
theorem dM_turn_46 : decode cM_turn 46 = .ok (.iload_n 1, 1) := by decide +kernel
theorem dM_turn_47 : decode cM_turn 47 = .ok (.iaload, 1) := by decide +kernel
theorem dM_turn_48 : decode cM_turn 48 = .ok (.iconst 2, 1) := by decide +kernel
theorem dM_turn_49 : decode cM_turn 49 = .ok (.idiv, 1) := by decide +kernel
theorem dM_turn_50 : decode cM_turn 50 = .ok (.istore_n 2, 1) := by decide +kernel
theorem dM_turn_51 : decode cM_turn 51 = .ok (.iload_n 2, 1) := by decide +kernel
theorem dM_turn_52 : decode cM_turn 52 = .ok (.ifCond .ne 34, 3) := by decide +kernel
theorem dM_turn_55 : decode cM_turn 55 = .ok (.aload_n 0, 1) := by decide +kernel
theorem dM_turn_56 : decode cM_turn 56 = .ok (.getfield 65, 3) := by decide +kernel
theorem dM_turn_59 : decode cM_turn 59 = .ok (.iload_n 1, 1) := by decide +kernel
theorem dM_turn_60 : decode cM_turn 60 = .ok (.aload_n 0, 1) := by decide +kernel
theorem dM_turn_61 : decode cM_turn 61 = .ok (.getfield 65, 3) := by decide +kernel
theorem dM_turn_64 : decode cM_turn 64 = .ok (.iload_n 1, 1) := by decide +kernel
theorem dM_turn_65 : decode cM_turn 65 = .ok (.baload, 1) := by decide +kernel
theorem dM_turn_66 : decode cM_turn 66 = .ok (.ifCond .ne 7, 3) := by decide +kernel
theorem dM_turn_69 : decode cM_turn 69 = .ok (.iconst 1, 1) := by decide +kernel
theorem dM_turn_70 : decode cM_turn 70 = .ok (.goto 4, 3) := by decide +kernel
theorem dM_turn_73 : decode cM_turn 73 = .ok (.iconst 0, 1) := by decide +kernel
theorem dM_turn_74 : decode cM_turn 74 = .ok (.bastore, 1) := by decide +kernel
theorem dM_turn_75 : decode cM_turn 75 = .ok (.aload_n 0, 1) := by decide +kernel
theorem dM_turn_76 : decode cM_turn 76 = .ok (.getfield 74, 3) := by decide +kernel
theorem dM_turn_79 : decode cM_turn 79 = .ok (.iload_n 1, 1) := by decide +kernel
theorem dM_turn_80 : decode cM_turn 80 = .ok (.iaload, 1) := by decide +kernel
theorem dM_turn_81 : decode cM_turn 81 = .ok (.iconst 1, 1) := by decide +kernel
theorem dM_turn_82 : decode cM_turn 82 = .ok (.iadd, 1) := by decide +kernel
theorem dM_turn_83 : decode cM_turn 83 = .ok (.iconst 2, 1) := by decide +kernel
theorem dM_turn_84 : decode cM_turn 84 = .ok (.idiv, 1) := by decide +kernel
theorem dM_turn_85 : decode cM_turn 85 = .ok (.istore_n 2, 1) := by decide +kernel
theorem dM_turn_86 : decode cM_turn 86 = .ok (.aload_n 0, 1) := by decide +kernel
theorem dM_turn_87 : decode cM_turn 87 = .ok (.iload_n 1, 1) := by decide +kernel
theorem dM_turn_88 : decode cM_turn 88 = .ok (.iconst 2, 1) := by decide +kernel
theorem dM_turn_89 : decode cM_turn 89 = .ok (.iload_n 2, 1) := by decide +kernel
theorem dM_turn_90 : decode cM_turn 90 = .ok (.imul, 1) := by decide +kernel
theorem dM_turn_91 : decode cM_turn 91 = .ok (.invokevirtual 148, 3) := by decide +kernel
theorem dM_turn_94 : decode cM_turn 94 = .ok (.aload_n 0, 1) := by decide +kernel
theorem dM_turn_95 : decode cM_turn 95 = .ok (.getfield 89, 3) := by decide +kernel
theorem dM_turn_98 : decode cM_turn 98 = .ok (.iload_n 1, 1) := by decide +kernel
theorem dM_turn_99 : decode cM_turn 99 = .ok (.iconst 0, 1) := by decide +kernel
theorem dM_turn_100 : decode cM_turn 100 = .ok (.bastore, 1) := by decide +kernel
theorem dM_turn_101 : decode cM_turn 101 = .ok (.return_, 1) := by decide +kernel
theorem dM_tickOne_0 : decode cM_tickOne 0 = .ok (.aload_n 0, 1) := by decide +kernel
theorem dM_tickOne_1 : decode cM_tickOne 1 = .ok (.getfield 68, 3) := by decide +kernel
theorem dM_tickOne_4 : decode cM_tickOne 4 = .ok (.iload_n 1, 1) := by decide +kernel
theorem dM_tickOne_5 : decode cM_tickOne 5 = .ok (.iaload, 1) := by decide +kernel
theorem dM_tickOne_6 : decode cM_tickOne 6 = .ok (.istore_n 2, 1) := by decide +kernel
theorem dM_tickOne_7 : decode cM_tickOne 7 = .ok (.iload_n 2, 1) := by decide +kernel
theorem dM_tickOne_8 : decode cM_tickOne 8 = .ok (.ifCond .lt 21, 3) := by decide +kernel
theorem dM_tickOne_11 : decode cM_tickOne 11 = .ok (.aload_n 0, 1) := by decide +kernel
theorem dM_tickOne_12 : decode cM_tickOne 12 = .ok (.getfield 74, 3) := by decide +kernel
theorem dM_tickOne_15 : decode cM_tickOne 15 = .ok (.iload_n 1, 1) := by decide +kernel
theorem dM_tickOne_16 : decode cM_tickOne 16 = .ok (.iaload, 1) := by decide +kernel
theorem dM_tickOne_17 : decode cM_tickOne 17 = .ok (.ifCond .eq 12, 3) := by decide +kernel
theorem dM_tickOne_20 : decode cM_tickOne 20 = .ok (.aload_n 0, 1) := by decide +kernel
theorem dM_tickOne_21 : decode cM_tickOne 21 = .ok (.getfield 86, 3) := by decide +kernel
theorem dM_tickOne_24 : decode cM_tickOne 24 = .ok (.iload_n 1, 1) := by decide +kernel
theorem dM_tickOne_25 : decode cM_tickOne 25 = .ok (.baload, 1) := by decide +kernel
theorem dM_tickOne_26 : decode cM_tickOne 26 = .ok (.ifCond .eq 4, 3) := by decide +kernel
theorem dM_tickOne_29 : decode cM_tickOne 29 = .ok (.return_, 1) := by decide +kernel
theorem dM_tickOne_30 : decode cM_tickOne 30 = .ok (.aload_n 0, 1) := by decide +kernel
theorem dM_tickOne_31 : decode cM_tickOne 31 = .ok (.getfield 83, 3) := by decide +kernel
theorem dM_tickOne_34 : decode cM_tickOne 34 = .ok (.iload_n 1, 1) := by decide +kernel
theorem dM_tickOne_35 : decode cM_tickOne 35 = .ok (.baload, 1) := by decide +kernel
theorem dM_tickOne_36 : decode cM_tickOne 36 = .ok (.ifCond .eq 93, 3) := by decide +kernel
theorem dM_tickOne_39 : decode cM_tickOne 39 = .ok (.aload_n 0, 1) := by decide +kernel
theorem dM_tickOne_40 : decode cM_tickOne 40 = .ok (.iload_n 1, 1) := by decide +kernel
theorem dM_tickOne_41 : decode cM_tickOne 41 = .ok (.iload_n 2, 1) := by decide +kernel
theorem dM_tickOne_42 : decode cM_tickOne 42 = .ok (.iconst 3, 1) := by decide +kernel
theorem dM_tickOne_43 : decode cM_tickOne 43 = .ok (.if_icmp .ne 18, 3) := by decide +kernel
theorem dM_tickOne_46 : decode cM_tickOne 46 = .ok (.iconst 2, 1) := by decide +kernel
theorem dM_tickOne_47 : decode cM_tickOne 47 = .ok (.aload_n 0, 1) := by decide +kernel
theorem dM_tickOne_48 : decode cM_tickOne 48 = .ok (.getfield 74, 3) := by decide +kernel
theorem dM_tickOne_51 : decode cM_tickOne 51 = .ok (.iload_n 1, 1) := by decide +kernel
theorem dM_tickOne_52 : decode cM_tickOne 52 = .ok (.iaload, 1) := by decide +kernel
theorem dM_tickOne_53 : decode cM_tickOne 53 = .ok (.iconst 1, 1) := by decide +kernel
theorem dM_tickOne_54 : decode cM_tickOne 54 = .ok (.iadd, 1) := by decide +kernel
theorem dM_tickOne_55 : decode cM_tickOne 55 = .ok (.iconst 2, 1) := by decide +kernel
theorem dM_tickOne_56 : decode cM_tickOne 56 = .ok (.idiv, 1) := by decide +kernel
theorem dM_tickOne_57 : decode cM_tickOne 57 = .ok (.imul, 1) := by decide +kernel
theorem dM_tickOne_58 : decode cM_tickOne 58 = .ok (.goto 9, 3) := by decide +kernel
theorem dM_tickOne_61 : decode cM_tickOne 61 = .ok (.aload_n 0, 1) := by decide +kernel
theorem dM_tickOne_62 : decode cM_tickOne 62 = .ok (.getfield 74, 3) := by decide +kernel
theorem dM_tickOne_65 : decode cM_tickOne 65 = .ok (.iload_n 1, 1) := by decide +kernel
theorem dM_tickOne_66 : decode cM_tickOne 66 = .ok (.iaload, 1) := by decide +kernel
theorem dM_tickOne_67 : decode cM_tickOne 67 = .ok (.invokevirtual 148, 3) := by decide +kernel
theorem dM_tickOne_70 : decode cM_tickOne 70 = .ok (.aload_n 0, 1) := by decide +kernel
theorem dM_tickOne_71 : decode cM_tickOne 71 = .ok (.getfield 83, 3) := by decide +kernel
theorem dM_tickOne_74 : decode cM_tickOne 74 = .ok (.iload_n 1, 1) := by decide +kernel
theorem dM_tickOne_75 : decode cM_tickOne 75 = .ok (.iconst 0, 1) := by decide +kernel
theorem dM_tickOne_76 : decode cM_tickOne 76 = .ok (.bastore, 1) := by decide +kernel
theorem dM_tickOne_77 : decode cM_tickOne 77 = .ok (.aload_n 0, 1) := by decide +kernel
theorem dM_tickOne_78 : decode cM_tickOne 78 = .ok (.getfield 80, 3) := by decide +kernel
theorem dM_tickOne_81 : decode cM_tickOne 81 = .ok (.iload_n 1, 1) := by decide +kernel
theorem dM_tickOne_82 : decode cM_tickOne 82 = .ok (.iconst 1, 1) := by decide +kernel
theorem dM_tickOne_83 : decode cM_tickOne 83 = .ok (.bastore, 1) := by decide +kernel
theorem dM_tickOne_84 : decode cM_tickOne 84 = .ok (.aload_n 0, 1) := by decide +kernel
theorem dM_tickOne_85 : decode cM_tickOne 85 = .ok (.getfield 89, 3) := by decide +kernel
theorem dM_tickOne_88 : decode cM_tickOne 88 = .ok (.iload_n 1, 1) := by decide +kernel
theorem dM_tickOne_89 : decode cM_tickOne 89 = .ok (.iconst 0, 1) := by decide +kernel
theorem dM_tickOne_90 : decode cM_tickOne 90 = .ok (.bastore, 1) := by decide +kernel
theorem dM_tickOne_91 : decode cM_tickOne 91 = .ok (.aload_n 0, 1) := by decide +kernel
theorem dM_tickOne_92 : decode cM_tickOne 92 = .ok (.getfield 65, 3) := by decide +kernel
theorem dM_tickOne_95 : decode cM_tickOne 95 = .ok (.iload_n 1, 1) := by decide +kernel
theorem dM_tickOne_96 : decode cM_tickOne 96 = .ok (.iload_n 2, 1) := by decide +kernel
theorem dM_tickOne_97 : decode cM_tickOne 97 = .ok (.iconst 2, 1) := by decide +kernel
theorem dM_tickOne_98 : decode cM_tickOne 98 = .ok (.if_icmp .eq 22, 3) := by decide +kernel
theorem dM_tickOne_101 : decode cM_tickOne 101 = .ok (.iload_n 2, 1) := by decide +kernel
theorem dM_tickOne_102 : decode cM_tickOne 102 = .ok (.iconst 3, 1) := by decide +kernel
theorem dM_tickOne_103 : decode cM_tickOne 103 = .ok (.if_icmp .eq 17, 3) := by decide +kernel
theorem dM_tickOne_106 : decode cM_tickOne 106 = .ok (.iload_n 2, 1) := by decide +kernel
theorem dM_tickOne_107 : decode cM_tickOne 107 = .ok (.iconst 1, 1) := by decide +kernel
theorem dM_tickOne_108 : decode cM_tickOne 108 = .ok (.if_icmp .eq 16, 3) := by decide +kernel
theorem dM_tickOne_111 : decode cM_tickOne 111 = .ok (.aload_n 0, 1) := by decide +kernel
theorem dM_tickOne_112 : decode cM_tickOne 112 = .ok (.getfield 65, 3) := by decide +kernel
theorem dM_tickOne_115 : decode cM_tickOne 115 = .ok (.iload_n 1, 1) := by decide +kernel
theorem dM_tickOne_116 : decode cM_tickOne 116 = .ok (.baload, 1) := by decide +kernel
theorem dM_tickOne_117 : decode cM_tickOne 117 = .ok (.ifCond .eq 7, 3) := by decide +kernel
theorem dM_tickOne_120 : decode cM_tickOne 120 = .ok (.iconst 1, 1) := by decide +kernel
theorem dM_tickOne_121 : decode cM_tickOne 121 = .ok (.goto 4, 3) := by decide +kernel
theorem dM_tickOne_124 : decode cM_tickOne 124 = .ok (.iconst 0, 1) := by decide +kernel
theorem dM_tickOne_125 : decode cM_tickOne 125 = .ok (.bastore, 1) := by decide +kernel
theorem dM_tickOne_126 : decode cM_tickOne 126 = .ok (.goto 36, 3) := by decide +kernel
theorem dM_tickOne_129 : decode cM_tickOne 129 = .ok (.aload_n 0, 1) := by decide +kernel
theorem dM_tickOne_130 : decode cM_tickOne 130 = .ok (.getfield 80, 3) := by decide +kernel
theorem dM_tickOne_133 : decode cM_tickOne 133 = .ok (.iload_n 1, 1) := by decide +kernel
theorem dM_tickOne_134 : decode cM_tickOne 134 = .ok (.baload, 1) := by decide +kernel
theorem dM_tickOne_135 : decode cM_tickOne 135 = .ok (.ifCond .eq 27, 3) := by decide +kernel
theorem dM_tickOne_138 : decode cM_tickOne 138 = .ok (.aload_n 0, 1) := by decide +kernel
theorem dM_tickOne_139 : decode cM_tickOne 139 = .ok (.getfield 62, 3) := by decide +kernel
theorem dM_tickOne_142 : decode cM_tickOne 142 = .ok (.iload_n 1, 1) := by decide +kernel
theorem dM_tickOne_143 : decode cM_tickOne 143 = .ok (.baload, 1) := by decide +kernel
theorem dM_tickOne_144 : decode cM_tickOne 144 = .ok (.ifCond .ne 13, 3) := by decide +kernel
theorem dM_tickOne_147 : decode cM_tickOne 147 = .ok (.iload_n 2, 1) := by decide +kernel
theorem dM_tickOne_148 : decode cM_tickOne 148 = .ok (.iconst 1, 1) := by decide +kernel
theorem dM_tickOne_149 : decode cM_tickOne 149 = .ok (.if_icmp .eq 8, 3) := by decide +kernel
theorem dM_tickOne_152 : decode cM_tickOne 152 = .ok (.iload_n 2, 1) := by decide +kernel
theorem dM_tickOne_153 : decode cM_tickOne 153 = .ok (.iconst 5, 1) := by decide +kernel
theorem dM_tickOne_154 : decode cM_tickOne 154 = .ok (.if_icmp .ne 8, 3) := by decide +kernel
theorem dM_tickOne_157 : decode cM_tickOne 157 = .ok (.aload_n 0, 1) := by decide +kernel
theorem dM_tickOne_158 : decode cM_tickOne 158 = .ok (.iload_n 1, 1) := by decide +kernel
theorem dM_tickOne_159 : decode cM_tickOne 159 = .ok (.invokevirtual 154, 3) := by decide +kernel
theorem dM_tickOne_162 : decode cM_tickOne 162 = .ok (.return_, 1) := by decide +kernel
theorem dM_write_0 : decode cM_write 0 = .ok (.iload_n 1, 1) := by decide +kernel
theorem dM_write_1 : decode cM_write 1 = .ok (.ifCond .lt 24, 3) := by decide +kernel
theorem dM_write_4 : decode cM_write 4 = .ok (.iload_n 1, 1) := by decide +kernel
theorem dM_write_5 : decode cM_write 5 = .ok (.bipush 7, 2) := by decide +kernel
theorem dM_write_7 : decode cM_write 7 = .ok (.if_icmp .gt 18, 3) := by decide +kernel
theorem dM_write_10 : decode cM_write 10 = .ok (.iload_n 2, 1) := by decide +kernel
theorem dM_write_11 : decode cM_write 11 = .ok (.ifCond .lt 14, 3) := by decide +kernel
theorem dM_write_14 : decode cM_write 14 = .ok (.iload_n 2, 1) := by decide +kernel
theorem dM_write_15 : decode cM_write 15 = .ok (.sipush 255, 3) := by decide +kernel
theorem dM_write_18 : decode cM_write 18 = .ok (.if_icmp .gt 7, 3) := by decide +kernel
theorem dM_write_21 : decode cM_write 21 = .ok (.iconst 1, 1) := by decide +kernel
theorem dM_write_22 : decode cM_write 22 = .ok (.goto 4, 3) := by decide +kernel
theorem dM_write_25 : decode cM_write 25 = .ok (.iconst 0, 1) := by decide +kernel
theorem dM_write_26 : decode cM_write 26 = .ok (.istore_n 3, 1) := by decide +kernel
theorem dM_write_27 : decode cM_write 27 = .ok (.aload_n 0, 1) := by decide +kernel
theorem dM_write_28 : decode cM_write 28 = .ok (.iload_n 3, 1) := by decide +kernel
theorem dM_write_29 : decode cM_write 29 = .ok (.ifCond .ne 7, 3) := by decide +kernel
theorem dM_write_32 : decode cM_write 32 = .ok (.iconst 1, 1) := by decide +kernel
theorem dM_write_33 : decode cM_write 33 = .ok (.goto 30, 3) := by decide +kernel
theorem dM_write_36 : decode cM_write 36 = .ok (.iload_n 1, 1) := by decide +kernel
theorem dM_write_37 : decode cM_write 37 = .ok (.iconst 3, 1) := by decide +kernel
theorem dM_write_38 : decode cM_write 38 = .ok (.if_icmp .le 24, 3) := by decide +kernel
theorem dM_write_41 : decode cM_write 41 = .ok (.iload_n 1, 1) := by decide +kernel
theorem dM_write_42 : decode cM_write 42 = .ok (.bipush 7, 2) := by decide +kernel
theorem dM_write_44 : decode cM_write 44 = .ok (.if_icmp .ge 18, 3) := by decide +kernel
theorem dM_write_47 : decode cM_write 47 = .ok (.aload_n 0, 1) := by decide +kernel
theorem dM_write_48 : decode cM_write 48 = .ok (.getfield 68, 3) := by decide +kernel
theorem dM_write_51 : decode cM_write 51 = .ok (.iload_n 1, 1) := by decide +kernel
theorem dM_write_52 : decode cM_write 52 = .ok (.iconst 4, 1) := by decide +kernel
theorem dM_write_53 : decode cM_write 53 = .ok (.isub, 1) := by decide +kernel
theorem dM_write_54 : decode cM_write 54 = .ok (.iaload, 1) := by decide +kernel
theorem dM_write_55 : decode cM_write 55 = .ok (.ifCond .ge 7, 3) := by decide +kernel
theorem dM_write_58 : decode cM_write 58 = .ok (.iconst 2, 1) := by decide +kernel
theorem dM_write_59 : decode cM_write 59 = .ok (.goto 4, 3) := by decide +kernel
theorem dM_write_62 : decode cM_write 62 = .ok (.iconst 0, 1) := by decide +kernel
theorem dM_write_63 : decode cM_write 63 = .ok (.putfield 107, 3) := by decide +kernel
theorem dM_write_66 : decode cM_write 66 = .ok (.aload_n 0, 1) := by decide +kernel
theorem dM_write_67 : decode cM_write 67 = .ok (.getfield 107, 3) := by decide +kernel
theorem dM_write_70 : decode cM_write 70 = .ok (.ifCond .le 4, 3) := by decide +kernel
theorem dM_write_73 : decode cM_write 73 = .ok (.return_, 1) := by decide +kernel
theorem dM_write_74 : decode cM_write 74 = .ok (.iload_n 1, 1) := by decide +kernel
theorem dM_write_75 : decode cM_write 75 = .ok (.bipush 7, 2) := by decide +kernel
theorem dM_write_77 : decode cM_write 77 = .ok (.if_icmp .ne 11, 3) := by decide +kernel
theorem dM_write_80 : decode cM_write 80 = .ok (.aload_n 0, 1) := by decide +kernel
theorem dM_write_81 : decode cM_write 81 = .ok (.iload_n 2, 1) := by decide +kernel
theorem dM_write_82 : decode cM_write 82 = .ok (.invokevirtual 157, 3) := by decide +kernel
theorem dM_write_85 : decode cM_write 85 = .ok (.goto 44, 3) := by decide +kernel
theorem dM_write_88 : decode cM_write 88 = .ok (.iload_n 1, 1) := by decide +kernel
theorem dM_write_89 : decode cM_write 89 = .ok (.iconst 3, 1) := by decide +kernel
theorem dM_write_90 : decode cM_write 90 = .ok (.if_icmp .le 14, 3) := by decide +kernel
theorem dM_write_93 : decode cM_write 93 = .ok (.aload_n 0, 1) := by decide +kernel
theorem dM_write_94 : decode cM_write 94 = .ok (.iload_n 1, 1) := by decide +kernel
theorem dM_write_95 : decode cM_write 95 = .ok (.iconst 4, 1) := by decide +kernel
theorem dM_write_96 : decode cM_write 96 = .ok (.isub, 1) := by decide +kernel
theorem dM_write_97 : decode cM_write 97 = .ok (.iload_n 2, 1) := by decide +kernel
theorem dM_write_98 : decode cM_write 98 = .ok (.invokevirtual 160, 3) := by decide +kernel
theorem dM_write_101 : decode cM_write 101 = .ok (.goto 28, 3) := by decide +kernel
theorem dM_write_104 : decode cM_write 104 = .ok (.iload_n 1, 1) := by decide +kernel
theorem dM_write_105 : decode cM_write 105 = .ok (.iconst 2, 1) := by decide +kernel
theorem dM_write_106 : decode cM_write 106 = .ok (.irem, 1) := by decide +kernel
theorem dM_write_107 : decode cM_write 107 = .ok (.ifCond .ne 14, 3) := by decide +kernel
theorem dM_write_110 : decode cM_write 110 = .ok (.aload_n 0, 1) := by decide +kernel
theorem dM_write_111 : decode cM_write 111 = .ok (.iload_n 1, 1) := by decide +kernel
theorem dM_write_112 : decode cM_write 112 = .ok (.iconst 2, 1) := by decide +kernel
theorem dM_write_113 : decode cM_write 113 = .ok (.idiv, 1) := by decide +kernel
theorem dM_write_114 : decode cM_write 114 = .ok (.iload_n 2, 1) := by decide +kernel
theorem dM_write_115 : decode cM_write 115 = .ok (.invokevirtual 163, 3) := by decide +kernel
theorem dM_write_118 : decode cM_write 118 = .ok (.goto 11, 3) := by decide +kernel
theorem dM_write_121 : decode cM_write 121 = .ok (.aload_n 0, 1) := by decide +kernel
theorem dM_write_122 : decode cM_write 122 = .ok (.iload_n 1, 1) := by decide +kernel
theorem dM_write_123 : decode cM_write 123 = .ok (.iconst 2, 1) := by decide +kernel
theorem dM_write_124 : decode cM_write 124 = .ok (.idiv, 1) := by decide +kernel
theorem dM_write_125 : decode cM_write 125 = .ok (.iload_n 2, 1) := by decide +kernel
theorem dM_write_126 : decode cM_write 126 = .ok (.invokevirtual 166, 3) := by decide +kernel
theorem dM_write_129 : decode cM_write 129 = .ok (.aload_n 0, 1) := by decide +kernel
theorem dM_write_130 : decode cM_write 130 = .ok (.invokevirtual 169, 3) := by decide +kernel
theorem dM_write_133 : decode cM_write 133 = .ok (.return_, 1) := by decide +kernel
theorem dM_read_0 : decode cM_read 0 = .ok (.aload_n 0, 1) := by decide +kernel
theorem dM_read_1 : decode cM_read 1 = .ok (.iload_n 1, 1) := by decide +kernel
theorem dM_read_2 : decode cM_read 2 = .ok (.ifCond .lt 9, 3) := by decide +kernel
theorem dM_read_5 : decode cM_read 5 = .ok (.iload_n 1, 1) := by decide +kernel
theorem dM_read_6 : decode cM_read 6 = .ok (.bipush 6, 2) := by decide +kernel
theorem dM_read_8 : decode cM_read 8 = .ok (.if_icmp .le 7, 3) := by decide +kernel
theorem dM_read_11 : decode cM_read 11 = .ok (.iconst 1, 1) := by decide +kernel
theorem dM_read_12 : decode cM_read 12 = .ok (.goto 24, 3) := by decide +kernel
theorem dM_read_15 : decode cM_read 15 = .ok (.iload_n 1, 1) := by decide +kernel
theorem dM_read_16 : decode cM_read 16 = .ok (.iconst 3, 1) := by decide +kernel
theorem dM_read_17 : decode cM_read 17 = .ok (.if_icmp .le 18, 3) := by decide +kernel
theorem dM_read_20 : decode cM_read 20 = .ok (.aload_n 0, 1) := by decide +kernel
theorem dM_read_21 : decode cM_read 21 = .ok (.getfield 68, 3) := by decide +kernel
theorem dM_read_24 : decode cM_read 24 = .ok (.iload_n 1, 1) := by decide +kernel
theorem dM_read_25 : decode cM_read 25 = .ok (.iconst 4, 1) := by decide +kernel
theorem dM_read_26 : decode cM_read 26 = .ok (.isub, 1) := by decide +kernel
theorem dM_read_27 : decode cM_read 27 = .ok (.iaload, 1) := by decide +kernel
theorem dM_read_28 : decode cM_read 28 = .ok (.ifCond .ge 7, 3) := by decide +kernel
theorem dM_read_31 : decode cM_read 31 = .ok (.iconst 2, 1) := by decide +kernel
theorem dM_read_32 : decode cM_read 32 = .ok (.goto 4, 3) := by decide +kernel
theorem dM_read_35 : decode cM_read 35 = .ok (.iconst 0, 1) := by decide +kernel
theorem dM_read_36 : decode cM_read 36 = .ok (.putfield 107, 3) := by decide +kernel
theorem dM_read_39 : decode cM_read 39 = .ok (.aload_n 0, 1) := by decide +kernel
theorem dM_read_40 : decode cM_read 40 = .ok (.getfield 107, 3) := by decide +kernel
theorem dM_read_43 : decode cM_read 43 = .ok (.ifCond .le 5, 3) := by decide +kernel
theorem dM_read_46 : decode cM_read 46 = .ok (.iconst 0, 1) := by decide +kernel
theorem dM_read_47 : decode cM_read 47 = .ok (.ireturn, 1) := by decide +kernel
theorem dM_read_48 : decode cM_read 48 = .ok (.iload_n 1, 1) := by decide +kernel
theorem dM_read_49 : decode cM_read 49 = .ok (.iconst 3, 1) := by decide +kernel
theorem dM_read_50 : decode cM_read 50 = .ok (.if_icmp .le 13, 3) := by decide +kernel
theorem dM_read_53 : decode cM_read 53 = .ok (.aload_n 0, 1) := by decide +kernel
theorem dM_read_54 : decode cM_read 54 = .ok (.iload_n 1, 1) := by decide +kernel
theorem dM_read_55 : decode cM_read 55 = .ok (.iconst 4, 1) := by decide +kernel
theorem dM_read_56 : decode cM_read 56 = .ok (.isub, 1) := by decide +kernel
theorem dM_read_57 : decode cM_read 57 = .ok (.invokevirtual 172, 3) := by decide +kernel
theorem dM_read_60 : decode cM_read 60 = .ok (.goto 28, 3) := by decide +kernel
theorem dM_read_63 : decode cM_read 63 = .ok (.iload_n 1, 1) := by decide +kernel
theorem dM_read_64 : decode cM_read 64 = .ok (.iconst 2, 1) := by decide +kernel
theorem dM_read_65 : decode cM_read 65 = .ok (.irem, 1) := by decide +kernel
theorem dM_read_66 : decode cM_read 66 = .ok (.iconst 1, 1) := by decide +kernel
theorem dM_read_67 : decode cM_read 67 = .ok (.if_icmp .ne 14, 3) := by decide +kernel
theorem dM_read_70 : decode cM_read 70 = .ok (.aload_n 0, 1) := by decide +kernel
theorem dM_read_71 : decode cM_read 71 = .ok (.getfield 16, 3) := by decide +kernel
theorem dM_read_74 : decode cM_read 74 = .ok (.iload_n 1, 1) := by decide +kernel
theorem dM_read_75 : decode cM_read 75 = .ok (.iconst 2, 1) := by decide +kernel
theorem dM_read_76 : decode cM_read 76 = .ok (.idiv, 1) := by decide +kernel
theorem dM_read_77 : decode cM_read 77 = .ok (.iaload, 1) := by decide +kernel
theorem dM_read_78 : decode cM_read 78 = .ok (.goto 10, 3) := by decide +kernel
theorem dM_read_81 : decode cM_read 81 = .ok (.aload_n 0, 1) := by decide +kernel
theorem dM_read_82 : decode cM_read 82 = .ok (.iload_n 1, 1) := by decide +kernel
theorem dM_read_83 : decode cM_read 83 = .ok (.iconst 2, 1) := by decide +kernel
theorem dM_read_84 : decode cM_read 84 = .ok (.idiv, 1) := by decide +kernel
theorem dM_read_85 : decode cM_read 85 = .ok (.invokevirtual 175, 3) := by decide +kernel
theorem dM_read_88 : decode cM_read 88 = .ok (.istore_n 2, 1) := by decide +kernel
theorem dM_read_89 : decode cM_read 89 = .ok (.aload_n 0, 1) := by decide +kernel
theorem dM_read_90 : decode cM_read 90 = .ok (.invokevirtual 169, 3) := by decide +kernel
theorem dM_read_93 : decode cM_read 93 = .ok (.iload_n 2, 1) := by decide +kernel
theorem dM_read_94 : decode cM_read 94 = .ok (.ireturn, 1) := by decide +kernel
theorem dM_line_0 : decode cM_line 0 = .ok (.aload_n 0, 1) := by decide +kernel
theorem dM_line_1 : decode cM_line 1 = .ok (.iconst 0, 1) := by decide +kernel
theorem dM_line_2 : decode cM_line 2 = .ok (.putfield 107, 3) := by decide +kernel
theorem dM_line_5 : decode cM_line 5 = .ok (.iload_n 1, 1) := by decide +kernel
theorem dM_line_6 : decode cM_line 6 = .ok (.ifCond .lt 31, 3) := by decide +kernel
theorem dM_line_9 : decode cM_line 9 = .ok (.iload_n 1, 1) := by decide +kernel
theorem dM_line_10 : decode cM_line 10 = .ok (.iconst 1, 1) := by decide +kernel
theorem dM_line_11 : decode cM_line 11 = .ok (.if_icmp .gt 26, 3) := by decide +kernel
theorem dM_line_14 : decode cM_line 14 = .ok (.iload_n 2, 1) := by decide +kernel
theorem dM_line_15 : decode cM_line 15 = .ok (.ifCond .lt 22, 3) := by decide +kernel
theorem dM_line_18 : decode cM_line 18 = .ok (.iload_n 2, 1) := by decide +kernel
theorem dM_line_19 : decode cM_line 19 = .ok (.bipush 7, 2) := by decide +kernel
theorem dM_line_21 : decode cM_line 21 = .ok (.if_icmp .gt 16, 3) := by decide +kernel
theorem dM_line_24 : decode cM_line 24 = .ok (.iload_n 1, 1) := by decide +kernel
theorem dM_line_25 : decode cM_line 25 = .ok (.ifCond .ne 14, 3) := by decide +kernel
theorem dM_line_28 : decode cM_line 28 = .ok (.iload_n 2, 1) := by decide +kernel
theorem dM_line_29 : decode cM_line 29 = .ok (.ifCond .eq 8, 3) := by decide +kernel
theorem dM_line_32 : decode cM_line 32 = .ok (.iload_n 2, 1) := by decide +kernel
theorem dM_line_33 : decode cM_line 33 = .ok (.iconst 2, 1) := by decide +kernel
theorem dM_line_34 : decode cM_line 34 = .ok (.if_icmp .ne 5, 3) := by decide +kernel
theorem dM_line_37 : decode cM_line 37 = .ok (.iconst 0, 1) := by decide +kernel
theorem dM_line_38 : decode cM_line 38 = .ok (.ireturn, 1) := by decide +kernel
theorem dM_line_39 : decode cM_line 39 = .ok (.aload_n 0, 1) := by decide +kernel
theorem dM_line_40 : decode cM_line 40 = .ok (.iload_n 1, 1) := by decide +kernel
theorem dM_line_41 : decode cM_line 41 = .ok (.iload_n 2, 1) := by decide +kernel
theorem dM_line_42 : decode cM_line 42 = .ok (.iload_n 3, 1) := by decide +kernel
theorem dM_line_43 : decode cM_line 43 = .ok (.invokevirtual 119, 3) := by decide +kernel
theorem dM_line_46 : decode cM_line 46 = .ok (.aload_n 0, 1) := by decide +kernel
theorem dM_line_47 : decode cM_line 47 = .ok (.invokevirtual 169, 3) := by decide +kernel
theorem dM_line_50 : decode cM_line 50 = .ok (.iconst 1, 1) := by decide +kernel
theorem dM_line_51 : decode cM_line 51 = .ok (.ireturn, 1) := by decide +kernel
theorem dM_gate_0 : decode cM_gate 0 = .ok (.aload_n 0, 1) := by decide +kernel
theorem dM_gate_1 : decode cM_gate 1 = .ok (.iconst 0, 1) := by decide +kernel
theorem dM_gate_2 : decode cM_gate 2 = .ok (.putfield 107, 3) := by decide +kernel
theorem dM_gate_5 : decode cM_gate 5 = .ok (.iload_n 1, 1) := by decide +kernel
theorem dM_gate_6 : decode cM_gate 6 = .ok (.ifCond .lt 8, 3) := by decide +kernel
theorem dM_gate_9 : decode cM_gate 9 = .ok (.iload_n 1, 1) := by decide +kernel
theorem dM_gate_10 : decode cM_gate 10 = .ok (.iconst 2, 1) := by decide +kernel
theorem dM_gate_11 : decode cM_gate 11 = .ok (.if_icmp .le 5, 3) := by decide +kernel
theorem dM_gate_14 : decode cM_gate 14 = .ok (.iconst 0, 1) := by decide +kernel
theorem dM_gate_15 : decode cM_gate 15 = .ok (.ireturn, 1) := by decide +kernel
theorem dM_gate_16 : decode cM_gate 16 = .ok (.aload_n 0, 1) := by decide +kernel
theorem dM_gate_17 : decode cM_gate 17 = .ok (.getfield 68, 3) := by decide +kernel
theorem dM_gate_20 : decode cM_gate 20 = .ok (.iload_n 1, 1) := by decide +kernel
theorem dM_gate_21 : decode cM_gate 21 = .ok (.iaload, 1) := by decide +kernel
theorem dM_gate_22 : decode cM_gate 22 = .ok (.istore_n 3, 1) := by decide +kernel
theorem dM_gate_23 : decode cM_gate 23 = .ok (.aload_n 0, 1) := by decide +kernel
theorem dM_gate_24 : decode cM_gate 24 = .ok (.getfield 62, 3) := by decide +kernel
theorem dM_gate_27 : decode cM_gate 27 = .ok (.iload_n 1, 1) := by decide +kernel
theorem dM_gate_28 : decode cM_gate 28 = .ok (.baload, 1) := by decide +kernel
theorem dM_gate_29 : decode cM_gate 29 = .ok (.istore 4, 2) := by decide +kernel
theorem dM_gate_31 : decode cM_gate 31 = .ok (.aload_n 0, 1) := by decide +kernel
theorem dM_gate_32 : decode cM_gate 32 = .ok (.getfield 62, 3) := by decide +kernel
theorem dM_gate_35 : decode cM_gate 35 = .ok (.iload_n 1, 1) := by decide +kernel
theorem dM_gate_36 : decode cM_gate 36 = .ok (.iload_n 2, 1) := by decide +kernel
theorem dM_gate_37 : decode cM_gate 37 = .ok (.bastore, 1) := by decide +kernel
theorem dM_gate_38 : decode cM_gate 38 = .ok (.iload_n 2, 1) := by decide +kernel
theorem dM_gate_39 : decode cM_gate 39 = .ok (.ifCond .eq 44, 3) := by decide +kernel
theorem dM_gate_42 : decode cM_gate 42 = .ok (.iload 4, 2) := by decide +kernel
theorem dM_gate_44 : decode cM_gate 44 = .ok (.ifCond .ne 39, 3) := by decide +kernel
theorem dM_gate_47 : decode cM_gate 47 = .ok (.aload_n 0, 1) := by decide +kernel
theorem dM_gate_48 : decode cM_gate 48 = .ok (.getfield 74, 3) := by decide +kernel
theorem dM_gate_51 : decode cM_gate 51 = .ok (.iload_n 1, 1) := by decide +kernel
theorem dM_gate_52 : decode cM_gate 52 = .ok (.iaload, 1) := by decide +kernel
theorem dM_gate_53 : decode cM_gate 53 = .ok (.ifCond .le 30, 3) := by decide +kernel
theorem dM_gate_56 : decode cM_gate 56 = .ok (.iload_n 3, 1) := by decide +kernel
theorem dM_gate_57 : decode cM_gate 57 = .ok (.iconst 1, 1) := by decide +kernel
theorem dM_gate_58 : decode cM_gate 58 = .ok (.if_icmp .eq 18, 3) := by decide +kernel
theorem dM_gate_61 : decode cM_gate 61 = .ok (.iload_n 3, 1) := by decide +kernel
theorem dM_gate_62 : decode cM_gate 62 = .ok (.iconst 2, 1) := by decide +kernel
theorem dM_gate_63 : decode cM_gate 63 = .ok (.if_icmp .eq 13, 3) := by decide +kernel
theorem dM_gate_66 : decode cM_gate 66 = .ok (.iload_n 3, 1) := by decide +kernel
theorem dM_gate_67 : decode cM_gate 67 = .ok (.iconst 3, 1) := by decide +kernel
theorem dM_gate_68 : decode cM_gate 68 = .ok (.if_icmp .eq 8, 3) := by decide +kernel
theorem dM_gate_71 : decode cM_gate 71 = .ok (.iload_n 3, 1) := by decide +kernel
theorem dM_gate_72 : decode cM_gate 72 = .ok (.iconst 5, 1) := by decide +kernel
theorem dM_gate_73 : decode cM_gate 73 = .ok (.if_icmp .ne 10, 3) := by decide +kernel
theorem dM_gate_76 : decode cM_gate 76 = .ok (.aload_n 0, 1) := by decide +kernel
theorem dM_gate_77 : decode cM_gate 77 = .ok (.getfield 83, 3) := by decide +kernel
theorem dM_gate_80 : decode cM_gate 80 = .ok (.iload_n 1, 1) := by decide +kernel
theorem dM_gate_81 : decode cM_gate 81 = .ok (.iconst 1, 1) := by decide +kernel
theorem dM_gate_82 : decode cM_gate 82 = .ok (.bastore, 1) := by decide +kernel
theorem dM_gate_83 : decode cM_gate 83 = .ok (.iload_n 2, 1) := by decide +kernel
theorem dM_gate_84 : decode cM_gate 84 = .ok (.ifCond .ne 25, 3) := by decide +kernel
theorem dM_gate_87 : decode cM_gate 87 = .ok (.iload 4, 2) := by decide +kernel
theorem dM_gate_89 : decode cM_gate 89 = .ok (.ifCond .eq 20, 3) := by decide +kernel
theorem dM_gate_92 : decode cM_gate 92 = .ok (.iload_n 3, 1) := by decide +kernel
theorem dM_gate_93 : decode cM_gate 93 = .ok (.iconst 2, 1) := by decide +kernel
theorem dM_gate_94 : decode cM_gate 94 = .ok (.if_icmp .eq 8, 3) := by decide +kernel
theorem dM_gate_97 : decode cM_gate 97 = .ok (.iload_n 3, 1) := by decide +kernel
theorem dM_gate_98 : decode cM_gate 98 = .ok (.iconst 3, 1) := by decide +kernel
theorem dM_gate_99 : decode cM_gate 99 = .ok (.if_icmp .ne 10, 3) := by decide +kernel
theorem dM_gate_102 : decode cM_gate 102 = .ok (.aload_n 0, 1) := by decide +kernel
theorem dM_gate_103 : decode cM_gate 103 = .ok (.getfield 65, 3) := by decide +kernel
theorem dM_gate_106 : decode cM_gate 106 = .ok (.iload_n 1, 1) := by decide +kernel
theorem dM_gate_107 : decode cM_gate 107 = .ok (.iconst 1, 1) := by decide +kernel
theorem dM_gate_108 : decode cM_gate 108 = .ok (.bastore, 1) := by decide +kernel
theorem dM_gate_109 : decode cM_gate 109 = .ok (.aload_n 0, 1) := by decide +kernel
theorem dM_gate_110 : decode cM_gate 110 = .ok (.invokevirtual 169, 3) := by decide +kernel
theorem dM_gate_113 : decode cM_gate 113 = .ok (.iconst 1, 1) := by decide +kernel
theorem dM_gate_114 : decode cM_gate 114 = .ok (.ireturn, 1) := by decide +kernel
theorem dM_tick_0 : decode cM_tick 0 = .ok (.aload_n 0, 1) := by decide +kernel
theorem dM_tick_1 : decode cM_tick 1 = .ok (.iload_n 1, 1) := by decide +kernel
theorem dM_tick_2 : decode cM_tick 2 = .ok (.ifCond .lt 9, 3) := by decide +kernel
theorem dM_tick_5 : decode cM_tick 5 = .ok (.iload_n 1, 1) := by decide +kernel
theorem dM_tick_6 : decode cM_tick 6 = .ok (.bipush 100, 2) := by decide +kernel
theorem dM_tick_8 : decode cM_tick 8 = .ok (.if_icmp .le 7, 3) := by decide +kernel
theorem dM_tick_11 : decode cM_tick 11 = .ok (.iconst 1, 1) := by decide +kernel
theorem dM_tick_12 : decode cM_tick 12 = .ok (.goto 4, 3) := by decide +kernel
theorem dM_tick_15 : decode cM_tick 15 = .ok (.iconst 0, 1) := by decide +kernel
theorem dM_tick_16 : decode cM_tick 16 = .ok (.putfield 107, 3) := by decide +kernel
theorem dM_tick_19 : decode cM_tick 19 = .ok (.iconst 0, 1) := by decide +kernel
theorem dM_tick_20 : decode cM_tick 20 = .ok (.istore_n 2, 1) := by decide +kernel
theorem dM_tick_21 : decode cM_tick 21 = .ok (.iconst 0, 1) := by decide +kernel
theorem dM_tick_22 : decode cM_tick 22 = .ok (.istore_n 3, 1) := by decide +kernel
theorem dM_tick_23 : decode cM_tick 23 = .ok (.iload_n 3, 1) := by decide +kernel
theorem dM_tick_24 : decode cM_tick 24 = .ok (.iload_n 1, 1) := by decide +kernel
theorem dM_tick_25 : decode cM_tick 25 = .ok (.if_icmp .ge 71, 3) := by decide +kernel
theorem dM_tick_28 : decode cM_tick 28 = .ok (.aload_n 0, 1) := by decide +kernel
theorem dM_tick_29 : decode cM_tick 29 = .ok (.getfield 107, 3) := by decide +kernel
theorem dM_tick_32 : decode cM_tick 32 = .ok (.ifCond .ne 64, 3) := by decide +kernel
theorem dM_tick_35 : decode cM_tick 35 = .ok (.aload_n 0, 1) := by decide +kernel
theorem dM_tick_36 : decode cM_tick 36 = .ok (.getfield 65, 3) := by decide +kernel
theorem dM_tick_39 : decode cM_tick 39 = .ok (.iconst 0, 1) := by decide +kernel
theorem dM_tick_40 : decode cM_tick 40 = .ok (.baload, 1) := by decide +kernel
theorem dM_tick_41 : decode cM_tick 41 = .ok (.istore 4, 2) := by decide +kernel
theorem dM_tick_43 : decode cM_tick 43 = .ok (.iconst 0, 1) := by decide +kernel
theorem dM_tick_44 : decode cM_tick 44 = .ok (.istore 5, 2) := by decide +kernel
theorem dM_tick_46 : decode cM_tick 46 = .ok (.iload 5, 2) := by decide +kernel
theorem dM_tick_48 : decode cM_tick 48 = .ok (.iconst 3, 1) := by decide +kernel
theorem dM_tick_49 : decode cM_tick 49 = .ok (.if_icmp .ge 15, 3) := by decide +kernel
theorem dM_tick_52 : decode cM_tick 52 = .ok (.aload_n 0, 1) := by decide +kernel
theorem dM_tick_53 : decode cM_tick 53 = .ok (.iload 5, 2) := by decide +kernel
theorem dM_tick_55 : decode cM_tick 55 = .ok (.invokevirtual 178, 3) := by decide +kernel
theorem dM_tick_58 : decode cM_tick 58 = .ok (.iinc 5 1, 3) := by decide +kernel
theorem dM_tick_61 : decode cM_tick 61 = .ok (.goto (-15), 3) := by decide +kernel
theorem dM_tick_64 : decode cM_tick 64 = .ok (.aload_n 0, 1) := by decide +kernel
theorem dM_tick_65 : decode cM_tick 65 = .ok (.getfield 65, 3) := by decide +kernel
theorem dM_tick_68 : decode cM_tick 68 = .ok (.iconst 0, 1) := by decide +kernel
theorem dM_tick_69 : decode cM_tick 69 = .ok (.baload, 1) := by decide +kernel
theorem dM_tick_70 : decode cM_tick 70 = .ok (.ifCond .eq 14, 3) := by decide +kernel
theorem dM_tick_73 : decode cM_tick 73 = .ok (.iload 4, 2) := by decide +kernel
theorem dM_tick_75 : decode cM_tick 75 = .ok (.ifCond .ne 9, 3) := by decide +kernel
theorem dM_tick_78 : decode cM_tick 78 = .ok (.iload_n 2, 1) := by decide +kernel
theorem dM_tick_79 : decode cM_tick 79 = .ok (.iconst 1, 1) := by decide +kernel
theorem dM_tick_80 : decode cM_tick 80 = .ok (.iadd, 1) := by decide +kernel
theorem dM_tick_81 : decode cM_tick 81 = .ok (.goto 4, 3) := by decide +kernel
theorem dM_tick_84 : decode cM_tick 84 = .ok (.iload_n 2, 1) := by decide +kernel
theorem dM_tick_85 : decode cM_tick 85 = .ok (.istore_n 2, 1) := by decide +kernel
theorem dM_tick_86 : decode cM_tick 86 = .ok (.aload_n 0, 1) := by decide +kernel
theorem dM_tick_87 : decode cM_tick 87 = .ok (.invokevirtual 169, 3) := by decide +kernel
theorem dM_tick_90 : decode cM_tick 90 = .ok (.iinc 3 1, 3) := by decide +kernel
theorem dM_tick_93 : decode cM_tick 93 = .ok (.goto (-70), 3) := by decide +kernel
theorem dM_tick_96 : decode cM_tick 96 = .ok (.iload_n 2, 1) := by decide +kernel
theorem dM_tick_97 : decode cM_tick 97 = .ok (.ireturn, 1) := by decide +kernel
theorem dM_acknowledge_0 : decode cM_acknowledge 0 = .ok (.aload_n 0, 1) := by decide +kernel
theorem dM_acknowledge_1 : decode cM_acknowledge 1 = .ok (.aload_n 0, 1) := by decide +kernel
theorem dM_acknowledge_2 : decode cM_acknowledge 2 = .ok (.getfield 28, 3) := by decide +kernel
theorem dM_acknowledge_5 : decode cM_acknowledge 5 = .ok (.iconst 0, 1) := by decide +kernel
theorem dM_acknowledge_6 : decode cM_acknowledge 6 = .ok (.baload, 1) := by decide +kernel
theorem dM_acknowledge_7 : decode cM_acknowledge 7 = .ok (.ifCond .eq 7, 3) := by decide +kernel
theorem dM_acknowledge_10 : decode cM_acknowledge 10 = .ok (.iconst 0, 1) := by decide +kernel
theorem dM_acknowledge_11 : decode cM_acknowledge 11 = .ok (.goto 4, 3) := by decide +kernel
theorem dM_acknowledge_14 : decode cM_acknowledge 14 = .ok (.iconst 1, 1) := by decide +kernel
theorem dM_acknowledge_15 : decode cM_acknowledge 15 = .ok (.putfield 107, 3) := by decide +kernel
theorem dM_acknowledge_18 : decode cM_acknowledge 18 = .ok (.aload_n 0, 1) := by decide +kernel
theorem dM_acknowledge_19 : decode cM_acknowledge 19 = .ok (.getfield 107, 3) := by decide +kernel
theorem dM_acknowledge_22 : decode cM_acknowledge 22 = .ok (.ifCond .le 5, 3) := by decide +kernel
theorem dM_acknowledge_25 : decode cM_acknowledge 25 = .ok (.iconst 0, 1) := by decide +kernel
theorem dM_acknowledge_26 : decode cM_acknowledge 26 = .ok (.ireturn, 1) := by decide +kernel
theorem dM_acknowledge_27 : decode cM_acknowledge 27 = .ok (.aload_n 0, 1) := by decide +kernel
theorem dM_acknowledge_28 : decode cM_acknowledge 28 = .ok (.iconst 0, 1) := by decide +kernel
theorem dM_acknowledge_29 : decode cM_acknowledge 29 = .ok (.invokevirtual 123, 3) := by decide +kernel
theorem dM_acknowledge_32 : decode cM_acknowledge 32 = .ok (.istore_n 1, 1) := by decide +kernel
theorem dM_acknowledge_33 : decode cM_acknowledge 33 = .ok (.aload_n 0, 1) := by decide +kernel
theorem dM_acknowledge_34 : decode cM_acknowledge 34 = .ok (.getfield 22, 3) := by decide +kernel
theorem dM_acknowledge_37 : decode cM_acknowledge 37 = .ok (.iconst 0, 1) := by decide +kernel
theorem dM_acknowledge_38 : decode cM_acknowledge 38 = .ok (.iaload, 1) := by decide +kernel
theorem dM_acknowledge_39 : decode cM_acknowledge 39 = .ok (.iload_n 1, 1) := by decide +kernel
theorem dM_acknowledge_40 : decode cM_acknowledge 40 = .ok (.ifCond .ge 8, 3) := by decide +kernel
theorem dM_acknowledge_43 : decode cM_acknowledge 43 = .ok (.bipush 7, 2) := by decide +kernel
theorem dM_acknowledge_45 : decode cM_acknowledge 45 = .ok (.goto 4, 3) := by decide +kernel
theorem dM_acknowledge_48 : decode cM_acknowledge 48 = .ok (.iload_n 1, 1) := by decide +kernel
theorem dM_acknowledge_49 : decode cM_acknowledge 49 = .ok (.iadd, 1) := by decide +kernel
theorem dM_acknowledge_50 : decode cM_acknowledge 50 = .ok (.istore_n 2, 1) := by decide +kernel
theorem dM_acknowledge_51 : decode cM_acknowledge 51 = .ok (.iload_n 1, 1) := by decide +kernel
theorem dM_acknowledge_52 : decode cM_acknowledge 52 = .ok (.ifCond .lt 9, 3) := by decide +kernel
theorem dM_acknowledge_55 : decode cM_acknowledge 55 = .ok (.aload_n 0, 1) := by decide +kernel
theorem dM_acknowledge_56 : decode cM_acknowledge 56 = .ok (.iconst 0, 1) := by decide +kernel
theorem dM_acknowledge_57 : decode cM_acknowledge 57 = .ok (.iload_n 1, 1) := by decide +kernel
theorem dM_acknowledge_58 : decode cM_acknowledge 58 = .ok (.invokevirtual 136, 3) := by decide +kernel
theorem dM_acknowledge_61 : decode cM_acknowledge 61 = .ok (.iload_n 1, 1) := by decide +kernel
theorem dM_acknowledge_62 : decode cM_acknowledge 62 = .ok (.iconst 2, 1) := by decide +kernel
theorem dM_acknowledge_63 : decode cM_acknowledge 63 = .ok (.if_icmp .ne 46, 3) := by decide +kernel
theorem dM_acknowledge_66 : decode cM_acknowledge 66 = .ok (.aload_n 0, 1) := by decide +kernel
theorem dM_acknowledge_67 : decode cM_acknowledge 67 = .ok (.getfield 35, 3) := by decide +kernel
theorem dM_acknowledge_70 : decode cM_acknowledge 70 = .ok (.iconst 0, 1) := by decide +kernel
theorem dM_acknowledge_71 : decode cM_acknowledge 71 = .ok (.baload, 1) := by decide +kernel
theorem dM_acknowledge_72 : decode cM_acknowledge 72 = .ok (.ifCond .ne 37, 3) := by decide +kernel
theorem dM_acknowledge_75 : decode cM_acknowledge 75 = .ok (.aload_n 0, 1) := by decide +kernel
theorem dM_acknowledge_76 : decode cM_acknowledge 76 = .ok (.iconst 1, 1) := by decide +kernel
theorem dM_acknowledge_77 : decode cM_acknowledge 77 = .ok (.invokevirtual 123, 3) := by decide +kernel
theorem dM_acknowledge_80 : decode cM_acknowledge 80 = .ok (.istore_n 3, 1) := by decide +kernel
theorem dM_acknowledge_81 : decode cM_acknowledge 81 = .ok (.aload_n 0, 1) := by decide +kernel
theorem dM_acknowledge_82 : decode cM_acknowledge 82 = .ok (.getfield 22, 3) := by decide +kernel
theorem dM_acknowledge_85 : decode cM_acknowledge 85 = .ok (.iconst 1, 1) := by decide +kernel
theorem dM_acknowledge_86 : decode cM_acknowledge 86 = .ok (.iaload, 1) := by decide +kernel
theorem dM_acknowledge_87 : decode cM_acknowledge 87 = .ok (.iload_n 3, 1) := by decide +kernel
theorem dM_acknowledge_88 : decode cM_acknowledge 88 = .ok (.ifCond .ge 8, 3) := by decide +kernel
theorem dM_acknowledge_91 : decode cM_acknowledge 91 = .ok (.bipush 7, 2) := by decide +kernel
theorem dM_acknowledge_93 : decode cM_acknowledge 93 = .ok (.goto 4, 3) := by decide +kernel
theorem dM_acknowledge_96 : decode cM_acknowledge 96 = .ok (.iload_n 3, 1) := by decide +kernel
theorem dM_acknowledge_97 : decode cM_acknowledge 97 = .ok (.iadd, 1) := by decide +kernel
theorem dM_acknowledge_98 : decode cM_acknowledge 98 = .ok (.istore_n 2, 1) := by decide +kernel
theorem dM_acknowledge_99 : decode cM_acknowledge 99 = .ok (.iload_n 3, 1) := by decide +kernel
theorem dM_acknowledge_100 : decode cM_acknowledge 100 = .ok (.ifCond .lt 9, 3) := by decide +kernel
theorem dM_acknowledge_103 : decode cM_acknowledge 103 = .ok (.aload_n 0, 1) := by decide +kernel
theorem dM_acknowledge_104 : decode cM_acknowledge 104 = .ok (.iconst 1, 1) := by decide +kernel
theorem dM_acknowledge_105 : decode cM_acknowledge 105 = .ok (.iload_n 3, 1) := by decide +kernel
theorem dM_acknowledge_106 : decode cM_acknowledge 106 = .ok (.invokevirtual 136, 3) := by decide +kernel
theorem dM_acknowledge_109 : decode cM_acknowledge 109 = .ok (.aload_n 0, 1) := by decide +kernel
theorem dM_acknowledge_110 : decode cM_acknowledge 110 = .ok (.invokevirtual 169, 3) := by decide +kernel
theorem dM_acknowledge_113 : decode cM_acknowledge 113 = .ok (.iload_n 2, 1) := by decide +kernel
theorem dM_acknowledge_114 : decode cM_acknowledge 114 = .ok (.ireturn, 1) := by decide +kernel
theorem dM_chosen_0 : decode cM_chosen 0 = .ok (.aload_n 0, 1) := by decide +kernel
theorem dM_chosen_1 : decode cM_chosen 1 = .ok (.iconst 0, 1) := by decide +kernel
theorem dM_chosen_2 : decode cM_chosen 2 = .ok (.putfield 107, 3) := by decide +kernel
theorem dM_chosen_5 : decode cM_chosen 5 = .ok (.iload_n 1, 1) := by decide +kernel
theorem dM_chosen_6 : decode cM_chosen 6 = .ok (.ifCond .eq 8, 3) := by decide +kernel
theorem dM_chosen_9 : decode cM_chosen 9 = .ok (.iload_n 1, 1) := by decide +kernel
theorem dM_chosen_10 : decode cM_chosen 10 = .ok (.iconst 1, 1) := by decide +kernel
theorem dM_chosen_11 : decode cM_chosen 11 = .ok (.if_icmp .ne 11, 3) := by decide +kernel
theorem dM_chosen_14 : decode cM_chosen 14 = .ok (.aload_n 0, 1) := by decide +kernel
theorem dM_chosen_15 : decode cM_chosen 15 = .ok (.iload_n 1, 1) := by decide +kernel
theorem dM_chosen_16 : decode cM_chosen 16 = .ok (.invokevirtual 123, 3) := by decide +kernel
theorem dM_chosen_19 : decode cM_chosen 19 = .ok (.goto 4, 3) := by decide +kernel
theorem dM_chosen_22 : decode cM_chosen 22 = .ok (.iconst (-1), 1) := by decide +kernel
theorem dM_chosen_23 : decode cM_chosen 23 = .ok (.ireturn, 1) := by decide +kernel
theorem dM_about_0 : decode cM_about 0 = .ok (.aload_n 0, 1) := by decide +kernel
theorem dM_about_1 : decode cM_about 1 = .ok (.iconst 0, 1) := by decide +kernel
theorem dM_about_2 : decode cM_about 2 = .ok (.putfield 107, 3) := by decide +kernel
theorem dM_about_5 : decode cM_about 5 = .ok (.iload_n 1, 1) := by decide +kernel
theorem dM_about_6 : decode cM_about 6 = .ok (.ifCond .eq 10, 3) := by decide +kernel
theorem dM_about_9 : decode cM_about 9 = .ok (.iload_n 1, 1) := by decide +kernel
theorem dM_about_10 : decode cM_about 10 = .ok (.iconst 1, 1) := by decide +kernel
theorem dM_about_11 : decode cM_about 11 = .ok (.if_icmp .eq 5, 3) := by decide +kernel
theorem dM_about_14 : decode cM_about 14 = .ok (.iconst (-1), 1) := by decide +kernel
theorem dM_about_15 : decode cM_about 15 = .ok (.ireturn, 1) := by decide +kernel
theorem dM_about_16 : decode cM_about 16 = .ok (.iload_n 2, 1) := by decide +kernel
theorem dM_about_17 : decode cM_about 17 = .ok (.tableswitch 110 0 7 #[47, 53, 60, 67, 74, 81, 88, 95], 47) := by decide +kernel
theorem dM_about_64 : decode cM_about 64 = .ok (.aload_n 0, 1) := by decide +kernel
theorem dM_about_65 : decode cM_about 65 = .ok (.iload_n 1, 1) := by decide +kernel
theorem dM_about_66 : decode cM_about 66 = .ok (.invokevirtual 115, 3) := by decide +kernel
theorem dM_about_69 : decode cM_about 69 = .ok (.ireturn, 1) := by decide +kernel
theorem dM_about_70 : decode cM_about 70 = .ok (.aload_n 0, 1) := by decide +kernel
theorem dM_about_71 : decode cM_about 71 = .ok (.getfield 19, 3) := by decide +kernel
theorem dM_about_74 : decode cM_about 74 = .ok (.iload_n 1, 1) := by decide +kernel
theorem dM_about_75 : decode cM_about 75 = .ok (.iaload, 1) := by decide +kernel
theorem dM_about_76 : decode cM_about 76 = .ok (.ireturn, 1) := by decide +kernel
theorem dM_about_77 : decode cM_about 77 = .ok (.aload_n 0, 1) := by decide +kernel
theorem dM_about_78 : decode cM_about 78 = .ok (.getfield 16, 3) := by decide +kernel
theorem dM_about_81 : decode cM_about 81 = .ok (.iload_n 1, 1) := by decide +kernel
theorem dM_about_82 : decode cM_about 82 = .ok (.iaload, 1) := by decide +kernel
theorem dM_about_83 : decode cM_about 83 = .ok (.ireturn, 1) := by decide +kernel
theorem dM_about_84 : decode cM_about 84 = .ok (.aload_n 0, 1) := by decide +kernel
theorem dM_about_85 : decode cM_about 85 = .ok (.getfield 25, 3) := by decide +kernel
theorem dM_about_88 : decode cM_about 88 = .ok (.iload_n 1, 1) := by decide +kernel
theorem dM_about_89 : decode cM_about 89 = .ok (.iaload, 1) := by decide +kernel
theorem dM_about_90 : decode cM_about 90 = .ok (.ireturn, 1) := by decide +kernel
theorem dM_about_91 : decode cM_about 91 = .ok (.aload_n 0, 1) := by decide +kernel
theorem dM_about_92 : decode cM_about 92 = .ok (.getfield 22, 3) := by decide +kernel
theorem dM_about_95 : decode cM_about 95 = .ok (.iload_n 1, 1) := by decide +kernel
theorem dM_about_96 : decode cM_about 96 = .ok (.iaload, 1) := by decide +kernel
theorem dM_about_97 : decode cM_about 97 = .ok (.ireturn, 1) := by decide +kernel
theorem dM_about_98 : decode cM_about 98 = .ok (.aload_n 0, 1) := by decide +kernel
theorem dM_about_99 : decode cM_about 99 = .ok (.getfield 7, 3) := by decide +kernel
theorem dM_about_102 : decode cM_about 102 = .ok (.iload_n 1, 1) := by decide +kernel
theorem dM_about_103 : decode cM_about 103 = .ok (.iaload, 1) := by decide +kernel
theorem dM_about_104 : decode cM_about 104 = .ok (.ireturn, 1) := by decide +kernel
theorem dM_about_105 : decode cM_about 105 = .ok (.aload_n 0, 1) := by decide +kernel
theorem dM_about_106 : decode cM_about 106 = .ok (.getfield 13, 3) := by decide +kernel
theorem dM_about_109 : decode cM_about 109 = .ok (.iload_n 1, 1) := by decide +kernel
theorem dM_about_110 : decode cM_about 110 = .ok (.iaload, 1) := by decide +kernel
theorem dM_about_111 : decode cM_about 111 = .ok (.ireturn, 1) := by decide +kernel
theorem dM_about_112 : decode cM_about 112 = .ok (.aload_n 0, 1) := by decide +kernel
theorem dM_about_113 : decode cM_about 113 = .ok (.getfield 28, 3) := by decide +kernel
theorem dM_about_116 : decode cM_about 116 = .ok (.iload_n 1, 1) := by decide +kernel
theorem dM_about_117 : decode cM_about 117 = .ok (.baload, 1) := by decide +kernel
theorem dM_about_118 : decode cM_about 118 = .ok (.ifCond .eq 7, 3) := by decide +kernel
theorem dM_about_121 : decode cM_about 121 = .ok (.iconst 1, 1) := by decide +kernel
theorem dM_about_122 : decode cM_about 122 = .ok (.goto 4, 3) := by decide +kernel
theorem dM_about_125 : decode cM_about 125 = .ok (.iconst 0, 1) := by decide +kernel
theorem dM_about_126 : decode cM_about 126 = .ok (.ireturn, 1) := by decide +kernel
theorem dM_about_127 : decode cM_about 127 = .ok (.iconst (-1), 1) := by decide +kernel
theorem dM_about_128 : decode cM_about 128 = .ok (.ireturn, 1) := by decide +kernel
theorem dM_counter_0 : decode cM_counter 0 = .ok (.aload_n 0, 1) := by decide +kernel
theorem dM_counter_1 : decode cM_counter 1 = .ok (.iconst 0, 1) := by decide +kernel
theorem dM_counter_2 : decode cM_counter 2 = .ok (.putfield 107, 3) := by decide +kernel
theorem dM_counter_5 : decode cM_counter 5 = .ok (.iload_n 1, 1) := by decide +kernel
theorem dM_counter_6 : decode cM_counter 6 = .ok (.ifCond .lt 8, 3) := by decide +kernel
theorem dM_counter_9 : decode cM_counter 9 = .ok (.iload_n 1, 1) := by decide +kernel
theorem dM_counter_10 : decode cM_counter 10 = .ok (.iconst 2, 1) := by decide +kernel
theorem dM_counter_11 : decode cM_counter 11 = .ok (.if_icmp .le 5, 3) := by decide +kernel
theorem dM_counter_14 : decode cM_counter 14 = .ok (.iconst (-1), 1) := by decide +kernel
theorem dM_counter_15 : decode cM_counter 15 = .ok (.ireturn, 1) := by decide +kernel
theorem dM_counter_16 : decode cM_counter 16 = .ok (.iload_n 2, 1) := by decide +kernel
theorem dM_counter_17 : decode cM_counter 17 = .ok (.tableswitch 124 0 6 #[43, 50, 65, 80, 87, 94, 109], 43) := by decide +kernel
theorem dM_counter_60 : decode cM_counter 60 = .ok (.aload_n 0, 1) := by decide +kernel
theorem dM_counter_61 : decode cM_counter 61 = .ok (.getfield 77, 3) := by decide +kernel
theorem dM_counter_64 : decode cM_counter 64 = .ok (.iload_n 1, 1) := by decide +kernel
theorem dM_counter_65 : decode cM_counter 65 = .ok (.iaload, 1) := by decide +kernel
theorem dM_counter_66 : decode cM_counter 66 = .ok (.ireturn, 1) := by decide +kernel
theorem dM_counter_67 : decode cM_counter 67 = .ok (.aload_n 0, 1) := by decide +kernel
theorem dM_counter_68 : decode cM_counter 68 = .ok (.getfield 65, 3) := by decide +kernel
theorem dM_counter_71 : decode cM_counter 71 = .ok (.iload_n 1, 1) := by decide +kernel
theorem dM_counter_72 : decode cM_counter 72 = .ok (.baload, 1) := by decide +kernel
theorem dM_counter_73 : decode cM_counter 73 = .ok (.ifCond .eq 7, 3) := by decide +kernel
theorem dM_counter_76 : decode cM_counter 76 = .ok (.iconst 1, 1) := by decide +kernel
theorem dM_counter_77 : decode cM_counter 77 = .ok (.goto 4, 3) := by decide +kernel
theorem dM_counter_80 : decode cM_counter 80 = .ok (.iconst 0, 1) := by decide +kernel
theorem dM_counter_81 : decode cM_counter 81 = .ok (.ireturn, 1) := by decide +kernel
theorem dM_counter_82 : decode cM_counter 82 = .ok (.aload_n 0, 1) := by decide +kernel
theorem dM_counter_83 : decode cM_counter 83 = .ok (.getfield 62, 3) := by decide +kernel
theorem dM_counter_86 : decode cM_counter 86 = .ok (.iload_n 1, 1) := by decide +kernel
theorem dM_counter_87 : decode cM_counter 87 = .ok (.baload, 1) := by decide +kernel
theorem dM_counter_88 : decode cM_counter 88 = .ok (.ifCond .eq 7, 3) := by decide +kernel
theorem dM_counter_91 : decode cM_counter 91 = .ok (.iconst 1, 1) := by decide +kernel
theorem dM_counter_92 : decode cM_counter 92 = .ok (.goto 4, 3) := by decide +kernel
theorem dM_counter_95 : decode cM_counter 95 = .ok (.iconst 0, 1) := by decide +kernel
theorem dM_counter_96 : decode cM_counter 96 = .ok (.ireturn, 1) := by decide +kernel
theorem dM_counter_97 : decode cM_counter 97 = .ok (.aload_n 0, 1) := by decide +kernel
theorem dM_counter_98 : decode cM_counter 98 = .ok (.getfield 68, 3) := by decide +kernel
theorem dM_counter_101 : decode cM_counter 101 = .ok (.iload_n 1, 1) := by decide +kernel
theorem dM_counter_102 : decode cM_counter 102 = .ok (.iaload, 1) := by decide +kernel
theorem dM_counter_103 : decode cM_counter 103 = .ok (.ireturn, 1) := by decide +kernel
theorem dM_counter_104 : decode cM_counter 104 = .ok (.aload_n 0, 1) := by decide +kernel
theorem dM_counter_105 : decode cM_counter 105 = .ok (.getfield 74, 3) := by decide +kernel
theorem dM_counter_108 : decode cM_counter 108 = .ok (.iload_n 1, 1) := by decide +kernel
theorem dM_counter_109 : decode cM_counter 109 = .ok (.iaload, 1) := by decide +kernel
theorem dM_counter_110 : decode cM_counter 110 = .ok (.ireturn, 1) := by decide +kernel
theorem dM_counter_111 : decode cM_counter 111 = .ok (.aload_n 0, 1) := by decide +kernel
theorem dM_counter_112 : decode cM_counter 112 = .ok (.getfield 80, 3) := by decide +kernel
theorem dM_counter_115 : decode cM_counter 115 = .ok (.iload_n 1, 1) := by decide +kernel
theorem dM_counter_116 : decode cM_counter 116 = .ok (.baload, 1) := by decide +kernel
theorem dM_counter_117 : decode cM_counter 117 = .ok (.ifCond .eq 7, 3) := by decide +kernel
theorem dM_counter_120 : decode cM_counter 120 = .ok (.iconst 1, 1) := by decide +kernel
theorem dM_counter_121 : decode cM_counter 121 = .ok (.goto 4, 3) := by decide +kernel
theorem dM_counter_124 : decode cM_counter 124 = .ok (.iconst 0, 1) := by decide +kernel
theorem dM_counter_125 : decode cM_counter 125 = .ok (.ireturn, 1) := by decide +kernel
theorem dM_counter_126 : decode cM_counter 126 = .ok (.aload_n 0, 1) := by decide +kernel
theorem dM_counter_127 : decode cM_counter 127 = .ok (.getfield 83, 3) := by decide +kernel
theorem dM_counter_130 : decode cM_counter 130 = .ok (.iload_n 1, 1) := by decide +kernel
theorem dM_counter_131 : decode cM_counter 131 = .ok (.baload, 1) := by decide +kernel
theorem dM_counter_132 : decode cM_counter 132 = .ok (.ifCond .eq 7, 3) := by decide +kernel
theorem dM_counter_135 : decode cM_counter 135 = .ok (.iconst 1, 1) := by decide +kernel
theorem dM_counter_136 : decode cM_counter 136 = .ok (.goto 4, 3) := by decide +kernel
theorem dM_counter_139 : decode cM_counter 139 = .ok (.iconst 0, 1) := by decide +kernel
theorem dM_counter_140 : decode cM_counter 140 = .ok (.ireturn, 1) := by decide +kernel
theorem dM_counter_141 : decode cM_counter 141 = .ok (.iconst (-1), 1) := by decide +kernel
theorem dM_counter_142 : decode cM_counter 142 = .ok (.ireturn, 1) := by decide +kernel
