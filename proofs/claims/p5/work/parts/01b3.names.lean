theorem dX6_callingsAlike_101 : decode cX6_callingsAlike 101 = .ok (.getfield 143, 3) := by decide +kernel
theorem dX6_callingsAlike_104 : decode cX6_callingsAlike 104 = .ok (.if_icmp .ne 24, 3) := by decide +kernel
theorem dX6_callingsAlike_107 : decode cX6_callingsAlike 107 = .ok (.aload_n 0, 1) := by decide +kernel
theorem dX6_callingsAlike_108 : decode cX6_callingsAlike 108 = .ok (.getfield 22, 3) := by decide +kernel
theorem dX6_callingsAlike_111 : decode cX6_callingsAlike 111 = .ok (.aload_n 1, 1) := by decide +kernel
theorem dX6_callingsAlike_112 : decode cX6_callingsAlike 112 = .ok (.aload_n 2, 1) := by decide +kernel
theorem dX6_callingsAlike_113 : decode cX6_callingsAlike 113 = .ok (.iload_n 3, 1) := by decide +kernel
theorem dX6_callingsAlike_114 : decode cX6_callingsAlike 114 = .ok (.aload_n 1, 1) := by decide +kernel
theorem dX6_callingsAlike_115 : decode cX6_callingsAlike 115 = .ok (.getfield 143, 3) := by decide +kernel
theorem dX6_callingsAlike_118 : decode cX6_callingsAlike 118 = .ok (.invokevirtual 231, 3) := by decide +kernel
theorem dX6_callingsAlike_121 : decode cX6_callingsAlike 121 = .ok (.ifCond .eq 7, 3) := by decide +kernel
theorem dX6_callingsAlike_124 : decode cX6_callingsAlike 124 = .ok (.iconst 1, 1) := by decide +kernel
theorem dX6_callingsAlike_125 : decode cX6_callingsAlike 125 = .ok (.goto 4, 3) := by decide +kernel
theorem dX6_callingsAlike_128 : decode cX6_callingsAlike 128 = .ok (.iconst 0, 1) := by decide +kernel
theorem dX6_callingsAlike_129 : decode cX6_callingsAlike 129 = .ok (.ireturn, 1) := by decide +kernel
theorem dX7_init_0 : decode cX7_init 0 = .ok (.aload_n 0, 1) := by decide +kernel
theorem dX7_init_1 : decode cX7_init 1 = .ok (.invokespecial 1, 3) := by decide +kernel
theorem dX7_init_4 : decode cX7_init 4 = .ok (.aload_n 0, 1) := by decide +kernel
theorem dX7_init_5 : decode cX7_init 5 = .ok (.iconst 2, 1) := by decide +kernel
theorem dX7_init_6 : decode cX7_init 6 = .ok (.newarray .int, 2) := by decide +kernel
theorem dX7_init_8 : decode cX7_init 8 = .ok (.putfield 7, 3) := by decide +kernel
theorem dX7_init_11 : decode cX7_init 11 = .ok (.aload_n 0, 1) := by decide +kernel
theorem dX7_init_12 : decode cX7_init 12 = .ok (.bipush 12, 2) := by decide +kernel
theorem dX7_init_14 : decode cX7_init 14 = .ok (.newarray .int, 2) := by decide +kernel
theorem dX7_init_16 : decode cX7_init 16 = .ok (.putfield 13, 3) := by decide +kernel
theorem dX7_init_19 : decode cX7_init 19 = .ok (.aload_n 0, 1) := by decide +kernel
theorem dX7_init_20 : decode cX7_init 20 = .ok (.sipush 288, 3) := by decide +kernel
theorem dX7_init_23 : decode cX7_init 23 = .ok (.newarray .int, 2) := by decide +kernel
theorem dX7_init_25 : decode cX7_init 25 = .ok (.putfield 16, 3) := by decide +kernel
theorem dX7_init_28 : decode cX7_init 28 = .ok (.aload_n 0, 1) := by decide +kernel
theorem dX7_init_29 : decode cX7_init 29 = .ok (.sipush 288, 3) := by decide +kernel
theorem dX7_init_32 : decode cX7_init 32 = .ok (.newarray .int, 2) := by decide +kernel
theorem dX7_init_34 : decode cX7_init 34 = .ok (.putfield 19, 3) := by decide +kernel
theorem dX7_init_37 : decode cX7_init 37 = .ok (.aload_n 0, 1) := by decide +kernel
theorem dX7_init_38 : decode cX7_init 38 = .ok (.sipush 288, 3) := by decide +kernel
theorem dX7_init_41 : decode cX7_init 41 = .ok (.newarray .int, 2) := by decide +kernel
theorem dX7_init_43 : decode cX7_init 43 = .ok (.putfield 22, 3) := by decide +kernel
theorem dX7_init_46 : decode cX7_init 46 = .ok (.aload_n 0, 1) := by decide +kernel
theorem dX7_init_47 : decode cX7_init 47 = .ok (.sipush 288, 3) := by decide +kernel
theorem dX7_init_50 : decode cX7_init 50 = .ok (.newarray .int, 2) := by decide +kernel
theorem dX7_init_52 : decode cX7_init 52 = .ok (.putfield 25, 3) := by decide +kernel
theorem dX7_init_55 : decode cX7_init 55 = .ok (.aload_n 0, 1) := by decide +kernel
theorem dX7_init_56 : decode cX7_init 56 = .ok (.iconst 4, 1) := by decide +kernel
theorem dX7_init_57 : decode cX7_init 57 = .ok (.newarray .int, 2) := by decide +kernel
theorem dX7_init_59 : decode cX7_init 59 = .ok (.putfield 28, 3) := by decide +kernel
theorem dX7_init_62 : decode cX7_init 62 = .ok (.aload_n 0, 1) := by decide +kernel
theorem dX7_init_63 : decode cX7_init 63 = .ok (.iconst 4, 1) := by decide +kernel
theorem dX7_init_64 : decode cX7_init 64 = .ok (.newarray .int, 2) := by decide +kernel
theorem dX7_init_66 : decode cX7_init 66 = .ok (.putfield 31, 3) := by decide +kernel
theorem dX7_init_69 : decode cX7_init 69 = .ok (.aload_n 0, 1) := by decide +kernel
theorem dX7_init_70 : decode cX7_init 70 = .ok (.bipush 6, 2) := by decide +kernel
theorem dX7_init_72 : decode cX7_init 72 = .ok (.newarray .int, 2) := by decide +kernel
theorem dX7_init_74 : decode cX7_init 74 = .ok (.putfield 34, 3) := by decide +kernel
theorem dX7_init_77 : decode cX7_init 77 = .ok (.aload_n 0, 1) := by decide +kernel
theorem dX7_init_78 : decode cX7_init 78 = .ok (.bipush 6, 2) := by decide +kernel
theorem dX7_init_80 : decode cX7_init 80 = .ok (.newarray .int, 2) := by decide +kernel
theorem dX7_init_82 : decode cX7_init 82 = .ok (.putfield 37, 3) := by decide +kernel
theorem dX7_init_85 : decode cX7_init 85 = .ok (.aload_n 0, 1) := by decide +kernel
theorem dX7_init_86 : decode cX7_init 86 = .ok (.bipush 8, 2) := by decide +kernel
theorem dX7_init_88 : decode cX7_init 88 = .ok (.newarray .int, 2) := by decide +kernel
theorem dX7_init_90 : decode cX7_init 90 = .ok (.putfield 40, 3) := by decide +kernel
theorem dX7_init_93 : decode cX7_init 93 = .ok (.aload_n 0, 1) := by decide +kernel
theorem dX7_init_94 : decode cX7_init 94 = .ok (.bipush 8, 2) := by decide +kernel
theorem dX7_init_96 : decode cX7_init 96 = .ok (.newarray .int, 2) := by decide +kernel
theorem dX7_init_98 : decode cX7_init 98 = .ok (.putfield 43, 3) := by decide +kernel
theorem dX7_init_101 : decode cX7_init 101 = .ok (.aload_n 0, 1) := by decide +kernel
theorem dX7_init_102 : decode cX7_init 102 = .ok (.bipush 8, 2) := by decide +kernel
theorem dX7_init_104 : decode cX7_init 104 = .ok (.newarray .int, 2) := by decide +kernel
theorem dX7_init_106 : decode cX7_init 106 = .ok (.putfield 46, 3) := by decide +kernel
theorem dX7_init_109 : decode cX7_init 109 = .ok (.aload_n 0, 1) := by decide +kernel
theorem dX7_init_110 : decode cX7_init 110 = .ok (.bipush 48, 2) := by decide +kernel
theorem dX7_init_112 : decode cX7_init 112 = .ok (.newarray .int, 2) := by decide +kernel
theorem dX7_init_114 : decode cX7_init 114 = .ok (.putfield 49, 3) := by decide +kernel
theorem dX7_init_117 : decode cX7_init 117 = .ok (.aload_n 0, 1) := by decide +kernel
theorem dX7_init_118 : decode cX7_init 118 = .ok (.iconst 3, 1) := by decide +kernel
theorem dX7_init_119 : decode cX7_init 119 = .ok (.newarray .int, 2) := by decide +kernel
theorem dX7_init_121 : decode cX7_init 121 = .ok (.putfield 52, 3) := by decide +kernel
theorem dX7_init_124 : decode cX7_init 124 = .ok (.aload_n 0, 1) := by decide +kernel
theorem dX7_init_125 : decode cX7_init 125 = .ok (.iconst 3, 1) := by decide +kernel
theorem dX7_init_126 : decode cX7_init 126 = .ok (.newarray .int, 2) := by decide +kernel
theorem dX7_init_128 : decode cX7_init 128 = .ok (.putfield 55, 3) := by decide +kernel
theorem dX7_init_131 : decode cX7_init 131 = .ok (.aload_n 0, 1) := by decide +kernel
theorem dX7_init_132 : decode cX7_init 132 = .ok (.iconst 3, 1) := by decide +kernel
theorem dX7_init_133 : decode cX7_init 133 = .ok (.newarray .int, 2) := by decide +kernel
theorem dX7_init_135 : decode cX7_init 135 = .ok (.putfield 58, 3) := by decide +kernel
theorem dX7_init_138 : decode cX7_init 138 = .ok (.aload_n 0, 1) := by decide +kernel
theorem dX7_init_139 : decode cX7_init 139 = .ok (.iconst 3, 1) := by decide +kernel
theorem dX7_init_140 : decode cX7_init 140 = .ok (.newarray .int, 2) := by decide +kernel
theorem dX7_init_142 : decode cX7_init 142 = .ok (.putfield 61, 3) := by decide +kernel
theorem dX7_init_145 : decode cX7_init 145 = .ok (.aload_n 0, 1) := by decide +kernel
theorem dX7_init_146 : decode cX7_init 146 = .ok (.iconst 3, 1) := by decide +kernel
theorem dX7_init_147 : decode cX7_init 147 = .ok (.newarray .int, 2) := by decide +kernel
theorem dX7_init_149 : decode cX7_init 149 = .ok (.putfield 64, 3) := by decide +kernel
theorem dX7_init_152 : decode cX7_init 152 = .ok (.aload_n 0, 1) := by decide +kernel
theorem dX7_init_153 : decode cX7_init 153 = .ok (.iconst 3, 1) := by decide +kernel
theorem dX7_init_154 : decode cX7_init 154 = .ok (.newarray .int, 2) := by decide +kernel
theorem dX7_init_156 : decode cX7_init 156 = .ok (.putfield 67, 3) := by decide +kernel
theorem dX7_init_159 : decode cX7_init 159 = .ok (.aload_n 0, 1) := by decide +kernel
theorem dX7_init_160 : decode cX7_init 160 = .ok (.bipush 120, 2) := by decide +kernel
theorem dX7_init_162 : decode cX7_init 162 = .ok (.newarray .int, 2) := by decide +kernel
theorem dX7_init_164 : decode cX7_init 164 = .ok (.putfield 70, 3) := by decide +kernel
theorem dX7_init_167 : decode cX7_init 167 = .ok (.aload_n 0, 1) := by decide +kernel
theorem dX7_init_168 : decode cX7_init 168 = .ok (.bipush 120, 2) := by decide +kernel
theorem dX7_init_170 : decode cX7_init 170 = .ok (.newarray .int, 2) := by decide +kernel
theorem dX7_init_172 : decode cX7_init 172 = .ok (.putfield 73, 3) := by decide +kernel
theorem dX7_init_175 : decode cX7_init 175 = .ok (.aload_n 0, 1) := by decide +kernel
theorem dX7_init_176 : decode cX7_init 176 = .ok (.bipush 120, 2) := by decide +kernel
theorem dX7_init_178 : decode cX7_init 178 = .ok (.newarray .int, 2) := by decide +kernel
theorem dX7_init_180 : decode cX7_init 180 = .ok (.putfield 76, 3) := by decide +kernel
theorem dX7_init_183 : decode cX7_init 183 = .ok (.aload_n 0, 1) := by decide +kernel
theorem dX7_init_184 : decode cX7_init 184 = .ok (.iconst 3, 1) := by decide +kernel
theorem dX7_init_185 : decode cX7_init 185 = .ok (.newarray .int, 2) := by decide +kernel
theorem dX7_init_187 : decode cX7_init 187 = .ok (.putfield 79, 3) := by decide +kernel
theorem dX7_init_190 : decode cX7_init 190 = .ok (.aload_n 0, 1) := by decide +kernel
theorem dX7_init_191 : decode cX7_init 191 = .ok (.bipush 6, 2) := by decide +kernel
theorem dX7_init_193 : decode cX7_init 193 = .ok (.newarray .int, 2) := by decide +kernel
theorem dX7_init_195 : decode cX7_init 195 = .ok (.putfield 82, 3) := by decide +kernel
theorem dX7_init_198 : decode cX7_init 198 = .ok (.aload_n 0, 1) := by decide +kernel
theorem dX7_init_199 : decode cX7_init 199 = .ok (.bipush 6, 2) := by decide +kernel
theorem dX7_init_201 : decode cX7_init 201 = .ok (.newarray .int, 2) := by decide +kernel
theorem dX7_init_203 : decode cX7_init 203 = .ok (.putfield 85, 3) := by decide +kernel
theorem dX7_init_206 : decode cX7_init 206 = .ok (.aload_n 0, 1) := by decide +kernel
theorem dX7_init_207 : decode cX7_init 207 = .ok (.bipush 6, 2) := by decide +kernel
theorem dX7_init_209 : decode cX7_init 209 = .ok (.newarray .int, 2) := by decide +kernel
theorem dX7_init_211 : decode cX7_init 211 = .ok (.putfield 88, 3) := by decide +kernel
theorem dX7_init_214 : decode cX7_init 214 = .ok (.aload_n 0, 1) := by decide +kernel
theorem dX7_init_215 : decode cX7_init 215 = .ok (.iconst (-1), 1) := by decide +kernel
theorem dX7_init_216 : decode cX7_init 216 = .ok (.putfield 91, 3) := by decide +kernel
theorem dX7_init_219 : decode cX7_init 219 = .ok (.aload_n 0, 1) := by decide +kernel
theorem dX7_init_220 : decode cX7_init 220 = .ok (.iconst (-1), 1) := by decide +kernel
theorem dX7_init_221 : decode cX7_init 221 = .ok (.putfield 95, 3) := by decide +kernel
theorem dX7_init_224 : decode cX7_init 224 = .ok (.aload_n 0, 1) := by decide +kernel
theorem dX7_init_225 : decode cX7_init 225 = .ok (.iconst 4, 1) := by decide +kernel
theorem dX7_init_226 : decode cX7_init 226 = .ok (.newarray .int, 2) := by decide +kernel
theorem dX7_init_228 : decode cX7_init 228 = .ok (.putfield 98, 3) := by decide +kernel
theorem dX7_init_231 : decode cX7_init 231 = .ok (.aload_n 0, 1) := by decide +kernel
theorem dX7_init_232 : decode cX7_init 232 = .ok (.iconst 5, 1) := by decide +kernel
theorem dX7_init_233 : decode cX7_init 233 = .ok (.newarray .int, 2) := by decide +kernel
theorem dX7_init_235 : decode cX7_init 235 = .ok (.putfield 101, 3) := by decide +kernel
theorem dX7_init_238 : decode cX7_init 238 = .ok (.aload_n 0, 1) := by decide +kernel
theorem dX7_init_239 : decode cX7_init 239 = .ok (.iload_n 1, 1) := by decide +kernel
theorem dX7_init_240 : decode cX7_init 240 = .ok (.iconst 1, 1) := by decide +kernel
theorem dX7_init_241 : decode cX7_init 241 = .ok (.iand, 1) := by decide +kernel
theorem dX7_init_242 : decode cX7_init 242 = .ok (.iconst 1, 1) := by decide +kernel
theorem dX7_init_243 : decode cX7_init 243 = .ok (.if_icmp .ne 7, 3) := by decide +kernel
theorem dX7_init_246 : decode cX7_init 246 = .ok (.iconst 3, 1) := by decide +kernel
theorem dX7_init_247 : decode cX7_init 247 = .ok (.goto 4, 3) := by decide +kernel
theorem dX7_init_250 : decode cX7_init 250 = .ok (.iconst 2, 1) := by decide +kernel
theorem dX7_init_251 : decode cX7_init 251 = .ok (.putfield 104, 3) := by decide +kernel
theorem dX7_init_254 : decode cX7_init 254 = .ok (.aload_n 0, 1) := by decide +kernel
theorem dX7_init_255 : decode cX7_init 255 = .ok (.iconst 1, 1) := by decide +kernel
theorem dX7_init_256 : decode cX7_init 256 = .ok (.aload_n 0, 1) := by decide +kernel
theorem dX7_init_257 : decode cX7_init 257 = .ok (.getfield 104, 3) := by decide +kernel
theorem dX7_init_260 : decode cX7_init 260 = .ok (.ishl, 1) := by decide +kernel
theorem dX7_init_261 : decode cX7_init 261 = .ok (.iconst 1, 1) := by decide +kernel
theorem dX7_init_262 : decode cX7_init 262 = .ok (.isub, 1) := by decide +kernel
theorem dX7_init_263 : decode cX7_init 263 = .ok (.putfield 107, 3) := by decide +kernel
theorem dX7_init_266 : decode cX7_init 266 = .ok (.iconst 0, 1) := by decide +kernel
theorem dX7_init_267 : decode cX7_init 267 = .ok (.istore_n 2, 1) := by decide +kernel
theorem dX7_init_268 : decode cX7_init 268 = .ok (.iload_n 2, 1) := by decide +kernel
theorem dX7_init_269 : decode cX7_init 269 = .ok (.iconst 4, 1) := by decide +kernel
theorem dX7_init_270 : decode cX7_init 270 = .ok (.if_icmp .ge 16, 3) := by decide +kernel
theorem dX7_init_273 : decode cX7_init 273 = .ok (.aload_n 0, 1) := by decide +kernel
theorem dX7_init_274 : decode cX7_init 274 = .ok (.getfield 28, 3) := by decide +kernel
theorem dX7_init_277 : decode cX7_init 277 = .ok (.iload_n 2, 1) := by decide +kernel
theorem dX7_init_278 : decode cX7_init 278 = .ok (.iload_n 2, 1) := by decide +kernel
theorem dX7_init_279 : decode cX7_init 279 = .ok (.iastore, 1) := by decide +kernel
theorem dX7_init_280 : decode cX7_init 280 = .ok (.iinc 2 1, 3) := by decide +kernel
theorem dX7_init_283 : decode cX7_init 283 = .ok (.goto (-15), 3) := by decide +kernel
theorem dX7_init_286 : decode cX7_init 286 = .ok (.return_, 1) := by decide +kernel
theorem dX7_in_0 : decode cX7_in 0 = .ok (.iload_n 0, 1) := by decide +kernel
theorem dX7_in_1 : decode cX7_in 1 = .ok (.iload_n 1, 1) := by decide +kernel
theorem dX7_in_2 : decode cX7_in 2 = .ok (.if_icmp .lt 12, 3) := by decide +kernel
theorem dX7_in_5 : decode cX7_in 5 = .ok (.iload_n 0, 1) := by decide +kernel
theorem dX7_in_6 : decode cX7_in 6 = .ok (.iload_n 2, 1) := by decide +kernel
theorem dX7_in_7 : decode cX7_in 7 = .ok (.if_icmp .gt 7, 3) := by decide +kernel
theorem dX7_in_10 : decode cX7_in 10 = .ok (.iconst 1, 1) := by decide +kernel
theorem dX7_in_11 : decode cX7_in 11 = .ok (.goto 4, 3) := by decide +kernel
theorem dX7_in_14 : decode cX7_in 14 = .ok (.iconst 0, 1) := by decide +kernel
theorem dX7_in_15 : decode cX7_in 15 = .ok (.ireturn, 1) := by decide +kernel
theorem ggX7_isMethod_X7_in : GoodIn wsX7_isMethod wsX7_in := goodIn_mem (fun _ h => List.mem_cons_of_mem _ (List.mem_append_left _ (List.mem_append_right _ h))) ok_wsX7_in
set_option maxRecDepth 20000 in
theorem gX7_isMethod_X7_in : GoodIn wsX7_isMethod (va_wsS RX7 110 yX7_in wsX7_in) := goodIn_app (goodIn_of _ (by decide +kernel)) ggX7_isMethod_X7_in
theorem dX7_isMethod_0 : decode cX7_isMethod 0 = .ok (.iload_n 1, 1) := by decide +kernel
theorem dX7_isMethod_1 : decode cX7_isMethod 1 = .ok (.iconst 0, 1) := by decide +kernel
theorem dX7_isMethod_2 : decode cX7_isMethod 2 = .ok (.iconst 1, 1) := by decide +kernel
theorem dX7_isMethod_3 : decode cX7_isMethod 3 = .ok (.invokestatic 110, 3) := by decide +kernel
theorem dX7_isMethod_6 : decode cX7_isMethod 6 = .ok (.ifCond .eq 23, 3) := by decide +kernel
theorem dX7_isMethod_9 : decode cX7_isMethod 9 = .ok (.iload_n 2, 1) := by decide +kernel
theorem dX7_isMethod_10 : decode cX7_isMethod 10 = .ok (.iconst 0, 1) := by decide +kernel
theorem dX7_isMethod_11 : decode cX7_isMethod 11 = .ok (.aload_n 0, 1) := by decide +kernel
theorem dX7_isMethod_12 : decode cX7_isMethod 12 = .ok (.getfield 7, 3) := by decide +kernel
theorem dX7_isMethod_15 : decode cX7_isMethod 15 = .ok (.iload_n 1, 1) := by decide +kernel
theorem dX7_isMethod_16 : decode cX7_isMethod 16 = .ok (.iaload, 1) := by decide +kernel
theorem dX7_isMethod_17 : decode cX7_isMethod 17 = .ok (.iconst 1, 1) := by decide +kernel
theorem dX7_isMethod_18 : decode cX7_isMethod 18 = .ok (.isub, 1) := by decide +kernel
theorem dX7_isMethod_19 : decode cX7_isMethod 19 = .ok (.invokestatic 110, 3) := by decide +kernel
theorem dX7_isMethod_22 : decode cX7_isMethod 22 = .ok (.ifCond .eq 7, 3) := by decide +kernel
theorem dX7_isMethod_25 : decode cX7_isMethod 25 = .ok (.iconst 1, 1) := by decide +kernel
theorem dX7_isMethod_26 : decode cX7_isMethod 26 = .ok (.goto 4, 3) := by decide +kernel
theorem dX7_isMethod_29 : decode cX7_isMethod 29 = .ok (.iconst 0, 1) := by decide +kernel
theorem dX7_isMethod_30 : decode cX7_isMethod 30 = .ok (.ireturn, 1) := by decide +kernel
theorem ggX7_isNumber_X7_in : GoodIn wsX7_isNumber wsX7_in := goodIn_mem (fun _ h => List.mem_cons_of_mem _ (List.mem_append_left _ (List.mem_append_right _ h))) ok_wsX7_in
set_option maxRecDepth 20000 in
theorem gX7_isNumber_X7_in : GoodIn wsX7_isNumber (va_wsS RX7 110 yX7_in wsX7_in) := goodIn_app (goodIn_of _ (by decide +kernel)) ggX7_isNumber_X7_in
theorem dX7_isNumber_0 : decode cX7_isNumber 0 = .ok (.iload_n 1, 1) := by decide +kernel
theorem dX7_isNumber_1 : decode cX7_isNumber 1 = .ok (.iconst 0, 1) := by decide +kernel
theorem dX7_isNumber_2 : decode cX7_isNumber 2 = .ok (.aload_n 0, 1) := by decide +kernel
theorem dX7_isNumber_3 : decode cX7_isNumber 3 = .ok (.getfield 107, 3) := by decide +kernel
theorem dX7_isNumber_6 : decode cX7_isNumber 6 = .ok (.invokestatic 110, 3) := by decide +kernel
theorem dX7_isNumber_9 : decode cX7_isNumber 9 = .ok (.ireturn, 1) := by decide +kernel
theorem ggX7_method_X7_in : GoodIn wsX7_method wsX7_in := goodIn_mem (fun _ h => List.mem_cons_of_mem _ (List.mem_append_left _ (List.mem_append_right _ h))) ok_wsX7_in
set_option maxRecDepth 20000 in
theorem gX7_method_X7_in : GoodIn wsX7_method (va_wsS RX7 110 yX7_in wsX7_in) := goodIn_app (goodIn_of _ (by decide +kernel)) ggX7_method_X7_in
theorem dX7_method_0 : decode cX7_method 0 = .ok (.iload_n 1, 1) := by decide +kernel
theorem dX7_method_1 : decode cX7_method 1 = .ok (.iconst 0, 1) := by decide +kernel
theorem dX7_method_2 : decode cX7_method 2 = .ok (.iconst 1, 1) := by decide +kernel
theorem dX7_method_3 : decode cX7_method 3 = .ok (.invokestatic 110, 3) := by decide +kernel
theorem dX7_method_6 : decode cX7_method 6 = .ok (.ifCond .ne 6, 3) := by decide +kernel
theorem dX7_method_9 : decode cX7_method 9 = .ok (.bipush (-101), 2) := by decide +kernel
theorem dX7_method_11 : decode cX7_method 11 = .ok (.ireturn, 1) := by decide +kernel
theorem dX7_method_12 : decode cX7_method 12 = .ok (.aload_n 0, 1) := by decide +kernel
theorem dX7_method_13 : decode cX7_method 13 = .ok (.getfield 7, 3) := by decide +kernel
theorem dX7_method_16 : decode cX7_method 16 = .ok (.iload_n 1, 1) := by decide +kernel
theorem dX7_method_17 : decode cX7_method 17 = .ok (.iaload, 1) := by decide +kernel
theorem dX7_method_18 : decode cX7_method 18 = .ok (.bipush 6, 2) := by decide +kernel
theorem dX7_method_20 : decode cX7_method 20 = .ok (.if_icmp .ne 6, 3) := by decide +kernel
theorem dX7_method_23 : decode cX7_method 23 = .ok (.bipush (-104), 2) := by decide +kernel
theorem dX7_method_25 : decode cX7_method 25 = .ok (.ireturn, 1) := by decide +kernel
theorem dX7_method_26 : decode cX7_method 26 = .ok (.aload_n 0, 1) := by decide +kernel
theorem dX7_method_27 : decode cX7_method 27 = .ok (.getfield 7, 3) := by decide +kernel
theorem dX7_method_30 : decode cX7_method 30 = .ok (.iload_n 1, 1) := by decide +kernel
theorem dX7_method_31 : decode cX7_method 31 = .ok (.iaload, 1) := by decide +kernel
theorem dX7_method_32 : decode cX7_method 32 = .ok (.istore_n 2, 1) := by decide +kernel
theorem dX7_method_33 : decode cX7_method 33 = .ok (.aload_n 0, 1) := by decide +kernel
theorem dX7_method_34 : decode cX7_method 34 = .ok (.getfield 13, 3) := by decide +kernel
theorem dX7_method_37 : decode cX7_method 37 = .ok (.bipush 6, 2) := by decide +kernel
theorem dX7_method_39 : decode cX7_method 39 = .ok (.iload_n 1, 1) := by decide +kernel
theorem dX7_method_40 : decode cX7_method 40 = .ok (.imul, 1) := by decide +kernel
theorem dX7_method_41 : decode cX7_method 41 = .ok (.iload_n 2, 1) := by decide +kernel
theorem dX7_method_42 : decode cX7_method 42 = .ok (.iadd, 1) := by decide +kernel
theorem dX7_method_43 : decode cX7_method 43 = .ok (.iconst 0, 1) := by decide +kernel
theorem dX7_method_44 : decode cX7_method 44 = .ok (.iastore, 1) := by decide +kernel
theorem dX7_method_45 : decode cX7_method 45 = .ok (.aload_n 0, 1) := by decide +kernel
theorem dX7_method_46 : decode cX7_method 46 = .ok (.getfield 7, 3) := by decide +kernel
theorem dX7_method_49 : decode cX7_method 49 = .ok (.iload_n 1, 1) := by decide +kernel
theorem dX7_method_50 : decode cX7_method 50 = .ok (.dup2, 1) := by decide +kernel
theorem dX7_method_51 : decode cX7_method 51 = .ok (.iaload, 1) := by decide +kernel
theorem dX7_method_52 : decode cX7_method 52 = .ok (.iconst 1, 1) := by decide +kernel
theorem dX7_method_53 : decode cX7_method 53 = .ok (.iadd, 1) := by decide +kernel
theorem dX7_method_54 : decode cX7_method 54 = .ok (.iastore, 1) := by decide +kernel
theorem dX7_method_55 : decode cX7_method 55 = .ok (.iload_n 2, 1) := by decide +kernel
theorem dX7_method_56 : decode cX7_method 56 = .ok (.ireturn, 1) := by decide +kernel
theorem ggX7_isRegister_X7_in : GoodIn wsX7_isRegister wsX7_in := goodIn_mem (fun _ h => List.mem_cons_of_mem _ (List.mem_append_right _ h)) ok_wsX7_in
set_option maxRecDepth 20000 in
theorem gX7_isRegister_X7_in : GoodIn wsX7_isRegister (va_wsS RX7 110 yX7_in wsX7_in) := goodIn_app (goodIn_of _ (by decide +kernel)) ggX7_isRegister_X7_in
theorem dX7_isRegister_0 : decode cX7_isRegister 0 = .ok (.iload_n 0, 1) := by decide +kernel
theorem dX7_isRegister_1 : decode cX7_isRegister 1 = .ok (.iconst 0, 1) := by decide +kernel
theorem dX7_isRegister_2 : decode cX7_isRegister 2 = .ok (.iconst 5, 1) := by decide +kernel
theorem dX7_isRegister_3 : decode cX7_isRegister 3 = .ok (.invokestatic 110, 3) := by decide +kernel
theorem dX7_isRegister_6 : decode cX7_isRegister 6 = .ok (.ireturn, 1) := by decide +kernel
theorem ggX7_isRight_X7_isRegister : GoodIn wsX7_isRight wsX7_isRegister := goodIn_mem (fun _ h => List.mem_cons_of_mem _ (List.mem_append_left _ (List.mem_append_right _ (List.mem_append_left _ h)))) ok_wsX7_isRegister
set_option maxRecDepth 20000 in
theorem gX7_isRight_X7_isRegister : GoodIn wsX7_isRight (va_wsS RX7 114 yX7_isRegister wsX7_isRegister) := goodIn_app (goodIn_of _ (by decide +kernel)) ggX7_isRight_X7_isRegister
theorem ggX7_isRight_X7_isNumber : GoodIn wsX7_isRight wsX7_isNumber := goodIn_mem (fun _ h => List.mem_cons_of_mem _ (List.mem_append_left _ (List.mem_append_right _ (List.mem_append_right _ (List.mem_append_left _ h))))) ok_wsX7_isNumber
set_option maxRecDepth 20000 in
theorem gX7_isRight_X7_isNumber : GoodIn wsX7_isRight (wsV RX7 118 RX7 yX7_isNumber wsX7_isNumber) := goodIn_app (goodIn_of _ (by decide +kernel)) ggX7_isRight_X7_isNumber
theorem ggX7_isRight_X7_in : GoodIn wsX7_isRight wsX7_in := goodIn_mem (fun _ h => List.mem_cons_of_mem _ (List.mem_append_left _ (List.mem_append_right _ (List.mem_append_right _ (List.mem_append_right _ h))))) ok_wsX7_in
set_option maxRecDepth 20000 in
theorem gX7_isRight_X7_in : GoodIn wsX7_isRight (va_wsS RX7 110 yX7_in wsX7_in) := goodIn_app (goodIn_of _ (by decide +kernel)) ggX7_isRight_X7_in
theorem dX7_isRight_0 : decode cX7_isRight 0 = .ok (.iload_n 1, 1) := by decide +kernel
theorem dX7_isRight_1 : decode cX7_isRight 1 = .ok (.tableswitch 231 0 15 #[79, 100, 231, 231, 231, 231, 231, 231, 231, 231, 120, 143, 151, 173, 203, 208], 79) := by decide +kernel
theorem dX7_isRight_80 : decode cX7_isRight 80 = .ok (.iload_n 2, 1) := by decide +kernel
theorem dX7_isRight_81 : decode cX7_isRight 81 = .ok (.invokestatic 114, 3) := by decide +kernel
theorem dX7_isRight_84 : decode cX7_isRight 84 = .ok (.ifCond .eq 15, 3) := by decide +kernel
theorem dX7_isRight_87 : decode cX7_isRight 87 = .ok (.aload_n 0, 1) := by decide +kernel
theorem dX7_isRight_88 : decode cX7_isRight 88 = .ok (.iload_n 3, 1) := by decide +kernel
theorem dX7_isRight_89 : decode cX7_isRight 89 = .ok (.invokevirtual 118, 3) := by decide +kernel
theorem dX7_isRight_92 : decode cX7_isRight 92 = .ok (.ifCond .eq 7, 3) := by decide +kernel
theorem dX7_isRight_95 : decode cX7_isRight 95 = .ok (.iconst 1, 1) := by decide +kernel
theorem dX7_isRight_96 : decode cX7_isRight 96 = .ok (.goto 4, 3) := by decide +kernel
theorem dX7_isRight_99 : decode cX7_isRight 99 = .ok (.iconst 0, 1) := by decide +kernel
theorem dX7_isRight_100 : decode cX7_isRight 100 = .ok (.ireturn, 1) := by decide +kernel
theorem dX7_isRight_101 : decode cX7_isRight 101 = .ok (.iload_n 2, 1) := by decide +kernel
theorem dX7_isRight_102 : decode cX7_isRight 102 = .ok (.invokestatic 114, 3) := by decide +kernel
theorem dX7_isRight_105 : decode cX7_isRight 105 = .ok (.ifCond .eq 14, 3) := by decide +kernel
theorem dX7_isRight_108 : decode cX7_isRight 108 = .ok (.iload_n 3, 1) := by decide +kernel
theorem dX7_isRight_109 : decode cX7_isRight 109 = .ok (.invokestatic 114, 3) := by decide +kernel
theorem dX7_isRight_112 : decode cX7_isRight 112 = .ok (.ifCond .eq 7, 3) := by decide +kernel
theorem dX7_isRight_115 : decode cX7_isRight 115 = .ok (.iconst 1, 1) := by decide +kernel
theorem dX7_isRight_116 : decode cX7_isRight 116 = .ok (.goto 4, 3) := by decide +kernel
theorem dX7_isRight_119 : decode cX7_isRight 119 = .ok (.iconst 0, 1) := by decide +kernel
theorem dX7_isRight_120 : decode cX7_isRight 120 = .ok (.ireturn, 1) := by decide +kernel
theorem dX7_isRight_121 : decode cX7_isRight 121 = .ok (.iload_n 2, 1) := by decide +kernel
theorem dX7_isRight_122 : decode cX7_isRight 122 = .ok (.invokestatic 114, 3) := by decide +kernel
theorem dX7_isRight_125 : decode cX7_isRight 125 = .ok (.ifCond .eq 17, 3) := by decide +kernel
theorem dX7_isRight_128 : decode cX7_isRight 128 = .ok (.iload_n 3, 1) := by decide +kernel
theorem dX7_isRight_129 : decode cX7_isRight 129 = .ok (.iconst 0, 1) := by decide +kernel
theorem dX7_isRight_130 : decode cX7_isRight 130 = .ok (.bipush 24, 2) := by decide +kernel
theorem dX7_isRight_132 : decode cX7_isRight 132 = .ok (.invokestatic 110, 3) := by decide +kernel
theorem dX7_isRight_135 : decode cX7_isRight 135 = .ok (.ifCond .eq 7, 3) := by decide +kernel
theorem dX7_isRight_138 : decode cX7_isRight 138 = .ok (.iconst 1, 1) := by decide +kernel
theorem dX7_isRight_139 : decode cX7_isRight 139 = .ok (.goto 4, 3) := by decide +kernel
theorem dX7_isRight_142 : decode cX7_isRight 142 = .ok (.iconst 0, 1) := by decide +kernel
theorem dX7_isRight_143 : decode cX7_isRight 143 = .ok (.ireturn, 1) := by decide +kernel
theorem dX7_isRight_144 : decode cX7_isRight 144 = .ok (.iload_n 2, 1) := by decide +kernel
theorem dX7_isRight_145 : decode cX7_isRight 145 = .ok (.iconst 0, 1) := by decide +kernel
theorem dX7_isRight_146 : decode cX7_isRight 146 = .ok (.bipush 24, 2) := by decide +kernel
theorem dX7_isRight_148 : decode cX7_isRight 148 = .ok (.invokestatic 110, 3) := by decide +kernel
theorem dX7_isRight_151 : decode cX7_isRight 151 = .ok (.ireturn, 1) := by decide +kernel
theorem dX7_isRight_152 : decode cX7_isRight 152 = .ok (.iload_n 2, 1) := by decide +kernel
theorem dX7_isRight_153 : decode cX7_isRight 153 = .ok (.iconst 0, 1) := by decide +kernel
theorem dX7_isRight_154 : decode cX7_isRight 154 = .ok (.iconst 3, 1) := by decide +kernel
theorem dX7_isRight_155 : decode cX7_isRight 155 = .ok (.invokestatic 110, 3) := by decide +kernel
theorem dX7_isRight_158 : decode cX7_isRight 158 = .ok (.ifCond .eq 14, 3) := by decide +kernel
theorem dX7_isRight_161 : decode cX7_isRight 161 = .ok (.iload_n 3, 1) := by decide +kernel
theorem dX7_isRight_162 : decode cX7_isRight 162 = .ok (.invokestatic 114, 3) := by decide +kernel
theorem dX7_isRight_165 : decode cX7_isRight 165 = .ok (.ifCond .eq 7, 3) := by decide +kernel
theorem dX7_isRight_168 : decode cX7_isRight 168 = .ok (.iconst 1, 1) := by decide +kernel
theorem dX7_isRight_169 : decode cX7_isRight 169 = .ok (.goto 4, 3) := by decide +kernel
theorem dX7_isRight_172 : decode cX7_isRight 172 = .ok (.iconst 0, 1) := by decide +kernel
theorem dX7_isRight_173 : decode cX7_isRight 173 = .ok (.ireturn, 1) := by decide +kernel
theorem dX7_isRight_174 : decode cX7_isRight 174 = .ok (.iload_n 2, 1) := by decide +kernel
theorem dX7_isRight_175 : decode cX7_isRight 175 = .ok (.invokestatic 114, 3) := by decide +kernel
theorem dX7_isRight_178 : decode cX7_isRight 178 = .ok (.ifCond .eq 24, 3) := by decide +kernel
theorem dX7_isRight_181 : decode cX7_isRight 181 = .ok (.iload_n 3, 1) := by decide +kernel
theorem dX7_isRight_182 : decode cX7_isRight 182 = .ok (.iconst 0, 1) := by decide +kernel
theorem dX7_isRight_183 : decode cX7_isRight 183 = .ok (.iconst 5, 1) := by decide +kernel
theorem dX7_isRight_184 : decode cX7_isRight 184 = .ok (.invokestatic 110, 3) := by decide +kernel
theorem dX7_isRight_187 : decode cX7_isRight 187 = .ok (.ifCond .eq 15, 3) := by decide +kernel
theorem dX7_isRight_190 : decode cX7_isRight 190 = .ok (.iload 4, 2) := by decide +kernel
theorem dX7_isRight_192 : decode cX7_isRight 192 = .ok (.invokestatic 114, 3) := by decide +kernel
theorem dX7_isRight_195 : decode cX7_isRight 195 = .ok (.ifCond .eq 7, 3) := by decide +kernel
theorem dX7_isRight_198 : decode cX7_isRight 198 = .ok (.iconst 1, 1) := by decide +kernel
theorem dX7_isRight_199 : decode cX7_isRight 199 = .ok (.goto 4, 3) := by decide +kernel
theorem dX7_isRight_202 : decode cX7_isRight 202 = .ok (.iconst 0, 1) := by decide +kernel
theorem dX7_isRight_203 : decode cX7_isRight 203 = .ok (.ireturn, 1) := by decide +kernel
theorem dX7_isRight_204 : decode cX7_isRight 204 = .ok (.iload_n 2, 1) := by decide +kernel
theorem dX7_isRight_205 : decode cX7_isRight 205 = .ok (.invokestatic 114, 3) := by decide +kernel
theorem dX7_isRight_208 : decode cX7_isRight 208 = .ok (.ireturn, 1) := by decide +kernel
theorem dX7_isRight_209 : decode cX7_isRight 209 = .ok (.iload_n 2, 1) := by decide +kernel
theorem dX7_isRight_210 : decode cX7_isRight 210 = .ok (.iconst 2, 1) := by decide +kernel
theorem dX7_isRight_211 : decode cX7_isRight 211 = .ok (.bipush 7, 2) := by decide +kernel
theorem dX7_isRight_213 : decode cX7_isRight 213 = .ok (.invokestatic 110, 3) := by decide +kernel
theorem dX7_isRight_216 : decode cX7_isRight 216 = .ok (.ifCond .eq 14, 3) := by decide +kernel
theorem dX7_isRight_219 : decode cX7_isRight 219 = .ok (.iload_n 3, 1) := by decide +kernel
theorem dX7_isRight_220 : decode cX7_isRight 220 = .ok (.invokestatic 114, 3) := by decide +kernel
theorem dX7_isRight_223 : decode cX7_isRight 223 = .ok (.ifCond .eq 7, 3) := by decide +kernel
theorem dX7_isRight_226 : decode cX7_isRight 226 = .ok (.iconst 1, 1) := by decide +kernel
theorem dX7_isRight_227 : decode cX7_isRight 227 = .ok (.goto 4, 3) := by decide +kernel
theorem dX7_isRight_230 : decode cX7_isRight 230 = .ok (.iconst 0, 1) := by decide +kernel
theorem dX7_isRight_231 : decode cX7_isRight 231 = .ok (.ireturn, 1) := by decide +kernel
theorem dX7_isRight_232 : decode cX7_isRight 232 = .ok (.iload_n 1, 1) := by decide +kernel
theorem dX7_isRight_233 : decode cX7_isRight 233 = .ok (.iconst 2, 1) := by decide +kernel
theorem dX7_isRight_234 : decode cX7_isRight 234 = .ok (.bipush 9, 2) := by decide +kernel
theorem dX7_isRight_236 : decode cX7_isRight 236 = .ok (.invokestatic 110, 3) := by decide +kernel
theorem dX7_isRight_239 : decode cX7_isRight 239 = .ok (.ifCond .eq 29, 3) := by decide +kernel
theorem dX7_isRight_242 : decode cX7_isRight 242 = .ok (.iload_n 2, 1) := by decide +kernel
theorem dX7_isRight_243 : decode cX7_isRight 243 = .ok (.invokestatic 114, 3) := by decide +kernel
theorem dX7_isRight_246 : decode cX7_isRight 246 = .ok (.ifCond .eq 22, 3) := by decide +kernel
theorem dX7_isRight_249 : decode cX7_isRight 249 = .ok (.iload_n 3, 1) := by decide +kernel
theorem dX7_isRight_250 : decode cX7_isRight 250 = .ok (.invokestatic 114, 3) := by decide +kernel
theorem dX7_isRight_253 : decode cX7_isRight 253 = .ok (.ifCond .eq 15, 3) := by decide +kernel
theorem dX7_isRight_256 : decode cX7_isRight 256 = .ok (.iload 4, 2) := by decide +kernel
theorem dX7_isRight_258 : decode cX7_isRight 258 = .ok (.invokestatic 114, 3) := by decide +kernel
theorem dX7_isRight_261 : decode cX7_isRight 261 = .ok (.ifCond .eq 7, 3) := by decide +kernel
theorem dX7_isRight_264 : decode cX7_isRight 264 = .ok (.iconst 1, 1) := by decide +kernel
theorem dX7_isRight_265 : decode cX7_isRight 265 = .ok (.goto 4, 3) := by decide +kernel
theorem dX7_isRight_268 : decode cX7_isRight 268 = .ok (.iconst 0, 1) := by decide +kernel
theorem dX7_isRight_269 : decode cX7_isRight 269 = .ok (.ireturn, 1) := by decide +kernel
theorem ggX7_op_X7_isMethod : GoodIn wsX7_op wsX7_isMethod := goodIn_mem (fun _ h => List.mem_cons_of_mem _ (List.mem_append_left _ (List.mem_append_right _ (List.mem_append_left _ h)))) ok_wsX7_isMethod
set_option maxRecDepth 20000 in
theorem gX7_op_X7_isMethod : GoodIn wsX7_op (wsV RX7 121 RX7 yX7_isMethod wsX7_isMethod) := goodIn_app (goodIn_of _ (by decide +kernel)) ggX7_op_X7_isMethod
theorem ggX7_op_X7_isRight : GoodIn wsX7_op wsX7_isRight := goodIn_mem (fun _ h => List.mem_cons_of_mem _ (List.mem_append_left _ (List.mem_append_right _ (List.mem_append_right _ h)))) ok_wsX7_isRight
set_option maxRecDepth 20000 in
theorem gX7_op_X7_isRight : GoodIn wsX7_op (wsV RX7 125 RX7 yX7_isRight wsX7_isRight) := goodIn_app (goodIn_of _ (by decide +kernel)) ggX7_op_X7_isRight
theorem dX7_op_0 : decode cX7_op 0 = .ok (.aload_n 0, 1) := by decide +kernel
theorem dX7_op_1 : decode cX7_op 1 = .ok (.iload_n 1, 1) := by decide +kernel
theorem dX7_op_2 : decode cX7_op 2 = .ok (.iload_n 2, 1) := by decide +kernel
theorem dX7_op_3 : decode cX7_op 3 = .ok (.invokevirtual 121, 3) := by decide +kernel
theorem dX7_op_6 : decode cX7_op 6 = .ok (.ifCond .ne 6, 3) := by decide +kernel
theorem dX7_op_9 : decode cX7_op 9 = .ok (.bipush (-101), 2) := by decide +kernel
theorem dX7_op_11 : decode cX7_op 11 = .ok (.ireturn, 1) := by decide +kernel
theorem dX7_op_12 : decode cX7_op 12 = .ok (.aload_n 0, 1) := by decide +kernel
theorem dX7_op_13 : decode cX7_op 13 = .ok (.iload_n 3, 1) := by decide +kernel
theorem dX7_op_14 : decode cX7_op 14 = .ok (.iload 4, 2) := by decide +kernel
theorem dX7_op_16 : decode cX7_op 16 = .ok (.iload 5, 2) := by decide +kernel
theorem dX7_op_18 : decode cX7_op 18 = .ok (.iload 6, 2) := by decide +kernel
theorem dX7_op_20 : decode cX7_op 20 = .ok (.invokevirtual 125, 3) := by decide +kernel
theorem dX7_op_23 : decode cX7_op 23 = .ok (.ifCond .ne 6, 3) := by decide +kernel
theorem dX7_op_26 : decode cX7_op 26 = .ok (.bipush (-102), 2) := by decide +kernel
theorem dX7_op_28 : decode cX7_op 28 = .ok (.ireturn, 1) := by decide +kernel
theorem dX7_op_29 : decode cX7_op 29 = .ok (.bipush 6, 2) := by decide +kernel
theorem dX7_op_31 : decode cX7_op 31 = .ok (.iload_n 1, 1) := by decide +kernel
theorem dX7_op_32 : decode cX7_op 32 = .ok (.imul, 1) := by decide +kernel
theorem dX7_op_33 : decode cX7_op 33 = .ok (.iload_n 2, 1) := by decide +kernel
theorem dX7_op_34 : decode cX7_op 34 = .ok (.iadd, 1) := by decide +kernel
theorem dX7_op_35 : decode cX7_op 35 = .ok (.istore 7, 2) := by decide +kernel
theorem dX7_op_37 : decode cX7_op 37 = .ok (.aload_n 0, 1) := by decide +kernel
theorem dX7_op_38 : decode cX7_op 38 = .ok (.getfield 13, 3) := by decide +kernel
theorem dX7_op_41 : decode cX7_op 41 = .ok (.iload 7, 2) := by decide +kernel
theorem dX7_op_43 : decode cX7_op 43 = .ok (.iaload, 1) := by decide +kernel
theorem dX7_op_44 : decode cX7_op 44 = .ok (.bipush 24, 2) := by decide +kernel
theorem dX7_op_46 : decode cX7_op 46 = .ok (.if_icmp .ne 6, 3) := by decide +kernel
theorem dX7_op_49 : decode cX7_op 49 = .ok (.bipush (-104), 2) := by decide +kernel
theorem dX7_op_51 : decode cX7_op 51 = .ok (.ireturn, 1) := by decide +kernel
theorem dX7_op_52 : decode cX7_op 52 = .ok (.bipush 24, 2) := by decide +kernel
theorem dX7_op_54 : decode cX7_op 54 = .ok (.iload 7, 2) := by decide +kernel
theorem dX7_op_56 : decode cX7_op 56 = .ok (.imul, 1) := by decide +kernel
theorem dX7_op_57 : decode cX7_op 57 = .ok (.aload_n 0, 1) := by decide +kernel
theorem dX7_op_58 : decode cX7_op 58 = .ok (.getfield 13, 3) := by decide +kernel
theorem dX7_op_61 : decode cX7_op 61 = .ok (.iload 7, 2) := by decide +kernel
theorem dX7_op_63 : decode cX7_op 63 = .ok (.iaload, 1) := by decide +kernel
theorem dX7_op_64 : decode cX7_op 64 = .ok (.iadd, 1) := by decide +kernel
theorem dX7_op_65 : decode cX7_op 65 = .ok (.istore 8, 2) := by decide +kernel
theorem dX7_op_67 : decode cX7_op 67 = .ok (.aload_n 0, 1) := by decide +kernel
theorem dX7_op_68 : decode cX7_op 68 = .ok (.getfield 16, 3) := by decide +kernel
theorem dX7_op_71 : decode cX7_op 71 = .ok (.iload 8, 2) := by decide +kernel
theorem dX7_op_73 : decode cX7_op 73 = .ok (.iload_n 3, 1) := by decide +kernel
theorem dX7_op_74 : decode cX7_op 74 = .ok (.iastore, 1) := by decide +kernel
theorem dX7_op_75 : decode cX7_op 75 = .ok (.aload_n 0, 1) := by decide +kernel
theorem dX7_op_76 : decode cX7_op 76 = .ok (.getfield 19, 3) := by decide +kernel
theorem dX7_op_79 : decode cX7_op 79 = .ok (.iload 8, 2) := by decide +kernel
theorem dX7_op_81 : decode cX7_op 81 = .ok (.iload 4, 2) := by decide +kernel
theorem dX7_op_83 : decode cX7_op 83 = .ok (.iastore, 1) := by decide +kernel
theorem dX7_op_84 : decode cX7_op 84 = .ok (.aload_n 0, 1) := by decide +kernel
theorem dX7_op_85 : decode cX7_op 85 = .ok (.getfield 22, 3) := by decide +kernel
theorem dX7_op_88 : decode cX7_op 88 = .ok (.iload 8, 2) := by decide +kernel
theorem dX7_op_90 : decode cX7_op 90 = .ok (.iload 5, 2) := by decide +kernel
theorem dX7_op_92 : decode cX7_op 92 = .ok (.iastore, 1) := by decide +kernel
theorem dX7_op_93 : decode cX7_op 93 = .ok (.aload_n 0, 1) := by decide +kernel
theorem dX7_op_94 : decode cX7_op 94 = .ok (.getfield 25, 3) := by decide +kernel
theorem dX7_op_97 : decode cX7_op 97 = .ok (.iload 8, 2) := by decide +kernel
theorem dX7_op_99 : decode cX7_op 99 = .ok (.iload 6, 2) := by decide +kernel
theorem dX7_op_101 : decode cX7_op 101 = .ok (.iastore, 1) := by decide +kernel
theorem dX7_op_102 : decode cX7_op 102 = .ok (.aload_n 0, 1) := by decide +kernel
theorem dX7_op_103 : decode cX7_op 103 = .ok (.getfield 13, 3) := by decide +kernel
theorem dX7_op_106 : decode cX7_op 106 = .ok (.iload 7, 2) := by decide +kernel
theorem dX7_op_108 : decode cX7_op 108 = .ok (.dup2, 1) := by decide +kernel
theorem dX7_op_109 : decode cX7_op 109 = .ok (.iaload, 1) := by decide +kernel
theorem dX7_op_110 : decode cX7_op 110 = .ok (.iconst 1, 1) := by decide +kernel
theorem dX7_op_111 : decode cX7_op 111 = .ok (.iadd, 1) := by decide +kernel
theorem dX7_op_112 : decode cX7_op 112 = .ok (.iastore, 1) := by decide +kernel
theorem dX7_op_113 : decode cX7_op 113 = .ok (.aload_n 0, 1) := by decide +kernel
theorem dX7_op_114 : decode cX7_op 114 = .ok (.getfield 13, 3) := by decide +kernel
theorem dX7_op_117 : decode cX7_op 117 = .ok (.iload 7, 2) := by decide +kernel
theorem dX7_op_119 : decode cX7_op 119 = .ok (.iaload, 1) := by decide +kernel
theorem dX7_op_120 : decode cX7_op 120 = .ok (.iconst 1, 1) := by decide +kernel
theorem dX7_op_121 : decode cX7_op 121 = .ok (.isub, 1) := by decide +kernel
theorem dX7_op_122 : decode cX7_op 122 = .ok (.ireturn, 1) := by decide +kernel
theorem ggX7_clear_X7_isMethod : GoodIn wsX7_clear wsX7_isMethod := goodIn_mem (fun _ h => List.mem_cons_of_mem _ (List.mem_append_left _ (List.mem_append_right _ h))) ok_wsX7_isMethod
set_option maxRecDepth 20000 in
theorem gX7_clear_X7_isMethod : GoodIn wsX7_clear (wsV RX7 121 RX7 yX7_isMethod wsX7_isMethod) := goodIn_app (goodIn_of _ (by decide +kernel)) ggX7_clear_X7_isMethod
theorem dX7_clear_0 : decode cX7_clear 0 = .ok (.aload_n 0, 1) := by decide +kernel
theorem dX7_clear_1 : decode cX7_clear 1 = .ok (.iload_n 1, 1) := by decide +kernel
theorem dX7_clear_2 : decode cX7_clear 2 = .ok (.iload_n 2, 1) := by decide +kernel
theorem dX7_clear_3 : decode cX7_clear 3 = .ok (.invokevirtual 121, 3) := by decide +kernel
theorem dX7_clear_6 : decode cX7_clear 6 = .ok (.ifCond .ne 6, 3) := by decide +kernel
theorem dX7_clear_9 : decode cX7_clear 9 = .ok (.bipush (-101), 2) := by decide +kernel
theorem dX7_clear_11 : decode cX7_clear 11 = .ok (.ireturn, 1) := by decide +kernel
theorem dX7_clear_12 : decode cX7_clear 12 = .ok (.aload_n 0, 1) := by decide +kernel
theorem dX7_clear_13 : decode cX7_clear 13 = .ok (.getfield 13, 3) := by decide +kernel
theorem dX7_clear_16 : decode cX7_clear 16 = .ok (.bipush 6, 2) := by decide +kernel
theorem dX7_clear_18 : decode cX7_clear 18 = .ok (.iload_n 1, 1) := by decide +kernel
theorem dX7_clear_19 : decode cX7_clear 19 = .ok (.imul, 1) := by decide +kernel
theorem dX7_clear_20 : decode cX7_clear 20 = .ok (.iload_n 2, 1) := by decide +kernel
theorem dX7_clear_21 : decode cX7_clear 21 = .ok (.iadd, 1) := by decide +kernel
theorem dX7_clear_22 : decode cX7_clear 22 = .ok (.iaload, 1) := by decide +kernel
theorem dX7_clear_23 : decode cX7_clear 23 = .ok (.istore_n 3, 1) := by decide +kernel
theorem dX7_clear_24 : decode cX7_clear 24 = .ok (.aload_n 0, 1) := by decide +kernel
theorem dX7_clear_25 : decode cX7_clear 25 = .ok (.getfield 13, 3) := by decide +kernel
theorem dX7_clear_28 : decode cX7_clear 28 = .ok (.bipush 6, 2) := by decide +kernel
theorem dX7_clear_30 : decode cX7_clear 30 = .ok (.iload_n 1, 1) := by decide +kernel
theorem dX7_clear_31 : decode cX7_clear 31 = .ok (.imul, 1) := by decide +kernel
theorem dX7_clear_32 : decode cX7_clear 32 = .ok (.iload_n 2, 1) := by decide +kernel
theorem dX7_clear_33 : decode cX7_clear 33 = .ok (.iadd, 1) := by decide +kernel
theorem dX7_clear_34 : decode cX7_clear 34 = .ok (.iconst 0, 1) := by decide +kernel
theorem dX7_clear_35 : decode cX7_clear 35 = .ok (.iastore, 1) := by decide +kernel
theorem dX7_clear_36 : decode cX7_clear 36 = .ok (.iload_n 3, 1) := by decide +kernel
theorem dX7_clear_37 : decode cX7_clear 37 = .ok (.ireturn, 1) := by decide +kernel
theorem dX7_enter_0 : decode cX7_enter 0 = .ok (.aload_n 0, 1) := by decide +kernel
theorem dX7_enter_1 : decode cX7_enter 1 = .ok (.getfield 40, 3) := by decide +kernel
theorem dX7_enter_4 : decode cX7_enter 4 = .ok (.aload_n 0, 1) := by decide +kernel
theorem dX7_enter_5 : decode cX7_enter 5 = .ok (.getfield 129, 3) := by decide +kernel
theorem dX7_enter_8 : decode cX7_enter 8 = .ok (.iload_n 1, 1) := by decide +kernel
theorem dX7_enter_9 : decode cX7_enter 9 = .ok (.iastore, 1) := by decide +kernel
theorem dX7_enter_10 : decode cX7_enter 10 = .ok (.aload_n 0, 1) := by decide +kernel
theorem dX7_enter_11 : decode cX7_enter 11 = .ok (.getfield 43, 3) := by decide +kernel
theorem dX7_enter_14 : decode cX7_enter 14 = .ok (.aload_n 0, 1) := by decide +kernel
theorem dX7_enter_15 : decode cX7_enter 15 = .ok (.getfield 129, 3) := by decide +kernel
theorem dX7_enter_18 : decode cX7_enter 18 = .ok (.iconst 0, 1) := by decide +kernel
theorem dX7_enter_19 : decode cX7_enter 19 = .ok (.iastore, 1) := by decide +kernel
theorem dX7_enter_20 : decode cX7_enter 20 = .ok (.aload_n 0, 1) := by decide +kernel
theorem dX7_enter_21 : decode cX7_enter 21 = .ok (.getfield 46, 3) := by decide +kernel
theorem dX7_enter_24 : decode cX7_enter 24 = .ok (.aload_n 0, 1) := by decide +kernel
theorem dX7_enter_25 : decode cX7_enter 25 = .ok (.getfield 129, 3) := by decide +kernel
theorem dX7_enter_28 : decode cX7_enter 28 = .ok (.iload 4, 2) := by decide +kernel
theorem dX7_enter_30 : decode cX7_enter 30 = .ok (.iastore, 1) := by decide +kernel
theorem dX7_enter_31 : decode cX7_enter 31 = .ok (.iconst 0, 1) := by decide +kernel
theorem dX7_enter_32 : decode cX7_enter 32 = .ok (.istore 5, 2) := by decide +kernel
theorem dX7_enter_34 : decode cX7_enter 34 = .ok (.iload 5, 2) := by decide +kernel
theorem dX7_enter_36 : decode cX7_enter 36 = .ok (.bipush 6, 2) := by decide +kernel
theorem dX7_enter_38 : decode cX7_enter 38 = .ok (.if_icmp .ge 44, 3) := by decide +kernel
theorem dX7_enter_41 : decode cX7_enter 41 = .ok (.aload_n 0, 1) := by decide +kernel
theorem dX7_enter_42 : decode cX7_enter 42 = .ok (.getfield 49, 3) := by decide +kernel
theorem dX7_enter_45 : decode cX7_enter 45 = .ok (.bipush 6, 2) := by decide +kernel
theorem dX7_enter_47 : decode cX7_enter 47 = .ok (.aload_n 0, 1) := by decide +kernel
theorem dX7_enter_48 : decode cX7_enter 48 = .ok (.getfield 129, 3) := by decide +kernel
theorem dX7_enter_51 : decode cX7_enter 51 = .ok (.imul, 1) := by decide +kernel
theorem dX7_enter_52 : decode cX7_enter 52 = .ok (.iload 5, 2) := by decide +kernel
theorem dX7_enter_54 : decode cX7_enter 54 = .ok (.iadd, 1) := by decide +kernel
theorem dX7_enter_55 : decode cX7_enter 55 = .ok (.iload 5, 2) := by decide +kernel
theorem dX7_enter_57 : decode cX7_enter 57 = .ok (.ifCond .ne 7, 3) := by decide +kernel
theorem dX7_enter_60 : decode cX7_enter 60 = .ok (.iload_n 2, 1) := by decide +kernel
theorem dX7_enter_61 : decode cX7_enter 61 = .ok (.goto 14, 3) := by decide +kernel
theorem dX7_enter_64 : decode cX7_enter 64 = .ok (.iload 5, 2) := by decide +kernel
theorem dX7_enter_66 : decode cX7_enter 66 = .ok (.iconst 1, 1) := by decide +kernel
theorem dX7_enter_67 : decode cX7_enter 67 = .ok (.if_icmp .ne 7, 3) := by decide +kernel
theorem dX7_enter_70 : decode cX7_enter 70 = .ok (.iload_n 3, 1) := by decide +kernel
theorem dX7_enter_71 : decode cX7_enter 71 = .ok (.goto 4, 3) := by decide +kernel
theorem dX7_enter_74 : decode cX7_enter 74 = .ok (.iconst 0, 1) := by decide +kernel
theorem dX7_enter_75 : decode cX7_enter 75 = .ok (.iastore, 1) := by decide +kernel
theorem dX7_enter_76 : decode cX7_enter 76 = .ok (.iinc 5 1, 3) := by decide +kernel
theorem dX7_enter_79 : decode cX7_enter 79 = .ok (.goto (-45), 3) := by decide +kernel
theorem dX7_enter_82 : decode cX7_enter 82 = .ok (.aload_n 0, 1) := by decide +kernel
theorem dX7_enter_83 : decode cX7_enter 83 = .ok (.dup, 1) := by decide +kernel
theorem dX7_enter_84 : decode cX7_enter 84 = .ok (.getfield 129, 3) := by decide +kernel
theorem dX7_enter_87 : decode cX7_enter 87 = .ok (.iconst 1, 1) := by decide +kernel
theorem dX7_enter_88 : decode cX7_enter 88 = .ok (.iadd, 1) := by decide +kernel
theorem dX7_enter_89 : decode cX7_enter 89 = .ok (.putfield 129, 3) := by decide +kernel
theorem dX7_enter_92 : decode cX7_enter 92 = .ok (.aload_n 0, 1) := by decide +kernel
theorem dX7_enter_93 : decode cX7_enter 93 = .ok (.getfield 64, 3) := by decide +kernel
theorem dX7_enter_96 : decode cX7_enter 96 = .ok (.aload_n 0, 1) := by decide +kernel
theorem dX7_enter_97 : decode cX7_enter 97 = .ok (.getfield 132, 3) := by decide +kernel
theorem dX7_enter_100 : decode cX7_enter 100 = .ok (.aload_n 0, 1) := by decide +kernel
theorem dX7_enter_101 : decode cX7_enter 101 = .ok (.getfield 129, 3) := by decide +kernel
theorem dX7_enter_104 : decode cX7_enter 104 = .ok (.aload_n 0, 1) := by decide +kernel
theorem dX7_enter_105 : decode cX7_enter 105 = .ok (.getfield 64, 3) := by decide +kernel
theorem dX7_enter_108 : decode cX7_enter 108 = .ok (.aload_n 0, 1) := by decide +kernel
theorem dX7_enter_109 : decode cX7_enter 109 = .ok (.getfield 132, 3) := by decide +kernel
theorem dX7_enter_112 : decode cX7_enter 112 = .ok (.iaload, 1) := by decide +kernel
theorem dX7_enter_113 : decode cX7_enter 113 = .ok (.if_icmp .le 10, 3) := by decide +kernel
theorem dX7_enter_116 : decode cX7_enter 116 = .ok (.aload_n 0, 1) := by decide +kernel
theorem dX7_enter_117 : decode cX7_enter 117 = .ok (.getfield 129, 3) := by decide +kernel
theorem dX7_enter_120 : decode cX7_enter 120 = .ok (.goto 12, 3) := by decide +kernel
theorem dX7_enter_123 : decode cX7_enter 123 = .ok (.aload_n 0, 1) := by decide +kernel
theorem dX7_enter_124 : decode cX7_enter 124 = .ok (.getfield 64, 3) := by decide +kernel
theorem dX7_enter_127 : decode cX7_enter 127 = .ok (.aload_n 0, 1) := by decide +kernel
theorem dX7_enter_128 : decode cX7_enter 128 = .ok (.getfield 132, 3) := by decide +kernel
theorem dX7_enter_131 : decode cX7_enter 131 = .ok (.iaload, 1) := by decide +kernel
theorem dX7_enter_132 : decode cX7_enter 132 = .ok (.iastore, 1) := by decide +kernel
theorem dX7_enter_133 : decode cX7_enter 133 = .ok (.return_, 1) := by decide +kernel
theorem dX7_returns_0 : decode cX7_returns 0 = .ok (.aload_n 0, 1) := by decide +kernel
theorem dX7_returns_1 : decode cX7_returns 1 = .ok (.dup, 1) := by decide +kernel
theorem dX7_returns_2 : decode cX7_returns 2 = .ok (.getfield 129, 3) := by decide +kernel
theorem dX7_returns_5 : decode cX7_returns 5 = .ok (.iconst 1, 1) := by decide +kernel
theorem dX7_returns_6 : decode cX7_returns 6 = .ok (.isub, 1) := by decide +kernel
theorem dX7_returns_7 : decode cX7_returns 7 = .ok (.putfield 129, 3) := by decide +kernel
theorem dX7_returns_10 : decode cX7_returns 10 = .ok (.aload_n 0, 1) := by decide +kernel
theorem dX7_returns_11 : decode cX7_returns 11 = .ok (.getfield 129, 3) := by decide +kernel
theorem dX7_returns_14 : decode cX7_returns 14 = .ok (.ifCond .ne 26, 3) := by decide +kernel
theorem dX7_returns_17 : decode cX7_returns 17 = .ok (.aload_n 0, 1) := by decide +kernel
theorem dX7_returns_18 : decode cX7_returns 18 = .ok (.getfield 52, 3) := by decide +kernel
theorem dX7_returns_21 : decode cX7_returns 21 = .ok (.aload_n 0, 1) := by decide +kernel
theorem dX7_returns_22 : decode cX7_returns 22 = .ok (.getfield 132, 3) := by decide +kernel
theorem dX7_returns_25 : decode cX7_returns 25 = .ok (.iconst 0, 1) := by decide +kernel
theorem dX7_returns_26 : decode cX7_returns 26 = .ok (.iastore, 1) := by decide +kernel
theorem dX7_returns_27 : decode cX7_returns 27 = .ok (.aload_n 0, 1) := by decide +kernel
theorem dX7_returns_28 : decode cX7_returns 28 = .ok (.getfield 58, 3) := by decide +kernel
theorem dX7_returns_31 : decode cX7_returns 31 = .ok (.aload_n 0, 1) := by decide +kernel
theorem dX7_returns_32 : decode cX7_returns 32 = .ok (.getfield 132, 3) := by decide +kernel
theorem dX7_returns_35 : decode cX7_returns 35 = .ok (.iload_n 1, 1) := by decide +kernel
theorem dX7_returns_36 : decode cX7_returns 36 = .ok (.iastore, 1) := by decide +kernel
theorem dX7_returns_37 : decode cX7_returns 37 = .ok (.goto 28, 3) := by decide +kernel
theorem dX7_returns_40 : decode cX7_returns 40 = .ok (.aload_n 0, 1) := by decide +kernel
theorem dX7_returns_41 : decode cX7_returns 41 = .ok (.getfield 49, 3) := by decide +kernel
theorem dX7_returns_44 : decode cX7_returns 44 = .ok (.bipush 6, 2) := by decide +kernel
theorem dX7_returns_46 : decode cX7_returns 46 = .ok (.aload_n 0, 1) := by decide +kernel
theorem dX7_returns_47 : decode cX7_returns 47 = .ok (.getfield 129, 3) := by decide +kernel
theorem dX7_returns_50 : decode cX7_returns 50 = .ok (.iconst 1, 1) := by decide +kernel
theorem dX7_returns_51 : decode cX7_returns 51 = .ok (.isub, 1) := by decide +kernel
theorem dX7_returns_52 : decode cX7_returns 52 = .ok (.imul, 1) := by decide +kernel
theorem dX7_returns_53 : decode cX7_returns 53 = .ok (.aload_n 0, 1) := by decide +kernel
theorem dX7_returns_54 : decode cX7_returns 54 = .ok (.getfield 46, 3) := by decide +kernel
theorem dX7_returns_57 : decode cX7_returns 57 = .ok (.aload_n 0, 1) := by decide +kernel
theorem dX7_returns_58 : decode cX7_returns 58 = .ok (.getfield 129, 3) := by decide +kernel
theorem dX7_returns_61 : decode cX7_returns 61 = .ok (.iaload, 1) := by decide +kernel
theorem dX7_returns_62 : decode cX7_returns 62 = .ok (.iadd, 1) := by decide +kernel
theorem dX7_returns_63 : decode cX7_returns 63 = .ok (.iload_n 1, 1) := by decide +kernel
theorem dX7_returns_64 : decode cX7_returns 64 = .ok (.iastore, 1) := by decide +kernel
theorem dX7_returns_65 : decode cX7_returns 65 = .ok (.return_, 1) := by decide +kernel
theorem dX7_throwsOut_0 : decode cX7_throwsOut 0 = .ok (.aload_n 0, 1) := by decide +kernel
theorem dX7_throwsOut_1 : decode cX7_throwsOut 1 = .ok (.getfield 52, 3) := by decide +kernel
theorem dX7_throwsOut_4 : decode cX7_throwsOut 4 = .ok (.aload_n 0, 1) := by decide +kernel
theorem dX7_throwsOut_5 : decode cX7_throwsOut 5 = .ok (.getfield 132, 3) := by decide +kernel
theorem dX7_throwsOut_8 : decode cX7_throwsOut 8 = .ok (.iconst 1, 1) := by decide +kernel
theorem dX7_throwsOut_9 : decode cX7_throwsOut 9 = .ok (.iastore, 1) := by decide +kernel
theorem dX7_throwsOut_10 : decode cX7_throwsOut 10 = .ok (.aload_n 0, 1) := by decide +kernel
theorem dX7_throwsOut_11 : decode cX7_throwsOut 11 = .ok (.getfield 55, 3) := by decide +kernel
theorem dX7_throwsOut_14 : decode cX7_throwsOut 14 = .ok (.aload_n 0, 1) := by decide +kernel
theorem dX7_throwsOut_15 : decode cX7_throwsOut 15 = .ok (.getfield 132, 3) := by decide +kernel
theorem dX7_throwsOut_18 : decode cX7_throwsOut 18 = .ok (.iload_n 1, 1) := by decide +kernel
theorem dX7_throwsOut_19 : decode cX7_throwsOut 19 = .ok (.iastore, 1) := by decide +kernel
theorem dX7_throwsOut_20 : decode cX7_throwsOut 20 = .ok (.aload_n 0, 1) := by decide +kernel
theorem dX7_throwsOut_21 : decode cX7_throwsOut 21 = .ok (.getfield 58, 3) := by decide +kernel
theorem dX7_throwsOut_24 : decode cX7_throwsOut 24 = .ok (.aload_n 0, 1) := by decide +kernel
theorem dX7_throwsOut_25 : decode cX7_throwsOut 25 = .ok (.getfield 132, 3) := by decide +kernel
theorem dX7_throwsOut_28 : decode cX7_throwsOut 28 = .ok (.iload_n 2, 1) := by decide +kernel
theorem dX7_throwsOut_29 : decode cX7_throwsOut 29 = .ok (.iastore, 1) := by decide +kernel
theorem dX7_throwsOut_30 : decode cX7_throwsOut 30 = .ok (.return_, 1) := by decide +kernel
theorem dX7_reckoned_0 : decode cX7_reckoned 0 = .ok (.iload_n 0, 1) := by decide +kernel
theorem dX7_reckoned_1 : decode cX7_reckoned 1 = .ok (.tableswitch 71 2 8 #[43, 47, 51, 55, 59, 63, 67], 43) := by decide +kernel
theorem dX7_reckoned_44 : decode cX7_reckoned 44 = .ok (.iload_n 1, 1) := by decide +kernel
theorem dX7_reckoned_45 : decode cX7_reckoned 45 = .ok (.iload_n 2, 1) := by decide +kernel
theorem dX7_reckoned_46 : decode cX7_reckoned 46 = .ok (.iadd, 1) := by decide +kernel
theorem dX7_reckoned_47 : decode cX7_reckoned 47 = .ok (.ireturn, 1) := by decide +kernel
theorem dX7_reckoned_48 : decode cX7_reckoned 48 = .ok (.iload_n 1, 1) := by decide +kernel
theorem dX7_reckoned_49 : decode cX7_reckoned 49 = .ok (.iload_n 2, 1) := by decide +kernel
theorem dX7_reckoned_50 : decode cX7_reckoned 50 = .ok (.isub, 1) := by decide +kernel
theorem dX7_reckoned_51 : decode cX7_reckoned 51 = .ok (.ireturn, 1) := by decide +kernel
theorem dX7_reckoned_52 : decode cX7_reckoned 52 = .ok (.iload_n 1, 1) := by decide +kernel
theorem dX7_reckoned_53 : decode cX7_reckoned 53 = .ok (.iload_n 2, 1) := by decide +kernel
theorem dX7_reckoned_54 : decode cX7_reckoned 54 = .ok (.imul, 1) := by decide +kernel
theorem dX7_reckoned_55 : decode cX7_reckoned 55 = .ok (.ireturn, 1) := by decide +kernel
theorem dX7_reckoned_56 : decode cX7_reckoned 56 = .ok (.iload_n 1, 1) := by decide +kernel
theorem dX7_reckoned_57 : decode cX7_reckoned 57 = .ok (.iload_n 2, 1) := by decide +kernel
theorem dX7_reckoned_58 : decode cX7_reckoned 58 = .ok (.idiv, 1) := by decide +kernel
theorem dX7_reckoned_59 : decode cX7_reckoned 59 = .ok (.ireturn, 1) := by decide +kernel
theorem dX7_reckoned_60 : decode cX7_reckoned 60 = .ok (.iload_n 1, 1) := by decide +kernel
theorem dX7_reckoned_61 : decode cX7_reckoned 61 = .ok (.iload_n 2, 1) := by decide +kernel
theorem dX7_reckoned_62 : decode cX7_reckoned 62 = .ok (.irem, 1) := by decide +kernel
theorem dX7_reckoned_63 : decode cX7_reckoned 63 = .ok (.ireturn, 1) := by decide +kernel
theorem dX7_reckoned_64 : decode cX7_reckoned 64 = .ok (.iload_n 1, 1) := by decide +kernel
theorem dX7_reckoned_65 : decode cX7_reckoned 65 = .ok (.iload_n 2, 1) := by decide +kernel
theorem dX7_reckoned_66 : decode cX7_reckoned 66 = .ok (.iand, 1) := by decide +kernel
theorem dX7_reckoned_67 : decode cX7_reckoned 67 = .ok (.ireturn, 1) := by decide +kernel
theorem dX7_reckoned_68 : decode cX7_reckoned 68 = .ok (.iload_n 1, 1) := by decide +kernel
theorem dX7_reckoned_69 : decode cX7_reckoned 69 = .ok (.iload_n 2, 1) := by decide +kernel
theorem dX7_reckoned_70 : decode cX7_reckoned 70 = .ok (.ixor, 1) := by decide +kernel
theorem dX7_reckoned_71 : decode cX7_reckoned 71 = .ok (.ireturn, 1) := by decide +kernel
theorem dX7_reckoned_72 : decode cX7_reckoned 72 = .ok (.iload_n 1, 1) := by decide +kernel
theorem dX7_reckoned_73 : decode cX7_reckoned 73 = .ok (.iload_n 2, 1) := by decide +kernel
theorem dX7_reckoned_74 : decode cX7_reckoned 74 = .ok (.if_icmp .ge 7, 3) := by decide +kernel
theorem dX7_reckoned_77 : decode cX7_reckoned 77 = .ok (.iconst 1, 1) := by decide +kernel
theorem dX7_reckoned_78 : decode cX7_reckoned 78 = .ok (.goto 4, 3) := by decide +kernel
theorem dX7_reckoned_81 : decode cX7_reckoned 81 = .ok (.iconst 0, 1) := by decide +kernel
theorem dX7_reckoned_82 : decode cX7_reckoned 82 = .ok (.ireturn, 1) := by decide +kernel
theorem ggX7_calls_X7_throwsOut : GoodIn wsX7_calls wsX7_throwsOut := goodIn_mem (fun _ h => List.mem_cons_of_mem _ (List.mem_append_left _ (List.mem_append_right _ (List.mem_append_left _ h)))) ok_wsX7_throwsOut
set_option maxRecDepth 20000 in
theorem gX7_calls_X7_throwsOut : GoodIn wsX7_calls (wsV RX7 135 RX7 yX7_throwsOut wsX7_throwsOut) := goodIn_app (goodIn_of _ (by decide +kernel)) ggX7_calls_X7_throwsOut
theorem ggX7_calls_X7_enter : GoodIn wsX7_calls wsX7_enter := goodIn_mem (fun _ h => List.mem_cons_of_mem _ (List.mem_append_left _ (List.mem_append_right _ (List.mem_append_right _ h)))) ok_wsX7_enter
set_option maxRecDepth 20000 in
theorem gX7_calls_X7_enter : GoodIn wsX7_calls (wsV RX7 143 RX7 yX7_enter wsX7_enter) := goodIn_app (goodIn_of _ (by decide +kernel)) ggX7_calls_X7_enter
theorem dX7_calls_0 : decode cX7_calls 0 = .ok (.aload_n 0, 1) := by decide +kernel
theorem dX7_calls_1 : decode cX7_calls 1 = .ok (.getfield 22, 3) := by decide +kernel
theorem dX7_calls_4 : decode cX7_calls 4 = .ok (.iload_n 1, 1) := by decide +kernel
theorem dX7_calls_5 : decode cX7_calls 5 = .ok (.iaload, 1) := by decide +kernel
theorem dX7_calls_6 : decode cX7_calls 6 = .ok (.istore 4, 2) := by decide +kernel
theorem dX7_calls_8 : decode cX7_calls 8 = .ok (.aload_n 0, 1) := by decide +kernel
theorem dX7_calls_9 : decode cX7_calls 9 = .ok (.getfield 49, 3) := by decide +kernel
theorem dX7_calls_12 : decode cX7_calls 12 = .ok (.iload_n 2, 1) := by decide +kernel
theorem dX7_calls_13 : decode cX7_calls 13 = .ok (.aload_n 0, 1) := by decide +kernel
theorem dX7_calls_14 : decode cX7_calls 14 = .ok (.getfield 25, 3) := by decide +kernel
theorem dX7_calls_17 : decode cX7_calls 17 = .ok (.iload_n 1, 1) := by decide +kernel
theorem dX7_calls_18 : decode cX7_calls 18 = .ok (.iaload, 1) := by decide +kernel
theorem dX7_calls_19 : decode cX7_calls 19 = .ok (.iadd, 1) := by decide +kernel
theorem dX7_calls_20 : decode cX7_calls 20 = .ok (.iaload, 1) := by decide +kernel
theorem dX7_calls_21 : decode cX7_calls 21 = .ok (.istore 5, 2) := by decide +kernel
theorem dX7_calls_23 : decode cX7_calls 23 = .ok (.aload_n 0, 1) := by decide +kernel
theorem dX7_calls_24 : decode cX7_calls 24 = .ok (.getfield 49, 3) := by decide +kernel
theorem dX7_calls_27 : decode cX7_calls 27 = .ok (.iload_n 2, 1) := by decide +kernel
theorem dX7_calls_28 : decode cX7_calls 28 = .ok (.aload_n 0, 1) := by decide +kernel
theorem dX7_calls_29 : decode cX7_calls 29 = .ok (.getfield 25, 3) := by decide +kernel
theorem dX7_calls_32 : decode cX7_calls 32 = .ok (.iload_n 1, 1) := by decide +kernel
theorem dX7_calls_33 : decode cX7_calls 33 = .ok (.iaload, 1) := by decide +kernel
theorem dX7_calls_34 : decode cX7_calls 34 = .ok (.iconst 1, 1) := by decide +kernel
theorem dX7_calls_35 : decode cX7_calls 35 = .ok (.iadd, 1) := by decide +kernel
theorem dX7_calls_36 : decode cX7_calls 36 = .ok (.bipush 6, 2) := by decide +kernel
theorem dX7_calls_38 : decode cX7_calls 38 = .ok (.irem, 1) := by decide +kernel
theorem dX7_calls_39 : decode cX7_calls 39 = .ok (.iadd, 1) := by decide +kernel
theorem dX7_calls_40 : decode cX7_calls 40 = .ok (.iaload, 1) := by decide +kernel
theorem dX7_calls_41 : decode cX7_calls 41 = .ok (.istore 6, 2) := by decide +kernel
theorem dX7_calls_43 : decode cX7_calls 43 = .ok (.iload 4, 2) := by decide +kernel
theorem dX7_calls_45 : decode cX7_calls 45 = .ok (.aload_n 0, 1) := by decide +kernel
theorem dX7_calls_46 : decode cX7_calls 46 = .ok (.getfield 7, 3) := by decide +kernel
theorem dX7_calls_49 : decode cX7_calls 49 = .ok (.iload_n 3, 1) := by decide +kernel
theorem dX7_calls_50 : decode cX7_calls 50 = .ok (.iaload, 1) := by decide +kernel
theorem dX7_calls_51 : decode cX7_calls 51 = .ok (.if_icmp .lt 14, 3) := by decide +kernel
theorem dX7_calls_54 : decode cX7_calls 54 = .ok (.aload_n 0, 1) := by decide +kernel
theorem dX7_calls_55 : decode cX7_calls 55 = .ok (.bipush 8, 2) := by decide +kernel
theorem dX7_calls_57 : decode cX7_calls 57 = .ok (.iload 4, 2) := by decide +kernel
theorem dX7_calls_59 : decode cX7_calls 59 = .ok (.invokevirtual 135, 3) := by decide +kernel
theorem dX7_calls_62 : decode cX7_calls 62 = .ok (.goto 201, 3) := by decide +kernel
theorem dX7_calls_65 : decode cX7_calls 65 = .ok (.aload_n 0, 1) := by decide +kernel
theorem dX7_calls_66 : decode cX7_calls 66 = .ok (.getfield 139, 3) := by decide +kernel
theorem dX7_calls_69 : decode cX7_calls 69 = .ok (.ifCond .ne 44, 3) := by decide +kernel
theorem dX7_calls_72 : decode cX7_calls 72 = .ok (.aload_n 0, 1) := by decide +kernel
theorem dX7_calls_73 : decode cX7_calls 73 = .ok (.getfield 129, 3) := by decide +kernel
theorem dX7_calls_76 : decode cX7_calls 76 = .ok (.bipush 8, 2) := by decide +kernel
theorem dX7_calls_78 : decode cX7_calls 78 = .ok (.if_icmp .ne 16, 3) := by decide +kernel
theorem dX7_calls_81 : decode cX7_calls 81 = .ok (.aload_n 0, 1) := by decide +kernel
theorem dX7_calls_82 : decode cX7_calls 82 = .ok (.getfield 52, 3) := by decide +kernel
theorem dX7_calls_85 : decode cX7_calls 85 = .ok (.aload_n 0, 1) := by decide +kernel
theorem dX7_calls_86 : decode cX7_calls 86 = .ok (.getfield 132, 3) := by decide +kernel
theorem dX7_calls_89 : decode cX7_calls 89 = .ok (.iconst 2, 1) := by decide +kernel
theorem dX7_calls_90 : decode cX7_calls 90 = .ok (.iastore, 1) := by decide +kernel
theorem dX7_calls_91 : decode cX7_calls 91 = .ok (.goto 172, 3) := by decide +kernel
theorem dX7_calls_94 : decode cX7_calls 94 = .ok (.aload_n 0, 1) := by decide +kernel
theorem dX7_calls_95 : decode cX7_calls 95 = .ok (.iload 4, 2) := by decide +kernel
theorem dX7_calls_97 : decode cX7_calls 97 = .ok (.iload 5, 2) := by decide +kernel
theorem dX7_calls_99 : decode cX7_calls 99 = .ok (.iload 6, 2) := by decide +kernel
theorem dX7_calls_101 : decode cX7_calls 101 = .ok (.aload_n 0, 1) := by decide +kernel
theorem dX7_calls_102 : decode cX7_calls 102 = .ok (.getfield 19, 3) := by decide +kernel
theorem dX7_calls_105 : decode cX7_calls 105 = .ok (.iload_n 1, 1) := by decide +kernel
theorem dX7_calls_106 : decode cX7_calls 106 = .ok (.iaload, 1) := by decide +kernel
theorem dX7_calls_107 : decode cX7_calls 107 = .ok (.invokevirtual 143, 3) := by decide +kernel
theorem dX7_calls_110 : decode cX7_calls 110 = .ok (.goto 153, 3) := by decide +kernel
theorem dX7_calls_113 : decode cX7_calls 113 = .ok (.aload_n 0, 1) := by decide +kernel
theorem dX7_calls_114 : decode cX7_calls 114 = .ok (.getfield 79, 3) := by decide +kernel
theorem dX7_calls_117 : decode cX7_calls 117 = .ok (.aload_n 0, 1) := by decide +kernel
theorem dX7_calls_118 : decode cX7_calls 118 = .ok (.getfield 132, 3) := by decide +kernel
theorem dX7_calls_121 : decode cX7_calls 121 = .ok (.iaload, 1) := by decide +kernel
theorem dX7_calls_122 : decode cX7_calls 122 = .ok (.iconst 2, 1) := by decide +kernel
theorem dX7_calls_123 : decode cX7_calls 123 = .ok (.if_icmp .ne 16, 3) := by decide +kernel
theorem dX7_calls_126 : decode cX7_calls 126 = .ok (.aload_n 0, 1) := by decide +kernel
theorem dX7_calls_127 : decode cX7_calls 127 = .ok (.getfield 52, 3) := by decide +kernel
theorem dX7_calls_130 : decode cX7_calls 130 = .ok (.aload_n 0, 1) := by decide +kernel
theorem dX7_calls_131 : decode cX7_calls 131 = .ok (.getfield 132, 3) := by decide +kernel
theorem dX7_calls_134 : decode cX7_calls 134 = .ok (.iconst 2, 1) := by decide +kernel
theorem dX7_calls_135 : decode cX7_calls 135 = .ok (.iastore, 1) := by decide +kernel
theorem dX7_calls_136 : decode cX7_calls 136 = .ok (.goto 127, 3) := by decide +kernel
theorem dX7_calls_139 : decode cX7_calls 139 = .ok (.aload_n 0, 1) := by decide +kernel
theorem dX7_calls_140 : decode cX7_calls 140 = .ok (.getfield 79, 3) := by decide +kernel
theorem dX7_calls_143 : decode cX7_calls 143 = .ok (.aload_n 0, 1) := by decide +kernel
theorem dX7_calls_144 : decode cX7_calls 144 = .ok (.getfield 132, 3) := by decide +kernel
theorem dX7_calls_147 : decode cX7_calls 147 = .ok (.iaload, 1) := by decide +kernel
theorem dX7_calls_148 : decode cX7_calls 148 = .ok (.istore 7, 2) := by decide +kernel
theorem dX7_calls_150 : decode cX7_calls 150 = .ok (.aload_n 0, 1) := by decide +kernel
theorem dX7_calls_151 : decode cX7_calls 151 = .ok (.getfield 82, 3) := by decide +kernel
theorem dX7_calls_154 : decode cX7_calls 154 = .ok (.iconst 2, 1) := by decide +kernel
theorem dX7_calls_155 : decode cX7_calls 155 = .ok (.aload_n 0, 1) := by decide +kernel
theorem dX7_calls_156 : decode cX7_calls 156 = .ok (.getfield 132, 3) := by decide +kernel
theorem dX7_calls_159 : decode cX7_calls 159 = .ok (.imul, 1) := by decide +kernel
theorem dX7_calls_160 : decode cX7_calls 160 = .ok (.iload 7, 2) := by decide +kernel
theorem dX7_calls_162 : decode cX7_calls 162 = .ok (.iadd, 1) := by decide +kernel
theorem dX7_calls_163 : decode cX7_calls 163 = .ok (.iload 4, 2) := by decide +kernel
theorem dX7_calls_165 : decode cX7_calls 165 = .ok (.iastore, 1) := by decide +kernel
theorem dX7_calls_166 : decode cX7_calls 166 = .ok (.aload_n 0, 1) := by decide +kernel
theorem dX7_calls_167 : decode cX7_calls 167 = .ok (.getfield 85, 3) := by decide +kernel
theorem dX7_calls_170 : decode cX7_calls 170 = .ok (.iconst 2, 1) := by decide +kernel
theorem dX7_calls_171 : decode cX7_calls 171 = .ok (.aload_n 0, 1) := by decide +kernel
theorem dX7_calls_172 : decode cX7_calls 172 = .ok (.getfield 132, 3) := by decide +kernel
theorem dX7_calls_175 : decode cX7_calls 175 = .ok (.imul, 1) := by decide +kernel
theorem dX7_calls_176 : decode cX7_calls 176 = .ok (.iload 7, 2) := by decide +kernel
theorem dX7_calls_178 : decode cX7_calls 178 = .ok (.iadd, 1) := by decide +kernel
theorem dX7_calls_179 : decode cX7_calls 179 = .ok (.iload 5, 2) := by decide +kernel
theorem dX7_calls_181 : decode cX7_calls 181 = .ok (.iastore, 1) := by decide +kernel
theorem dX7_calls_182 : decode cX7_calls 182 = .ok (.aload_n 0, 1) := by decide +kernel
theorem dX7_calls_183 : decode cX7_calls 183 = .ok (.getfield 88, 3) := by decide +kernel
theorem dX7_calls_186 : decode cX7_calls 186 = .ok (.iconst 2, 1) := by decide +kernel
theorem dX7_calls_187 : decode cX7_calls 187 = .ok (.aload_n 0, 1) := by decide +kernel
theorem dX7_calls_188 : decode cX7_calls 188 = .ok (.getfield 132, 3) := by decide +kernel
theorem dX7_calls_191 : decode cX7_calls 191 = .ok (.imul, 1) := by decide +kernel
theorem dX7_calls_192 : decode cX7_calls 192 = .ok (.iload 7, 2) := by decide +kernel
theorem dX7_calls_194 : decode cX7_calls 194 = .ok (.iadd, 1) := by decide +kernel
theorem dX7_calls_195 : decode cX7_calls 195 = .ok (.iload 6, 2) := by decide +kernel
theorem dX7_calls_197 : decode cX7_calls 197 = .ok (.iastore, 1) := by decide +kernel
theorem dX7_calls_198 : decode cX7_calls 198 = .ok (.aload_n 0, 1) := by decide +kernel
theorem dX7_calls_199 : decode cX7_calls 199 = .ok (.getfield 79, 3) := by decide +kernel
theorem dX7_calls_202 : decode cX7_calls 202 = .ok (.aload_n 0, 1) := by decide +kernel
theorem dX7_calls_203 : decode cX7_calls 203 = .ok (.getfield 132, 3) := by decide +kernel
theorem dX7_calls_206 : decode cX7_calls 206 = .ok (.dup2, 1) := by decide +kernel
theorem dX7_calls_207 : decode cX7_calls 207 = .ok (.iaload, 1) := by decide +kernel
theorem dX7_calls_208 : decode cX7_calls 208 = .ok (.iconst 1, 1) := by decide +kernel
theorem dX7_calls_209 : decode cX7_calls 209 = .ok (.iadd, 1) := by decide +kernel
theorem dX7_calls_210 : decode cX7_calls 210 = .ok (.iastore, 1) := by decide +kernel
theorem dX7_calls_211 : decode cX7_calls 211 = .ok (.iload 7, 2) := by decide +kernel
theorem dX7_calls_213 : decode cX7_calls 213 = .ok (.ifCond .ne 10, 3) := by decide +kernel
theorem dX7_calls_216 : decode cX7_calls 216 = .ok (.aload_n 0, 1) := by decide +kernel
theorem dX7_calls_217 : decode cX7_calls 217 = .ok (.getfield 147, 3) := by decide +kernel
theorem dX7_calls_220 : decode cX7_calls 220 = .ok (.goto 7, 3) := by decide +kernel
theorem dX7_calls_223 : decode cX7_calls 223 = .ok (.aload_n 0, 1) := by decide +kernel
theorem dX7_calls_224 : decode cX7_calls 224 = .ok (.getfield 150, 3) := by decide +kernel
theorem dX7_calls_227 : decode cX7_calls 227 = .ok (.istore 8, 2) := by decide +kernel
theorem dX7_calls_229 : decode cX7_calls 229 = .ok (.iload 8, 2) := by decide +kernel
theorem dX7_calls_231 : decode cX7_calls 231 = .ok (.aload_n 0, 1) := by decide +kernel
theorem dX7_calls_232 : decode cX7_calls 232 = .ok (.getfield 107, 3) := by decide +kernel
theorem dX7_calls_235 : decode cX7_calls 235 = .ok (.if_icmp .le 13, 3) := by decide +kernel
theorem dX7_calls_238 : decode cX7_calls 238 = .ok (.aload_n 0, 1) := by decide +kernel
theorem dX7_calls_239 : decode cX7_calls 239 = .ok (.bipush 9, 2) := by decide +kernel
theorem dX7_calls_241 : decode cX7_calls 241 = .ok (.iconst 0, 1) := by decide +kernel
theorem dX7_calls_242 : decode cX7_calls 242 = .ok (.invokevirtual 135, 3) := by decide +kernel
theorem dX7_calls_245 : decode cX7_calls 245 = .ok (.goto 18, 3) := by decide +kernel
theorem dX7_calls_248 : decode cX7_calls 248 = .ok (.aload_n 0, 1) := by decide +kernel
theorem dX7_calls_249 : decode cX7_calls 249 = .ok (.getfield 49, 3) := by decide +kernel
theorem dX7_calls_252 : decode cX7_calls 252 = .ok (.iload_n 2, 1) := by decide +kernel
theorem dX7_calls_253 : decode cX7_calls 253 = .ok (.aload_n 0, 1) := by decide +kernel
theorem dX7_calls_254 : decode cX7_calls 254 = .ok (.getfield 19, 3) := by decide +kernel
theorem dX7_calls_257 : decode cX7_calls 257 = .ok (.iload_n 1, 1) := by decide +kernel
theorem dX7_calls_258 : decode cX7_calls 258 = .ok (.iaload, 1) := by decide +kernel
theorem dX7_calls_259 : decode cX7_calls 259 = .ok (.iadd, 1) := by decide +kernel
theorem dX7_calls_260 : decode cX7_calls 260 = .ok (.iload 8, 2) := by decide +kernel
theorem dX7_calls_262 : decode cX7_calls 262 = .ok (.iastore, 1) := by decide +kernel
theorem dX7_calls_263 : decode cX7_calls 263 = .ok (.return_, 1) := by decide +kernel
theorem dX7_tell_0 : decode cX7_tell 0 = .ok (.aload_n 0, 1) := by decide +kernel
theorem dX7_tell_1 : decode cX7_tell 1 = .ok (.getfield 67, 3) := by decide +kernel
theorem dX7_tell_4 : decode cX7_tell 4 = .ok (.aload_n 0, 1) := by decide +kernel
theorem dX7_tell_5 : decode cX7_tell 5 = .ok (.getfield 132, 3) := by decide +kernel
theorem dX7_tell_8 : decode cX7_tell 8 = .ok (.iaload, 1) := by decide +kernel
theorem dX7_tell_9 : decode cX7_tell 9 = .ok (.bipush 40, 2) := by decide +kernel
theorem dX7_tell_11 : decode cX7_tell 11 = .ok (.if_icmp .ne 14, 3) := by decide +kernel
theorem dX7_tell_14 : decode cX7_tell 14 = .ok (.aload_n 0, 1) := by decide +kernel
theorem dX7_tell_15 : decode cX7_tell 15 = .ok (.getfield 52, 3) := by decide +kernel
theorem dX7_tell_18 : decode cX7_tell 18 = .ok (.aload_n 0, 1) := by decide +kernel
theorem dX7_tell_19 : decode cX7_tell 19 = .ok (.getfield 132, 3) := by decide +kernel
theorem dX7_tell_22 : decode cX7_tell 22 = .ok (.iconst 2, 1) := by decide +kernel
theorem dX7_tell_23 : decode cX7_tell 23 = .ok (.iastore, 1) := by decide +kernel
theorem dX7_tell_24 : decode cX7_tell 24 = .ok (.return_, 1) := by decide +kernel
theorem dX7_tell_25 : decode cX7_tell 25 = .ok (.bipush 40, 2) := by decide +kernel
theorem dX7_tell_27 : decode cX7_tell 27 = .ok (.aload_n 0, 1) := by decide +kernel
theorem dX7_tell_28 : decode cX7_tell 28 = .ok (.getfield 132, 3) := by decide +kernel
theorem dX7_tell_31 : decode cX7_tell 31 = .ok (.imul, 1) := by decide +kernel
theorem dX7_tell_32 : decode cX7_tell 32 = .ok (.aload_n 0, 1) := by decide +kernel
theorem dX7_tell_33 : decode cX7_tell 33 = .ok (.getfield 67, 3) := by decide +kernel
theorem dX7_tell_36 : decode cX7_tell 36 = .ok (.aload_n 0, 1) := by decide +kernel
theorem dX7_tell_37 : decode cX7_tell 37 = .ok (.getfield 132, 3) := by decide +kernel
theorem dX7_tell_40 : decode cX7_tell 40 = .ok (.iaload, 1) := by decide +kernel
theorem dX7_tell_41 : decode cX7_tell 41 = .ok (.iadd, 1) := by decide +kernel
theorem dX7_tell_42 : decode cX7_tell 42 = .ok (.istore_n 3, 1) := by decide +kernel
theorem dX7_tell_43 : decode cX7_tell 43 = .ok (.aload_n 0, 1) := by decide +kernel
theorem dX7_tell_44 : decode cX7_tell 44 = .ok (.getfield 70, 3) := by decide +kernel
theorem dX7_tell_47 : decode cX7_tell 47 = .ok (.iload_n 3, 1) := by decide +kernel
theorem dX7_tell_48 : decode cX7_tell 48 = .ok (.iload_n 1, 1) := by decide +kernel
theorem dX7_tell_49 : decode cX7_tell 49 = .ok (.iastore, 1) := by decide +kernel
theorem dX7_tell_50 : decode cX7_tell 50 = .ok (.aload_n 0, 1) := by decide +kernel
theorem dX7_tell_51 : decode cX7_tell 51 = .ok (.getfield 73, 3) := by decide +kernel
theorem dX7_tell_54 : decode cX7_tell 54 = .ok (.iload_n 3, 1) := by decide +kernel
theorem dX7_tell_55 : decode cX7_tell 55 = .ok (.iload_n 2, 1) := by decide +kernel
theorem dX7_tell_56 : decode cX7_tell 56 = .ok (.iastore, 1) := by decide +kernel
theorem dX7_tell_57 : decode cX7_tell 57 = .ok (.aload_n 0, 1) := by decide +kernel
theorem dX7_tell_58 : decode cX7_tell 58 = .ok (.getfield 76, 3) := by decide +kernel
theorem dX7_tell_61 : decode cX7_tell 61 = .ok (.iload_n 3, 1) := by decide +kernel
theorem dX7_tell_62 : decode cX7_tell 62 = .ok (.aload_n 0, 1) := by decide +kernel
theorem dX7_tell_63 : decode cX7_tell 63 = .ok (.getfield 79, 3) := by decide +kernel
theorem dX7_tell_66 : decode cX7_tell 66 = .ok (.aload_n 0, 1) := by decide +kernel
theorem dX7_tell_67 : decode cX7_tell 67 = .ok (.getfield 132, 3) := by decide +kernel
theorem dX7_tell_70 : decode cX7_tell 70 = .ok (.iaload, 1) := by decide +kernel
theorem dX7_tell_71 : decode cX7_tell 71 = .ok (.iastore, 1) := by decide +kernel
theorem dX7_tell_72 : decode cX7_tell 72 = .ok (.aload_n 0, 1) := by decide +kernel
theorem dX7_tell_73 : decode cX7_tell 73 = .ok (.getfield 67, 3) := by decide +kernel
theorem dX7_tell_76 : decode cX7_tell 76 = .ok (.aload_n 0, 1) := by decide +kernel
theorem dX7_tell_77 : decode cX7_tell 77 = .ok (.getfield 132, 3) := by decide +kernel
theorem dX7_tell_80 : decode cX7_tell 80 = .ok (.dup2, 1) := by decide +kernel
theorem dX7_tell_81 : decode cX7_tell 81 = .ok (.iaload, 1) := by decide +kernel
theorem dX7_tell_82 : decode cX7_tell 82 = .ok (.iconst 1, 1) := by decide +kernel
theorem dX7_tell_83 : decode cX7_tell 83 = .ok (.iadd, 1) := by decide +kernel
theorem dX7_tell_84 : decode cX7_tell 84 = .ok (.iastore, 1) := by decide +kernel
theorem dX7_tell_85 : decode cX7_tell 85 = .ok (.return_, 1) := by decide +kernel
theorem ggX7_act_X7_tell : GoodIn wsX7_act wsX7_tell := goodIn_mem (fun _ h => List.mem_cons_of_mem _ (List.mem_append_left _ (List.mem_append_right _ (List.mem_append_left _ h)))) ok_wsX7_tell
set_option maxRecDepth 20000 in
theorem gX7_act_X7_tell : GoodIn wsX7_act (wsV RX7 153 RX7 yX7_tell wsX7_tell) := goodIn_app (goodIn_of _ (by decide +kernel)) ggX7_act_X7_tell
theorem ggX7_act_X7_calls : GoodIn wsX7_act wsX7_calls := goodIn_mem (fun _ h => List.mem_cons_of_mem _ (List.mem_append_left _ (List.mem_append_right _ (List.mem_append_right _ (List.mem_append_left _ h))))) ok_wsX7_calls
set_option maxRecDepth 20000 in
theorem gX7_act_X7_calls : GoodIn wsX7_act (wsV RX7 156 RX7 yX7_calls wsX7_calls) := goodIn_app (goodIn_of _ (by decide +kernel)) ggX7_act_X7_calls
theorem ggX7_act_X7_returns : GoodIn wsX7_act wsX7_returns := goodIn_mem (fun _ h => List.mem_cons_of_mem _ (List.mem_append_left _ (List.mem_append_right _ (List.mem_append_right _ (List.mem_append_right _ (List.mem_append_left _ h)))))) ok_wsX7_returns
set_option maxRecDepth 20000 in
theorem gX7_act_X7_returns : GoodIn wsX7_act (wsV RX7 160 RX7 yX7_returns wsX7_returns) := goodIn_app (goodIn_of _ (by decide +kernel)) ggX7_act_X7_returns
theorem ggX7_act_X7_throwsOut : GoodIn wsX7_act wsX7_throwsOut := goodIn_mem (fun _ h => List.mem_cons_of_mem _ (List.mem_append_left _ (List.mem_append_right _ (List.mem_append_right _ (List.mem_append_right _ (List.mem_append_right _ (List.mem_append_left _ h))))))) ok_wsX7_throwsOut
set_option maxRecDepth 20000 in
theorem gX7_act_X7_throwsOut : GoodIn wsX7_act (wsV RX7 135 RX7 yX7_throwsOut wsX7_throwsOut) := goodIn_app (goodIn_of _ (by decide +kernel)) ggX7_act_X7_throwsOut
theorem ggX7_act_X7_reckoned : GoodIn wsX7_act wsX7_reckoned := goodIn_mem (fun _ h => List.mem_cons_of_mem _ (List.mem_append_left _ (List.mem_append_right _ (List.mem_append_right _ (List.mem_append_right _ (List.mem_append_right _ (List.mem_append_right _ h))))))) ok_wsX7_reckoned
set_option maxRecDepth 20000 in
theorem gX7_act_X7_reckoned : GoodIn wsX7_act (va_wsS RX7 164 yX7_reckoned wsX7_reckoned) := goodIn_app (goodIn_of _ (by decide +kernel)) ggX7_act_X7_reckoned
theorem dX7_act_0 : decode cX7_act 0 = .ok (.bipush 6, 2) := by decide +kernel
theorem dX7_act_2 : decode cX7_act 2 = .ok (.iload_n 2, 1) := by decide +kernel
theorem dX7_act_3 : decode cX7_act 3 = .ok (.imul, 1) := by decide +kernel
theorem dX7_act_4 : decode cX7_act 4 = .ok (.istore 4, 2) := by decide +kernel
theorem dX7_act_6 : decode cX7_act 6 = .ok (.aload_n 0, 1) := by decide +kernel
theorem dX7_act_7 : decode cX7_act 7 = .ok (.getfield 16, 3) := by decide +kernel
theorem dX7_act_10 : decode cX7_act 10 = .ok (.iload_n 1, 1) := by decide +kernel
theorem dX7_act_11 : decode cX7_act 11 = .ok (.iaload, 1) := by decide +kernel
theorem dX7_act_12 : decode cX7_act 12 = .ok (.istore 5, 2) := by decide +kernel
theorem dX7_act_14 : decode cX7_act 14 = .ok (.aload_n 0, 1) := by decide +kernel
theorem dX7_act_15 : decode cX7_act 15 = .ok (.getfield 19, 3) := by decide +kernel
theorem dX7_act_18 : decode cX7_act 18 = .ok (.iload_n 1, 1) := by decide +kernel
theorem dX7_act_19 : decode cX7_act 19 = .ok (.iaload, 1) := by decide +kernel
theorem dX7_act_20 : decode cX7_act 20 = .ok (.istore 6, 2) := by decide +kernel
theorem dX7_act_22 : decode cX7_act 22 = .ok (.aload_n 0, 1) := by decide +kernel
theorem dX7_act_23 : decode cX7_act 23 = .ok (.getfield 22, 3) := by decide +kernel
theorem dX7_act_26 : decode cX7_act 26 = .ok (.iload_n 1, 1) := by decide +kernel
theorem dX7_act_27 : decode cX7_act 27 = .ok (.iaload, 1) := by decide +kernel
theorem dX7_act_28 : decode cX7_act 28 = .ok (.istore 7, 2) := by decide +kernel
theorem dX7_act_30 : decode cX7_act 30 = .ok (.iload 5, 2) := by decide +kernel
theorem dX7_act_32 : decode cX7_act 32 = .ok (.tableswitch 228 0 15 #[80, 95, 228, 228, 228, 228, 228, 228, 228, 228, 118, 151, 162, 181, 192, 209], 80) := by decide +kernel
theorem dX7_act_112 : decode cX7_act 112 = .ok (.aload_n 0, 1) := by decide +kernel
theorem dX7_act_113 : decode cX7_act 113 = .ok (.getfield 49, 3) := by decide +kernel
theorem dX7_act_116 : decode cX7_act 116 = .ok (.iload 4, 2) := by decide +kernel
theorem dX7_act_118 : decode cX7_act 118 = .ok (.iload 6, 2) := by decide +kernel
theorem dX7_act_120 : decode cX7_act 120 = .ok (.iadd, 1) := by decide +kernel
theorem dX7_act_121 : decode cX7_act 121 = .ok (.iload 7, 2) := by decide +kernel
theorem dX7_act_123 : decode cX7_act 123 = .ok (.iastore, 1) := by decide +kernel
theorem dX7_act_124 : decode cX7_act 124 = .ok (.goto 215, 3) := by decide +kernel
theorem dX7_act_127 : decode cX7_act 127 = .ok (.aload_n 0, 1) := by decide +kernel
theorem dX7_act_128 : decode cX7_act 128 = .ok (.getfield 49, 3) := by decide +kernel
theorem dX7_act_131 : decode cX7_act 131 = .ok (.iload 4, 2) := by decide +kernel
theorem dX7_act_133 : decode cX7_act 133 = .ok (.iload 6, 2) := by decide +kernel
theorem dX7_act_135 : decode cX7_act 135 = .ok (.iadd, 1) := by decide +kernel
theorem dX7_act_136 : decode cX7_act 136 = .ok (.aload_n 0, 1) := by decide +kernel
theorem dX7_act_137 : decode cX7_act 137 = .ok (.getfield 49, 3) := by decide +kernel
theorem dX7_act_140 : decode cX7_act 140 = .ok (.iload 4, 2) := by decide +kernel
theorem dX7_act_142 : decode cX7_act 142 = .ok (.iload 7, 2) := by decide +kernel
theorem dX7_act_144 : decode cX7_act 144 = .ok (.iadd, 1) := by decide +kernel
theorem dX7_act_145 : decode cX7_act 145 = .ok (.iaload, 1) := by decide +kernel
theorem dX7_act_146 : decode cX7_act 146 = .ok (.iastore, 1) := by decide +kernel
theorem dX7_act_147 : decode cX7_act 147 = .ok (.goto 192, 3) := by decide +kernel
theorem dX7_act_150 : decode cX7_act 150 = .ok (.aload_n 0, 1) := by decide +kernel
theorem dX7_act_151 : decode cX7_act 151 = .ok (.getfield 43, 3) := by decide +kernel
theorem dX7_act_154 : decode cX7_act 154 = .ok (.iload_n 2, 1) := by decide +kernel
theorem dX7_act_155 : decode cX7_act 155 = .ok (.aload_n 0, 1) := by decide +kernel
theorem dX7_act_156 : decode cX7_act 156 = .ok (.getfield 49, 3) := by decide +kernel
theorem dX7_act_159 : decode cX7_act 159 = .ok (.iload 4, 2) := by decide +kernel
theorem dX7_act_161 : decode cX7_act 161 = .ok (.iload 6, 2) := by decide +kernel
theorem dX7_act_163 : decode cX7_act 163 = .ok (.iadd, 1) := by decide +kernel
theorem dX7_act_164 : decode cX7_act 164 = .ok (.iaload, 1) := by decide +kernel
theorem dX7_act_165 : decode cX7_act 165 = .ok (.ifCond .ne 8, 3) := by decide +kernel
theorem dX7_act_168 : decode cX7_act 168 = .ok (.iload 7, 2) := by decide +kernel
theorem dX7_act_170 : decode cX7_act 170 = .ok (.goto 9, 3) := by decide +kernel
theorem dX7_act_173 : decode cX7_act 173 = .ok (.aload_n 0, 1) := by decide +kernel
theorem dX7_act_174 : decode cX7_act 174 = .ok (.getfield 43, 3) := by decide +kernel
theorem dX7_act_177 : decode cX7_act 177 = .ok (.iload_n 2, 1) := by decide +kernel
theorem dX7_act_178 : decode cX7_act 178 = .ok (.iaload, 1) := by decide +kernel
theorem dX7_act_179 : decode cX7_act 179 = .ok (.iastore, 1) := by decide +kernel
theorem dX7_act_180 : decode cX7_act 180 = .ok (.goto 159, 3) := by decide +kernel
theorem dX7_act_183 : decode cX7_act 183 = .ok (.aload_n 0, 1) := by decide +kernel
theorem dX7_act_184 : decode cX7_act 184 = .ok (.getfield 43, 3) := by decide +kernel
theorem dX7_act_187 : decode cX7_act 187 = .ok (.iload_n 2, 1) := by decide +kernel
theorem dX7_act_188 : decode cX7_act 188 = .ok (.iload 6, 2) := by decide +kernel
theorem dX7_act_190 : decode cX7_act 190 = .ok (.iastore, 1) := by decide +kernel
theorem dX7_act_191 : decode cX7_act 191 = .ok (.goto 148, 3) := by decide +kernel
theorem dX7_act_194 : decode cX7_act 194 = .ok (.aload_n 0, 1) := by decide +kernel
theorem dX7_act_195 : decode cX7_act 195 = .ok (.iload 6, 2) := by decide +kernel
theorem dX7_act_197 : decode cX7_act 197 = .ok (.aload_n 0, 1) := by decide +kernel
theorem dX7_act_198 : decode cX7_act 198 = .ok (.getfield 49, 3) := by decide +kernel
theorem dX7_act_201 : decode cX7_act 201 = .ok (.iload 4, 2) := by decide +kernel
theorem dX7_act_203 : decode cX7_act 203 = .ok (.iload 7, 2) := by decide +kernel
theorem dX7_act_205 : decode cX7_act 205 = .ok (.iadd, 1) := by decide +kernel
theorem dX7_act_206 : decode cX7_act 206 = .ok (.iaload, 1) := by decide +kernel
theorem dX7_act_207 : decode cX7_act 207 = .ok (.invokevirtual 153, 3) := by decide +kernel
theorem dX7_act_210 : decode cX7_act 210 = .ok (.goto 129, 3) := by decide +kernel
theorem dX7_act_213 : decode cX7_act 213 = .ok (.aload_n 0, 1) := by decide +kernel
theorem dX7_act_214 : decode cX7_act 214 = .ok (.iload_n 1, 1) := by decide +kernel
theorem dX7_act_215 : decode cX7_act 215 = .ok (.iload 4, 2) := by decide +kernel
theorem dX7_act_217 : decode cX7_act 217 = .ok (.iload_n 3, 1) := by decide +kernel
theorem dX7_act_218 : decode cX7_act 218 = .ok (.invokevirtual 156, 3) := by decide +kernel
theorem dX7_act_221 : decode cX7_act 221 = .ok (.goto 118, 3) := by decide +kernel
theorem dX7_act_224 : decode cX7_act 224 = .ok (.aload_n 0, 1) := by decide +kernel
theorem dX7_act_225 : decode cX7_act 225 = .ok (.aload_n 0, 1) := by decide +kernel
theorem dX7_act_226 : decode cX7_act 226 = .ok (.getfield 49, 3) := by decide +kernel
theorem dX7_act_229 : decode cX7_act 229 = .ok (.iload 4, 2) := by decide +kernel
theorem dX7_act_231 : decode cX7_act 231 = .ok (.iload 6, 2) := by decide +kernel
theorem dX7_act_233 : decode cX7_act 233 = .ok (.iadd, 1) := by decide +kernel
theorem dX7_act_234 : decode cX7_act 234 = .ok (.iaload, 1) := by decide +kernel
theorem dX7_act_235 : decode cX7_act 235 = .ok (.invokevirtual 160, 3) := by decide +kernel
theorem dX7_act_238 : decode cX7_act 238 = .ok (.goto 101, 3) := by decide +kernel
theorem dX7_act_241 : decode cX7_act 241 = .ok (.aload_n 0, 1) := by decide +kernel
theorem dX7_act_242 : decode cX7_act 242 = .ok (.iload 6, 2) := by decide +kernel
theorem dX7_act_244 : decode cX7_act 244 = .ok (.aload_n 0, 1) := by decide +kernel
theorem dX7_act_245 : decode cX7_act 245 = .ok (.getfield 49, 3) := by decide +kernel
theorem dX7_act_248 : decode cX7_act 248 = .ok (.iload 4, 2) := by decide +kernel
theorem dX7_act_250 : decode cX7_act 250 = .ok (.iload 7, 2) := by decide +kernel
theorem dX7_act_252 : decode cX7_act 252 = .ok (.iadd, 1) := by decide +kernel
theorem dX7_act_253 : decode cX7_act 253 = .ok (.iaload, 1) := by decide +kernel
theorem dX7_act_254 : decode cX7_act 254 = .ok (.invokevirtual 135, 3) := by decide +kernel
theorem dX7_act_257 : decode cX7_act 257 = .ok (.goto 82, 3) := by decide +kernel
theorem dX7_act_260 : decode cX7_act 260 = .ok (.aload_n 0, 1) := by decide +kernel
theorem dX7_act_261 : decode cX7_act 261 = .ok (.getfield 49, 3) := by decide +kernel
theorem dX7_act_264 : decode cX7_act 264 = .ok (.iload 4, 2) := by decide +kernel
theorem dX7_act_266 : decode cX7_act 266 = .ok (.iload 7, 2) := by decide +kernel
theorem dX7_act_268 : decode cX7_act 268 = .ok (.iadd, 1) := by decide +kernel
theorem dX7_act_269 : decode cX7_act 269 = .ok (.iaload, 1) := by decide +kernel
theorem dX7_act_270 : decode cX7_act 270 = .ok (.istore 8, 2) := by decide +kernel
theorem dX7_act_272 : decode cX7_act 272 = .ok (.aload_n 0, 1) := by decide +kernel
theorem dX7_act_273 : decode cX7_act 273 = .ok (.getfield 49, 3) := by decide +kernel
theorem dX7_act_276 : decode cX7_act 276 = .ok (.iload 4, 2) := by decide +kernel
theorem dX7_act_278 : decode cX7_act 278 = .ok (.aload_n 0, 1) := by decide +kernel
theorem dX7_act_279 : decode cX7_act 279 = .ok (.getfield 25, 3) := by decide +kernel
theorem dX7_act_282 : decode cX7_act 282 = .ok (.iload_n 1, 1) := by decide +kernel
theorem dX7_act_283 : decode cX7_act 283 = .ok (.iaload, 1) := by decide +kernel
theorem dX7_act_284 : decode cX7_act 284 = .ok (.iadd, 1) := by decide +kernel
theorem dX7_act_285 : decode cX7_act 285 = .ok (.iaload, 1) := by decide +kernel
theorem dX7_act_286 : decode cX7_act 286 = .ok (.istore 9, 2) := by decide +kernel
theorem dX7_act_288 : decode cX7_act 288 = .ok (.iload 5, 2) := by decide +kernel
theorem dX7_act_290 : decode cX7_act 290 = .ok (.iconst 5, 1) := by decide +kernel
theorem dX7_act_291 : decode cX7_act 291 = .ok (.if_icmp .eq 10, 3) := by decide +kernel
theorem dX7_act_294 : decode cX7_act 294 = .ok (.iload 5, 2) := by decide +kernel
theorem dX7_act_296 : decode cX7_act 296 = .ok (.bipush 6, 2) := by decide +kernel
theorem dX7_act_298 : decode cX7_act 298 = .ok (.if_icmp .ne 17, 3) := by decide +kernel
theorem dX7_act_301 : decode cX7_act 301 = .ok (.iload 9, 2) := by decide +kernel
theorem dX7_act_303 : decode cX7_act 303 = .ok (.ifCond .ne 12, 3) := by decide +kernel
theorem dX7_act_306 : decode cX7_act 306 = .ok (.aload_n 0, 1) := by decide +kernel
theorem dX7_act_307 : decode cX7_act 307 = .ok (.iconst 1, 1) := by decide +kernel
theorem dX7_act_308 : decode cX7_act 308 = .ok (.iconst 0, 1) := by decide +kernel
theorem dX7_act_309 : decode cX7_act 309 = .ok (.invokevirtual 135, 3) := by decide +kernel
theorem dX7_act_312 : decode cX7_act 312 = .ok (.goto 27, 3) := by decide +kernel
theorem dX7_act_315 : decode cX7_act 315 = .ok (.aload_n 0, 1) := by decide +kernel
theorem dX7_act_316 : decode cX7_act 316 = .ok (.getfield 49, 3) := by decide +kernel
theorem dX7_act_319 : decode cX7_act 319 = .ok (.iload 4, 2) := by decide +kernel
theorem dX7_act_321 : decode cX7_act 321 = .ok (.iload 6, 2) := by decide +kernel
theorem dX7_act_323 : decode cX7_act 323 = .ok (.iadd, 1) := by decide +kernel
theorem dX7_act_324 : decode cX7_act 324 = .ok (.iload 5, 2) := by decide +kernel
theorem dX7_act_326 : decode cX7_act 326 = .ok (.iload 8, 2) := by decide +kernel
theorem dX7_act_328 : decode cX7_act 328 = .ok (.iload 9, 2) := by decide +kernel
theorem dX7_act_330 : decode cX7_act 330 = .ok (.invokestatic 164, 3) := by decide +kernel
theorem dX7_act_333 : decode cX7_act 333 = .ok (.aload_n 0, 1) := by decide +kernel
theorem dX7_act_334 : decode cX7_act 334 = .ok (.getfield 107, 3) := by decide +kernel
theorem dX7_act_337 : decode cX7_act 337 = .ok (.iand, 1) := by decide +kernel
theorem dX7_act_338 : decode cX7_act 338 = .ok (.iastore, 1) := by decide +kernel
theorem dX7_act_339 : decode cX7_act 339 = .ok (.return_, 1) := by decide +kernel
theorem ggX7_play_X7_enter : GoodIn wsX7_play wsX7_enter := goodIn_mem (fun _ h => List.mem_cons_of_mem _ (List.mem_append_left _ (List.mem_append_right _ (List.mem_append_left _ h)))) ok_wsX7_enter
set_option maxRecDepth 20000 in
theorem gX7_play_X7_enter : GoodIn wsX7_play (wsV RX7 143 RX7 yX7_enter wsX7_enter) := goodIn_app (goodIn_of _ (by decide +kernel)) ggX7_play_X7_enter
theorem ggX7_play_X7_returns : GoodIn wsX7_play wsX7_returns := goodIn_mem (fun _ h => List.mem_cons_of_mem _ (List.mem_append_left _ (List.mem_append_right _ (List.mem_append_right _ (List.mem_append_left _ h))))) ok_wsX7_returns
set_option maxRecDepth 20000 in
theorem gX7_play_X7_returns : GoodIn wsX7_play (wsV RX7 160 RX7 yX7_returns wsX7_returns) := goodIn_app (goodIn_of _ (by decide +kernel)) ggX7_play_X7_returns
theorem ggX7_play_X7_act : GoodIn wsX7_play wsX7_act := goodIn_mem (fun _ h => List.mem_cons_of_mem _ (List.mem_append_left _ (List.mem_append_right _ (List.mem_append_right _ (List.mem_append_right _ h))))) ok_wsX7_act
set_option maxRecDepth 20000 in
theorem gX7_play_X7_act : GoodIn wsX7_play (wsV RX7 168 RX7 yX7_act wsX7_act) := goodIn_app (goodIn_of _ (by decide +kernel)) ggX7_play_X7_act
theorem dX7_play_0 : decode cX7_play 0 = .ok (.aload_n 0, 1) := by decide +kernel
theorem dX7_play_1 : decode cX7_play 1 = .ok (.iload_n 1, 1) := by decide +kernel
theorem dX7_play_2 : decode cX7_play 2 = .ok (.putfield 132, 3) := by decide +kernel
theorem dX7_play_5 : decode cX7_play 5 = .ok (.aload_n 0, 1) := by decide +kernel
theorem dX7_play_6 : decode cX7_play 6 = .ok (.iconst 0, 1) := by decide +kernel
theorem dX7_play_7 : decode cX7_play 7 = .ok (.putfield 129, 3) := by decide +kernel
theorem dX7_play_10 : decode cX7_play 10 = .ok (.aload_n 0, 1) := by decide +kernel
theorem dX7_play_11 : decode cX7_play 11 = .ok (.getfield 52, 3) := by decide +kernel
theorem dX7_play_14 : decode cX7_play 14 = .ok (.iload_n 1, 1) := by decide +kernel
theorem dX7_play_15 : decode cX7_play 15 = .ok (.iconst (-1), 1) := by decide +kernel
theorem dX7_play_16 : decode cX7_play 16 = .ok (.iastore, 1) := by decide +kernel
theorem dX7_play_17 : decode cX7_play 17 = .ok (.aload_n 0, 1) := by decide +kernel
theorem dX7_play_18 : decode cX7_play 18 = .ok (.getfield 55, 3) := by decide +kernel
theorem dX7_play_21 : decode cX7_play 21 = .ok (.iload_n 1, 1) := by decide +kernel
theorem dX7_play_22 : decode cX7_play 22 = .ok (.iconst 0, 1) := by decide +kernel
theorem dX7_play_23 : decode cX7_play 23 = .ok (.iastore, 1) := by decide +kernel
theorem dX7_play_24 : decode cX7_play 24 = .ok (.aload_n 0, 1) := by decide +kernel
theorem dX7_play_25 : decode cX7_play 25 = .ok (.getfield 58, 3) := by decide +kernel
theorem dX7_play_28 : decode cX7_play 28 = .ok (.iload_n 1, 1) := by decide +kernel
theorem dX7_play_29 : decode cX7_play 29 = .ok (.iconst 0, 1) := by decide +kernel
theorem dX7_play_30 : decode cX7_play 30 = .ok (.iastore, 1) := by decide +kernel
theorem dX7_play_31 : decode cX7_play 31 = .ok (.aload_n 0, 1) := by decide +kernel
theorem dX7_play_32 : decode cX7_play 32 = .ok (.getfield 61, 3) := by decide +kernel
theorem dX7_play_35 : decode cX7_play 35 = .ok (.iload_n 1, 1) := by decide +kernel
theorem dX7_play_36 : decode cX7_play 36 = .ok (.iconst 0, 1) := by decide +kernel
theorem dX7_play_37 : decode cX7_play 37 = .ok (.iastore, 1) := by decide +kernel
theorem dX7_play_38 : decode cX7_play 38 = .ok (.aload_n 0, 1) := by decide +kernel
theorem dX7_play_39 : decode cX7_play 39 = .ok (.getfield 64, 3) := by decide +kernel
theorem dX7_play_42 : decode cX7_play 42 = .ok (.iload_n 1, 1) := by decide +kernel
theorem dX7_play_43 : decode cX7_play 43 = .ok (.iconst 0, 1) := by decide +kernel
theorem dX7_play_44 : decode cX7_play 44 = .ok (.iastore, 1) := by decide +kernel
theorem dX7_play_45 : decode cX7_play 45 = .ok (.aload_n 0, 1) := by decide +kernel
theorem dX7_play_46 : decode cX7_play 46 = .ok (.getfield 67, 3) := by decide +kernel
theorem dX7_play_49 : decode cX7_play 49 = .ok (.iload_n 1, 1) := by decide +kernel
theorem dX7_play_50 : decode cX7_play 50 = .ok (.iconst 0, 1) := by decide +kernel
theorem dX7_play_51 : decode cX7_play 51 = .ok (.iastore, 1) := by decide +kernel
theorem dX7_play_52 : decode cX7_play 52 = .ok (.aload_n 0, 1) := by decide +kernel
theorem dX7_play_53 : decode cX7_play 53 = .ok (.getfield 79, 3) := by decide +kernel
theorem dX7_play_56 : decode cX7_play 56 = .ok (.iload_n 1, 1) := by decide +kernel
theorem dX7_play_57 : decode cX7_play 57 = .ok (.iconst 0, 1) := by decide +kernel
theorem dX7_play_58 : decode cX7_play 58 = .ok (.iastore, 1) := by decide +kernel
theorem dX7_play_59 : decode cX7_play 59 = .ok (.aload_n 0, 1) := by decide +kernel
theorem dX7_play_60 : decode cX7_play 60 = .ok (.iload_n 3, 1) := by decide +kernel
theorem dX7_play_61 : decode cX7_play 61 = .ok (.iload 4, 2) := by decide +kernel
theorem dX7_play_63 : decode cX7_play 63 = .ok (.iload 5, 2) := by decide +kernel
theorem dX7_play_65 : decode cX7_play 65 = .ok (.iconst 0, 1) := by decide +kernel
theorem dX7_play_66 : decode cX7_play 66 = .ok (.invokevirtual 143, 3) := by decide +kernel
theorem dX7_play_69 : decode cX7_play 69 = .ok (.aload_n 0, 1) := by decide +kernel
theorem dX7_play_70 : decode cX7_play 70 = .ok (.getfield 52, 3) := by decide +kernel
theorem dX7_play_73 : decode cX7_play 73 = .ok (.iload_n 1, 1) := by decide +kernel
theorem dX7_play_74 : decode cX7_play 74 = .ok (.iaload, 1) := by decide +kernel
theorem dX7_play_75 : decode cX7_play 75 = .ok (.ifCond .ge 114, 3) := by decide +kernel
theorem dX7_play_78 : decode cX7_play 78 = .ok (.aload_n 0, 1) := by decide +kernel
theorem dX7_play_79 : decode cX7_play 79 = .ok (.getfield 129, 3) := by decide +kernel
theorem dX7_play_82 : decode cX7_play 82 = .ok (.iconst 1, 1) := by decide +kernel
theorem dX7_play_83 : decode cX7_play 83 = .ok (.isub, 1) := by decide +kernel
theorem dX7_play_84 : decode cX7_play 84 = .ok (.istore 6, 2) := by decide +kernel
theorem dX7_play_86 : decode cX7_play 86 = .ok (.bipush 6, 2) := by decide +kernel
theorem dX7_play_88 : decode cX7_play 88 = .ok (.iload_n 2, 1) := by decide +kernel
theorem dX7_play_89 : decode cX7_play 89 = .ok (.imul, 1) := by decide +kernel
theorem dX7_play_90 : decode cX7_play 90 = .ok (.aload_n 0, 1) := by decide +kernel
theorem dX7_play_91 : decode cX7_play 91 = .ok (.getfield 40, 3) := by decide +kernel
theorem dX7_play_94 : decode cX7_play 94 = .ok (.iload 6, 2) := by decide +kernel
theorem dX7_play_96 : decode cX7_play 96 = .ok (.iaload, 1) := by decide +kernel
theorem dX7_play_97 : decode cX7_play 97 = .ok (.iadd, 1) := by decide +kernel
theorem dX7_play_98 : decode cX7_play 98 = .ok (.istore 7, 2) := by decide +kernel
theorem dX7_play_100 : decode cX7_play 100 = .ok (.aload_n 0, 1) := by decide +kernel
theorem dX7_play_101 : decode cX7_play 101 = .ok (.getfield 43, 3) := by decide +kernel
theorem dX7_play_104 : decode cX7_play 104 = .ok (.iload 6, 2) := by decide +kernel
theorem dX7_play_106 : decode cX7_play 106 = .ok (.iaload, 1) := by decide +kernel
theorem dX7_play_107 : decode cX7_play 107 = .ok (.istore 8, 2) := by decide +kernel
theorem dX7_play_109 : decode cX7_play 109 = .ok (.iload 8, 2) := by decide +kernel
theorem dX7_play_111 : decode cX7_play 111 = .ok (.aload_n 0, 1) := by decide +kernel
theorem dX7_play_112 : decode cX7_play 112 = .ok (.getfield 13, 3) := by decide +kernel
theorem dX7_play_115 : decode cX7_play 115 = .ok (.iload 7, 2) := by decide +kernel
theorem dX7_play_117 : decode cX7_play 117 = .ok (.iaload, 1) := by decide +kernel
theorem dX7_play_118 : decode cX7_play 118 = .ok (.if_icmp .lt 11, 3) := by decide +kernel
theorem dX7_play_121 : decode cX7_play 121 = .ok (.aload_n 0, 1) := by decide +kernel
theorem dX7_play_122 : decode cX7_play 122 = .ok (.iconst 0, 1) := by decide +kernel
theorem dX7_play_123 : decode cX7_play 123 = .ok (.invokevirtual 160, 3) := by decide +kernel
theorem dX7_play_126 : decode cX7_play 126 = .ok (.goto 60, 3) := by decide +kernel
theorem dX7_play_129 : decode cX7_play 129 = .ok (.aload_n 0, 1) := by decide +kernel
theorem dX7_play_130 : decode cX7_play 130 = .ok (.getfield 61, 3) := by decide +kernel
theorem dX7_play_133 : decode cX7_play 133 = .ok (.iload_n 1, 1) := by decide +kernel
theorem dX7_play_134 : decode cX7_play 134 = .ok (.iaload, 1) := by decide +kernel
theorem dX7_play_135 : decode cX7_play 135 = .ok (.bipush 100, 2) := by decide +kernel
theorem dX7_play_137 : decode cX7_play 137 = .ok (.if_icmp .ne 13, 3) := by decide +kernel
theorem dX7_play_140 : decode cX7_play 140 = .ok (.aload_n 0, 1) := by decide +kernel
theorem dX7_play_141 : decode cX7_play 141 = .ok (.getfield 52, 3) := by decide +kernel
theorem dX7_play_144 : decode cX7_play 144 = .ok (.iload_n 1, 1) := by decide +kernel
theorem dX7_play_145 : decode cX7_play 145 = .ok (.iconst 2, 1) := by decide +kernel
theorem dX7_play_146 : decode cX7_play 146 = .ok (.iastore, 1) := by decide +kernel
theorem dX7_play_147 : decode cX7_play 147 = .ok (.goto 39, 3) := by decide +kernel
theorem dX7_play_150 : decode cX7_play 150 = .ok (.aload_n 0, 1) := by decide +kernel
theorem dX7_play_151 : decode cX7_play 151 = .ok (.getfield 61, 3) := by decide +kernel
theorem dX7_play_154 : decode cX7_play 154 = .ok (.iload_n 1, 1) := by decide +kernel
theorem dX7_play_155 : decode cX7_play 155 = .ok (.dup2, 1) := by decide +kernel
theorem dX7_play_156 : decode cX7_play 156 = .ok (.iaload, 1) := by decide +kernel
theorem dX7_play_157 : decode cX7_play 157 = .ok (.iconst 1, 1) := by decide +kernel
theorem dX7_play_158 : decode cX7_play 158 = .ok (.iadd, 1) := by decide +kernel
theorem dX7_play_159 : decode cX7_play 159 = .ok (.iastore, 1) := by decide +kernel
theorem dX7_play_160 : decode cX7_play 160 = .ok (.aload_n 0, 1) := by decide +kernel
theorem dX7_play_161 : decode cX7_play 161 = .ok (.getfield 43, 3) := by decide +kernel
theorem dX7_play_164 : decode cX7_play 164 = .ok (.iload 6, 2) := by decide +kernel
theorem dX7_play_166 : decode cX7_play 166 = .ok (.iload 8, 2) := by decide +kernel
theorem dX7_play_168 : decode cX7_play 168 = .ok (.iconst 1, 1) := by decide +kernel
theorem dX7_play_169 : decode cX7_play 169 = .ok (.iadd, 1) := by decide +kernel
theorem dX7_play_170 : decode cX7_play 170 = .ok (.iastore, 1) := by decide +kernel
theorem dX7_play_171 : decode cX7_play 171 = .ok (.aload_n 0, 1) := by decide +kernel
theorem dX7_play_172 : decode cX7_play 172 = .ok (.bipush 24, 2) := by decide +kernel
theorem dX7_play_174 : decode cX7_play 174 = .ok (.iload 7, 2) := by decide +kernel
theorem dX7_play_176 : decode cX7_play 176 = .ok (.imul, 1) := by decide +kernel
theorem dX7_play_177 : decode cX7_play 177 = .ok (.iload 8, 2) := by decide +kernel
theorem dX7_play_179 : decode cX7_play 179 = .ok (.iadd, 1) := by decide +kernel
theorem dX7_play_180 : decode cX7_play 180 = .ok (.iload 6, 2) := by decide +kernel
theorem dX7_play_182 : decode cX7_play 182 = .ok (.iload_n 2, 1) := by decide +kernel
theorem dX7_play_183 : decode cX7_play 183 = .ok (.invokevirtual 168, 3) := by decide +kernel
theorem dX7_play_186 : decode cX7_play 186 = .ok (.goto (-117), 3) := by decide +kernel
theorem dX7_play_189 : decode cX7_play 189 = .ok (.return_, 1) := by decide +kernel
theorem ggX7_run_X7_isMethod : GoodIn wsX7_run wsX7_isMethod := goodIn_mem (fun _ h => List.mem_cons_of_mem _ (List.mem_append_left _ (List.mem_append_right _ (List.mem_append_left _ h)))) ok_wsX7_isMethod
set_option maxRecDepth 20000 in
theorem gX7_run_X7_isMethod : GoodIn wsX7_run (wsV RX7 121 RX7 yX7_isMethod wsX7_isMethod) := goodIn_app (goodIn_of _ (by decide +kernel)) ggX7_run_X7_isMethod
theorem ggX7_run_X7_isNumber : GoodIn wsX7_run wsX7_isNumber := goodIn_mem (fun _ h => List.mem_cons_of_mem _ (List.mem_append_left _ (List.mem_append_right _ (List.mem_append_right _ (List.mem_append_left _ h))))) ok_wsX7_isNumber
set_option maxRecDepth 20000 in
theorem gX7_run_X7_isNumber : GoodIn wsX7_run (wsV RX7 118 RX7 yX7_isNumber wsX7_isNumber) := goodIn_app (goodIn_of _ (by decide +kernel)) ggX7_run_X7_isNumber
theorem ggX7_run_X7_play : GoodIn wsX7_run wsX7_play := goodIn_mem (fun _ h => List.mem_cons_of_mem _ (List.mem_append_left _ (List.mem_append_right _ (List.mem_append_right _ (List.mem_append_right _ h))))) ok_wsX7_play
set_option maxRecDepth 20000 in
theorem gX7_run_X7_play : GoodIn wsX7_run (wsV RX7 171 RX7 yX7_play wsX7_play) := goodIn_app (goodIn_of _ (by decide +kernel)) ggX7_run_X7_play
theorem dX7_run_0 : decode cX7_run 0 = .ok (.aload_n 0, 1) := by decide +kernel
theorem dX7_run_1 : decode cX7_run 1 = .ok (.iload_n 1, 1) := by decide +kernel
theorem dX7_run_2 : decode cX7_run 2 = .ok (.iload_n 2, 1) := by decide +kernel
theorem dX7_run_3 : decode cX7_run 3 = .ok (.invokevirtual 121, 3) := by decide +kernel
theorem dX7_run_6 : decode cX7_run 6 = .ok (.ifCond .ne 6, 3) := by decide +kernel
theorem dX7_run_9 : decode cX7_run 9 = .ok (.bipush (-101), 2) := by decide +kernel
theorem dX7_run_11 : decode cX7_run 11 = .ok (.ireturn, 1) := by decide +kernel
theorem dX7_run_12 : decode cX7_run 12 = .ok (.aload_n 0, 1) := by decide +kernel
theorem dX7_run_13 : decode cX7_run 13 = .ok (.iload_n 3, 1) := by decide +kernel
theorem dX7_run_14 : decode cX7_run 14 = .ok (.invokevirtual 118, 3) := by decide +kernel
theorem dX7_run_17 : decode cX7_run 17 = .ok (.ifCond .eq 12, 3) := by decide +kernel
theorem dX7_run_20 : decode cX7_run 20 = .ok (.aload_n 0, 1) := by decide +kernel
theorem dX7_run_21 : decode cX7_run 21 = .ok (.iload 4, 2) := by decide +kernel
theorem dX7_run_23 : decode cX7_run 23 = .ok (.invokevirtual 118, 3) := by decide +kernel
theorem dX7_run_26 : decode cX7_run 26 = .ok (.ifCond .ne 6, 3) := by decide +kernel
theorem dX7_run_29 : decode cX7_run 29 = .ok (.bipush (-102), 2) := by decide +kernel
theorem dX7_run_31 : decode cX7_run 31 = .ok (.ireturn, 1) := by decide +kernel
theorem dX7_run_32 : decode cX7_run 32 = .ok (.aload_n 0, 1) := by decide +kernel
theorem dX7_run_33 : decode cX7_run 33 = .ok (.iconst 0, 1) := by decide +kernel
theorem dX7_run_34 : decode cX7_run 34 = .ok (.putfield 139, 3) := by decide +kernel
theorem dX7_run_37 : decode cX7_run 37 = .ok (.aload_n 0, 1) := by decide +kernel
theorem dX7_run_38 : decode cX7_run 38 = .ok (.iconst 0, 1) := by decide +kernel
theorem dX7_run_39 : decode cX7_run 39 = .ok (.iload_n 1, 1) := by decide +kernel
theorem dX7_run_40 : decode cX7_run 40 = .ok (.iload_n 2, 1) := by decide +kernel
theorem dX7_run_41 : decode cX7_run 41 = .ok (.iload_n 3, 1) := by decide +kernel
theorem dX7_run_42 : decode cX7_run 42 = .ok (.iload 4, 2) := by decide +kernel
theorem dX7_run_44 : decode cX7_run 44 = .ok (.invokevirtual 171, 3) := by decide +kernel
theorem dX7_run_47 : decode cX7_run 47 = .ok (.aload_n 0, 1) := by decide +kernel
theorem dX7_run_48 : decode cX7_run 48 = .ok (.getfield 52, 3) := by decide +kernel
theorem dX7_run_51 : decode cX7_run 51 = .ok (.iconst 0, 1) := by decide +kernel
theorem dX7_run_52 : decode cX7_run 52 = .ok (.iaload, 1) := by decide +kernel
theorem dX7_run_53 : decode cX7_run 53 = .ok (.ireturn, 1) := by decide +kernel
theorem dX7_ran_0 : decode cX7_ran 0 = .ok (.iload_n 1, 1) := by decide +kernel
theorem dX7_ran_1 : decode cX7_ran 1 = .ok (.tableswitch 70 0 4 #[35, 42, 49, 56, 63], 35) := by decide +kernel
theorem dX7_ran_36 : decode cX7_ran 36 = .ok (.aload_n 0, 1) := by decide +kernel
theorem dX7_ran_37 : decode cX7_ran 37 = .ok (.getfield 58, 3) := by decide +kernel
theorem dX7_ran_40 : decode cX7_ran 40 = .ok (.iconst 0, 1) := by decide +kernel
theorem dX7_ran_41 : decode cX7_ran 41 = .ok (.iaload, 1) := by decide +kernel
theorem dX7_ran_42 : decode cX7_ran 42 = .ok (.ireturn, 1) := by decide +kernel
theorem dX7_ran_43 : decode cX7_ran 43 = .ok (.aload_n 0, 1) := by decide +kernel
theorem dX7_ran_44 : decode cX7_ran 44 = .ok (.getfield 55, 3) := by decide +kernel
theorem dX7_ran_47 : decode cX7_ran 47 = .ok (.iconst 0, 1) := by decide +kernel
theorem dX7_ran_48 : decode cX7_ran 48 = .ok (.iaload, 1) := by decide +kernel
theorem dX7_ran_49 : decode cX7_ran 49 = .ok (.ireturn, 1) := by decide +kernel
theorem dX7_ran_50 : decode cX7_ran 50 = .ok (.aload_n 0, 1) := by decide +kernel
theorem dX7_ran_51 : decode cX7_ran 51 = .ok (.getfield 61, 3) := by decide +kernel
theorem dX7_ran_54 : decode cX7_ran 54 = .ok (.iconst 0, 1) := by decide +kernel
theorem dX7_ran_55 : decode cX7_ran 55 = .ok (.iaload, 1) := by decide +kernel
theorem dX7_ran_56 : decode cX7_ran 56 = .ok (.ireturn, 1) := by decide +kernel
theorem dX7_ran_57 : decode cX7_ran 57 = .ok (.aload_n 0, 1) := by decide +kernel
theorem dX7_ran_58 : decode cX7_ran 58 = .ok (.getfield 67, 3) := by decide +kernel
theorem dX7_ran_61 : decode cX7_ran 61 = .ok (.iconst 0, 1) := by decide +kernel
theorem dX7_ran_62 : decode cX7_ran 62 = .ok (.iaload, 1) := by decide +kernel
theorem dX7_ran_63 : decode cX7_ran 63 = .ok (.ireturn, 1) := by decide +kernel
theorem dX7_ran_64 : decode cX7_ran 64 = .ok (.aload_n 0, 1) := by decide +kernel
theorem dX7_ran_65 : decode cX7_ran 65 = .ok (.getfield 64, 3) := by decide +kernel
theorem dX7_ran_68 : decode cX7_ran 68 = .ok (.iconst 0, 1) := by decide +kernel
theorem dX7_ran_69 : decode cX7_ran 69 = .ok (.iaload, 1) := by decide +kernel
theorem dX7_ran_70 : decode cX7_ran 70 = .ok (.ireturn, 1) := by decide +kernel
theorem dX7_ran_71 : decode cX7_ran 71 = .ok (.bipush (-101), 2) := by decide +kernel
theorem dX7_ran_73 : decode cX7_ran 73 = .ok (.ireturn, 1) := by decide +kernel
theorem ggX7_told_X7_in : GoodIn wsX7_told wsX7_in := goodIn_mem (fun _ h => List.mem_cons_of_mem _ (List.mem_append_left _ (List.mem_append_right _ h))) ok_wsX7_in
set_option maxRecDepth 20000 in
theorem gX7_told_X7_in : GoodIn wsX7_told (va_wsS RX7 110 yX7_in wsX7_in) := goodIn_app (goodIn_of _ (by decide +kernel)) ggX7_told_X7_in
theorem dX7_told_0 : decode cX7_told 0 = .ok (.iload_n 2, 1) := by decide +kernel
theorem dX7_told_1 : decode cX7_told 1 = .ok (.iconst 0, 1) := by decide +kernel
theorem dX7_told_2 : decode cX7_told 2 = .ok (.iconst 1, 1) := by decide +kernel
theorem dX7_told_3 : decode cX7_told 3 = .ok (.invokestatic 110, 3) := by decide +kernel
theorem dX7_told_6 : decode cX7_told 6 = .ok (.ifCond .ne 6, 3) := by decide +kernel
theorem dX7_told_9 : decode cX7_told 9 = .ok (.bipush (-101), 2) := by decide +kernel
theorem dX7_told_11 : decode cX7_told 11 = .ok (.ireturn, 1) := by decide +kernel
theorem dX7_told_12 : decode cX7_told 12 = .ok (.iload_n 1, 1) := by decide +kernel
theorem dX7_told_13 : decode cX7_told 13 = .ok (.iconst 0, 1) := by decide +kernel
theorem dX7_told_14 : decode cX7_told 14 = .ok (.aload_n 0, 1) := by decide +kernel
theorem dX7_told_15 : decode cX7_told 15 = .ok (.getfield 67, 3) := by decide +kernel
theorem dX7_told_18 : decode cX7_told 18 = .ok (.iconst 0, 1) := by decide +kernel
theorem dX7_told_19 : decode cX7_told 19 = .ok (.iaload, 1) := by decide +kernel
theorem dX7_told_20 : decode cX7_told 20 = .ok (.iconst 1, 1) := by decide +kernel
theorem dX7_told_21 : decode cX7_told 21 = .ok (.isub, 1) := by decide +kernel
theorem dX7_told_22 : decode cX7_told 22 = .ok (.invokestatic 110, 3) := by decide +kernel
theorem dX7_told_25 : decode cX7_told 25 = .ok (.ifCond .ne 5, 3) := by decide +kernel
theorem dX7_told_28 : decode cX7_told 28 = .ok (.iconst (-1), 1) := by decide +kernel
theorem dX7_told_29 : decode cX7_told 29 = .ok (.ireturn, 1) := by decide +kernel
theorem dX7_told_30 : decode cX7_told 30 = .ok (.iload_n 2, 1) := by decide +kernel
theorem dX7_told_31 : decode cX7_told 31 = .ok (.ifCond .ne 12, 3) := by decide +kernel
theorem dX7_told_34 : decode cX7_told 34 = .ok (.aload_n 0, 1) := by decide +kernel
theorem dX7_told_35 : decode cX7_told 35 = .ok (.getfield 70, 3) := by decide +kernel
theorem dX7_told_38 : decode cX7_told 38 = .ok (.iload_n 1, 1) := by decide +kernel
theorem dX7_told_39 : decode cX7_told 39 = .ok (.iaload, 1) := by decide +kernel
theorem dX7_told_40 : decode cX7_told 40 = .ok (.goto 9, 3) := by decide +kernel
theorem dX7_told_43 : decode cX7_told 43 = .ok (.aload_n 0, 1) := by decide +kernel
theorem dX7_told_44 : decode cX7_told 44 = .ok (.getfield 73, 3) := by decide +kernel
theorem dX7_told_47 : decode cX7_told 47 = .ok (.iload_n 1, 1) := by decide +kernel
theorem dX7_told_48 : decode cX7_told 48 = .ok (.iaload, 1) := by decide +kernel
theorem dX7_told_49 : decode cX7_told 49 = .ok (.ireturn, 1) := by decide +kernel
