theorem dX8_house_109 : decode cX8_house 109 = .ok (.iconst 1, 1) := by decide +kernel
theorem dX8_house_110 : decode cX8_house 110 = .ok (.goto 4, 3) := by decide +kernel
theorem dX8_house_113 : decode cX8_house 113 = .ok (.iconst 0, 1) := by decide +kernel
theorem dX8_house_114 : decode cX8_house 114 = .ok (.invokevirtual 115, 3) := by decide +kernel
theorem dX8_house_117 : decode cX8_house 117 = .ok (.pop, 1) := by decide +kernel
theorem dX8_house_118 : decode cX8_house 118 = .ok (.iinc 1 1, 3) := by decide +kernel
theorem dX8_house_121 : decode cX8_house 121 = .ok (.goto (-72), 3) := by decide +kernel
theorem dX8_house_124 : decode cX8_house 124 = .ok (.aload_n 0, 1) := by decide +kernel
theorem dX8_house_125 : decode cX8_house 125 = .ok (.invokevirtual 108, 3) := by decide +kernel
theorem dX8_house_128 : decode cX8_house 128 = .ok (.ifCond .ne 11, 3) := by decide +kernel
theorem dX8_house_131 : decode cX8_house 131 = .ok (.bipush (-10), 2) := by decide +kernel
theorem dX8_house_133 : decode cX8_house 133 = .ok (.aload_n 0, 1) := by decide +kernel
theorem dX8_house_134 : decode cX8_house 134 = .ok (.getfield 105, 3) := by decide +kernel
theorem dX8_house_137 : decode cX8_house 137 = .ok (.isub, 1) := by decide +kernel
theorem dX8_house_138 : decode cX8_house 138 = .ok (.ireturn, 1) := by decide +kernel
theorem dX8_house_139 : decode cX8_house 139 = .ok (.aload_n 0, 1) := by decide +kernel
theorem dX8_house_140 : decode cX8_house 140 = .ok (.aload_n 0, 1) := by decide +kernel
theorem dX8_house_141 : decode cX8_house 141 = .ok (.getfield 119, 3) := by decide +kernel
theorem dX8_house_144 : decode cX8_house 144 = .ok (.putfield 145, 3) := by decide +kernel
theorem dX8_house_147 : decode cX8_house 147 = .ok (.aload_n 0, 1) := by decide +kernel
theorem dX8_house_148 : decode cX8_house 148 = .ok (.aload_n 0, 1) := by decide +kernel
theorem dX8_house_149 : decode cX8_house 149 = .ok (.getfield 122, 3) := by decide +kernel
theorem dX8_house_152 : decode cX8_house 152 = .ok (.putfield 148, 3) := by decide +kernel
theorem dX8_house_155 : decode cX8_house 155 = .ok (.aload_n 0, 1) := by decide +kernel
theorem dX8_house_156 : decode cX8_house 156 = .ok (.aload_n 0, 1) := by decide +kernel
theorem dX8_house_157 : decode cX8_house 157 = .ok (.getfield 125, 3) := by decide +kernel
theorem dX8_house_160 : decode cX8_house 160 = .ok (.bipush (-9), 2) := by decide +kernel
theorem dX8_house_162 : decode cX8_house 162 = .ok (.if_icmp .ne 7, 3) := by decide +kernel
theorem dX8_house_165 : decode cX8_house 165 = .ok (.iconst 1, 1) := by decide +kernel
theorem dX8_house_166 : decode cX8_house 166 = .ok (.goto 7, 3) := by decide +kernel
theorem dX8_house_169 : decode cX8_house 169 = .ok (.aload_n 0, 1) := by decide +kernel
theorem dX8_house_170 : decode cX8_house 170 = .ok (.getfield 125, 3) := by decide +kernel
theorem dX8_house_173 : decode cX8_house 173 = .ok (.putfield 53, 3) := by decide +kernel
theorem dX8_house_176 : decode cX8_house 176 = .ok (.aload_n 0, 1) := by decide +kernel
theorem dX8_house_177 : decode cX8_house 177 = .ok (.aload_n 0, 1) := by decide +kernel
theorem dX8_house_178 : decode cX8_house 178 = .ok (.getfield 128, 3) := by decide +kernel
theorem dX8_house_181 : decode cX8_house 181 = .ok (.bipush (-9), 2) := by decide +kernel
theorem dX8_house_183 : decode cX8_house 183 = .ok (.if_icmp .ne 7, 3) := by decide +kernel
theorem dX8_house_186 : decode cX8_house 186 = .ok (.iconst 1, 1) := by decide +kernel
theorem dX8_house_187 : decode cX8_house 187 = .ok (.goto 7, 3) := by decide +kernel
theorem dX8_house_190 : decode cX8_house 190 = .ok (.aload_n 0, 1) := by decide +kernel
theorem dX8_house_191 : decode cX8_house 191 = .ok (.getfield 128, 3) := by decide +kernel
theorem dX8_house_194 : decode cX8_house 194 = .ok (.putfield 57, 3) := by decide +kernel
theorem dX8_house_197 : decode cX8_house 197 = .ok (.aload_n 0, 1) := by decide +kernel
theorem dX8_house_198 : decode cX8_house 198 = .ok (.aload_n 0, 1) := by decide +kernel
theorem dX8_house_199 : decode cX8_house 199 = .ok (.getfield 131, 3) := by decide +kernel
theorem dX8_house_202 : decode cX8_house 202 = .ok (.bipush (-9), 2) := by decide +kernel
theorem dX8_house_204 : decode cX8_house 204 = .ok (.if_icmp .ne 7, 3) := by decide +kernel
theorem dX8_house_207 : decode cX8_house 207 = .ok (.iconst 0, 1) := by decide +kernel
theorem dX8_house_208 : decode cX8_house 208 = .ok (.goto 7, 3) := by decide +kernel
theorem dX8_house_211 : decode cX8_house 211 = .ok (.aload_n 0, 1) := by decide +kernel
theorem dX8_house_212 : decode cX8_house 212 = .ok (.getfield 131, 3) := by decide +kernel
theorem dX8_house_215 : decode cX8_house 215 = .ok (.putfield 151, 3) := by decide +kernel
theorem dX8_house_218 : decode cX8_house 218 = .ok (.iconst 0, 1) := by decide +kernel
theorem dX8_house_219 : decode cX8_house 219 = .ok (.istore_n 2, 1) := by decide +kernel
theorem dX8_house_220 : decode cX8_house 220 = .ok (.iload_n 2, 1) := by decide +kernel
theorem dX8_house_221 : decode cX8_house 221 = .ok (.bipush 6, 2) := by decide +kernel
theorem dX8_house_223 : decode cX8_house 223 = .ok (.if_icmp .ge 54, 3) := by decide +kernel
theorem dX8_house_226 : decode cX8_house 226 = .ok (.aload_n 0, 1) := by decide +kernel
theorem dX8_house_227 : decode cX8_house 227 = .ok (.getfield 13, 3) := by decide +kernel
theorem dX8_house_230 : decode cX8_house 230 = .ok (.iload_n 2, 1) := by decide +kernel
theorem dX8_house_231 : decode cX8_house 231 = .ok (.aload_n 0, 1) := by decide +kernel
theorem dX8_house_232 : decode cX8_house 232 = .ok (.getfield 13, 3) := by decide +kernel
theorem dX8_house_235 : decode cX8_house 235 = .ok (.bipush 6, 2) := by decide +kernel
theorem dX8_house_237 : decode cX8_house 237 = .ok (.iload_n 2, 1) := by decide +kernel
theorem dX8_house_238 : decode cX8_house 238 = .ok (.iadd, 1) := by decide +kernel
theorem dX8_house_239 : decode cX8_house 239 = .ok (.iaload, 1) := by decide +kernel
theorem dX8_house_240 : decode cX8_house 240 = .ok (.iastore, 1) := by decide +kernel
theorem dX8_house_241 : decode cX8_house 241 = .ok (.aload_n 0, 1) := by decide +kernel
theorem dX8_house_242 : decode cX8_house 242 = .ok (.getfield 16, 3) := by decide +kernel
theorem dX8_house_245 : decode cX8_house 245 = .ok (.iload_n 2, 1) := by decide +kernel
theorem dX8_house_246 : decode cX8_house 246 = .ok (.aload_n 0, 1) := by decide +kernel
theorem dX8_house_247 : decode cX8_house 247 = .ok (.getfield 16, 3) := by decide +kernel
theorem dX8_house_250 : decode cX8_house 250 = .ok (.bipush 6, 2) := by decide +kernel
theorem dX8_house_252 : decode cX8_house 252 = .ok (.iload_n 2, 1) := by decide +kernel
theorem dX8_house_253 : decode cX8_house 253 = .ok (.iadd, 1) := by decide +kernel
theorem dX8_house_254 : decode cX8_house 254 = .ok (.iaload, 1) := by decide +kernel
theorem dX8_house_255 : decode cX8_house 255 = .ok (.iastore, 1) := by decide +kernel
theorem dX8_house_256 : decode cX8_house 256 = .ok (.aload_n 0, 1) := by decide +kernel
theorem dX8_house_257 : decode cX8_house 257 = .ok (.getfield 19, 3) := by decide +kernel
theorem dX8_house_260 : decode cX8_house 260 = .ok (.iload_n 2, 1) := by decide +kernel
theorem dX8_house_261 : decode cX8_house 261 = .ok (.aload_n 0, 1) := by decide +kernel
theorem dX8_house_262 : decode cX8_house 262 = .ok (.getfield 19, 3) := by decide +kernel
theorem dX8_house_265 : decode cX8_house 265 = .ok (.bipush 6, 2) := by decide +kernel
theorem dX8_house_267 : decode cX8_house 267 = .ok (.iload_n 2, 1) := by decide +kernel
theorem dX8_house_268 : decode cX8_house 268 = .ok (.iadd, 1) := by decide +kernel
theorem dX8_house_269 : decode cX8_house 269 = .ok (.iaload, 1) := by decide +kernel
theorem dX8_house_270 : decode cX8_house 270 = .ok (.iastore, 1) := by decide +kernel
theorem dX8_house_271 : decode cX8_house 271 = .ok (.iinc 2 1, 3) := by decide +kernel
theorem dX8_house_274 : decode cX8_house 274 = .ok (.goto (-54), 3) := by decide +kernel
theorem dX8_house_277 : decode cX8_house 277 = .ok (.aload_n 0, 1) := by decide +kernel
theorem dX8_house_278 : decode cX8_house 278 = .ok (.iconst 0, 1) := by decide +kernel
theorem dX8_house_279 : decode cX8_house 279 = .ok (.putfield 70, 3) := by decide +kernel
theorem dX8_house_282 : decode cX8_house 282 = .ok (.aload_n 0, 1) := by decide +kernel
theorem dX8_house_283 : decode cX8_house 283 = .ok (.iconst 0, 1) := by decide +kernel
theorem dX8_house_284 : decode cX8_house 284 = .ok (.putfield 154, 3) := by decide +kernel
theorem dX8_house_287 : decode cX8_house 287 = .ok (.aload_n 0, 1) := by decide +kernel
theorem dX8_house_288 : decode cX8_house 288 = .ok (.iconst 0, 1) := by decide +kernel
theorem dX8_house_289 : decode cX8_house 289 = .ok (.putfield 157, 3) := by decide +kernel
theorem dX8_house_292 : decode cX8_house 292 = .ok (.aload_n 0, 1) := by decide +kernel
theorem dX8_house_293 : decode cX8_house 293 = .ok (.getfield 28, 3) := by decide +kernel
theorem dX8_house_296 : decode cX8_house 296 = .ok (.iconst 0, 1) := by decide +kernel
theorem dX8_house_297 : decode cX8_house 297 = .ok (.iconst 0, 1) := by decide +kernel
theorem dX8_house_298 : decode cX8_house 298 = .ok (.bastore, 1) := by decide +kernel
theorem dX8_house_299 : decode cX8_house 299 = .ok (.aload_n 0, 1) := by decide +kernel
theorem dX8_house_300 : decode cX8_house 300 = .ok (.getfield 28, 3) := by decide +kernel
theorem dX8_house_303 : decode cX8_house 303 = .ok (.iconst 1, 1) := by decide +kernel
theorem dX8_house_304 : decode cX8_house 304 = .ok (.iconst 0, 1) := by decide +kernel
theorem dX8_house_305 : decode cX8_house 305 = .ok (.bastore, 1) := by decide +kernel
theorem dX8_house_306 : decode cX8_house 306 = .ok (.aload_n 0, 1) := by decide +kernel
theorem dX8_house_307 : decode cX8_house 307 = .ok (.invokevirtual 60, 3) := by decide +kernel
theorem dX8_house_310 : decode cX8_house 310 = .ok (.iload_n 1, 1) := by decide +kernel
theorem dX8_house_311 : decode cX8_house 311 = .ok (.ireturn, 1) := by decide +kernel
theorem dX8_begins_0 : decode cX8_begins 0 = .ok (.iconst 0, 1) := by decide +kernel
theorem dX8_begins_1 : decode cX8_begins 1 = .ok (.istore_n 1, 1) := by decide +kernel
theorem dX8_begins_2 : decode cX8_begins 2 = .ok (.iload_n 1, 1) := by decide +kernel
theorem dX8_begins_3 : decode cX8_begins 3 = .ok (.bipush 6, 2) := by decide +kernel
theorem dX8_begins_5 : decode cX8_begins 5 = .ok (.if_icmp .ge 33, 3) := by decide +kernel
theorem dX8_begins_8 : decode cX8_begins 8 = .ok (.aload_n 0, 1) := by decide +kernel
theorem dX8_begins_9 : decode cX8_begins 9 = .ok (.getfield 22, 3) := by decide +kernel
theorem dX8_begins_12 : decode cX8_begins 12 = .ok (.iload_n 1, 1) := by decide +kernel
theorem dX8_begins_13 : decode cX8_begins 13 = .ok (.iload_n 1, 1) := by decide +kernel
theorem dX8_begins_14 : decode cX8_begins 14 = .ok (.aload_n 0, 1) := by decide +kernel
theorem dX8_begins_15 : decode cX8_begins 15 = .ok (.getfield 145, 3) := by decide +kernel
theorem dX8_begins_18 : decode cX8_begins 18 = .ok (.if_icmp .ge 12, 3) := by decide +kernel
theorem dX8_begins_21 : decode cX8_begins 21 = .ok (.aload_n 0, 1) := by decide +kernel
theorem dX8_begins_22 : decode cX8_begins 22 = .ok (.getfield 13, 3) := by decide +kernel
theorem dX8_begins_25 : decode cX8_begins 25 = .ok (.iload_n 1, 1) := by decide +kernel
theorem dX8_begins_26 : decode cX8_begins 26 = .ok (.iaload, 1) := by decide +kernel
theorem dX8_begins_27 : decode cX8_begins 27 = .ok (.goto 4, 3) := by decide +kernel
theorem dX8_begins_30 : decode cX8_begins 30 = .ok (.iconst 0, 1) := by decide +kernel
theorem dX8_begins_31 : decode cX8_begins 31 = .ok (.iastore, 1) := by decide +kernel
theorem dX8_begins_32 : decode cX8_begins 32 = .ok (.iinc 1 1, 3) := by decide +kernel
theorem dX8_begins_35 : decode cX8_begins 35 = .ok (.goto (-33), 3) := by decide +kernel
theorem dX8_begins_38 : decode cX8_begins 38 = .ok (.aload_n 0, 1) := by decide +kernel
theorem dX8_begins_39 : decode cX8_begins 39 = .ok (.getfield 22, 3) := by decide +kernel
theorem dX8_begins_42 : decode cX8_begins 42 = .ok (.bipush 6, 2) := by decide +kernel
theorem dX8_begins_44 : decode cX8_begins 44 = .ok (.bipush (-9), 2) := by decide +kernel
theorem dX8_begins_46 : decode cX8_begins 46 = .ok (.iastore, 1) := by decide +kernel
theorem dX8_begins_47 : decode cX8_begins 47 = .ok (.aload_n 0, 1) := by decide +kernel
theorem dX8_begins_48 : decode cX8_begins 48 = .ok (.getfield 22, 3) := by decide +kernel
theorem dX8_begins_51 : decode cX8_begins 51 = .ok (.bipush 7, 2) := by decide +kernel
theorem dX8_begins_53 : decode cX8_begins 53 = .ok (.aload_n 0, 1) := by decide +kernel
theorem dX8_begins_54 : decode cX8_begins 54 = .ok (.getfield 57, 3) := by decide +kernel
theorem dX8_begins_57 : decode cX8_begins 57 = .ok (.iastore, 1) := by decide +kernel
theorem dX8_begins_58 : decode cX8_begins 58 = .ok (.aload_n 0, 1) := by decide +kernel
theorem dX8_begins_59 : decode cX8_begins 59 = .ok (.getfield 22, 3) := by decide +kernel
theorem dX8_begins_62 : decode cX8_begins 62 = .ok (.bipush 8, 2) := by decide +kernel
theorem dX8_begins_64 : decode cX8_begins 64 = .ok (.iconst 0, 1) := by decide +kernel
theorem dX8_begins_65 : decode cX8_begins 65 = .ok (.iastore, 1) := by decide +kernel
theorem dX8_begins_66 : decode cX8_begins 66 = .ok (.return_, 1) := by decide +kernel
set_option maxRecDepth 20000 in
theorem ggX8_isMember_X8_in : GoodIn wsX8_isMember wsX8_in := goodIn_r _ [5] (by decide +kernel) (by decide +kernel)
set_option maxRecDepth 20000 in
theorem gX8_isMember_X8_in : GoodIn wsX8_isMember (va_wsS RX8 66 yX8_in wsX8_in) := goodIn_app (goodIn_of _ (by decide +kernel)) ggX8_isMember_X8_in
theorem dX8_isMember_0 : decode cX8_isMember 0 = .ok (.iload_n 1, 1) := by decide +kernel
theorem dX8_isMember_1 : decode cX8_isMember 1 = .ok (.iconst 0, 1) := by decide +kernel
theorem dX8_isMember_2 : decode cX8_isMember 2 = .ok (.aload_n 0, 1) := by decide +kernel
theorem dX8_isMember_3 : decode cX8_isMember 3 = .ok (.getfield 145, 3) := by decide +kernel
theorem dX8_isMember_6 : decode cX8_isMember 6 = .ok (.iconst 1, 1) := by decide +kernel
theorem dX8_isMember_7 : decode cX8_isMember 7 = .ok (.isub, 1) := by decide +kernel
theorem dX8_isMember_8 : decode cX8_isMember 8 = .ok (.invokestatic 66, 3) := by decide +kernel
theorem dX8_isMember_11 : decode cX8_isMember 11 = .ok (.ireturn, 1) := by decide +kernel
set_option maxRecDepth 20000 in
theorem ggX8_member_X8_isMember : GoodIn wsX8_member wsX8_isMember := goodIn_r _ [9, 10, 11, 12, 8, 13, 17, 18, 19, 20, 21, 22, 23, 24, 25, 26, 27, 28, 29, 30, 31, 32, 33, 34, 35, 36, 37, 38, 39, 40, 41, 42, 43, 44, 45, 46, 47, 48, 49, 50, 51] (by decide +kernel) (by decide +kernel)
set_option maxRecDepth 20000 in
theorem gX8_member_X8_isMember : GoodIn wsX8_member (wsV RX8 160 RX8 yX8_isMember wsX8_isMember) := goodIn_app (goodIn_of _ (by decide +kernel)) ggX8_member_X8_isMember
set_option maxRecDepth 20000 in
theorem ggX8_member_X8_in : GoodIn wsX8_member wsX8_in := goodIn_r _ [13] (by decide +kernel) (by decide +kernel)
set_option maxRecDepth 20000 in
theorem gX8_member_X8_in : GoodIn wsX8_member (va_wsS RX8 66 yX8_in wsX8_in) := goodIn_app (goodIn_of _ (by decide +kernel)) ggX8_member_X8_in
set_option maxRecDepth 20000 in
theorem ggX8_member_X8_ones : GoodIn wsX8_member wsX8_ones := goodIn_r _ [16] (by decide +kernel) (by decide +kernel)
set_option maxRecDepth 20000 in
theorem gX8_member_X8_ones : GoodIn wsX8_member (va_wsS RX8 164 yX8_ones wsX8_ones) := goodIn_app (goodIn_of _ (by decide +kernel)) ggX8_member_X8_ones
theorem dX8_member_0 : decode cX8_member 0 = .ok (.aload_n 0, 1) := by decide +kernel
theorem dX8_member_1 : decode cX8_member 1 = .ok (.iconst 0, 1) := by decide +kernel
theorem dX8_member_2 : decode cX8_member 2 = .ok (.putfield 63, 3) := by decide +kernel
theorem dX8_member_5 : decode cX8_member 5 = .ok (.aload_n 0, 1) := by decide +kernel
theorem dX8_member_6 : decode cX8_member 6 = .ok (.iload_n 1, 1) := by decide +kernel
theorem dX8_member_7 : decode cX8_member 7 = .ok (.invokevirtual 160, 3) := by decide +kernel
theorem dX8_member_10 : decode cX8_member 10 = .ok (.ifCond .eq 12, 3) := by decide +kernel
theorem dX8_member_13 : decode cX8_member 13 = .ok (.iload_n 2, 1) := by decide +kernel
theorem dX8_member_14 : decode cX8_member 14 = .ok (.iconst 0, 1) := by decide +kernel
theorem dX8_member_15 : decode cX8_member 15 = .ok (.iconst 3, 1) := by decide +kernel
theorem dX8_member_16 : decode cX8_member 16 = .ok (.invokestatic 66, 3) := by decide +kernel
theorem dX8_member_19 : decode cX8_member 19 = .ok (.ifCond .ne 5, 3) := by decide +kernel
theorem dX8_member_22 : decode cX8_member 22 = .ok (.iconst (-1), 1) := by decide +kernel
theorem dX8_member_23 : decode cX8_member 23 = .ok (.ireturn, 1) := by decide +kernel
theorem dX8_member_24 : decode cX8_member 24 = .ok (.iload_n 2, 1) := by decide +kernel
theorem dX8_member_25 : decode cX8_member 25 = .ok (.ifCond .ne 12, 3) := by decide +kernel
theorem dX8_member_28 : decode cX8_member 28 = .ok (.aload_n 0, 1) := by decide +kernel
theorem dX8_member_29 : decode cX8_member 29 = .ok (.getfield 22, 3) := by decide +kernel
theorem dX8_member_32 : decode cX8_member 32 = .ok (.iload_n 1, 1) := by decide +kernel
theorem dX8_member_33 : decode cX8_member 33 = .ok (.iaload, 1) := by decide +kernel
theorem dX8_member_34 : decode cX8_member 34 = .ok (.goto 48, 3) := by decide +kernel
theorem dX8_member_37 : decode cX8_member 37 = .ok (.iload_n 2, 1) := by decide +kernel
theorem dX8_member_38 : decode cX8_member 38 = .ok (.iconst 1, 1) := by decide +kernel
theorem dX8_member_39 : decode cX8_member 39 = .ok (.if_icmp .ne 12, 3) := by decide +kernel
theorem dX8_member_42 : decode cX8_member 42 = .ok (.aload_n 0, 1) := by decide +kernel
theorem dX8_member_43 : decode cX8_member 43 = .ok (.getfield 16, 3) := by decide +kernel
theorem dX8_member_46 : decode cX8_member 46 = .ok (.iload_n 1, 1) := by decide +kernel
theorem dX8_member_47 : decode cX8_member 47 = .ok (.iaload, 1) := by decide +kernel
theorem dX8_member_48 : decode cX8_member 48 = .ok (.goto 34, 3) := by decide +kernel
theorem dX8_member_51 : decode cX8_member 51 = .ok (.iload_n 2, 1) := by decide +kernel
theorem dX8_member_52 : decode cX8_member 52 = .ok (.iconst 2, 1) := by decide +kernel
theorem dX8_member_53 : decode cX8_member 53 = .ok (.if_icmp .ne 20, 3) := by decide +kernel
theorem dX8_member_56 : decode cX8_member 56 = .ok (.aload_n 0, 1) := by decide +kernel
theorem dX8_member_57 : decode cX8_member 57 = .ok (.getfield 22, 3) := by decide +kernel
theorem dX8_member_60 : decode cX8_member 60 = .ok (.iload_n 1, 1) := by decide +kernel
theorem dX8_member_61 : decode cX8_member 61 = .ok (.iaload, 1) := by decide +kernel
theorem dX8_member_62 : decode cX8_member 62 = .ok (.ifCond .ne 7, 3) := by decide +kernel
theorem dX8_member_65 : decode cX8_member 65 = .ok (.iconst 1, 1) := by decide +kernel
theorem dX8_member_66 : decode cX8_member 66 = .ok (.goto 16, 3) := by decide +kernel
theorem dX8_member_69 : decode cX8_member 69 = .ok (.iconst 0, 1) := by decide +kernel
theorem dX8_member_70 : decode cX8_member 70 = .ok (.goto 12, 3) := by decide +kernel
theorem dX8_member_73 : decode cX8_member 73 = .ok (.aload_n 0, 1) := by decide +kernel
theorem dX8_member_74 : decode cX8_member 74 = .ok (.getfield 19, 3) := by decide +kernel
theorem dX8_member_77 : decode cX8_member 77 = .ok (.iload_n 1, 1) := by decide +kernel
theorem dX8_member_78 : decode cX8_member 78 = .ok (.iaload, 1) := by decide +kernel
theorem dX8_member_79 : decode cX8_member 79 = .ok (.invokestatic 164, 3) := by decide +kernel
theorem dX8_member_82 : decode cX8_member 82 = .ok (.ireturn, 1) := by decide +kernel
theorem dX8_frozenNow_0 : decode cX8_frozenNow 0 = .ok (.iconst 0, 1) := by decide +kernel
theorem dX8_frozenNow_1 : decode cX8_frozenNow 1 = .ok (.istore_n 1, 1) := by decide +kernel
theorem dX8_frozenNow_2 : decode cX8_frozenNow 2 = .ok (.iconst 0, 1) := by decide +kernel
theorem dX8_frozenNow_3 : decode cX8_frozenNow 3 = .ok (.istore_n 2, 1) := by decide +kernel
theorem dX8_frozenNow_4 : decode cX8_frozenNow 4 = .ok (.iload_n 2, 1) := by decide +kernel
theorem dX8_frozenNow_5 : decode cX8_frozenNow 5 = .ok (.aload_n 0, 1) := by decide +kernel
theorem dX8_frozenNow_6 : decode cX8_frozenNow 6 = .ok (.getfield 145, 3) := by decide +kernel
theorem dX8_frozenNow_9 : decode cX8_frozenNow 9 = .ok (.if_icmp .ge 28, 3) := by decide +kernel
theorem dX8_frozenNow_12 : decode cX8_frozenNow 12 = .ok (.iload_n 1, 1) := by decide +kernel
theorem dX8_frozenNow_13 : decode cX8_frozenNow 13 = .ok (.aload_n 0, 1) := by decide +kernel
theorem dX8_frozenNow_14 : decode cX8_frozenNow 14 = .ok (.getfield 22, 3) := by decide +kernel
theorem dX8_frozenNow_17 : decode cX8_frozenNow 17 = .ok (.iload_n 2, 1) := by decide +kernel
theorem dX8_frozenNow_18 : decode cX8_frozenNow 18 = .ok (.iaload, 1) := by decide +kernel
theorem dX8_frozenNow_19 : decode cX8_frozenNow 19 = .ok (.ifCond .ne 9, 3) := by decide +kernel
theorem dX8_frozenNow_22 : decode cX8_frozenNow 22 = .ok (.iconst 1, 1) := by decide +kernel
theorem dX8_frozenNow_23 : decode cX8_frozenNow 23 = .ok (.iload_n 2, 1) := by decide +kernel
theorem dX8_frozenNow_24 : decode cX8_frozenNow 24 = .ok (.ishl, 1) := by decide +kernel
theorem dX8_frozenNow_25 : decode cX8_frozenNow 25 = .ok (.goto 4, 3) := by decide +kernel
theorem dX8_frozenNow_28 : decode cX8_frozenNow 28 = .ok (.iconst 0, 1) := by decide +kernel
theorem dX8_frozenNow_29 : decode cX8_frozenNow 29 = .ok (.ior, 1) := by decide +kernel
theorem dX8_frozenNow_30 : decode cX8_frozenNow 30 = .ok (.istore_n 1, 1) := by decide +kernel
theorem dX8_frozenNow_31 : decode cX8_frozenNow 31 = .ok (.iinc 2 1, 3) := by decide +kernel
theorem dX8_frozenNow_34 : decode cX8_frozenNow 34 = .ok (.goto (-30), 3) := by decide +kernel
theorem dX8_frozenNow_37 : decode cX8_frozenNow 37 = .ok (.iload_n 1, 1) := by decide +kernel
theorem dX8_frozenNow_38 : decode cX8_frozenNow 38 = .ok (.ireturn, 1) := by decide +kernel
set_option maxRecDepth 20000 in
theorem ggX8_told_X8_frozenNow : GoodIn wsX8_told wsX8_frozenNow := goodIn_r _ [9, 10, 3, 11, 12, 13, 14, 15, 16, 17, 18, 19, 20, 21, 22, 23, 24, 25, 26, 27, 28, 29, 30, 31, 32, 33, 34, 35, 36, 37, 38, 39, 40, 41, 42, 43, 44, 45] (by decide +kernel) (by decide +kernel)
set_option maxRecDepth 20000 in
theorem gX8_told_X8_frozenNow : GoodIn wsX8_told (wsV RX8 167 RX8 yX8_frozenNow wsX8_frozenNow) := goodIn_app (goodIn_of _ (by decide +kernel)) ggX8_told_X8_frozenNow
theorem dX8_told_0 : decode cX8_told 0 = .ok (.aload_n 0, 1) := by decide +kernel
theorem dX8_told_1 : decode cX8_told 1 = .ok (.iconst 0, 1) := by decide +kernel
theorem dX8_told_2 : decode cX8_told 2 = .ok (.putfield 63, 3) := by decide +kernel
theorem dX8_told_5 : decode cX8_told 5 = .ok (.iload_n 1, 1) := by decide +kernel
theorem dX8_told_6 : decode cX8_told 6 = .ok (.iconst 3, 1) := by decide +kernel
theorem dX8_told_7 : decode cX8_told 7 = .ok (.if_icmp .ge 43, 3) := by decide +kernel
theorem dX8_told_10 : decode cX8_told 10 = .ok (.iload_n 1, 1) := by decide +kernel
theorem dX8_told_11 : decode cX8_told 11 = .ok (.ifCond .ne 10, 3) := by decide +kernel
theorem dX8_told_14 : decode cX8_told 14 = .ok (.aload_n 0, 1) := by decide +kernel
theorem dX8_told_15 : decode cX8_told 15 = .ok (.getfield 53, 3) := by decide +kernel
theorem dX8_told_18 : decode cX8_told 18 = .ok (.goto 31, 3) := by decide +kernel
theorem dX8_told_21 : decode cX8_told 21 = .ok (.iload_n 1, 1) := by decide +kernel
theorem dX8_told_22 : decode cX8_told 22 = .ok (.iconst 1, 1) := by decide +kernel
theorem dX8_told_23 : decode cX8_told 23 = .ok (.if_icmp .ne 13, 3) := by decide +kernel
theorem dX8_told_26 : decode cX8_told 26 = .ok (.aload_n 0, 1) := by decide +kernel
theorem dX8_told_27 : decode cX8_told 27 = .ok (.getfield 22, 3) := by decide +kernel
theorem dX8_told_30 : decode cX8_told 30 = .ok (.bipush 7, 2) := by decide +kernel
theorem dX8_told_32 : decode cX8_told 32 = .ok (.iaload, 1) := by decide +kernel
theorem dX8_told_33 : decode cX8_told 33 = .ok (.goto 16, 3) := by decide +kernel
theorem dX8_told_36 : decode cX8_told 36 = .ok (.iload_n 1, 1) := by decide +kernel
theorem dX8_told_37 : decode cX8_told 37 = .ok (.iconst 2, 1) := by decide +kernel
theorem dX8_told_38 : decode cX8_told 38 = .ok (.if_icmp .ne 10, 3) := by decide +kernel
theorem dX8_told_41 : decode cX8_told 41 = .ok (.aload_n 0, 1) := by decide +kernel
theorem dX8_told_42 : decode cX8_told 42 = .ok (.getfield 151, 3) := by decide +kernel
theorem dX8_told_45 : decode cX8_told 45 = .ok (.goto 4, 3) := by decide +kernel
theorem dX8_told_48 : decode cX8_told 48 = .ok (.iconst (-1), 1) := by decide +kernel
theorem dX8_told_49 : decode cX8_told 49 = .ok (.ireturn, 1) := by decide +kernel
theorem dX8_told_50 : decode cX8_told 50 = .ok (.iload_n 1, 1) := by decide +kernel
theorem dX8_told_51 : decode cX8_told 51 = .ok (.iconst 3, 1) := by decide +kernel
theorem dX8_told_52 : decode cX8_told 52 = .ok (.if_icmp .ne 13, 3) := by decide +kernel
theorem dX8_told_55 : decode cX8_told 55 = .ok (.aload_n 0, 1) := by decide +kernel
theorem dX8_told_56 : decode cX8_told 56 = .ok (.getfield 22, 3) := by decide +kernel
theorem dX8_told_59 : decode cX8_told 59 = .ok (.bipush 6, 2) := by decide +kernel
theorem dX8_told_61 : decode cX8_told 61 = .ok (.iaload, 1) := by decide +kernel
theorem dX8_told_62 : decode cX8_told 62 = .ok (.goto 31, 3) := by decide +kernel
theorem dX8_told_65 : decode cX8_told 65 = .ok (.iload_n 1, 1) := by decide +kernel
theorem dX8_told_66 : decode cX8_told 66 = .ok (.iconst 4, 1) := by decide +kernel
theorem dX8_told_67 : decode cX8_told 67 = .ok (.if_icmp .ne 13, 3) := by decide +kernel
theorem dX8_told_70 : decode cX8_told 70 = .ok (.aload_n 0, 1) := by decide +kernel
theorem dX8_told_71 : decode cX8_told 71 = .ok (.getfield 22, 3) := by decide +kernel
theorem dX8_told_74 : decode cX8_told 74 = .ok (.bipush 8, 2) := by decide +kernel
theorem dX8_told_76 : decode cX8_told 76 = .ok (.iaload, 1) := by decide +kernel
theorem dX8_told_77 : decode cX8_told 77 = .ok (.goto 16, 3) := by decide +kernel
theorem dX8_told_80 : decode cX8_told 80 = .ok (.iload_n 1, 1) := by decide +kernel
theorem dX8_told_81 : decode cX8_told 81 = .ok (.iconst 5, 1) := by decide +kernel
theorem dX8_told_82 : decode cX8_told 82 = .ok (.if_icmp .ne 10, 3) := by decide +kernel
theorem dX8_told_85 : decode cX8_told 85 = .ok (.aload_n 0, 1) := by decide +kernel
theorem dX8_told_86 : decode cX8_told 86 = .ok (.invokevirtual 167, 3) := by decide +kernel
theorem dX8_told_89 : decode cX8_told 89 = .ok (.goto 4, 3) := by decide +kernel
theorem dX8_told_92 : decode cX8_told 92 = .ok (.iconst (-1), 1) := by decide +kernel
theorem dX8_told_93 : decode cX8_told 93 = .ok (.ireturn, 1) := by decide +kernel
theorem dX8_warmed_0 : decode cX8_warmed 0 = .ok (.iload_n 2, 1) := by decide +kernel
theorem dX8_warmed_1 : decode cX8_warmed 1 = .ok (.ifCond .ne 5, 3) := by decide +kernel
theorem dX8_warmed_4 : decode cX8_warmed 4 = .ok (.iconst 0, 1) := by decide +kernel
theorem dX8_warmed_5 : decode cX8_warmed 5 = .ok (.ireturn, 1) := by decide +kernel
theorem dX8_warmed_6 : decode cX8_warmed 6 = .ok (.iload_n 1, 1) := by decide +kernel
theorem dX8_warmed_7 : decode cX8_warmed 7 = .ok (.iload_n 3, 1) := by decide +kernel
theorem dX8_warmed_8 : decode cX8_warmed 8 = .ok (.if_icmp .ne 22, 3) := by decide +kernel
theorem dX8_warmed_11 : decode cX8_warmed 11 = .ok (.iload_n 2, 1) := by decide +kernel
theorem dX8_warmed_12 : decode cX8_warmed 12 = .ok (.iload 4, 2) := by decide +kernel
theorem dX8_warmed_14 : decode cX8_warmed 14 = .ok (.iadd, 1) := by decide +kernel
theorem dX8_warmed_15 : decode cX8_warmed 15 = .ok (.bipush 20, 2) := by decide +kernel
theorem dX8_warmed_17 : decode cX8_warmed 17 = .ok (.if_icmp .le 8, 3) := by decide +kernel
theorem dX8_warmed_20 : decode cX8_warmed 20 = .ok (.bipush 20, 2) := by decide +kernel
theorem dX8_warmed_22 : decode cX8_warmed 22 = .ok (.goto 7, 3) := by decide +kernel
theorem dX8_warmed_25 : decode cX8_warmed 25 = .ok (.iload_n 2, 1) := by decide +kernel
theorem dX8_warmed_26 : decode cX8_warmed 26 = .ok (.iload 4, 2) := by decide +kernel
theorem dX8_warmed_28 : decode cX8_warmed 28 = .ok (.iadd, 1) := by decide +kernel
theorem dX8_warmed_29 : decode cX8_warmed 29 = .ok (.ireturn, 1) := by decide +kernel
theorem dX8_warmed_30 : decode cX8_warmed 30 = .ok (.iload_n 3, 1) := by decide +kernel
theorem dX8_warmed_31 : decode cX8_warmed 31 = .ok (.bipush (-9), 2) := by decide +kernel
theorem dX8_warmed_33 : decode cX8_warmed 33 = .ok (.if_icmp .eq 21, 3) := by decide +kernel
theorem dX8_warmed_36 : decode cX8_warmed 36 = .ok (.aload_n 0, 1) := by decide +kernel
theorem dX8_warmed_37 : decode cX8_warmed 37 = .ok (.getfield 19, 3) := by decide +kernel
theorem dX8_warmed_40 : decode cX8_warmed 40 = .ok (.iload_n 3, 1) := by decide +kernel
theorem dX8_warmed_41 : decode cX8_warmed 41 = .ok (.iaload, 1) := by decide +kernel
theorem dX8_warmed_42 : decode cX8_warmed 42 = .ok (.iload_n 1, 1) := by decide +kernel
theorem dX8_warmed_43 : decode cX8_warmed 43 = .ok (.ishr, 1) := by decide +kernel
theorem dX8_warmed_44 : decode cX8_warmed 44 = .ok (.iconst 1, 1) := by decide +kernel
theorem dX8_warmed_45 : decode cX8_warmed 45 = .ok (.iand, 1) := by decide +kernel
theorem dX8_warmed_46 : decode cX8_warmed 46 = .ok (.iconst 1, 1) := by decide +kernel
theorem dX8_warmed_47 : decode cX8_warmed 47 = .ok (.if_icmp .ne 7, 3) := by decide +kernel
theorem dX8_warmed_50 : decode cX8_warmed 50 = .ok (.iconst 1, 1) := by decide +kernel
theorem dX8_warmed_51 : decode cX8_warmed 51 = .ok (.goto 4, 3) := by decide +kernel
theorem dX8_warmed_54 : decode cX8_warmed 54 = .ok (.iconst 0, 1) := by decide +kernel
theorem dX8_warmed_55 : decode cX8_warmed 55 = .ok (.istore 5, 2) := by decide +kernel
theorem dX8_warmed_57 : decode cX8_warmed 57 = .ok (.iload 5, 2) := by decide +kernel
theorem dX8_warmed_59 : decode cX8_warmed 59 = .ok (.ifCond .eq 7, 3) := by decide +kernel
theorem dX8_warmed_62 : decode cX8_warmed 62 = .ok (.iload_n 2, 1) := by decide +kernel
theorem dX8_warmed_63 : decode cX8_warmed 63 = .ok (.goto 9, 3) := by decide +kernel
theorem dX8_warmed_66 : decode cX8_warmed 66 = .ok (.iload_n 2, 1) := by decide +kernel
theorem dX8_warmed_67 : decode cX8_warmed 67 = .ok (.aload_n 0, 1) := by decide +kernel
theorem dX8_warmed_68 : decode cX8_warmed 68 = .ok (.getfield 53, 3) := by decide +kernel
theorem dX8_warmed_71 : decode cX8_warmed 71 = .ok (.isub, 1) := by decide +kernel
theorem dX8_warmed_72 : decode cX8_warmed 72 = .ok (.istore 6, 2) := by decide +kernel
theorem dX8_warmed_74 : decode cX8_warmed 74 = .ok (.iload 6, 2) := by decide +kernel
theorem dX8_warmed_76 : decode cX8_warmed 76 = .ok (.ifCond .ge 7, 3) := by decide +kernel
theorem dX8_warmed_79 : decode cX8_warmed 79 = .ok (.iconst 0, 1) := by decide +kernel
theorem dX8_warmed_80 : decode cX8_warmed 80 = .ok (.goto 5, 3) := by decide +kernel
theorem dX8_warmed_83 : decode cX8_warmed 83 = .ok (.iload 6, 2) := by decide +kernel
theorem dX8_warmed_85 : decode cX8_warmed 85 = .ok (.ireturn, 1) := by decide +kernel
set_option maxRecDepth 20000 in
theorem ggX8_passes_X8_warmed : GoodIn wsX8_passes wsX8_warmed := goodIn_r _ [7, 8, 9, 10, 11, 12, 13, 14, 15, 16, 17, 18, 19, 20, 21, 22, 23, 24, 25, 26, 27, 28, 29, 30, 31, 32, 33, 34, 35, 36, 37, 38, 39, 40, 41, 42, 43, 44] (by decide +kernel) (by decide +kernel)
set_option maxRecDepth 20000 in
theorem gX8_passes_X8_warmed : GoodIn wsX8_passes (wsV RX8 171 RX8 yX8_warmed wsX8_warmed) := goodIn_app (goodIn_of _ (by decide +kernel)) ggX8_passes_X8_warmed
theorem dX8_passes_0 : decode cX8_passes 0 = .ok (.iconst 0, 1) := by decide +kernel
theorem dX8_passes_1 : decode cX8_passes 1 = .ok (.istore_n 1, 1) := by decide +kernel
theorem dX8_passes_2 : decode cX8_passes 2 = .ok (.iload_n 1, 1) := by decide +kernel
theorem dX8_passes_3 : decode cX8_passes 3 = .ok (.aload_n 0, 1) := by decide +kernel
theorem dX8_passes_4 : decode cX8_passes 4 = .ok (.getfield 145, 3) := by decide +kernel
theorem dX8_passes_7 : decode cX8_passes 7 = .ok (.if_icmp .ge 40, 3) := by decide +kernel
theorem dX8_passes_10 : decode cX8_passes 10 = .ok (.aload_n 0, 1) := by decide +kernel
theorem dX8_passes_11 : decode cX8_passes 11 = .ok (.getfield 22, 3) := by decide +kernel
theorem dX8_passes_14 : decode cX8_passes 14 = .ok (.iload_n 1, 1) := by decide +kernel
theorem dX8_passes_15 : decode cX8_passes 15 = .ok (.aload_n 0, 1) := by decide +kernel
theorem dX8_passes_16 : decode cX8_passes 16 = .ok (.iload_n 1, 1) := by decide +kernel
theorem dX8_passes_17 : decode cX8_passes 17 = .ok (.aload_n 0, 1) := by decide +kernel
theorem dX8_passes_18 : decode cX8_passes 18 = .ok (.getfield 22, 3) := by decide +kernel
theorem dX8_passes_21 : decode cX8_passes 21 = .ok (.iload_n 1, 1) := by decide +kernel
theorem dX8_passes_22 : decode cX8_passes 22 = .ok (.iaload, 1) := by decide +kernel
theorem dX8_passes_23 : decode cX8_passes 23 = .ok (.aload_n 0, 1) := by decide +kernel
theorem dX8_passes_24 : decode cX8_passes 24 = .ok (.getfield 22, 3) := by decide +kernel
theorem dX8_passes_27 : decode cX8_passes 27 = .ok (.bipush 6, 2) := by decide +kernel
theorem dX8_passes_29 : decode cX8_passes 29 = .ok (.iaload, 1) := by decide +kernel
theorem dX8_passes_30 : decode cX8_passes 30 = .ok (.aload_n 0, 1) := by decide +kernel
theorem dX8_passes_31 : decode cX8_passes 31 = .ok (.getfield 22, 3) := by decide +kernel
theorem dX8_passes_34 : decode cX8_passes 34 = .ok (.bipush 7, 2) := by decide +kernel
theorem dX8_passes_36 : decode cX8_passes 36 = .ok (.iaload, 1) := by decide +kernel
theorem dX8_passes_37 : decode cX8_passes 37 = .ok (.invokevirtual 171, 3) := by decide +kernel
theorem dX8_passes_40 : decode cX8_passes 40 = .ok (.iastore, 1) := by decide +kernel
theorem dX8_passes_41 : decode cX8_passes 41 = .ok (.iinc 1 1, 3) := by decide +kernel
theorem dX8_passes_44 : decode cX8_passes 44 = .ok (.goto (-42), 3) := by decide +kernel
theorem dX8_passes_47 : decode cX8_passes 47 = .ok (.aload_n 0, 1) := by decide +kernel
theorem dX8_passes_48 : decode cX8_passes 48 = .ok (.getfield 22, 3) := by decide +kernel
theorem dX8_passes_51 : decode cX8_passes 51 = .ok (.bipush 8, 2) := by decide +kernel
theorem dX8_passes_53 : decode cX8_passes 53 = .ok (.dup2, 1) := by decide +kernel
theorem dX8_passes_54 : decode cX8_passes 54 = .ok (.iaload, 1) := by decide +kernel
theorem dX8_passes_55 : decode cX8_passes 55 = .ok (.iconst 1, 1) := by decide +kernel
theorem dX8_passes_56 : decode cX8_passes 56 = .ok (.iadd, 1) := by decide +kernel
theorem dX8_passes_57 : decode cX8_passes 57 = .ok (.iastore, 1) := by decide +kernel
theorem dX8_passes_58 : decode cX8_passes 58 = .ok (.return_, 1) := by decide +kernel
theorem dX8_notes_0 : decode cX8_notes 0 = .ok (.aload_n 0, 1) := by decide +kernel
theorem dX8_notes_1 : decode cX8_notes 1 = .ok (.getfield 157, 3) := by decide +kernel
theorem dX8_notes_4 : decode cX8_notes 4 = .ok (.bipush 10, 2) := by decide +kernel
theorem dX8_notes_6 : decode cX8_notes 6 = .ok (.if_icmp .ne 38, 3) := by decide +kernel
theorem dX8_notes_9 : decode cX8_notes 9 = .ok (.iconst 0, 1) := by decide +kernel
theorem dX8_notes_10 : decode cX8_notes 10 = .ok (.istore_n 1, 1) := by decide +kernel
theorem dX8_notes_11 : decode cX8_notes 11 = .ok (.iload_n 1, 1) := by decide +kernel
theorem dX8_notes_12 : decode cX8_notes 12 = .ok (.bipush 81, 2) := by decide +kernel
theorem dX8_notes_14 : decode cX8_notes 14 = .ok (.if_icmp .ge 24, 3) := by decide +kernel
theorem dX8_notes_17 : decode cX8_notes 17 = .ok (.aload_n 0, 1) := by decide +kernel
theorem dX8_notes_18 : decode cX8_notes 18 = .ok (.getfield 32, 3) := by decide +kernel
theorem dX8_notes_21 : decode cX8_notes 21 = .ok (.iload_n 1, 1) := by decide +kernel
theorem dX8_notes_22 : decode cX8_notes 22 = .ok (.aload_n 0, 1) := by decide +kernel
theorem dX8_notes_23 : decode cX8_notes 23 = .ok (.getfield 32, 3) := by decide +kernel
theorem dX8_notes_26 : decode cX8_notes 26 = .ok (.iload_n 1, 1) := by decide +kernel
theorem dX8_notes_27 : decode cX8_notes 27 = .ok (.bipush 9, 2) := by decide +kernel
theorem dX8_notes_29 : decode cX8_notes 29 = .ok (.iadd, 1) := by decide +kernel
theorem dX8_notes_30 : decode cX8_notes 30 = .ok (.iaload, 1) := by decide +kernel
theorem dX8_notes_31 : decode cX8_notes 31 = .ok (.iastore, 1) := by decide +kernel
theorem dX8_notes_32 : decode cX8_notes 32 = .ok (.iinc 1 1, 3) := by decide +kernel
theorem dX8_notes_35 : decode cX8_notes 35 = .ok (.goto (-24), 3) := by decide +kernel
theorem dX8_notes_38 : decode cX8_notes 38 = .ok (.aload_n 0, 1) := by decide +kernel
theorem dX8_notes_39 : decode cX8_notes 39 = .ok (.bipush 9, 2) := by decide +kernel
theorem dX8_notes_41 : decode cX8_notes 41 = .ok (.putfield 157, 3) := by decide +kernel
theorem dX8_notes_44 : decode cX8_notes 44 = .ok (.iconst 0, 1) := by decide +kernel
theorem dX8_notes_45 : decode cX8_notes 45 = .ok (.istore_n 1, 1) := by decide +kernel
theorem dX8_notes_46 : decode cX8_notes 46 = .ok (.iload_n 1, 1) := by decide +kernel
theorem dX8_notes_47 : decode cX8_notes 47 = .ok (.bipush 9, 2) := by decide +kernel
theorem dX8_notes_49 : decode cX8_notes 49 = .ok (.if_icmp .ge 29, 3) := by decide +kernel
theorem dX8_notes_52 : decode cX8_notes 52 = .ok (.aload_n 0, 1) := by decide +kernel
theorem dX8_notes_53 : decode cX8_notes 53 = .ok (.getfield 32, 3) := by decide +kernel
theorem dX8_notes_56 : decode cX8_notes 56 = .ok (.bipush 9, 2) := by decide +kernel
theorem dX8_notes_58 : decode cX8_notes 58 = .ok (.aload_n 0, 1) := by decide +kernel
theorem dX8_notes_59 : decode cX8_notes 59 = .ok (.getfield 157, 3) := by decide +kernel
theorem dX8_notes_62 : decode cX8_notes 62 = .ok (.imul, 1) := by decide +kernel
theorem dX8_notes_63 : decode cX8_notes 63 = .ok (.iload_n 1, 1) := by decide +kernel
theorem dX8_notes_64 : decode cX8_notes 64 = .ok (.iadd, 1) := by decide +kernel
theorem dX8_notes_65 : decode cX8_notes 65 = .ok (.aload_n 0, 1) := by decide +kernel
theorem dX8_notes_66 : decode cX8_notes 66 = .ok (.getfield 22, 3) := by decide +kernel
theorem dX8_notes_69 : decode cX8_notes 69 = .ok (.iload_n 1, 1) := by decide +kernel
theorem dX8_notes_70 : decode cX8_notes 70 = .ok (.iaload, 1) := by decide +kernel
theorem dX8_notes_71 : decode cX8_notes 71 = .ok (.iastore, 1) := by decide +kernel
theorem dX8_notes_72 : decode cX8_notes 72 = .ok (.iinc 1 1, 3) := by decide +kernel
theorem dX8_notes_75 : decode cX8_notes 75 = .ok (.goto (-29), 3) := by decide +kernel
theorem dX8_notes_78 : decode cX8_notes 78 = .ok (.aload_n 0, 1) := by decide +kernel
theorem dX8_notes_79 : decode cX8_notes 79 = .ok (.dup, 1) := by decide +kernel
theorem dX8_notes_80 : decode cX8_notes 80 = .ok (.getfield 157, 3) := by decide +kernel
theorem dX8_notes_83 : decode cX8_notes 83 = .ok (.iconst 1, 1) := by decide +kernel
theorem dX8_notes_84 : decode cX8_notes 84 = .ok (.iadd, 1) := by decide +kernel
theorem dX8_notes_85 : decode cX8_notes 85 = .ok (.putfield 157, 3) := by decide +kernel
theorem dX8_notes_88 : decode cX8_notes 88 = .ok (.return_, 1) := by decide +kernel
set_option maxRecDepth 20000 in
theorem ggX8_speaks_X8_isMember : GoodIn wsX8_speaks wsX8_isMember := goodIn_r _ [10, 11, 12, 13, 9, 14, 31, 32, 33, 34, 35, 36, 37, 38, 39, 40, 41, 42, 43, 44, 45, 46, 47, 48, 49, 50, 51, 52, 53, 54, 55, 56, 57, 58, 59, 60, 61, 62, 63, 64, 65] (by decide +kernel) (by decide +kernel)
set_option maxRecDepth 20000 in
theorem gX8_speaks_X8_isMember : GoodIn wsX8_speaks (wsV RX8 160 RX8 yX8_isMember wsX8_isMember) := goodIn_app (goodIn_of _ (by decide +kernel)) ggX8_speaks_X8_isMember
set_option maxRecDepth 20000 in
theorem ggX8_speaks_X8_in : GoodIn wsX8_speaks wsX8_in := goodIn_r _ [14] (by decide +kernel) (by decide +kernel)
set_option maxRecDepth 20000 in
theorem gX8_speaks_X8_in : GoodIn wsX8_speaks (va_wsS RX8 66 yX8_in wsX8_in) := goodIn_app (goodIn_of _ (by decide +kernel)) ggX8_speaks_X8_in
set_option maxRecDepth 20000 in
theorem ggX8_speaks_X8_notes : GoodIn wsX8_speaks wsX8_notes := goodIn_r _ [18, 19, 20, 2, 31, 32, 33, 34, 35, 36, 37, 38, 39, 40, 41, 42, 43, 44, 45, 46, 47, 48, 49, 50, 51, 52, 53, 54, 55, 56, 57, 58, 59, 60, 61, 62, 63, 64, 65] (by decide +kernel) (by decide +kernel)
set_option maxRecDepth 20000 in
theorem gX8_speaks_X8_notes : GoodIn wsX8_speaks (wsV RX8 175 RX8 yX8_notes wsX8_notes) := goodIn_app (goodIn_of _ (by decide +kernel)) ggX8_speaks_X8_notes
set_option maxRecDepth 20000 in
theorem ggX8_speaks_X8_passes : GoodIn wsX8_speaks wsX8_passes := goodIn_r _ [24, 11, 2, 25, 26, 27, 9, 28, 29, 30, 31, 32, 33, 34, 35, 36, 37, 38, 39, 40, 41, 42, 43, 44, 45, 46, 47, 48, 49, 50, 51, 52, 53, 54, 55, 56, 57, 58, 59, 60, 61, 62, 63, 64, 65] (by decide +kernel) (by decide +kernel)
set_option maxRecDepth 20000 in
theorem gX8_speaks_X8_passes : GoodIn wsX8_speaks (wsV RX8 180 RX8 yX8_passes wsX8_passes) := goodIn_app (goodIn_of _ (by decide +kernel)) ggX8_speaks_X8_passes
theorem dX8_speaks_0 : decode cX8_speaks 0 = .ok (.aload_n 0, 1) := by decide +kernel
theorem dX8_speaks_1 : decode cX8_speaks 1 = .ok (.iconst 0, 1) := by decide +kernel
theorem dX8_speaks_2 : decode cX8_speaks 2 = .ok (.putfield 63, 3) := by decide +kernel
theorem dX8_speaks_5 : decode cX8_speaks 5 = .ok (.aload_n 0, 1) := by decide +kernel
theorem dX8_speaks_6 : decode cX8_speaks 6 = .ok (.iload_n 1, 1) := by decide +kernel
theorem dX8_speaks_7 : decode cX8_speaks 7 = .ok (.invokevirtual 160, 3) := by decide +kernel
theorem dX8_speaks_10 : decode cX8_speaks 10 = .ok (.ifCond .eq 13, 3) := by decide +kernel
theorem dX8_speaks_13 : decode cX8_speaks 13 = .ok (.iload_n 2, 1) := by decide +kernel
theorem dX8_speaks_14 : decode cX8_speaks 14 = .ok (.iconst 1, 1) := by decide +kernel
theorem dX8_speaks_15 : decode cX8_speaks 15 = .ok (.bipush 9, 2) := by decide +kernel
theorem dX8_speaks_17 : decode cX8_speaks 17 = .ok (.invokestatic 66, 3) := by decide +kernel
theorem dX8_speaks_20 : decode cX8_speaks 20 = .ok (.ifCond .ne 5, 3) := by decide +kernel
theorem dX8_speaks_23 : decode cX8_speaks 23 = .ok (.iconst (-1), 1) := by decide +kernel
theorem dX8_speaks_24 : decode cX8_speaks 24 = .ok (.ireturn, 1) := by decide +kernel
theorem dX8_speaks_25 : decode cX8_speaks 25 = .ok (.aload_n 0, 1) := by decide +kernel
theorem dX8_speaks_26 : decode cX8_speaks 26 = .ok (.getfield 22, 3) := by decide +kernel
theorem dX8_speaks_29 : decode cX8_speaks 29 = .ok (.iload_n 1, 1) := by decide +kernel
theorem dX8_speaks_30 : decode cX8_speaks 30 = .ok (.iaload, 1) := by decide +kernel
theorem dX8_speaks_31 : decode cX8_speaks 31 = .ok (.ifCond .ne 6, 3) := by decide +kernel
theorem dX8_speaks_34 : decode cX8_speaks 34 = .ok (.bipush (-2), 2) := by decide +kernel
theorem dX8_speaks_36 : decode cX8_speaks 36 = .ok (.ireturn, 1) := by decide +kernel
theorem dX8_speaks_37 : decode cX8_speaks 37 = .ok (.aload_n 0, 1) := by decide +kernel
theorem dX8_speaks_38 : decode cX8_speaks 38 = .ok (.invokevirtual 175, 3) := by decide +kernel
theorem dX8_speaks_41 : decode cX8_speaks 41 = .ok (.aload_n 0, 1) := by decide +kernel
theorem dX8_speaks_42 : decode cX8_speaks 42 = .ok (.getfield 22, 3) := by decide +kernel
theorem dX8_speaks_45 : decode cX8_speaks 45 = .ok (.bipush 6, 2) := by decide +kernel
theorem dX8_speaks_47 : decode cX8_speaks 47 = .ok (.iload_n 1, 1) := by decide +kernel
theorem dX8_speaks_48 : decode cX8_speaks 48 = .ok (.iastore, 1) := by decide +kernel
theorem dX8_speaks_49 : decode cX8_speaks 49 = .ok (.iconst 0, 1) := by decide +kernel
theorem dX8_speaks_50 : decode cX8_speaks 50 = .ok (.istore_n 3, 1) := by decide +kernel
theorem dX8_speaks_51 : decode cX8_speaks 51 = .ok (.iconst 1, 1) := by decide +kernel
theorem dX8_speaks_52 : decode cX8_speaks 52 = .ok (.istore 4, 2) := by decide +kernel
theorem dX8_speaks_54 : decode cX8_speaks 54 = .ok (.iload_n 3, 1) := by decide +kernel
theorem dX8_speaks_55 : decode cX8_speaks 55 = .ok (.iload_n 2, 1) := by decide +kernel
theorem dX8_speaks_56 : decode cX8_speaks 56 = .ok (.if_icmp .ge 78, 3) := by decide +kernel
theorem dX8_speaks_59 : decode cX8_speaks 59 = .ok (.iload 4, 2) := by decide +kernel
theorem dX8_speaks_61 : decode cX8_speaks 61 = .ok (.ifCond .eq 73, 3) := by decide +kernel
theorem dX8_speaks_64 : decode cX8_speaks 64 = .ok (.iload_n 3, 1) := by decide +kernel
theorem dX8_speaks_65 : decode cX8_speaks 65 = .ok (.ifCond .le 54, 3) := by decide +kernel
theorem dX8_speaks_68 : decode cX8_speaks 68 = .ok (.aload_n 0, 1) := by decide +kernel
theorem dX8_speaks_69 : decode cX8_speaks 69 = .ok (.getfield 22, 3) := by decide +kernel
theorem dX8_speaks_72 : decode cX8_speaks 72 = .ok (.bipush 9, 2) := by decide +kernel
theorem dX8_speaks_74 : decode cX8_speaks 74 = .ok (.aload_n 0, 1) := by decide +kernel
theorem dX8_speaks_75 : decode cX8_speaks 75 = .ok (.getfield 22, 3) := by decide +kernel
theorem dX8_speaks_78 : decode cX8_speaks 78 = .ok (.bipush 9, 2) := by decide +kernel
theorem dX8_speaks_80 : decode cX8_speaks 80 = .ok (.iaload, 1) := by decide +kernel
theorem dX8_speaks_81 : decode cX8_speaks 81 = .ok (.ldc 178, 2) := by decide +kernel
theorem dX8_speaks_83 : decode cX8_speaks 83 = .ok (.imul, 1) := by decide +kernel
theorem dX8_speaks_84 : decode cX8_speaks 84 = .ok (.sipush 12345, 3) := by decide +kernel
theorem dX8_speaks_87 : decode cX8_speaks 87 = .ok (.iadd, 1) := by decide +kernel
theorem dX8_speaks_88 : decode cX8_speaks 88 = .ok (.iastore, 1) := by decide +kernel
theorem dX8_speaks_89 : decode cX8_speaks 89 = .ok (.aload_n 0, 1) := by decide +kernel
theorem dX8_speaks_90 : decode cX8_speaks 90 = .ok (.getfield 22, 3) := by decide +kernel
theorem dX8_speaks_93 : decode cX8_speaks 93 = .ok (.bipush 9, 2) := by decide +kernel
theorem dX8_speaks_95 : decode cX8_speaks 95 = .ok (.iaload, 1) := by decide +kernel
theorem dX8_speaks_96 : decode cX8_speaks 96 = .ok (.bipush 16, 2) := by decide +kernel
theorem dX8_speaks_98 : decode cX8_speaks 98 = .ok (.ishr, 1) := by decide +kernel
theorem dX8_speaks_99 : decode cX8_speaks 99 = .ok (.ldc 179, 2) := by decide +kernel
theorem dX8_speaks_101 : decode cX8_speaks 101 = .ok (.iand, 1) := by decide +kernel
theorem dX8_speaks_102 : decode cX8_speaks 102 = .ok (.bipush 10, 2) := by decide +kernel
theorem dX8_speaks_104 : decode cX8_speaks 104 = .ok (.irem, 1) := by decide +kernel
theorem dX8_speaks_105 : decode cX8_speaks 105 = .ok (.aload_n 0, 1) := by decide +kernel
theorem dX8_speaks_106 : decode cX8_speaks 106 = .ok (.getfield 151, 3) := by decide +kernel
theorem dX8_speaks_109 : decode cX8_speaks 109 = .ok (.if_icmp .lt 7, 3) := by decide +kernel
theorem dX8_speaks_112 : decode cX8_speaks 112 = .ok (.iconst 1, 1) := by decide +kernel
theorem dX8_speaks_113 : decode cX8_speaks 113 = .ok (.goto 4, 3) := by decide +kernel
theorem dX8_speaks_116 : decode cX8_speaks 116 = .ok (.iconst 0, 1) := by decide +kernel
theorem dX8_speaks_117 : decode cX8_speaks 117 = .ok (.istore 4, 2) := by decide +kernel
theorem dX8_speaks_119 : decode cX8_speaks 119 = .ok (.iload 4, 2) := by decide +kernel
theorem dX8_speaks_121 : decode cX8_speaks 121 = .ok (.ifCond .eq (-67), 3) := by decide +kernel
theorem dX8_speaks_124 : decode cX8_speaks 124 = .ok (.aload_n 0, 1) := by decide +kernel
theorem dX8_speaks_125 : decode cX8_speaks 125 = .ok (.invokevirtual 180, 3) := by decide +kernel
theorem dX8_speaks_128 : decode cX8_speaks 128 = .ok (.iinc 3 1, 3) := by decide +kernel
theorem dX8_speaks_131 : decode cX8_speaks 131 = .ok (.goto (-77), 3) := by decide +kernel
theorem dX8_speaks_134 : decode cX8_speaks 134 = .ok (.iload_n 3, 1) := by decide +kernel
theorem dX8_speaks_135 : decode cX8_speaks 135 = .ok (.ireturn, 1) := by decide +kernel
set_option maxRecDepth 20000 in
theorem ggX8_pause_X8_in : GoodIn wsX8_pause wsX8_in := goodIn_r _ [5] (by decide +kernel) (by decide +kernel)
set_option maxRecDepth 20000 in
theorem gX8_pause_X8_in : GoodIn wsX8_pause (va_wsS RX8 66 yX8_in wsX8_in) := goodIn_app (goodIn_of _ (by decide +kernel)) ggX8_pause_X8_in
set_option maxRecDepth 20000 in
theorem ggX8_pause_X8_notes : GoodIn wsX8_pause wsX8_notes := goodIn_r _ [9, 10, 11, 12, 31, 32, 33, 34, 35, 36, 37, 38, 39, 40, 41, 42, 43, 44, 45, 46, 47, 48, 49, 50, 51, 52, 53, 54, 55, 56, 57, 58, 59, 60, 61, 62, 63, 64, 65] (by decide +kernel) (by decide +kernel)
set_option maxRecDepth 20000 in
theorem gX8_pause_X8_notes : GoodIn wsX8_pause (wsV RX8 175 RX8 yX8_notes wsX8_notes) := goodIn_app (goodIn_of _ (by decide +kernel)) ggX8_pause_X8_notes
set_option maxRecDepth 20000 in
theorem ggX8_pause_X8_passes : GoodIn wsX8_pause wsX8_passes := goodIn_r _ [16, 17, 12, 18, 19, 20, 4, 21, 22, 23, 31, 32, 33, 34, 35, 36, 37, 38, 39, 40, 41, 42, 43, 44, 45, 46, 47, 48, 49, 50, 51, 52, 53, 54, 55, 56, 57, 58, 59, 60, 61, 62, 63, 64, 65] (by decide +kernel) (by decide +kernel)
set_option maxRecDepth 20000 in
theorem gX8_pause_X8_passes : GoodIn wsX8_pause (wsV RX8 180 RX8 yX8_passes wsX8_passes) := goodIn_app (goodIn_of _ (by decide +kernel)) ggX8_pause_X8_passes
set_option maxRecDepth 20000 in
theorem ggX8_pause_X8_frozenNow : GoodIn wsX8_pause wsX8_frozenNow := goodIn_r _ [27, 17, 12, 31, 32, 33, 34, 35, 36, 37, 38, 39, 40, 41, 42, 43, 44, 45, 46, 47, 48, 49, 50, 51, 52, 53, 54, 55, 56, 57, 58, 59, 60, 61, 62, 63, 64, 65] (by decide +kernel) (by decide +kernel)
set_option maxRecDepth 20000 in
theorem gX8_pause_X8_frozenNow : GoodIn wsX8_pause (wsV RX8 167 RX8 yX8_frozenNow wsX8_frozenNow) := goodIn_app (goodIn_of _ (by decide +kernel)) ggX8_pause_X8_frozenNow
set_option maxRecDepth 20000 in
theorem ggX8_pause_X8_ones : GoodIn wsX8_pause wsX8_ones := goodIn_r _ [30] (by decide +kernel) (by decide +kernel)
set_option maxRecDepth 20000 in
theorem gX8_pause_X8_ones : GoodIn wsX8_pause (va_wsS RX8 164 yX8_ones wsX8_ones) := goodIn_app (goodIn_of _ (by decide +kernel)) ggX8_pause_X8_ones
theorem dX8_pause_0 : decode cX8_pause 0 = .ok (.aload_n 0, 1) := by decide +kernel
theorem dX8_pause_1 : decode cX8_pause 1 = .ok (.iconst 0, 1) := by decide +kernel
theorem dX8_pause_2 : decode cX8_pause 2 = .ok (.putfield 63, 3) := by decide +kernel
theorem dX8_pause_5 : decode cX8_pause 5 = .ok (.iload_n 1, 1) := by decide +kernel
theorem dX8_pause_6 : decode cX8_pause 6 = .ok (.iconst 1, 1) := by decide +kernel
theorem dX8_pause_7 : decode cX8_pause 7 = .ok (.bipush 9, 2) := by decide +kernel
theorem dX8_pause_9 : decode cX8_pause 9 = .ok (.invokestatic 66, 3) := by decide +kernel
theorem dX8_pause_12 : decode cX8_pause 12 = .ok (.ifCond .ne 5, 3) := by decide +kernel
theorem dX8_pause_15 : decode cX8_pause 15 = .ok (.iconst (-1), 1) := by decide +kernel
theorem dX8_pause_16 : decode cX8_pause 16 = .ok (.ireturn, 1) := by decide +kernel
theorem dX8_pause_17 : decode cX8_pause 17 = .ok (.aload_n 0, 1) := by decide +kernel
theorem dX8_pause_18 : decode cX8_pause 18 = .ok (.invokevirtual 175, 3) := by decide +kernel
theorem dX8_pause_21 : decode cX8_pause 21 = .ok (.iconst 0, 1) := by decide +kernel
theorem dX8_pause_22 : decode cX8_pause 22 = .ok (.istore_n 2, 1) := by decide +kernel
theorem dX8_pause_23 : decode cX8_pause 23 = .ok (.iload_n 2, 1) := by decide +kernel
theorem dX8_pause_24 : decode cX8_pause 24 = .ok (.iload_n 1, 1) := by decide +kernel
theorem dX8_pause_25 : decode cX8_pause 25 = .ok (.if_icmp .ge 13, 3) := by decide +kernel
theorem dX8_pause_28 : decode cX8_pause 28 = .ok (.aload_n 0, 1) := by decide +kernel
theorem dX8_pause_29 : decode cX8_pause 29 = .ok (.invokevirtual 180, 3) := by decide +kernel
theorem dX8_pause_32 : decode cX8_pause 32 = .ok (.iinc 2 1, 3) := by decide +kernel
theorem dX8_pause_35 : decode cX8_pause 35 = .ok (.goto (-12), 3) := by decide +kernel
theorem dX8_pause_38 : decode cX8_pause 38 = .ok (.aload_n 0, 1) := by decide +kernel
theorem dX8_pause_39 : decode cX8_pause 39 = .ok (.invokevirtual 167, 3) := by decide +kernel
theorem dX8_pause_42 : decode cX8_pause 42 = .ok (.invokestatic 164, 3) := by decide +kernel
theorem dX8_pause_45 : decode cX8_pause 45 = .ok (.ireturn, 1) := by decide +kernel
set_option maxRecDepth 20000 in
theorem ggX8_lining_X8_notes : GoodIn wsX8_lining wsX8_notes := goodIn_r _ [7, 8, 9, 2, 10, 11, 12, 13, 14, 15, 16, 17, 18, 19, 20, 21, 22, 23, 24, 25, 26, 27, 28, 29, 30, 31, 32, 33, 34, 35, 36, 37, 38, 39, 40, 41, 42, 43, 44] (by decide +kernel) (by decide +kernel)
set_option maxRecDepth 20000 in
theorem gX8_lining_X8_notes : GoodIn wsX8_lining (wsV RX8 175 RX8 yX8_notes wsX8_notes) := goodIn_app (goodIn_of _ (by decide +kernel)) ggX8_lining_X8_notes
theorem dX8_lining_0 : decode cX8_lining 0 = .ok (.aload_n 0, 1) := by decide +kernel
theorem dX8_lining_1 : decode cX8_lining 1 = .ok (.iconst 0, 1) := by decide +kernel
theorem dX8_lining_2 : decode cX8_lining 2 = .ok (.putfield 63, 3) := by decide +kernel
theorem dX8_lining_5 : decode cX8_lining 5 = .ok (.aload_n 0, 1) := by decide +kernel
theorem dX8_lining_6 : decode cX8_lining 6 = .ok (.getfield 22, 3) := by decide +kernel
theorem dX8_lining_9 : decode cX8_lining 9 = .ok (.bipush 7, 2) := by decide +kernel
theorem dX8_lining_11 : decode cX8_lining 11 = .ok (.iaload, 1) := by decide +kernel
theorem dX8_lining_12 : decode cX8_lining 12 = .ok (.iconst 5, 1) := by decide +kernel
theorem dX8_lining_13 : decode cX8_lining 13 = .ok (.if_icmp .ne 6, 3) := by decide +kernel
theorem dX8_lining_16 : decode cX8_lining 16 = .ok (.bipush (-2), 2) := by decide +kernel
theorem dX8_lining_18 : decode cX8_lining 18 = .ok (.ireturn, 1) := by decide +kernel
theorem dX8_lining_19 : decode cX8_lining 19 = .ok (.aload_n 0, 1) := by decide +kernel
theorem dX8_lining_20 : decode cX8_lining 20 = .ok (.invokevirtual 175, 3) := by decide +kernel
theorem dX8_lining_23 : decode cX8_lining 23 = .ok (.aload_n 0, 1) := by decide +kernel
theorem dX8_lining_24 : decode cX8_lining 24 = .ok (.getfield 22, 3) := by decide +kernel
theorem dX8_lining_27 : decode cX8_lining 27 = .ok (.bipush 7, 2) := by decide +kernel
theorem dX8_lining_29 : decode cX8_lining 29 = .ok (.dup2, 1) := by decide +kernel
theorem dX8_lining_30 : decode cX8_lining 30 = .ok (.iaload, 1) := by decide +kernel
theorem dX8_lining_31 : decode cX8_lining 31 = .ok (.iconst 1, 1) := by decide +kernel
theorem dX8_lining_32 : decode cX8_lining 32 = .ok (.iadd, 1) := by decide +kernel
theorem dX8_lining_33 : decode cX8_lining 33 = .ok (.iastore, 1) := by decide +kernel
theorem dX8_lining_34 : decode cX8_lining 34 = .ok (.aload_n 0, 1) := by decide +kernel
theorem dX8_lining_35 : decode cX8_lining 35 = .ok (.getfield 22, 3) := by decide +kernel
theorem dX8_lining_38 : decode cX8_lining 38 = .ok (.bipush 7, 2) := by decide +kernel
theorem dX8_lining_40 : decode cX8_lining 40 = .ok (.iaload, 1) := by decide +kernel
theorem dX8_lining_41 : decode cX8_lining 41 = .ok (.ireturn, 1) := by decide +kernel
theorem dX8_undo_0 : decode cX8_undo 0 = .ok (.aload_n 0, 1) := by decide +kernel
theorem dX8_undo_1 : decode cX8_undo 1 = .ok (.iconst 0, 1) := by decide +kernel
theorem dX8_undo_2 : decode cX8_undo 2 = .ok (.putfield 63, 3) := by decide +kernel
theorem dX8_undo_5 : decode cX8_undo 5 = .ok (.aload_n 0, 1) := by decide +kernel
theorem dX8_undo_6 : decode cX8_undo 6 = .ok (.getfield 157, 3) := by decide +kernel
theorem dX8_undo_9 : decode cX8_undo 9 = .ok (.ifCond .ne 6, 3) := by decide +kernel
theorem dX8_undo_12 : decode cX8_undo 12 = .ok (.bipush (-2), 2) := by decide +kernel
theorem dX8_undo_14 : decode cX8_undo 14 = .ok (.ireturn, 1) := by decide +kernel
theorem dX8_undo_15 : decode cX8_undo 15 = .ok (.aload_n 0, 1) := by decide +kernel
theorem dX8_undo_16 : decode cX8_undo 16 = .ok (.dup, 1) := by decide +kernel
theorem dX8_undo_17 : decode cX8_undo 17 = .ok (.getfield 157, 3) := by decide +kernel
theorem dX8_undo_20 : decode cX8_undo 20 = .ok (.iconst 1, 1) := by decide +kernel
theorem dX8_undo_21 : decode cX8_undo 21 = .ok (.isub, 1) := by decide +kernel
theorem dX8_undo_22 : decode cX8_undo 22 = .ok (.putfield 157, 3) := by decide +kernel
theorem dX8_undo_25 : decode cX8_undo 25 = .ok (.iconst 0, 1) := by decide +kernel
theorem dX8_undo_26 : decode cX8_undo 26 = .ok (.istore_n 1, 1) := by decide +kernel
theorem dX8_undo_27 : decode cX8_undo 27 = .ok (.iload_n 1, 1) := by decide +kernel
theorem dX8_undo_28 : decode cX8_undo 28 = .ok (.bipush 9, 2) := by decide +kernel
theorem dX8_undo_30 : decode cX8_undo 30 = .ok (.if_icmp .ge 29, 3) := by decide +kernel
theorem dX8_undo_33 : decode cX8_undo 33 = .ok (.aload_n 0, 1) := by decide +kernel
theorem dX8_undo_34 : decode cX8_undo 34 = .ok (.getfield 22, 3) := by decide +kernel
theorem dX8_undo_37 : decode cX8_undo 37 = .ok (.iload_n 1, 1) := by decide +kernel
theorem dX8_undo_38 : decode cX8_undo 38 = .ok (.aload_n 0, 1) := by decide +kernel
theorem dX8_undo_39 : decode cX8_undo 39 = .ok (.getfield 32, 3) := by decide +kernel
theorem dX8_undo_42 : decode cX8_undo 42 = .ok (.bipush 9, 2) := by decide +kernel
theorem dX8_undo_44 : decode cX8_undo 44 = .ok (.aload_n 0, 1) := by decide +kernel
theorem dX8_undo_45 : decode cX8_undo 45 = .ok (.getfield 157, 3) := by decide +kernel
theorem dX8_undo_48 : decode cX8_undo 48 = .ok (.imul, 1) := by decide +kernel
theorem dX8_undo_49 : decode cX8_undo 49 = .ok (.iload_n 1, 1) := by decide +kernel
theorem dX8_undo_50 : decode cX8_undo 50 = .ok (.iadd, 1) := by decide +kernel
theorem dX8_undo_51 : decode cX8_undo 51 = .ok (.iaload, 1) := by decide +kernel
theorem dX8_undo_52 : decode cX8_undo 52 = .ok (.iastore, 1) := by decide +kernel
theorem dX8_undo_53 : decode cX8_undo 53 = .ok (.iinc 1 1, 3) := by decide +kernel
theorem dX8_undo_56 : decode cX8_undo 56 = .ok (.goto (-29), 3) := by decide +kernel
theorem dX8_undo_59 : decode cX8_undo 59 = .ok (.aload_n 0, 1) := by decide +kernel
theorem dX8_undo_60 : decode cX8_undo 60 = .ok (.getfield 157, 3) := by decide +kernel
theorem dX8_undo_63 : decode cX8_undo 63 = .ok (.ireturn, 1) := by decide +kernel
theorem dX8_lead_0 : decode cX8_lead 0 = .ok (.iconst 0, 1) := by decide +kernel
theorem dX8_lead_1 : decode cX8_lead 1 = .ok (.istore_n 2, 1) := by decide +kernel
theorem dX8_lead_2 : decode cX8_lead 2 = .ok (.iconst 0, 1) := by decide +kernel
theorem dX8_lead_3 : decode cX8_lead 3 = .ok (.istore_n 3, 1) := by decide +kernel
theorem dX8_lead_4 : decode cX8_lead 4 = .ok (.iload_n 3, 1) := by decide +kernel
theorem dX8_lead_5 : decode cX8_lead 5 = .ok (.aload_n 0, 1) := by decide +kernel
theorem dX8_lead_6 : decode cX8_lead 6 = .ok (.getfield 145, 3) := by decide +kernel
theorem dX8_lead_9 : decode cX8_lead 9 = .ok (.if_icmp .ge 42, 3) := by decide +kernel
theorem dX8_lead_12 : decode cX8_lead 12 = .ok (.iload_n 2, 1) := by decide +kernel
theorem dX8_lead_13 : decode cX8_lead 13 = .ok (.aload_n 0, 1) := by decide +kernel
theorem dX8_lead_14 : decode cX8_lead 14 = .ok (.getfield 41, 3) := by decide +kernel
theorem dX8_lead_17 : decode cX8_lead 17 = .ok (.iload_n 1, 1) := by decide +kernel
theorem dX8_lead_18 : decode cX8_lead 18 = .ok (.iload_n 3, 1) := by decide +kernel
theorem dX8_lead_19 : decode cX8_lead 19 = .ok (.iadd, 1) := by decide +kernel
theorem dX8_lead_20 : decode cX8_lead 20 = .ok (.iaload, 1) := by decide +kernel
theorem dX8_lead_21 : decode cX8_lead 21 = .ok (.ifCond .ne 7, 3) := by decide +kernel
theorem dX8_lead_24 : decode cX8_lead 24 = .ok (.iconst 0, 1) := by decide +kernel
theorem dX8_lead_25 : decode cX8_lead 25 = .ok (.goto 18, 3) := by decide +kernel
theorem dX8_lead_28 : decode cX8_lead 28 = .ok (.aload_n 0, 1) := by decide +kernel
theorem dX8_lead_29 : decode cX8_lead 29 = .ok (.getfield 16, 3) := by decide +kernel
theorem dX8_lead_32 : decode cX8_lead 32 = .ok (.iload_n 3, 1) := by decide +kernel
theorem dX8_lead_33 : decode cX8_lead 33 = .ok (.iaload, 1) := by decide +kernel
theorem dX8_lead_34 : decode cX8_lead 34 = .ok (.iconst 1, 1) := by decide +kernel
theorem dX8_lead_35 : decode cX8_lead 35 = .ok (.if_icmp .ne 7, 3) := by decide +kernel
theorem dX8_lead_38 : decode cX8_lead 38 = .ok (.iconst 1, 1) := by decide +kernel
theorem dX8_lead_39 : decode cX8_lead 39 = .ok (.goto 4, 3) := by decide +kernel
theorem dX8_lead_42 : decode cX8_lead 42 = .ok (.iconst (-1), 1) := by decide +kernel
theorem dX8_lead_43 : decode cX8_lead 43 = .ok (.iadd, 1) := by decide +kernel
theorem dX8_lead_44 : decode cX8_lead 44 = .ok (.istore_n 2, 1) := by decide +kernel
theorem dX8_lead_45 : decode cX8_lead 45 = .ok (.iinc 3 1, 3) := by decide +kernel
theorem dX8_lead_48 : decode cX8_lead 48 = .ok (.goto (-44), 3) := by decide +kernel
theorem dX8_lead_51 : decode cX8_lead 51 = .ok (.iload_n 2, 1) := by decide +kernel
theorem dX8_lead_52 : decode cX8_lead 52 = .ok (.ireturn, 1) := by decide +kernel
theorem dX8_setsBoard_0 : decode cX8_setsBoard 0 = .ok (.iconst 0, 1) := by decide +kernel
theorem dX8_setsBoard_1 : decode cX8_setsBoard 1 = .ok (.istore_n 1, 1) := by decide +kernel
theorem dX8_setsBoard_2 : decode cX8_setsBoard 2 = .ok (.iload_n 1, 1) := by decide +kernel
theorem dX8_setsBoard_3 : decode cX8_setsBoard 3 = .ok (.bipush 7, 2) := by decide +kernel
theorem dX8_setsBoard_5 : decode cX8_setsBoard 5 = .ok (.if_icmp .ge 21, 3) := by decide +kernel
theorem dX8_setsBoard_8 : decode cX8_setsBoard 8 = .ok (.aload_n 0, 1) := by decide +kernel
theorem dX8_setsBoard_9 : decode cX8_setsBoard 9 = .ok (.getfield 41, 3) := by decide +kernel
theorem dX8_setsBoard_12 : decode cX8_setsBoard 12 = .ok (.iload_n 1, 1) := by decide +kernel
theorem dX8_setsBoard_13 : decode cX8_setsBoard 13 = .ok (.aload_n 0, 1) := by decide +kernel
theorem dX8_setsBoard_14 : decode cX8_setsBoard 14 = .ok (.getfield 22, 3) := by decide +kernel
theorem dX8_setsBoard_17 : decode cX8_setsBoard 17 = .ok (.iload_n 1, 1) := by decide +kernel
theorem dX8_setsBoard_18 : decode cX8_setsBoard 18 = .ok (.iaload, 1) := by decide +kernel
theorem dX8_setsBoard_19 : decode cX8_setsBoard 19 = .ok (.iastore, 1) := by decide +kernel
theorem dX8_setsBoard_20 : decode cX8_setsBoard 20 = .ok (.iinc 1 1, 3) := by decide +kernel
theorem dX8_setsBoard_23 : decode cX8_setsBoard 23 = .ok (.goto (-21), 3) := by decide +kernel
theorem dX8_setsBoard_26 : decode cX8_setsBoard 26 = .ok (.return_, 1) := by decide +kernel
set_option maxRecDepth 20000 in
theorem ggX8_vote_X8_setsBoard : GoodIn wsX8_vote wsX8_setsBoard := goodIn_r _ [6, 7, 8, 15, 16, 17, 18, 19, 20, 21, 22, 23, 24, 25, 26, 27, 28, 29, 30, 31, 32, 33, 34, 35, 36, 37, 38, 39, 40, 41, 42, 43, 44, 45, 46, 47, 48, 49] (by decide +kernel) (by decide +kernel)
set_option maxRecDepth 20000 in
theorem gX8_vote_X8_setsBoard : GoodIn wsX8_vote (wsV RX8 183 RX8 yX8_setsBoard wsX8_setsBoard) := goodIn_app (goodIn_of _ (by decide +kernel)) ggX8_vote_X8_setsBoard
set_option maxRecDepth 20000 in
theorem ggX8_vote_X8_lead : GoodIn wsX8_vote wsX8_lead := goodIn_r _ [12, 13, 7, 14, 15, 16, 17, 18, 19, 20, 21, 22, 23, 24, 25, 26, 27, 28, 29, 30, 31, 32, 33, 34, 35, 36, 37, 38, 39, 40, 41, 42, 43, 44, 45, 46, 47, 48, 49] (by decide +kernel) (by decide +kernel)
set_option maxRecDepth 20000 in
theorem gX8_vote_X8_lead : GoodIn wsX8_vote (wsV RX8 186 RX8 yX8_lead wsX8_lead) := goodIn_app (goodIn_of _ (by decide +kernel)) ggX8_vote_X8_lead
theorem dX8_vote_0 : decode cX8_vote 0 = .ok (.aload_n 0, 1) := by decide +kernel
theorem dX8_vote_1 : decode cX8_vote 1 = .ok (.iconst 0, 1) := by decide +kernel
theorem dX8_vote_2 : decode cX8_vote 2 = .ok (.putfield 63, 3) := by decide +kernel
theorem dX8_vote_5 : decode cX8_vote 5 = .ok (.aload_n 0, 1) := by decide +kernel
theorem dX8_vote_6 : decode cX8_vote 6 = .ok (.invokevirtual 183, 3) := by decide +kernel
theorem dX8_vote_9 : decode cX8_vote 9 = .ok (.aload_n 0, 1) := by decide +kernel
theorem dX8_vote_10 : decode cX8_vote 10 = .ok (.iconst 0, 1) := by decide +kernel
theorem dX8_vote_11 : decode cX8_vote 11 = .ok (.invokevirtual 186, 3) := by decide +kernel
theorem dX8_vote_14 : decode cX8_vote 14 = .ok (.ifCond .le 7, 3) := by decide +kernel
theorem dX8_vote_17 : decode cX8_vote 17 = .ok (.iconst 1, 1) := by decide +kernel
theorem dX8_vote_18 : decode cX8_vote 18 = .ok (.goto 4, 3) := by decide +kernel
theorem dX8_vote_21 : decode cX8_vote 21 = .ok (.iconst 0, 1) := by decide +kernel
theorem dX8_vote_22 : decode cX8_vote 22 = .ok (.ireturn, 1) := by decide +kernel
theorem dX8_lot_0 : decode cX8_lot 0 = .ok (.aload_n 0, 1) := by decide +kernel
theorem dX8_lot_1 : decode cX8_lot 1 = .ok (.iconst 0, 1) := by decide +kernel
theorem dX8_lot_2 : decode cX8_lot 2 = .ok (.putfield 63, 3) := by decide +kernel
theorem dX8_lot_5 : decode cX8_lot 5 = .ok (.aload_n 0, 1) := by decide +kernel
theorem dX8_lot_6 : decode cX8_lot 6 = .ok (.getfield 22, 3) := by decide +kernel
theorem dX8_lot_9 : decode cX8_lot 9 = .ok (.bipush 9, 2) := by decide +kernel
theorem dX8_lot_11 : decode cX8_lot 11 = .ok (.iaload, 1) := by decide +kernel
theorem dX8_lot_12 : decode cX8_lot 12 = .ok (.istore_n 2, 1) := by decide +kernel
theorem dX8_lot_13 : decode cX8_lot 13 = .ok (.aload_n 0, 1) := by decide +kernel
theorem dX8_lot_14 : decode cX8_lot 14 = .ok (.getfield 22, 3) := by decide +kernel
theorem dX8_lot_17 : decode cX8_lot 17 = .ok (.bipush 9, 2) := by decide +kernel
theorem dX8_lot_19 : decode cX8_lot 19 = .ok (.iload_n 1, 1) := by decide +kernel
theorem dX8_lot_20 : decode cX8_lot 20 = .ok (.iastore, 1) := by decide +kernel
theorem dX8_lot_21 : decode cX8_lot 21 = .ok (.iload_n 2, 1) := by decide +kernel
theorem dX8_lot_22 : decode cX8_lot 22 = .ok (.ireturn, 1) := by decide +kernel
set_option maxRecDepth 20000 in
theorem ggX8_goes_X8_warmed : GoodIn wsX8_goes wsX8_warmed := goodIn_r _ [7, 8, 9, 10, 11, 12, 13, 14, 15, 16, 17, 18, 19, 20, 21, 22, 23, 24, 25, 26, 27, 28, 29, 30, 31, 32, 33, 34, 35, 36, 37, 38, 39, 40, 41, 42, 43, 44] (by decide +kernel) (by decide +kernel)
set_option maxRecDepth 20000 in
theorem gX8_goes_X8_warmed : GoodIn wsX8_goes (wsV RX8 171 RX8 yX8_warmed wsX8_warmed) := goodIn_app (goodIn_of _ (by decide +kernel)) ggX8_goes_X8_warmed
theorem dX8_goes_0 : decode cX8_goes 0 = .ok (.iload_n 1, 1) := by decide +kernel
theorem dX8_goes_1 : decode cX8_goes 1 = .ok (.bipush 7, 2) := by decide +kernel
theorem dX8_goes_3 : decode cX8_goes 3 = .ok (.iadd, 1) := by decide +kernel
theorem dX8_goes_4 : decode cX8_goes 4 = .ok (.istore 4, 2) := by decide +kernel
theorem dX8_goes_6 : decode cX8_goes 6 = .ok (.iload_n 2, 1) := by decide +kernel
theorem dX8_goes_7 : decode cX8_goes 7 = .ok (.bipush (-9), 2) := by decide +kernel
theorem dX8_goes_9 : decode cX8_goes 9 = .ok (.if_icmp .ne 15, 3) := by decide +kernel
theorem dX8_goes_12 : decode cX8_goes 12 = .ok (.aload_n 0, 1) := by decide +kernel
theorem dX8_goes_13 : decode cX8_goes 13 = .ok (.getfield 41, 3) := by decide +kernel
theorem dX8_goes_16 : decode cX8_goes 16 = .ok (.iload_n 1, 1) := by decide +kernel
theorem dX8_goes_17 : decode cX8_goes 17 = .ok (.bipush 6, 2) := by decide +kernel
theorem dX8_goes_19 : decode cX8_goes 19 = .ok (.iadd, 1) := by decide +kernel
theorem dX8_goes_20 : decode cX8_goes 20 = .ok (.iaload, 1) := by decide +kernel
theorem dX8_goes_21 : decode cX8_goes 21 = .ok (.goto 4, 3) := by decide +kernel
theorem dX8_goes_24 : decode cX8_goes 24 = .ok (.iload_n 2, 1) := by decide +kernel
theorem dX8_goes_25 : decode cX8_goes 25 = .ok (.istore 5, 2) := by decide +kernel
theorem dX8_goes_27 : decode cX8_goes 27 = .ok (.iconst 0, 1) := by decide +kernel
theorem dX8_goes_28 : decode cX8_goes 28 = .ok (.istore 6, 2) := by decide +kernel
theorem dX8_goes_30 : decode cX8_goes 30 = .ok (.iload 6, 2) := by decide +kernel
theorem dX8_goes_32 : decode cX8_goes 32 = .ok (.bipush 6, 2) := by decide +kernel
theorem dX8_goes_34 : decode cX8_goes 34 = .ok (.if_icmp .ge 50, 3) := by decide +kernel
theorem dX8_goes_37 : decode cX8_goes 37 = .ok (.aload_n 0, 1) := by decide +kernel
theorem dX8_goes_38 : decode cX8_goes 38 = .ok (.getfield 41, 3) := by decide +kernel
theorem dX8_goes_41 : decode cX8_goes 41 = .ok (.iload 4, 2) := by decide +kernel
theorem dX8_goes_43 : decode cX8_goes 43 = .ok (.iload 6, 2) := by decide +kernel
theorem dX8_goes_45 : decode cX8_goes 45 = .ok (.iadd, 1) := by decide +kernel
theorem dX8_goes_46 : decode cX8_goes 46 = .ok (.iload 6, 2) := by decide +kernel
theorem dX8_goes_48 : decode cX8_goes 48 = .ok (.aload_n 0, 1) := by decide +kernel
theorem dX8_goes_49 : decode cX8_goes 49 = .ok (.getfield 145, 3) := by decide +kernel
theorem dX8_goes_52 : decode cX8_goes 52 = .ok (.if_icmp .ge 24, 3) := by decide +kernel
theorem dX8_goes_55 : decode cX8_goes 55 = .ok (.aload_n 0, 1) := by decide +kernel
theorem dX8_goes_56 : decode cX8_goes 56 = .ok (.iload 6, 2) := by decide +kernel
theorem dX8_goes_58 : decode cX8_goes 58 = .ok (.aload_n 0, 1) := by decide +kernel
theorem dX8_goes_59 : decode cX8_goes 59 = .ok (.getfield 41, 3) := by decide +kernel
theorem dX8_goes_62 : decode cX8_goes 62 = .ok (.iload_n 1, 1) := by decide +kernel
theorem dX8_goes_63 : decode cX8_goes 63 = .ok (.iload 6, 2) := by decide +kernel
theorem dX8_goes_65 : decode cX8_goes 65 = .ok (.iadd, 1) := by decide +kernel
theorem dX8_goes_66 : decode cX8_goes 66 = .ok (.iaload, 1) := by decide +kernel
theorem dX8_goes_67 : decode cX8_goes 67 = .ok (.iload 5, 2) := by decide +kernel
theorem dX8_goes_69 : decode cX8_goes 69 = .ok (.iload_n 3, 1) := by decide +kernel
theorem dX8_goes_70 : decode cX8_goes 70 = .ok (.invokevirtual 171, 3) := by decide +kernel
theorem dX8_goes_73 : decode cX8_goes 73 = .ok (.goto 4, 3) := by decide +kernel
theorem dX8_goes_76 : decode cX8_goes 76 = .ok (.iconst 0, 1) := by decide +kernel
theorem dX8_goes_77 : decode cX8_goes 77 = .ok (.iastore, 1) := by decide +kernel
theorem dX8_goes_78 : decode cX8_goes 78 = .ok (.iinc 6 1, 3) := by decide +kernel
theorem dX8_goes_81 : decode cX8_goes 81 = .ok (.goto (-51), 3) := by decide +kernel
theorem dX8_goes_84 : decode cX8_goes 84 = .ok (.aload_n 0, 1) := by decide +kernel
theorem dX8_goes_85 : decode cX8_goes 85 = .ok (.getfield 41, 3) := by decide +kernel
theorem dX8_goes_88 : decode cX8_goes 88 = .ok (.iload 4, 2) := by decide +kernel
theorem dX8_goes_90 : decode cX8_goes 90 = .ok (.bipush 6, 2) := by decide +kernel
theorem dX8_goes_92 : decode cX8_goes 92 = .ok (.iadd, 1) := by decide +kernel
theorem dX8_goes_93 : decode cX8_goes 93 = .ok (.iload 5, 2) := by decide +kernel
theorem dX8_goes_95 : decode cX8_goes 95 = .ok (.iastore, 1) := by decide +kernel
theorem dX8_goes_96 : decode cX8_goes 96 = .ok (.return_, 1) := by decide +kernel
theorem dX8_power_0 : decode cX8_power 0 = .ok (.iconst 1, 1) := by decide +kernel
theorem dX8_power_1 : decode cX8_power 1 = .ok (.istore_n 2, 1) := by decide +kernel
theorem dX8_power_2 : decode cX8_power 2 = .ok (.iconst 0, 1) := by decide +kernel
theorem dX8_power_3 : decode cX8_power 3 = .ok (.istore_n 3, 1) := by decide +kernel
theorem dX8_power_4 : decode cX8_power 4 = .ok (.iload_n 3, 1) := by decide +kernel
theorem dX8_power_5 : decode cX8_power 5 = .ok (.iload_n 1, 1) := by decide +kernel
theorem dX8_power_6 : decode cX8_power 6 = .ok (.if_icmp .ge 13, 3) := by decide +kernel
theorem dX8_power_9 : decode cX8_power 9 = .ok (.iload_n 2, 1) := by decide +kernel
theorem dX8_power_10 : decode cX8_power 10 = .ok (.iload_n 0, 1) := by decide +kernel
theorem dX8_power_11 : decode cX8_power 11 = .ok (.imul, 1) := by decide +kernel
