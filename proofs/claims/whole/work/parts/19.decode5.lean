theorem d_Mod_cut_134 : decode b_Mod_cut 134 = .ok (.iconst 1, 1) := by decide +kernel
theorem d_Mod_cut_135 : decode b_Mod_cut 135 = .ok (.iadd, 1) := by decide +kernel
theorem d_Mod_cut_136 : decode b_Mod_cut 136 = .ok (.goto 13, 3) := by decide +kernel
theorem d_Mod_cut_139 : decode b_Mod_cut 139 = .ok (.aload_n 0, 1) := by decide +kernel
theorem d_Mod_cut_140 : decode b_Mod_cut 140 = .ok (.iload_n 3, 1) := by decide +kernel
theorem d_Mod_cut_141 : decode b_Mod_cut 141 = .ok (.aload_n 0, 1) := by decide +kernel
theorem d_Mod_cut_142 : decode b_Mod_cut 142 = .ok (.getfield 176, 3) := by decide +kernel
theorem d_Mod_cut_145 : decode b_Mod_cut 145 = .ok (.iadd, 1) := by decide +kernel
theorem d_Mod_cut_146 : decode b_Mod_cut 146 = .ok (.invokevirtual 212, 3) := by decide +kernel
theorem d_Mod_cut_149 : decode b_Mod_cut 149 = .ok (.istore 4, 2) := by decide +kernel
theorem d_Mod_cut_151 : decode b_Mod_cut 151 = .ok (.iload 5, 2) := by decide +kernel
theorem d_Mod_cut_153 : decode b_Mod_cut 153 = .ok (.istore_n 3, 1) := by decide +kernel
theorem d_Mod_cut_154 : decode b_Mod_cut 154 = .ok (.goto 78, 3) := by decide +kernel
theorem d_Mod_cut_157 : decode b_Mod_cut 157 = .ok (.aload_n 0, 1) := by decide +kernel
theorem d_Mod_cut_158 : decode b_Mod_cut 158 = .ok (.aload_n 0, 1) := by decide +kernel
theorem d_Mod_cut_159 : decode b_Mod_cut 159 = .ok (.getfield 182, 3) := by decide +kernel
theorem d_Mod_cut_162 : decode b_Mod_cut 162 = .ok (.iconst 4, 1) := by decide +kernel
theorem d_Mod_cut_163 : decode b_Mod_cut 163 = .ok (.if_icmp .ne 10, 3) := by decide +kernel
theorem d_Mod_cut_166 : decode b_Mod_cut 166 = .ok (.aload_n 0, 1) := by decide +kernel
theorem d_Mod_cut_167 : decode b_Mod_cut 167 = .ok (.getfield 197, 3) := by decide +kernel
theorem d_Mod_cut_170 : decode b_Mod_cut 170 = .ok (.goto 32, 3) := by decide +kernel
theorem d_Mod_cut_173 : decode b_Mod_cut 173 = .ok (.aload_n 0, 1) := by decide +kernel
theorem d_Mod_cut_174 : decode b_Mod_cut 174 = .ok (.getfield 182, 3) := by decide +kernel
theorem d_Mod_cut_177 : decode b_Mod_cut 177 = .ok (.iconst 5, 1) := by decide +kernel
theorem d_Mod_cut_178 : decode b_Mod_cut 178 = .ok (.if_icmp .ne 15, 3) := by decide +kernel
theorem d_Mod_cut_181 : decode b_Mod_cut 181 = .ok (.aload_n 0, 1) := by decide +kernel
theorem d_Mod_cut_182 : decode b_Mod_cut 182 = .ok (.getfield 56, 3) := by decide +kernel
theorem d_Mod_cut_185 : decode b_Mod_cut 185 = .ok (.aload_n 0, 1) := by decide +kernel
theorem d_Mod_cut_186 : decode b_Mod_cut 186 = .ok (.getfield 197, 3) := by decide +kernel
theorem d_Mod_cut_189 : decode b_Mod_cut 189 = .ok (.iadd, 1) := by decide +kernel
theorem d_Mod_cut_190 : decode b_Mod_cut 190 = .ok (.goto 12, 3) := by decide +kernel
theorem d_Mod_cut_193 : decode b_Mod_cut 193 = .ok (.aload_n 0, 1) := by decide +kernel
theorem d_Mod_cut_194 : decode b_Mod_cut 194 = .ok (.getfield 56, 3) := by decide +kernel
theorem d_Mod_cut_197 : decode b_Mod_cut 197 = .ok (.aload_n 0, 1) := by decide +kernel
theorem d_Mod_cut_198 : decode b_Mod_cut 198 = .ok (.getfield 197, 3) := by decide +kernel
theorem d_Mod_cut_201 : decode b_Mod_cut 201 = .ok (.isub, 1) := by decide +kernel
theorem d_Mod_cut_202 : decode b_Mod_cut 202 = .ok (.invokevirtual 212, 3) := by decide +kernel
theorem d_Mod_cut_205 : decode b_Mod_cut 205 = .ok (.istore 5, 2) := by decide +kernel
theorem d_Mod_cut_207 : decode b_Mod_cut 207 = .ok (.iload 5, 2) := by decide +kernel
theorem d_Mod_cut_209 : decode b_Mod_cut 209 = .ok (.aload_n 0, 1) := by decide +kernel
theorem d_Mod_cut_210 : decode b_Mod_cut 210 = .ok (.getfield 52, 3) := by decide +kernel
theorem d_Mod_cut_213 : decode b_Mod_cut 213 = .ok (.if_icmp .le 8, 3) := by decide +kernel
theorem d_Mod_cut_216 : decode b_Mod_cut 216 = .ok (.iload 5, 2) := by decide +kernel
theorem d_Mod_cut_218 : decode b_Mod_cut 218 = .ok (.goto 9, 3) := by decide +kernel
theorem d_Mod_cut_221 : decode b_Mod_cut 221 = .ok (.aload_n 0, 1) := by decide +kernel
theorem d_Mod_cut_222 : decode b_Mod_cut 222 = .ok (.getfield 173, 3) := by decide +kernel
theorem d_Mod_cut_225 : decode b_Mod_cut 225 = .ok (.iconst 1, 1) := by decide +kernel
theorem d_Mod_cut_226 : decode b_Mod_cut 226 = .ok (.iadd, 1) := by decide +kernel
theorem d_Mod_cut_227 : decode b_Mod_cut 227 = .ok (.istore_n 3, 1) := by decide +kernel
theorem d_Mod_cut_228 : decode b_Mod_cut 228 = .ok (.iload 5, 2) := by decide +kernel
theorem d_Mod_cut_230 : decode b_Mod_cut 230 = .ok (.istore 4, 2) := by decide +kernel
theorem d_Mod_cut_232 : decode b_Mod_cut 232 = .ok (.aload_n 0, 1) := by decide +kernel
theorem d_Mod_cut_233 : decode b_Mod_cut 233 = .ok (.getfield 52, 3) := by decide +kernel
theorem d_Mod_cut_236 : decode b_Mod_cut 236 = .ok (.istore 6, 2) := by decide +kernel
theorem d_Mod_cut_238 : decode b_Mod_cut 238 = .ok (.aload_n 0, 1) := by decide +kernel
theorem d_Mod_cut_239 : decode b_Mod_cut 239 = .ok (.iload 5, 2) := by decide +kernel
theorem d_Mod_cut_241 : decode b_Mod_cut 241 = .ok (.putfield 56, 3) := by decide +kernel
theorem d_Mod_cut_244 : decode b_Mod_cut 244 = .ok (.aload_n 0, 1) := by decide +kernel
theorem d_Mod_cut_245 : decode b_Mod_cut 245 = .ok (.iload 4, 2) := by decide +kernel
theorem d_Mod_cut_247 : decode b_Mod_cut 247 = .ok (.putfield 52, 3) := by decide +kernel
theorem d_Mod_cut_250 : decode b_Mod_cut 250 = .ok (.aload_n 0, 1) := by decide +kernel
theorem d_Mod_cut_251 : decode b_Mod_cut 251 = .ok (.iload_n 1, 1) := by decide +kernel
theorem d_Mod_cut_252 : decode b_Mod_cut 252 = .ok (.aload_n 0, 1) := by decide +kernel
theorem d_Mod_cut_253 : decode b_Mod_cut 253 = .ok (.getfield 78, 3) := by decide +kernel
theorem d_Mod_cut_256 : decode b_Mod_cut 256 = .ok (.iload_n 2, 1) := by decide +kernel
theorem d_Mod_cut_257 : decode b_Mod_cut 257 = .ok (.iload 6, 2) := by decide +kernel
theorem d_Mod_cut_259 : decode b_Mod_cut 259 = .ok (.iload_n 3, 1) := by decide +kernel
theorem d_Mod_cut_260 : decode b_Mod_cut 260 = .ok (.invokevirtual 215, 3) := by decide +kernel
theorem d_Mod_cut_263 : decode b_Mod_cut 263 = .ok (.istore 7, 2) := by decide +kernel
theorem d_Mod_cut_265 : decode b_Mod_cut 265 = .ok (.iload 7, 2) := by decide +kernel
theorem d_Mod_cut_267 : decode b_Mod_cut 267 = .ok (.ifCond .ge 6, 3) := by decide +kernel
theorem d_Mod_cut_270 : decode b_Mod_cut 270 = .ok (.iload 7, 2) := by decide +kernel
theorem d_Mod_cut_272 : decode b_Mod_cut 272 = .ok (.ireturn, 1) := by decide +kernel
theorem d_Mod_cut_273 : decode b_Mod_cut 273 = .ok (.iconst 0, 1) := by decide +kernel
theorem d_Mod_cut_274 : decode b_Mod_cut 274 = .ok (.istore_n 2, 1) := by decide +kernel
theorem d_Mod_cut_275 : decode b_Mod_cut 275 = .ok (.aload_n 0, 1) := by decide +kernel
theorem d_Mod_cut_276 : decode b_Mod_cut 276 = .ok (.invokevirtual 188, 3) := by decide +kernel
theorem d_Mod_cut_279 : decode b_Mod_cut 279 = .ok (.aload_n 0, 1) := by decide +kernel
theorem d_Mod_cut_280 : decode b_Mod_cut 280 = .ok (.getfield 78, 3) := by decide +kernel
theorem d_Mod_cut_283 : decode b_Mod_cut 283 = .ok (.istore_n 1, 1) := by decide +kernel
theorem d_Mod_cut_284 : decode b_Mod_cut 284 = .ok (.goto (-271), 3) := by decide +kernel
theorem d_Mod_cut_287 : decode b_Mod_cut 287 = .ok (.aload_n 0, 1) := by decide +kernel
theorem d_Mod_cut_288 : decode b_Mod_cut 288 = .ok (.iload_n 1, 1) := by decide +kernel
theorem d_Mod_cut_289 : decode b_Mod_cut 289 = .ok (.aload_n 0, 1) := by decide +kernel
theorem d_Mod_cut_290 : decode b_Mod_cut 290 = .ok (.getfield 78, 3) := by decide +kernel
theorem d_Mod_cut_293 : decode b_Mod_cut 293 = .ok (.iload_n 2, 1) := by decide +kernel
theorem d_Mod_cut_294 : decode b_Mod_cut 294 = .ok (.aload_n 0, 1) := by decide +kernel
theorem d_Mod_cut_295 : decode b_Mod_cut 295 = .ok (.getfield 52, 3) := by decide +kernel
theorem d_Mod_cut_298 : decode b_Mod_cut 298 = .ok (.aload_n 0, 1) := by decide +kernel
theorem d_Mod_cut_299 : decode b_Mod_cut 299 = .ok (.getfield 173, 3) := by decide +kernel
theorem d_Mod_cut_302 : decode b_Mod_cut 302 = .ok (.iconst 1, 1) := by decide +kernel
theorem d_Mod_cut_303 : decode b_Mod_cut 303 = .ok (.iadd, 1) := by decide +kernel
theorem d_Mod_cut_304 : decode b_Mod_cut 304 = .ok (.invokevirtual 215, 3) := by decide +kernel
theorem d_Mod_cut_307 : decode b_Mod_cut 307 = .ok (.ireturn, 1) := by decide +kernel
theorem d_Mod_look_0 : decode b_Mod_look 0 = .ok (.aload_n 0, 1) := by decide +kernel
theorem d_Mod_look_1 : decode b_Mod_look 1 = .ok (.invokevirtual 128, 3) := by decide +kernel
theorem d_Mod_look_4 : decode b_Mod_look 4 = .ok (.istore_n 1, 1) := by decide +kernel
theorem d_Mod_look_5 : decode b_Mod_look 5 = .ok (.aload_n 0, 1) := by decide +kernel
theorem d_Mod_look_6 : decode b_Mod_look 6 = .ok (.iload_n 1, 1) := by decide +kernel
theorem d_Mod_look_7 : decode b_Mod_look 7 = .ok (.iconst (-1), 1) := by decide +kernel
theorem d_Mod_look_8 : decode b_Mod_look 8 = .ok (.if_icmp .ne 10, 3) := by decide +kernel
theorem d_Mod_look_11 : decode b_Mod_look 11 = .ok (.aload_n 0, 1) := by decide +kernel
theorem d_Mod_look_12 : decode b_Mod_look 12 = .ok (.getfield 95, 3) := by decide +kernel
theorem d_Mod_look_15 : decode b_Mod_look 15 = .ok (.goto 9, 3) := by decide +kernel
theorem d_Mod_look_18 : decode b_Mod_look 18 = .ok (.aload_n 0, 1) := by decide +kernel
theorem d_Mod_look_19 : decode b_Mod_look 19 = .ok (.getfield 31, 3) := by decide +kernel
theorem d_Mod_look_22 : decode b_Mod_look 22 = .ok (.iload_n 1, 1) := by decide +kernel
theorem d_Mod_look_23 : decode b_Mod_look 23 = .ok (.iaload, 1) := by decide +kernel
theorem d_Mod_look_24 : decode b_Mod_look 24 = .ok (.putfield 176, 3) := by decide +kernel
theorem d_Mod_look_27 : decode b_Mod_look 27 = .ok (.iconst 0, 1) := by decide +kernel
theorem d_Mod_look_28 : decode b_Mod_look 28 = .ok (.istore_n 2, 1) := by decide +kernel
theorem d_Mod_look_29 : decode b_Mod_look 29 = .ok (.iload_n 2, 1) := by decide +kernel
theorem d_Mod_look_30 : decode b_Mod_look 30 = .ok (.aload_n 0, 1) := by decide +kernel
theorem d_Mod_look_31 : decode b_Mod_look 31 = .ok (.getfield 176, 3) := by decide +kernel
theorem d_Mod_look_34 : decode b_Mod_look 34 = .ok (.if_icmp .ge 41, 3) := by decide +kernel
theorem d_Mod_look_37 : decode b_Mod_look 37 = .ok (.aload_n 0, 1) := by decide +kernel
theorem d_Mod_look_38 : decode b_Mod_look 38 = .ok (.getfield 49, 3) := by decide +kernel
theorem d_Mod_look_41 : decode b_Mod_look 41 = .ok (.iload_n 2, 1) := by decide +kernel
theorem d_Mod_look_42 : decode b_Mod_look 42 = .ok (.iload_n 1, 1) := by decide +kernel
theorem d_Mod_look_43 : decode b_Mod_look 43 = .ok (.iconst (-1), 1) := by decide +kernel
theorem d_Mod_look_44 : decode b_Mod_look 44 = .ok (.if_icmp .ne 12, 3) := by decide +kernel
theorem d_Mod_look_47 : decode b_Mod_look 47 = .ok (.aload_n 0, 1) := by decide +kernel
theorem d_Mod_look_48 : decode b_Mod_look 48 = .ok (.getfield 19, 3) := by decide +kernel
theorem d_Mod_look_51 : decode b_Mod_look 51 = .ok (.iload_n 2, 1) := by decide +kernel
theorem d_Mod_look_52 : decode b_Mod_look 52 = .ok (.iaload, 1) := by decide +kernel
theorem d_Mod_look_53 : decode b_Mod_look 53 = .ok (.goto 15, 3) := by decide +kernel
theorem d_Mod_look_56 : decode b_Mod_look 56 = .ok (.aload_n 0, 1) := by decide +kernel
theorem d_Mod_look_57 : decode b_Mod_look 57 = .ok (.getfield 28, 3) := by decide +kernel
theorem d_Mod_look_60 : decode b_Mod_look 60 = .ok (.sipush 200, 3) := by decide +kernel
theorem d_Mod_look_63 : decode b_Mod_look 63 = .ok (.iload_n 1, 1) := by decide +kernel
theorem d_Mod_look_64 : decode b_Mod_look 64 = .ok (.imul, 1) := by decide +kernel
theorem d_Mod_look_65 : decode b_Mod_look 65 = .ok (.iload_n 2, 1) := by decide +kernel
theorem d_Mod_look_66 : decode b_Mod_look 66 = .ok (.iadd, 1) := by decide +kernel
theorem d_Mod_look_67 : decode b_Mod_look 67 = .ok (.iaload, 1) := by decide +kernel
theorem d_Mod_look_68 : decode b_Mod_look 68 = .ok (.iastore, 1) := by decide +kernel
theorem d_Mod_look_69 : decode b_Mod_look 69 = .ok (.iinc 2 1, 3) := by decide +kernel
theorem d_Mod_look_72 : decode b_Mod_look 72 = .ok (.goto (-43), 3) := by decide +kernel
theorem d_Mod_look_75 : decode b_Mod_look 75 = .ok (.return_, 1) := by decide +kernel
theorem d_Mod_name_0 : decode b_Mod_name 0 = .ok (.iload_n 1, 1) := by decide +kernel
theorem d_Mod_name_1 : decode b_Mod_name 1 = .ok (.ifCond .lt 11, 3) := by decide +kernel
theorem d_Mod_name_4 : decode b_Mod_name 4 = .ok (.iload_n 1, 1) := by decide +kernel
theorem d_Mod_name_5 : decode b_Mod_name 5 = .ok (.aload_n 0, 1) := by decide +kernel
theorem d_Mod_name_6 : decode b_Mod_name 6 = .ok (.getfield 105, 3) := by decide +kernel
theorem d_Mod_name_9 : decode b_Mod_name 9 = .ok (.if_icmp .lt 5, 3) := by decide +kernel
theorem d_Mod_name_12 : decode b_Mod_name 12 = .ok (.iconst (-1), 1) := by decide +kernel
theorem d_Mod_name_13 : decode b_Mod_name 13 = .ok (.ireturn, 1) := by decide +kernel
theorem d_Mod_name_14 : decode b_Mod_name 14 = .ok (.aload_n 0, 1) := by decide +kernel
theorem d_Mod_name_15 : decode b_Mod_name 15 = .ok (.aload_n 0, 1) := by decide +kernel
theorem d_Mod_name_16 : decode b_Mod_name 16 = .ok (.getfield 22, 3) := by decide +kernel
theorem d_Mod_name_19 : decode b_Mod_name 19 = .ok (.sipush 200, 3) := by decide +kernel
theorem d_Mod_name_22 : decode b_Mod_name 22 = .ok (.iload_n 1, 1) := by decide +kernel
theorem d_Mod_name_23 : decode b_Mod_name 23 = .ok (.imul, 1) := by decide +kernel
theorem d_Mod_name_24 : decode b_Mod_name 24 = .ok (.aload_n 0, 1) := by decide +kernel
theorem d_Mod_name_25 : decode b_Mod_name 25 = .ok (.getfield 25, 3) := by decide +kernel
theorem d_Mod_name_28 : decode b_Mod_name 28 = .ok (.iload_n 1, 1) := by decide +kernel
theorem d_Mod_name_29 : decode b_Mod_name 29 = .ok (.iaload, 1) := by decide +kernel
theorem d_Mod_name_30 : decode b_Mod_name 30 = .ok (.invokevirtual 159, 3) := by decide +kernel
theorem d_Mod_name_33 : decode b_Mod_name 33 = .ok (.aload_n 0, 1) := by decide +kernel
theorem d_Mod_name_34 : decode b_Mod_name 34 = .ok (.getfield 34, 3) := by decide +kernel
theorem d_Mod_name_37 : decode b_Mod_name 37 = .ok (.iload_n 1, 1) := by decide +kernel
theorem d_Mod_name_38 : decode b_Mod_name 38 = .ok (.iaload, 1) := by decide +kernel
theorem d_Mod_name_39 : decode b_Mod_name 39 = .ok (.ireturn, 1) := by decide +kernel
theorem d_Mod_value_0 : decode b_Mod_value 0 = .ok (.iload_n 1, 1) := by decide +kernel
theorem d_Mod_value_1 : decode b_Mod_value 1 = .ok (.ifCond .lt 11, 3) := by decide +kernel
theorem d_Mod_value_4 : decode b_Mod_value 4 = .ok (.iload_n 1, 1) := by decide +kernel
theorem d_Mod_value_5 : decode b_Mod_value 5 = .ok (.aload_n 0, 1) := by decide +kernel
theorem d_Mod_value_6 : decode b_Mod_value 6 = .ok (.getfield 105, 3) := by decide +kernel
theorem d_Mod_value_9 : decode b_Mod_value 9 = .ok (.if_icmp .lt 5, 3) := by decide +kernel
theorem d_Mod_value_12 : decode b_Mod_value 12 = .ok (.iconst (-1), 1) := by decide +kernel
theorem d_Mod_value_13 : decode b_Mod_value 13 = .ok (.ireturn, 1) := by decide +kernel
theorem d_Mod_value_14 : decode b_Mod_value 14 = .ok (.aload_n 0, 1) := by decide +kernel
theorem d_Mod_value_15 : decode b_Mod_value 15 = .ok (.getfield 31, 3) := by decide +kernel
theorem d_Mod_value_18 : decode b_Mod_value 18 = .ok (.iload_n 1, 1) := by decide +kernel
theorem d_Mod_value_19 : decode b_Mod_value 19 = .ok (.iaload, 1) := by decide +kernel
theorem d_Mod_value_20 : decode b_Mod_value 20 = .ok (.ifCond .ge 6, 3) := by decide +kernel
theorem d_Mod_value_23 : decode b_Mod_value 23 = .ok (.bipush (-3), 2) := by decide +kernel
theorem d_Mod_value_25 : decode b_Mod_value 25 = .ok (.ireturn, 1) := by decide +kernel
theorem d_Mod_value_26 : decode b_Mod_value 26 = .ok (.aload_n 0, 1) := by decide +kernel
theorem d_Mod_value_27 : decode b_Mod_value 27 = .ok (.aload_n 0, 1) := by decide +kernel
theorem d_Mod_value_28 : decode b_Mod_value 28 = .ok (.getfield 28, 3) := by decide +kernel
theorem d_Mod_value_31 : decode b_Mod_value 31 = .ok (.sipush 200, 3) := by decide +kernel
theorem d_Mod_value_34 : decode b_Mod_value 34 = .ok (.iload_n 1, 1) := by decide +kernel
theorem d_Mod_value_35 : decode b_Mod_value 35 = .ok (.imul, 1) := by decide +kernel
theorem d_Mod_value_36 : decode b_Mod_value 36 = .ok (.aload_n 0, 1) := by decide +kernel
theorem d_Mod_value_37 : decode b_Mod_value 37 = .ok (.getfield 31, 3) := by decide +kernel
theorem d_Mod_value_40 : decode b_Mod_value 40 = .ok (.iload_n 1, 1) := by decide +kernel
theorem d_Mod_value_41 : decode b_Mod_value 41 = .ok (.iaload, 1) := by decide +kernel
theorem d_Mod_value_42 : decode b_Mod_value 42 = .ok (.invokevirtual 159, 3) := by decide +kernel
theorem d_Mod_value_45 : decode b_Mod_value 45 = .ok (.aload_n 0, 1) := by decide +kernel
theorem d_Mod_value_46 : decode b_Mod_value 46 = .ok (.getfield 69, 3) := by decide +kernel
theorem d_Mod_value_49 : decode b_Mod_value 49 = .ok (.ireturn, 1) := by decide +kernel
theorem d_Mod_count_0 : decode b_Mod_count 0 = .ok (.iload_n 1, 1) := by decide +kernel
theorem d_Mod_count_1 : decode b_Mod_count 1 = .ok (.tableswitch (96) (0) (6) #[43, 48, 55, 76, 81, 86, 91], 43) := by decide +kernel
theorem d_Mod_count_44 : decode b_Mod_count 44 = .ok (.aload_n 0, 1) := by decide +kernel
theorem d_Mod_count_45 : decode b_Mod_count 45 = .ok (.getfield 105, 3) := by decide +kernel
theorem d_Mod_count_48 : decode b_Mod_count 48 = .ok (.ireturn, 1) := by decide +kernel
theorem d_Mod_count_49 : decode b_Mod_count 49 = .ok (.aload_n 0, 1) := by decide +kernel
theorem d_Mod_count_50 : decode b_Mod_count 50 = .ok (.getfield 108, 3) := by decide +kernel
theorem d_Mod_count_53 : decode b_Mod_count 53 = .ok (.iconst 1, 1) := by decide +kernel
theorem d_Mod_count_54 : decode b_Mod_count 54 = .ok (.iadd, 1) := by decide +kernel
theorem d_Mod_count_55 : decode b_Mod_count 55 = .ok (.ireturn, 1) := by decide +kernel
theorem d_Mod_count_56 : decode b_Mod_count 56 = .ok (.aload_n 0, 1) := by decide +kernel
theorem d_Mod_count_57 : decode b_Mod_count 57 = .ok (.getfield 108, 3) := by decide +kernel
theorem d_Mod_count_60 : decode b_Mod_count 60 = .ok (.ifCond .le 15, 3) := by decide +kernel
theorem d_Mod_count_63 : decode b_Mod_count 63 = .ok (.aload_n 0, 1) := by decide +kernel
theorem d_Mod_count_64 : decode b_Mod_count 64 = .ok (.getfield 43, 3) := by decide +kernel
theorem d_Mod_count_67 : decode b_Mod_count 67 = .ok (.aload_n 0, 1) := by decide +kernel
theorem d_Mod_count_68 : decode b_Mod_count 68 = .ok (.getfield 108, 3) := by decide +kernel
theorem d_Mod_count_71 : decode b_Mod_count 71 = .ok (.iaload, 1) := by decide +kernel
theorem d_Mod_count_72 : decode b_Mod_count 72 = .ok (.goto 4, 3) := by decide +kernel
theorem d_Mod_count_75 : decode b_Mod_count 75 = .ok (.iconst 0, 1) := by decide +kernel
theorem d_Mod_count_76 : decode b_Mod_count 76 = .ok (.ireturn, 1) := by decide +kernel
theorem d_Mod_count_77 : decode b_Mod_count 77 = .ok (.aload_n 0, 1) := by decide +kernel
theorem d_Mod_count_78 : decode b_Mod_count 78 = .ok (.getfield 173, 3) := by decide +kernel
theorem d_Mod_count_81 : decode b_Mod_count 81 = .ok (.ireturn, 1) := by decide +kernel
theorem d_Mod_count_82 : decode b_Mod_count 82 = .ok (.aload_n 0, 1) := by decide +kernel
theorem d_Mod_count_83 : decode b_Mod_count 83 = .ok (.getfield 69, 3) := by decide +kernel
theorem d_Mod_count_86 : decode b_Mod_count 86 = .ok (.ireturn, 1) := by decide +kernel
theorem d_Mod_count_87 : decode b_Mod_count 87 = .ok (.aload_n 0, 1) := by decide +kernel
theorem d_Mod_count_88 : decode b_Mod_count 88 = .ok (.getfield 52, 3) := by decide +kernel
theorem d_Mod_count_91 : decode b_Mod_count 91 = .ok (.ireturn, 1) := by decide +kernel
theorem d_Mod_count_92 : decode b_Mod_count 92 = .ok (.aload_n 0, 1) := by decide +kernel
theorem d_Mod_count_93 : decode b_Mod_count 93 = .ok (.getfield 56, 3) := by decide +kernel
theorem d_Mod_count_96 : decode b_Mod_count 96 = .ok (.ireturn, 1) := by decide +kernel
theorem d_Mod_count_97 : decode b_Mod_count 97 = .ok (.iconst (-1), 1) := by decide +kernel
theorem d_Mod_count_98 : decode b_Mod_count 98 = .ok (.ireturn, 1) := by decide +kernel
theorem d_Law_law_0 : decode code 0 = .ok (.new 7, 3) := by decide +kernel
theorem d_Law_law_3 : decode code 3 = .ok (.dup, 1) := by decide +kernel
theorem d_Law_law_4 : decode code 4 = .ok (.invokespecial 9, 3) := by decide +kernel
theorem d_Law_law_7 : decode code 7 = .ok (.astore_n 1, 1) := by decide +kernel
theorem d_Law_law_8 : decode code 8 = .ok (.new 10, 3) := by decide +kernel
theorem d_Law_law_11 : decode code 11 = .ok (.dup, 1) := by decide +kernel
theorem d_Law_law_12 : decode code 12 = .ok (.invokespecial 12, 3) := by decide +kernel
theorem d_Law_law_15 : decode code 15 = .ok (.astore_n 2, 1) := by decide +kernel
theorem d_Law_law_16 : decode code 16 = .ok (.iconst 0, 1) := by decide +kernel
theorem d_Law_law_17 : decode code 17 = .ok (.istore_n 3, 1) := by decide +kernel
theorem d_Law_law_18 : decode code 18 = .ok (.iload_n 3, 1) := by decide +kernel
theorem d_Law_law_19 : decode code 19 = .ok (.aload_n 0, 1) := by decide +kernel
theorem d_Law_law_20 : decode code 20 = .ok (.arraylength, 1) := by decide +kernel
theorem d_Law_law_21 : decode code 21 = .ok (.bipush 6, 2) := by decide +kernel
theorem d_Law_law_23 : decode code 23 = .ok (.isub, 1) := by decide +kernel
theorem d_Law_law_24 : decode code 24 = .ok (.if_icmp .gt 394, 3) := by decide +kernel
theorem d_Law_law_27 : decode code 27 = .ok (.aload_n 0, 1) := by decide +kernel
theorem d_Law_law_28 : decode code 28 = .ok (.iload_n 3, 1) := by decide +kernel
theorem d_Law_law_29 : decode code 29 = .ok (.iaload, 1) := by decide +kernel
theorem d_Law_law_30 : decode code 30 = .ok (.bipush 15, 2) := by decide +kernel
theorem d_Law_law_32 : decode code 32 = .ok (.iand, 1) := by decide +kernel
theorem d_Law_law_33 : decode code 33 = .ok (.tableswitch (379) (0) (13) #[71, 134, 157, 180, 193, 206, 219, 232, 245, 258, 297, 310, 333, 356], 71) := by decide +kernel
theorem d_Law_law_104 : decode code 104 = .ok (.aload_n 1, 1) := by decide +kernel
theorem d_Law_law_105 : decode code 105 = .ok (.aload_n 0, 1) := by decide +kernel
theorem d_Law_law_106 : decode code 106 = .ok (.iload_n 3, 1) := by decide +kernel
theorem d_Law_law_107 : decode code 107 = .ok (.iconst 1, 1) := by decide +kernel
theorem d_Law_law_108 : decode code 108 = .ok (.iadd, 1) := by decide +kernel
theorem d_Law_law_109 : decode code 109 = .ok (.iaload, 1) := by decide +kernel
theorem d_Law_law_110 : decode code 110 = .ok (.aload_n 0, 1) := by decide +kernel
theorem d_Law_law_111 : decode code 111 = .ok (.iload_n 3, 1) := by decide +kernel
theorem d_Law_law_112 : decode code 112 = .ok (.iconst 2, 1) := by decide +kernel
theorem d_Law_law_113 : decode code 113 = .ok (.iadd, 1) := by decide +kernel
theorem d_Law_law_114 : decode code 114 = .ok (.iaload, 1) := by decide +kernel
theorem d_Law_law_115 : decode code 115 = .ok (.aload_n 0, 1) := by decide +kernel
theorem d_Law_law_116 : decode code 116 = .ok (.iload_n 3, 1) := by decide +kernel
theorem d_Law_law_117 : decode code 117 = .ok (.iconst 3, 1) := by decide +kernel
theorem d_Law_law_118 : decode code 118 = .ok (.iadd, 1) := by decide +kernel
theorem d_Law_law_119 : decode code 119 = .ok (.iaload, 1) := by decide +kernel
theorem d_Law_law_120 : decode code 120 = .ok (.aload_n 0, 1) := by decide +kernel
theorem d_Law_law_121 : decode code 121 = .ok (.iload_n 3, 1) := by decide +kernel
theorem d_Law_law_122 : decode code 122 = .ok (.iconst 4, 1) := by decide +kernel
theorem d_Law_law_123 : decode code 123 = .ok (.iadd, 1) := by decide +kernel
theorem d_Law_law_124 : decode code 124 = .ok (.iaload, 1) := by decide +kernel
theorem d_Law_law_125 : decode code 125 = .ok (.aload_n 0, 1) := by decide +kernel
theorem d_Law_law_126 : decode code 126 = .ok (.iload_n 3, 1) := by decide +kernel
theorem d_Law_law_127 : decode code 127 = .ok (.iconst 5, 1) := by decide +kernel
theorem d_Law_law_128 : decode code 128 = .ok (.iadd, 1) := by decide +kernel
theorem d_Law_law_129 : decode code 129 = .ok (.iaload, 1) := by decide +kernel
theorem d_Law_law_130 : decode code 130 = .ok (.invokevirtual 13, 3) := by decide +kernel
theorem d_Law_law_133 : decode code 133 = .ok (.aload_n 2, 1) := by decide +kernel
theorem d_Law_law_134 : decode code 134 = .ok (.aload_n 0, 1) := by decide +kernel
theorem d_Law_law_135 : decode code 135 = .ok (.iload_n 3, 1) := by decide +kernel
theorem d_Law_law_136 : decode code 136 = .ok (.iconst 1, 1) := by decide +kernel
theorem d_Law_law_137 : decode code 137 = .ok (.iadd, 1) := by decide +kernel
theorem d_Law_law_138 : decode code 138 = .ok (.iaload, 1) := by decide +kernel
theorem d_Law_law_139 : decode code 139 = .ok (.aload_n 0, 1) := by decide +kernel
theorem d_Law_law_140 : decode code 140 = .ok (.iload_n 3, 1) := by decide +kernel
theorem d_Law_law_141 : decode code 141 = .ok (.iconst 2, 1) := by decide +kernel
theorem d_Law_law_142 : decode code 142 = .ok (.iadd, 1) := by decide +kernel
theorem d_Law_law_143 : decode code 143 = .ok (.iaload, 1) := by decide +kernel
theorem d_Law_law_144 : decode code 144 = .ok (.aload_n 0, 1) := by decide +kernel
theorem d_Law_law_145 : decode code 145 = .ok (.iload_n 3, 1) := by decide +kernel
theorem d_Law_law_146 : decode code 146 = .ok (.iconst 3, 1) := by decide +kernel
theorem d_Law_law_147 : decode code 147 = .ok (.iadd, 1) := by decide +kernel
theorem d_Law_law_148 : decode code 148 = .ok (.iaload, 1) := by decide +kernel
theorem d_Law_law_149 : decode code 149 = .ok (.aload_n 0, 1) := by decide +kernel
theorem d_Law_law_150 : decode code 150 = .ok (.iload_n 3, 1) := by decide +kernel
theorem d_Law_law_151 : decode code 151 = .ok (.iconst 4, 1) := by decide +kernel
theorem d_Law_law_152 : decode code 152 = .ok (.iadd, 1) := by decide +kernel
theorem d_Law_law_153 : decode code 153 = .ok (.iaload, 1) := by decide +kernel
theorem d_Law_law_154 : decode code 154 = .ok (.aload_n 0, 1) := by decide +kernel
theorem d_Law_law_155 : decode code 155 = .ok (.iload_n 3, 1) := by decide +kernel
theorem d_Law_law_156 : decode code 156 = .ok (.iconst 5, 1) := by decide +kernel
theorem d_Law_law_157 : decode code 157 = .ok (.iadd, 1) := by decide +kernel
theorem d_Law_law_158 : decode code 158 = .ok (.iaload, 1) := by decide +kernel
theorem d_Law_law_159 : decode code 159 = .ok (.invokevirtual 17, 3) := by decide +kernel
theorem d_Law_law_162 : decode code 162 = .ok (.if_icmp .eq 250, 3) := by decide +kernel
theorem d_Law_law_165 : decode code 165 = .ok (.iconst 0, 1) := by decide +kernel
theorem d_Law_law_166 : decode code 166 = .ok (.ireturn, 1) := by decide +kernel
theorem d_Law_law_167 : decode code 167 = .ok (.aload_n 1, 1) := by decide +kernel
theorem d_Law_law_168 : decode code 168 = .ok (.aload_n 0, 1) := by decide +kernel
theorem d_Law_law_169 : decode code 169 = .ok (.iload_n 3, 1) := by decide +kernel
theorem d_Law_law_170 : decode code 170 = .ok (.iconst 1, 1) := by decide +kernel
theorem d_Law_law_171 : decode code 171 = .ok (.iadd, 1) := by decide +kernel
theorem d_Law_law_172 : decode code 172 = .ok (.iaload, 1) := by decide +kernel
theorem d_Law_law_173 : decode code 173 = .ok (.invokevirtual 18, 3) := by decide +kernel
theorem d_Law_law_176 : decode code 176 = .ok (.aload_n 2, 1) := by decide +kernel
theorem d_Law_law_177 : decode code 177 = .ok (.aload_n 0, 1) := by decide +kernel
theorem d_Law_law_178 : decode code 178 = .ok (.iload_n 3, 1) := by decide +kernel
theorem d_Law_law_179 : decode code 179 = .ok (.iconst 1, 1) := by decide +kernel
theorem d_Law_law_180 : decode code 180 = .ok (.iadd, 1) := by decide +kernel
theorem d_Law_law_181 : decode code 181 = .ok (.iaload, 1) := by decide +kernel
theorem d_Law_law_182 : decode code 182 = .ok (.invokevirtual 22, 3) := by decide +kernel
theorem d_Law_law_185 : decode code 185 = .ok (.if_icmp .eq 227, 3) := by decide +kernel
theorem d_Law_law_188 : decode code 188 = .ok (.iconst 0, 1) := by decide +kernel
theorem d_Law_law_189 : decode code 189 = .ok (.ireturn, 1) := by decide +kernel
theorem d_Law_law_190 : decode code 190 = .ok (.aload_n 1, 1) := by decide +kernel
theorem d_Law_law_191 : decode code 191 = .ok (.aload_n 0, 1) := by decide +kernel
theorem d_Law_law_192 : decode code 192 = .ok (.iload_n 3, 1) := by decide +kernel
theorem d_Law_law_193 : decode code 193 = .ok (.iconst 1, 1) := by decide +kernel
theorem d_Law_law_194 : decode code 194 = .ok (.iadd, 1) := by decide +kernel
theorem d_Law_law_195 : decode code 195 = .ok (.iaload, 1) := by decide +kernel
theorem d_Law_law_196 : decode code 196 = .ok (.invokevirtual 23, 3) := by decide +kernel
theorem d_Law_law_199 : decode code 199 = .ok (.aload_n 2, 1) := by decide +kernel
theorem d_Law_law_200 : decode code 200 = .ok (.aload_n 0, 1) := by decide +kernel
theorem d_Law_law_201 : decode code 201 = .ok (.iload_n 3, 1) := by decide +kernel
theorem d_Law_law_202 : decode code 202 = .ok (.iconst 1, 1) := by decide +kernel
theorem d_Law_law_203 : decode code 203 = .ok (.iadd, 1) := by decide +kernel
theorem d_Law_law_204 : decode code 204 = .ok (.iaload, 1) := by decide +kernel
theorem d_Law_law_205 : decode code 205 = .ok (.invokevirtual 26, 3) := by decide +kernel
theorem d_Law_law_208 : decode code 208 = .ok (.if_icmp .eq 204, 3) := by decide +kernel
theorem d_Law_law_211 : decode code 211 = .ok (.iconst 0, 1) := by decide +kernel
theorem d_Law_law_212 : decode code 212 = .ok (.ireturn, 1) := by decide +kernel
theorem d_Law_law_213 : decode code 213 = .ok (.aload_n 1, 1) := by decide +kernel
theorem d_Law_law_214 : decode code 214 = .ok (.invokevirtual 27, 3) := by decide +kernel
theorem d_Law_law_217 : decode code 217 = .ok (.aload_n 2, 1) := by decide +kernel
theorem d_Law_law_218 : decode code 218 = .ok (.invokevirtual 31, 3) := by decide +kernel
theorem d_Law_law_221 : decode code 221 = .ok (.if_icmp .eq 191, 3) := by decide +kernel
theorem d_Law_law_224 : decode code 224 = .ok (.iconst 0, 1) := by decide +kernel
theorem d_Law_law_225 : decode code 225 = .ok (.ireturn, 1) := by decide +kernel
theorem d_Law_law_226 : decode code 226 = .ok (.aload_n 1, 1) := by decide +kernel
theorem d_Law_law_227 : decode code 227 = .ok (.invokevirtual 32, 3) := by decide +kernel
theorem d_Law_law_230 : decode code 230 = .ok (.aload_n 2, 1) := by decide +kernel
theorem d_Law_law_231 : decode code 231 = .ok (.invokevirtual 35, 3) := by decide +kernel
theorem d_Law_law_234 : decode code 234 = .ok (.if_icmp .eq 178, 3) := by decide +kernel
theorem d_Law_law_237 : decode code 237 = .ok (.iconst 0, 1) := by decide +kernel
theorem d_Law_law_238 : decode code 238 = .ok (.ireturn, 1) := by decide +kernel
theorem d_Law_law_239 : decode code 239 = .ok (.aload_n 1, 1) := by decide +kernel
theorem d_Law_law_240 : decode code 240 = .ok (.invokevirtual 36, 3) := by decide +kernel
theorem d_Law_law_243 : decode code 243 = .ok (.aload_n 2, 1) := by decide +kernel
theorem d_Law_law_244 : decode code 244 = .ok (.invokevirtual 39, 3) := by decide +kernel
theorem d_Law_law_247 : decode code 247 = .ok (.if_icmp .eq 165, 3) := by decide +kernel
theorem d_Law_law_250 : decode code 250 = .ok (.iconst 0, 1) := by decide +kernel
theorem d_Law_law_251 : decode code 251 = .ok (.ireturn, 1) := by decide +kernel
theorem d_Law_law_252 : decode code 252 = .ok (.aload_n 1, 1) := by decide +kernel
theorem d_Law_law_253 : decode code 253 = .ok (.invokevirtual 40, 3) := by decide +kernel
theorem d_Law_law_256 : decode code 256 = .ok (.aload_n 2, 1) := by decide +kernel
theorem d_Law_law_257 : decode code 257 = .ok (.invokevirtual 43, 3) := by decide +kernel
theorem d_Law_law_260 : decode code 260 = .ok (.if_icmp .eq 152, 3) := by decide +kernel
theorem d_Law_law_263 : decode code 263 = .ok (.iconst 0, 1) := by decide +kernel
theorem d_Law_law_264 : decode code 264 = .ok (.ireturn, 1) := by decide +kernel
theorem d_Law_law_265 : decode code 265 = .ok (.aload_n 1, 1) := by decide +kernel
theorem d_Law_law_266 : decode code 266 = .ok (.invokevirtual 44, 3) := by decide +kernel
theorem d_Law_law_269 : decode code 269 = .ok (.aload_n 2, 1) := by decide +kernel
theorem d_Law_law_270 : decode code 270 = .ok (.invokevirtual 47, 3) := by decide +kernel
theorem d_Law_law_273 : decode code 273 = .ok (.if_icmp .eq 139, 3) := by decide +kernel
theorem d_Law_law_276 : decode code 276 = .ok (.iconst 0, 1) := by decide +kernel
theorem d_Law_law_277 : decode code 277 = .ok (.ireturn, 1) := by decide +kernel
theorem d_Law_law_278 : decode code 278 = .ok (.aload_n 1, 1) := by decide +kernel
theorem d_Law_law_279 : decode code 279 = .ok (.invokevirtual 48, 3) := by decide +kernel
theorem d_Law_law_282 : decode code 282 = .ok (.aload_n 2, 1) := by decide +kernel
theorem d_Law_law_283 : decode code 283 = .ok (.invokevirtual 51, 3) := by decide +kernel
theorem d_Law_law_286 : decode code 286 = .ok (.if_icmp .eq 126, 3) := by decide +kernel
theorem d_Law_law_289 : decode code 289 = .ok (.iconst 0, 1) := by decide +kernel
theorem d_Law_law_290 : decode code 290 = .ok (.ireturn, 1) := by decide +kernel
theorem d_Law_law_291 : decode code 291 = .ok (.aload_n 1, 1) := by decide +kernel
theorem d_Law_law_292 : decode code 292 = .ok (.aload_n 0, 1) := by decide +kernel
theorem d_Law_law_293 : decode code 293 = .ok (.iload_n 3, 1) := by decide +kernel
theorem d_Law_law_294 : decode code 294 = .ok (.iconst 1, 1) := by decide +kernel
theorem d_Law_law_295 : decode code 295 = .ok (.iadd, 1) := by decide +kernel
theorem d_Law_law_296 : decode code 296 = .ok (.iaload, 1) := by decide +kernel
theorem d_Law_law_297 : decode code 297 = .ok (.ifCond .eq 7, 3) := by decide +kernel
theorem d_Law_law_300 : decode code 300 = .ok (.iconst 1, 1) := by decide +kernel
theorem d_Law_law_301 : decode code 301 = .ok (.goto 4, 3) := by decide +kernel
theorem d_Law_law_304 : decode code 304 = .ok (.iconst 0, 1) := by decide +kernel
theorem d_Law_law_305 : decode code 305 = .ok (.invokevirtual 52, 3) := by decide +kernel
theorem d_Law_law_308 : decode code 308 = .ok (.aload_n 2, 1) := by decide +kernel
theorem d_Law_law_309 : decode code 309 = .ok (.aload_n 0, 1) := by decide +kernel
theorem d_Law_law_310 : decode code 310 = .ok (.iload_n 3, 1) := by decide +kernel
theorem d_Law_law_311 : decode code 311 = .ok (.iconst 1, 1) := by decide +kernel
theorem d_Law_law_312 : decode code 312 = .ok (.iadd, 1) := by decide +kernel
theorem d_Law_law_313 : decode code 313 = .ok (.iaload, 1) := by decide +kernel
theorem d_Law_law_314 : decode code 314 = .ok (.ifCond .eq 7, 3) := by decide +kernel
theorem d_Law_law_317 : decode code 317 = .ok (.iconst 1, 1) := by decide +kernel
theorem d_Law_law_318 : decode code 318 = .ok (.goto 4, 3) := by decide +kernel
theorem d_Law_law_321 : decode code 321 = .ok (.iconst 0, 1) := by decide +kernel
theorem d_Law_law_322 : decode code 322 = .ok (.invokevirtual 56, 3) := by decide +kernel
theorem d_Law_law_325 : decode code 325 = .ok (.if_icmp .eq 87, 3) := by decide +kernel
theorem d_Law_law_328 : decode code 328 = .ok (.iconst 0, 1) := by decide +kernel
theorem d_Law_law_329 : decode code 329 = .ok (.ireturn, 1) := by decide +kernel
theorem d_Law_law_330 : decode code 330 = .ok (.aload_n 1, 1) := by decide +kernel
theorem d_Law_law_331 : decode code 331 = .ok (.invokevirtual 57, 3) := by decide +kernel
theorem d_Law_law_334 : decode code 334 = .ok (.aload_n 2, 1) := by decide +kernel
theorem d_Law_law_335 : decode code 335 = .ok (.invokevirtual 60, 3) := by decide +kernel
theorem d_Law_law_338 : decode code 338 = .ok (.if_icmp .eq 74, 3) := by decide +kernel
theorem d_Law_law_341 : decode code 341 = .ok (.iconst 0, 1) := by decide +kernel
theorem d_Law_law_342 : decode code 342 = .ok (.ireturn, 1) := by decide +kernel
theorem d_Law_law_343 : decode code 343 = .ok (.aload_n 1, 1) := by decide +kernel
theorem d_Law_law_344 : decode code 344 = .ok (.aload_n 0, 1) := by decide +kernel
theorem d_Law_law_345 : decode code 345 = .ok (.iload_n 3, 1) := by decide +kernel
theorem d_Law_law_346 : decode code 346 = .ok (.iconst 1, 1) := by decide +kernel
theorem d_Law_law_347 : decode code 347 = .ok (.iadd, 1) := by decide +kernel
theorem d_Law_law_348 : decode code 348 = .ok (.iaload, 1) := by decide +kernel
theorem d_Law_law_349 : decode code 349 = .ok (.invokevirtual 61, 3) := by decide +kernel
theorem d_Law_law_352 : decode code 352 = .ok (.aload_n 2, 1) := by decide +kernel
theorem d_Law_law_353 : decode code 353 = .ok (.aload_n 0, 1) := by decide +kernel
theorem d_Law_law_354 : decode code 354 = .ok (.iload_n 3, 1) := by decide +kernel
theorem d_Law_law_355 : decode code 355 = .ok (.iconst 1, 1) := by decide +kernel
theorem d_Law_law_356 : decode code 356 = .ok (.iadd, 1) := by decide +kernel
theorem d_Law_law_357 : decode code 357 = .ok (.iaload, 1) := by decide +kernel
theorem d_Law_law_358 : decode code 358 = .ok (.invokevirtual 64, 3) := by decide +kernel
theorem d_Law_law_361 : decode code 361 = .ok (.if_icmp .eq 51, 3) := by decide +kernel
theorem d_Law_law_364 : decode code 364 = .ok (.iconst 0, 1) := by decide +kernel
theorem d_Law_law_365 : decode code 365 = .ok (.ireturn, 1) := by decide +kernel
theorem d_Law_law_366 : decode code 366 = .ok (.aload_n 1, 1) := by decide +kernel
theorem d_Law_law_367 : decode code 367 = .ok (.aload_n 0, 1) := by decide +kernel
theorem d_Law_law_368 : decode code 368 = .ok (.iload_n 3, 1) := by decide +kernel
theorem d_Law_law_369 : decode code 369 = .ok (.iconst 1, 1) := by decide +kernel
theorem d_Law_law_370 : decode code 370 = .ok (.iadd, 1) := by decide +kernel
theorem d_Law_law_371 : decode code 371 = .ok (.iaload, 1) := by decide +kernel
theorem d_Law_law_372 : decode code 372 = .ok (.invokevirtual 65, 3) := by decide +kernel
theorem d_Law_law_375 : decode code 375 = .ok (.aload_n 2, 1) := by decide +kernel
theorem d_Law_law_376 : decode code 376 = .ok (.aload_n 0, 1) := by decide +kernel
theorem d_Law_law_377 : decode code 377 = .ok (.iload_n 3, 1) := by decide +kernel
theorem d_Law_law_378 : decode code 378 = .ok (.iconst 1, 1) := by decide +kernel
theorem d_Law_law_379 : decode code 379 = .ok (.iadd, 1) := by decide +kernel
theorem d_Law_law_380 : decode code 380 = .ok (.iaload, 1) := by decide +kernel
theorem d_Law_law_381 : decode code 381 = .ok (.invokevirtual 68, 3) := by decide +kernel
theorem d_Law_law_384 : decode code 384 = .ok (.if_icmp .eq 28, 3) := by decide +kernel
theorem d_Law_law_387 : decode code 387 = .ok (.iconst 0, 1) := by decide +kernel
theorem d_Law_law_388 : decode code 388 = .ok (.ireturn, 1) := by decide +kernel
theorem d_Law_law_389 : decode code 389 = .ok (.aload_n 1, 1) := by decide +kernel
theorem d_Law_law_390 : decode code 390 = .ok (.aload_n 0, 1) := by decide +kernel
theorem d_Law_law_391 : decode code 391 = .ok (.iload_n 3, 1) := by decide +kernel
theorem d_Law_law_392 : decode code 392 = .ok (.iconst 1, 1) := by decide +kernel
theorem d_Law_law_393 : decode code 393 = .ok (.iadd, 1) := by decide +kernel
theorem d_Law_law_394 : decode code 394 = .ok (.iaload, 1) := by decide +kernel
theorem d_Law_law_395 : decode code 395 = .ok (.invokevirtual 69, 3) := by decide +kernel
theorem d_Law_law_398 : decode code 398 = .ok (.aload_n 2, 1) := by decide +kernel
theorem d_Law_law_399 : decode code 399 = .ok (.aload_n 0, 1) := by decide +kernel
theorem d_Law_law_400 : decode code 400 = .ok (.iload_n 3, 1) := by decide +kernel
theorem d_Law_law_401 : decode code 401 = .ok (.iconst 1, 1) := by decide +kernel
theorem d_Law_law_402 : decode code 402 = .ok (.iadd, 1) := by decide +kernel
theorem d_Law_law_403 : decode code 403 = .ok (.iaload, 1) := by decide +kernel
theorem d_Law_law_404 : decode code 404 = .ok (.invokevirtual 72, 3) := by decide +kernel
theorem d_Law_law_407 : decode code 407 = .ok (.if_icmp .eq 5, 3) := by decide +kernel
theorem d_Law_law_410 : decode code 410 = .ok (.iconst 0, 1) := by decide +kernel
theorem d_Law_law_411 : decode code 411 = .ok (.ireturn, 1) := by decide +kernel
theorem d_Law_law_412 : decode code 412 = .ok (.iinc 3 6, 3) := by decide +kernel
theorem d_Law_law_415 : decode code 415 = .ok (.goto (-397), 3) := by decide +kernel
theorem d_Law_law_418 : decode code 418 = .ok (.iconst 1, 1) := by decide +kernel
theorem d_Law_law_419 : decode code 419 = .ok (.ireturn, 1) := by decide +kernel
