theorem dX11_init_0 : decode cX11_init 0 = .ok (.aload_n 0, 1) := by decide +kernel
theorem dX11_init_1 : decode cX11_init 1 = .ok (.invokespecial 1, 3) := by decide +kernel
theorem dX11_init_4 : decode cX11_init 4 = .ok (.aload_n 0, 1) := by decide +kernel
theorem dX11_init_5 : decode cX11_init 5 = .ok (.sipush 700, 3) := by decide +kernel
theorem dX11_init_8 : decode cX11_init 8 = .ok (.newarray .int, 2) := by decide +kernel
theorem dX11_init_10 : decode cX11_init 10 = .ok (.putfield 7, 3) := by decide +kernel
theorem dX11_init_13 : decode cX11_init 13 = .ok (.aload_n 0, 1) := by decide +kernel
theorem dX11_init_14 : decode cX11_init 14 = .ok (.bipush 117, 2) := by decide +kernel
theorem dX11_init_16 : decode cX11_init 16 = .ok (.newarray .int, 2) := by decide +kernel
theorem dX11_init_18 : decode cX11_init 18 = .ok (.dup, 1) := by decide +kernel
theorem dX11_init_19 : decode cX11_init 19 = .ok (.iconst 0, 1) := by decide +kernel
theorem dX11_init_20 : decode cX11_init 20 = .ok (.bipush 112, 2) := by decide +kernel
theorem dX11_init_22 : decode cX11_init 22 = .ok (.iastore, 1) := by decide +kernel
theorem dX11_init_23 : decode cX11_init 23 = .ok (.dup, 1) := by decide +kernel
theorem dX11_init_24 : decode cX11_init 24 = .ok (.iconst 1, 1) := by decide +kernel
theorem dX11_init_25 : decode cX11_init 25 = .ok (.bipush 101, 2) := by decide +kernel
theorem dX11_init_27 : decode cX11_init 27 = .ok (.iastore, 1) := by decide +kernel
theorem dX11_init_28 : decode cX11_init 28 = .ok (.dup, 1) := by decide +kernel
theorem dX11_init_29 : decode cX11_init 29 = .ok (.iconst 2, 1) := by decide +kernel
theorem dX11_init_30 : decode cX11_init 30 = .ok (.bipush 114, 2) := by decide +kernel
theorem dX11_init_32 : decode cX11_init 32 = .ok (.iastore, 1) := by decide +kernel
theorem dX11_init_33 : decode cX11_init 33 = .ok (.dup, 1) := by decide +kernel
theorem dX11_init_34 : decode cX11_init 34 = .ok (.iconst 3, 1) := by decide +kernel
theorem dX11_init_35 : decode cX11_init 35 = .ok (.bipush 115, 2) := by decide +kernel
theorem dX11_init_37 : decode cX11_init 37 = .ok (.iastore, 1) := by decide +kernel
theorem dX11_init_38 : decode cX11_init 38 = .ok (.dup, 1) := by decide +kernel
theorem dX11_init_39 : decode cX11_init 39 = .ok (.iconst 4, 1) := by decide +kernel
theorem dX11_init_40 : decode cX11_init 40 = .ok (.bipush 111, 2) := by decide +kernel
theorem dX11_init_42 : decode cX11_init 42 = .ok (.iastore, 1) := by decide +kernel
theorem dX11_init_43 : decode cX11_init 43 = .ok (.dup, 1) := by decide +kernel
theorem dX11_init_44 : decode cX11_init 44 = .ok (.iconst 5, 1) := by decide +kernel
theorem dX11_init_45 : decode cX11_init 45 = .ok (.bipush 110, 2) := by decide +kernel
theorem dX11_init_47 : decode cX11_init 47 = .ok (.iastore, 1) := by decide +kernel
theorem dX11_init_48 : decode cX11_init 48 = .ok (.dup, 1) := by decide +kernel
theorem dX11_init_49 : decode cX11_init 49 = .ok (.bipush 6, 2) := by decide +kernel
theorem dX11_init_51 : decode cX11_init 51 = .ok (.bipush 32, 2) := by decide +kernel
theorem dX11_init_53 : decode cX11_init 53 = .ok (.iastore, 1) := by decide +kernel
theorem dX11_init_54 : decode cX11_init 54 = .ok (.dup, 1) := by decide +kernel
theorem dX11_init_55 : decode cX11_init 55 = .ok (.bipush 7, 2) := by decide +kernel
theorem dX11_init_57 : decode cX11_init 57 = .ok (.bipush 100, 2) := by decide +kernel
theorem dX11_init_59 : decode cX11_init 59 = .ok (.iastore, 1) := by decide +kernel
theorem dX11_init_60 : decode cX11_init 60 = .ok (.dup, 1) := by decide +kernel
theorem dX11_init_61 : decode cX11_init 61 = .ok (.bipush 8, 2) := by decide +kernel
theorem dX11_init_63 : decode cX11_init 63 = .ok (.bipush 101, 2) := by decide +kernel
theorem dX11_init_65 : decode cX11_init 65 = .ok (.iastore, 1) := by decide +kernel
theorem dX11_init_66 : decode cX11_init 66 = .ok (.dup, 1) := by decide +kernel
theorem dX11_init_67 : decode cX11_init 67 = .ok (.bipush 9, 2) := by decide +kernel
theorem dX11_init_69 : decode cX11_init 69 = .ok (.bipush 98, 2) := by decide +kernel
theorem dX11_init_71 : decode cX11_init 71 = .ok (.iastore, 1) := by decide +kernel
theorem dX11_init_72 : decode cX11_init 72 = .ok (.dup, 1) := by decide +kernel
theorem dX11_init_73 : decode cX11_init 73 = .ok (.bipush 10, 2) := by decide +kernel
theorem dX11_init_75 : decode cX11_init 75 = .ok (.bipush 116, 2) := by decide +kernel
theorem dX11_init_77 : decode cX11_init 77 = .ok (.iastore, 1) := by decide +kernel
theorem dX11_init_78 : decode cX11_init 78 = .ok (.dup, 1) := by decide +kernel
theorem dX11_init_79 : decode cX11_init 79 = .ok (.bipush 11, 2) := by decide +kernel
theorem dX11_init_81 : decode cX11_init 81 = .ok (.bipush 32, 2) := by decide +kernel
theorem dX11_init_83 : decode cX11_init 83 = .ok (.iastore, 1) := by decide +kernel
theorem dX11_init_84 : decode cX11_init 84 = .ok (.dup, 1) := by decide +kernel
theorem dX11_init_85 : decode cX11_init 85 = .ok (.bipush 12, 2) := by decide +kernel
theorem dX11_init_87 : decode cX11_init 87 = .ok (.bipush 116, 2) := by decide +kernel
theorem dX11_init_89 : decode cX11_init 89 = .ok (.iastore, 1) := by decide +kernel
theorem dX11_init_90 : decode cX11_init 90 = .ok (.dup, 1) := by decide +kernel
theorem dX11_init_91 : decode cX11_init 91 = .ok (.bipush 13, 2) := by decide +kernel
theorem dX11_init_93 : decode cX11_init 93 = .ok (.bipush 119, 2) := by decide +kernel
theorem dX11_init_95 : decode cX11_init 95 = .ok (.iastore, 1) := by decide +kernel
theorem dX11_init_96 : decode cX11_init 96 = .ok (.dup, 1) := by decide +kernel
theorem dX11_init_97 : decode cX11_init 97 = .ok (.bipush 14, 2) := by decide +kernel
theorem dX11_init_99 : decode cX11_init 99 = .ok (.bipush 105, 2) := by decide +kernel
theorem dX11_init_101 : decode cX11_init 101 = .ok (.iastore, 1) := by decide +kernel
theorem dX11_init_102 : decode cX11_init 102 = .ok (.dup, 1) := by decide +kernel
theorem dX11_init_103 : decode cX11_init 103 = .ok (.bipush 15, 2) := by decide +kernel
theorem dX11_init_105 : decode cX11_init 105 = .ok (.bipush 115, 2) := by decide +kernel
theorem dX11_init_107 : decode cX11_init 107 = .ok (.iastore, 1) := by decide +kernel
theorem dX11_init_108 : decode cX11_init 108 = .ok (.dup, 1) := by decide +kernel
theorem dX11_init_109 : decode cX11_init 109 = .ok (.bipush 16, 2) := by decide +kernel
theorem dX11_init_111 : decode cX11_init 111 = .ok (.bipush 116, 2) := by decide +kernel
theorem dX11_init_113 : decode cX11_init 113 = .ok (.iastore, 1) := by decide +kernel
theorem dX11_init_114 : decode cX11_init 114 = .ok (.dup, 1) := by decide +kernel
theorem dX11_init_115 : decode cX11_init 115 = .ok (.bipush 17, 2) := by decide +kernel
theorem dX11_init_117 : decode cX11_init 117 = .ok (.bipush 32, 2) := by decide +kernel
theorem dX11_init_119 : decode cX11_init 119 = .ok (.iastore, 1) := by decide +kernel
theorem dX11_init_120 : decode cX11_init 120 = .ok (.dup, 1) := by decide +kernel
theorem dX11_init_121 : decode cX11_init 121 = .ok (.bipush 18, 2) := by decide +kernel
theorem dX11_init_123 : decode cX11_init 123 = .ok (.bipush 99, 2) := by decide +kernel
theorem dX11_init_125 : decode cX11_init 125 = .ok (.iastore, 1) := by decide +kernel
theorem dX11_init_126 : decode cX11_init 126 = .ok (.dup, 1) := by decide +kernel
theorem dX11_init_127 : decode cX11_init 127 = .ok (.bipush 19, 2) := by decide +kernel
theorem dX11_init_129 : decode cX11_init 129 = .ok (.bipush 114, 2) := by decide +kernel
theorem dX11_init_131 : decode cX11_init 131 = .ok (.iastore, 1) := by decide +kernel
theorem dX11_init_132 : decode cX11_init 132 = .ok (.dup, 1) := by decide +kernel
theorem dX11_init_133 : decode cX11_init 133 = .ok (.bipush 20, 2) := by decide +kernel
theorem dX11_init_135 : decode cX11_init 135 = .ok (.bipush 111, 2) := by decide +kernel
theorem dX11_init_137 : decode cX11_init 137 = .ok (.iastore, 1) := by decide +kernel
theorem dX11_init_138 : decode cX11_init 138 = .ok (.dup, 1) := by decide +kernel
theorem dX11_init_139 : decode cX11_init 139 = .ok (.bipush 21, 2) := by decide +kernel
theorem dX11_init_141 : decode cX11_init 141 = .ok (.bipush 115, 2) := by decide +kernel
theorem dX11_init_143 : decode cX11_init 143 = .ok (.iastore, 1) := by decide +kernel
theorem dX11_init_144 : decode cX11_init 144 = .ok (.dup, 1) := by decide +kernel
theorem dX11_init_145 : decode cX11_init 145 = .ok (.bipush 22, 2) := by decide +kernel
theorem dX11_init_147 : decode cX11_init 147 = .ok (.bipush 115, 2) := by decide +kernel
theorem dX11_init_149 : decode cX11_init 149 = .ok (.iastore, 1) := by decide +kernel
theorem dX11_init_150 : decode cX11_init 150 = .ok (.dup, 1) := by decide +kernel
theorem dX11_init_151 : decode cX11_init 151 = .ok (.bipush 23, 2) := by decide +kernel
theorem dX11_init_153 : decode cX11_init 153 = .ok (.bipush 32, 2) := by decide +kernel
theorem dX11_init_155 : decode cX11_init 155 = .ok (.iastore, 1) := by decide +kernel
theorem dX11_init_156 : decode cX11_init 156 = .ok (.dup, 1) := by decide +kernel
theorem dX11_init_157 : decode cX11_init 157 = .ok (.bipush 24, 2) := by decide +kernel
theorem dX11_init_159 : decode cX11_init 159 = .ok (.bipush 112, 2) := by decide +kernel
theorem dX11_init_161 : decode cX11_init 161 = .ok (.iastore, 1) := by decide +kernel
theorem dX11_init_162 : decode cX11_init 162 = .ok (.dup, 1) := by decide +kernel
theorem dX11_init_163 : decode cX11_init 163 = .ok (.bipush 25, 2) := by decide +kernel
theorem dX11_init_165 : decode cX11_init 165 = .ok (.bipush 108, 2) := by decide +kernel
theorem dX11_init_167 : decode cX11_init 167 = .ok (.iastore, 1) := by decide +kernel
theorem dX11_init_168 : decode cX11_init 168 = .ok (.dup, 1) := by decide +kernel
theorem dX11_init_169 : decode cX11_init 169 = .ok (.bipush 26, 2) := by decide +kernel
theorem dX11_init_171 : decode cX11_init 171 = .ok (.bipush 97, 2) := by decide +kernel
theorem dX11_init_173 : decode cX11_init 173 = .ok (.iastore, 1) := by decide +kernel
theorem dX11_init_174 : decode cX11_init 174 = .ok (.dup, 1) := by decide +kernel
theorem dX11_init_175 : decode cX11_init 175 = .ok (.bipush 27, 2) := by decide +kernel
theorem dX11_init_177 : decode cX11_init 177 = .ok (.bipush 110, 2) := by decide +kernel
theorem dX11_init_179 : decode cX11_init 179 = .ok (.iastore, 1) := by decide +kernel
theorem dX11_init_180 : decode cX11_init 180 = .ok (.dup, 1) := by decide +kernel
theorem dX11_init_181 : decode cX11_init 181 = .ok (.bipush 28, 2) := by decide +kernel
theorem dX11_init_183 : decode cX11_init 183 = .ok (.bipush 107, 2) := by decide +kernel
theorem dX11_init_185 : decode cX11_init 185 = .ok (.iastore, 1) := by decide +kernel
theorem dX11_init_186 : decode cX11_init 186 = .ok (.dup, 1) := by decide +kernel
theorem dX11_init_187 : decode cX11_init 187 = .ok (.bipush 29, 2) := by decide +kernel
theorem dX11_init_189 : decode cX11_init 189 = .ok (.bipush 32, 2) := by decide +kernel
theorem dX11_init_191 : decode cX11_init 191 = .ok (.iastore, 1) := by decide +kernel
theorem dX11_init_192 : decode cX11_init 192 = .ok (.dup, 1) := by decide +kernel
theorem dX11_init_193 : decode cX11_init 193 = .ok (.bipush 30, 2) := by decide +kernel
theorem dX11_init_195 : decode cX11_init 195 = .ok (.bipush 115, 2) := by decide +kernel
theorem dX11_init_197 : decode cX11_init 197 = .ok (.iastore, 1) := by decide +kernel
theorem dX11_init_198 : decode cX11_init 198 = .ok (.dup, 1) := by decide +kernel
theorem dX11_init_199 : decode cX11_init 199 = .ok (.bipush 31, 2) := by decide +kernel
theorem dX11_init_201 : decode cX11_init 201 = .ok (.bipush 101, 2) := by decide +kernel
theorem dX11_init_203 : decode cX11_init 203 = .ok (.iastore, 1) := by decide +kernel
theorem dX11_init_204 : decode cX11_init 204 = .ok (.dup, 1) := by decide +kernel
theorem dX11_init_205 : decode cX11_init 205 = .ok (.bipush 32, 2) := by decide +kernel
theorem dX11_init_207 : decode cX11_init 207 = .ok (.bipush 101, 2) := by decide +kernel
theorem dX11_init_209 : decode cX11_init 209 = .ok (.iastore, 1) := by decide +kernel
theorem dX11_init_210 : decode cX11_init 210 = .ok (.dup, 1) := by decide +kernel
theorem dX11_init_211 : decode cX11_init 211 = .ok (.bipush 33, 2) := by decide +kernel
theorem dX11_init_213 : decode cX11_init 213 = .ok (.bipush 100, 2) := by decide +kernel
theorem dX11_init_215 : decode cX11_init 215 = .ok (.iastore, 1) := by decide +kernel
theorem dX11_init_216 : decode cX11_init 216 = .ok (.dup, 1) := by decide +kernel
theorem dX11_init_217 : decode cX11_init 217 = .ok (.bipush 34, 2) := by decide +kernel
theorem dX11_init_219 : decode cX11_init 219 = .ok (.bipush 32, 2) := by decide +kernel
theorem dX11_init_221 : decode cX11_init 221 = .ok (.iastore, 1) := by decide +kernel
theorem dX11_init_222 : decode cX11_init 222 = .ok (.dup, 1) := by decide +kernel
theorem dX11_init_223 : decode cX11_init 223 = .ok (.bipush 35, 2) := by decide +kernel
theorem dX11_init_225 : decode cX11_init 225 = .ok (.bipush 108, 2) := by decide +kernel
theorem dX11_init_227 : decode cX11_init 227 = .ok (.iastore, 1) := by decide +kernel
theorem dX11_init_228 : decode cX11_init 228 = .ok (.dup, 1) := by decide +kernel
theorem dX11_init_229 : decode cX11_init 229 = .ok (.bipush 36, 2) := by decide +kernel
theorem dX11_init_231 : decode cX11_init 231 = .ok (.bipush 97, 2) := by decide +kernel
theorem dX11_init_233 : decode cX11_init 233 = .ok (.iastore, 1) := by decide +kernel
theorem dX11_init_234 : decode cX11_init 234 = .ok (.dup, 1) := by decide +kernel
theorem dX11_init_235 : decode cX11_init 235 = .ok (.bipush 37, 2) := by decide +kernel
theorem dX11_init_237 : decode cX11_init 237 = .ok (.bipush 119, 2) := by decide +kernel
theorem dX11_init_239 : decode cX11_init 239 = .ok (.iastore, 1) := by decide +kernel
theorem dX11_init_240 : decode cX11_init 240 = .ok (.dup, 1) := by decide +kernel
theorem dX11_init_241 : decode cX11_init 241 = .ok (.bipush 38, 2) := by decide +kernel
theorem dX11_init_243 : decode cX11_init 243 = .ok (.bipush 32, 2) := by decide +kernel
theorem dX11_init_245 : decode cX11_init 245 = .ok (.iastore, 1) := by decide +kernel
theorem dX11_init_246 : decode cX11_init 246 = .ok (.dup, 1) := by decide +kernel
theorem dX11_init_247 : decode cX11_init 247 = .ok (.bipush 39, 2) := by decide +kernel
theorem dX11_init_249 : decode cX11_init 249 = .ok (.bipush 101, 2) := by decide +kernel
theorem dX11_init_251 : decode cX11_init 251 = .ok (.iastore, 1) := by decide +kernel
theorem dX11_init_252 : decode cX11_init 252 = .ok (.dup, 1) := by decide +kernel
theorem dX11_init_253 : decode cX11_init 253 = .ok (.bipush 40, 2) := by decide +kernel
theorem dX11_init_255 : decode cX11_init 255 = .ok (.bipush 97, 2) := by decide +kernel
theorem dX11_init_257 : decode cX11_init 257 = .ok (.iastore, 1) := by decide +kernel
theorem dX11_init_258 : decode cX11_init 258 = .ok (.dup, 1) := by decide +kernel
theorem dX11_init_259 : decode cX11_init 259 = .ok (.bipush 41, 2) := by decide +kernel
theorem dX11_init_261 : decode cX11_init 261 = .ok (.bipush 115, 2) := by decide +kernel
theorem dX11_init_263 : decode cX11_init 263 = .ok (.iastore, 1) := by decide +kernel
theorem dX11_init_264 : decode cX11_init 264 = .ok (.dup, 1) := by decide +kernel
theorem dX11_init_265 : decode cX11_init 265 = .ok (.bipush 42, 2) := by decide +kernel
theorem dX11_init_267 : decode cX11_init 267 = .ok (.bipush 116, 2) := by decide +kernel
theorem dX11_init_269 : decode cX11_init 269 = .ok (.iastore, 1) := by decide +kernel
theorem dX11_init_270 : decode cX11_init 270 = .ok (.dup, 1) := by decide +kernel
theorem dX11_init_271 : decode cX11_init 271 = .ok (.bipush 43, 2) := by decide +kernel
theorem dX11_init_273 : decode cX11_init 273 = .ok (.bipush 32, 2) := by decide +kernel
theorem dX11_init_275 : decode cX11_init 275 = .ok (.iastore, 1) := by decide +kernel
theorem dX11_init_276 : decode cX11_init 276 = .ok (.dup, 1) := by decide +kernel
theorem dX11_init_277 : decode cX11_init 277 = .ok (.bipush 44, 2) := by decide +kernel
theorem dX11_init_279 : decode cX11_init 279 = .ok (.bipush 119, 2) := by decide +kernel
theorem dX11_init_281 : decode cX11_init 281 = .ok (.iastore, 1) := by decide +kernel
theorem dX11_init_282 : decode cX11_init 282 = .ok (.dup, 1) := by decide +kernel
theorem dX11_init_283 : decode cX11_init 283 = .ok (.bipush 45, 2) := by decide +kernel
theorem dX11_init_285 : decode cX11_init 285 = .ok (.bipush 101, 2) := by decide +kernel
theorem dX11_init_287 : decode cX11_init 287 = .ok (.iastore, 1) := by decide +kernel
theorem dX11_init_288 : decode cX11_init 288 = .ok (.dup, 1) := by decide +kernel
theorem dX11_init_289 : decode cX11_init 289 = .ok (.bipush 46, 2) := by decide +kernel
theorem dX11_init_291 : decode cX11_init 291 = .ok (.bipush 115, 2) := by decide +kernel
theorem dX11_init_293 : decode cX11_init 293 = .ok (.iastore, 1) := by decide +kernel
theorem dX11_init_294 : decode cX11_init 294 = .ok (.dup, 1) := by decide +kernel
theorem dX11_init_295 : decode cX11_init 295 = .ok (.bipush 47, 2) := by decide +kernel
theorem dX11_init_297 : decode cX11_init 297 = .ok (.bipush 116, 2) := by decide +kernel
theorem dX11_init_299 : decode cX11_init 299 = .ok (.iastore, 1) := by decide +kernel
theorem dX11_init_300 : decode cX11_init 300 = .ok (.dup, 1) := by decide +kernel
theorem dX11_init_301 : decode cX11_init 301 = .ok (.bipush 48, 2) := by decide +kernel
theorem dX11_init_303 : decode cX11_init 303 = .ok (.bipush 32, 2) := by decide +kernel
theorem dX11_init_305 : decode cX11_init 305 = .ok (.iastore, 1) := by decide +kernel
theorem dX11_init_306 : decode cX11_init 306 = .ok (.dup, 1) := by decide +kernel
theorem dX11_init_307 : decode cX11_init 307 = .ok (.bipush 49, 2) := by decide +kernel
theorem dX11_init_309 : decode cX11_init 309 = .ok (.bipush 112, 2) := by decide +kernel
theorem dX11_init_311 : decode cX11_init 311 = .ok (.iastore, 1) := by decide +kernel
theorem dX11_init_312 : decode cX11_init 312 = .ok (.dup, 1) := by decide +kernel
theorem dX11_init_313 : decode cX11_init 313 = .ok (.bipush 50, 2) := by decide +kernel
theorem dX11_init_315 : decode cX11_init 315 = .ok (.bipush 97, 2) := by decide +kernel
theorem dX11_init_317 : decode cX11_init 317 = .ok (.iastore, 1) := by decide +kernel
theorem dX11_init_318 : decode cX11_init 318 = .ok (.dup, 1) := by decide +kernel
theorem dX11_init_319 : decode cX11_init 319 = .ok (.bipush 51, 2) := by decide +kernel
theorem dX11_init_321 : decode cX11_init 321 = .ok (.bipush 105, 2) := by decide +kernel
theorem dX11_init_323 : decode cX11_init 323 = .ok (.iastore, 1) := by decide +kernel
theorem dX11_init_324 : decode cX11_init 324 = .ok (.dup, 1) := by decide +kernel
theorem dX11_init_325 : decode cX11_init 325 = .ok (.bipush 52, 2) := by decide +kernel
theorem dX11_init_327 : decode cX11_init 327 = .ok (.bipush 110, 2) := by decide +kernel
theorem dX11_init_329 : decode cX11_init 329 = .ok (.iastore, 1) := by decide +kernel
theorem dX11_init_330 : decode cX11_init 330 = .ok (.dup, 1) := by decide +kernel
theorem dX11_init_331 : decode cX11_init 331 = .ok (.bipush 53, 2) := by decide +kernel
theorem dX11_init_333 : decode cX11_init 333 = .ok (.bipush 116, 2) := by decide +kernel
theorem dX11_init_335 : decode cX11_init 335 = .ok (.iastore, 1) := by decide +kernel
theorem dX11_init_336 : decode cX11_init 336 = .ok (.dup, 1) := by decide +kernel
theorem dX11_init_337 : decode cX11_init 337 = .ok (.bipush 54, 2) := by decide +kernel
theorem dX11_init_339 : decode cX11_init 339 = .ok (.bipush 101, 2) := by decide +kernel
theorem dX11_init_341 : decode cX11_init 341 = .ok (.iastore, 1) := by decide +kernel
theorem dX11_init_342 : decode cX11_init 342 = .ok (.dup, 1) := by decide +kernel
theorem dX11_init_343 : decode cX11_init 343 = .ok (.bipush 55, 2) := by decide +kernel
theorem dX11_init_345 : decode cX11_init 345 = .ok (.bipush 100, 2) := by decide +kernel
theorem dX11_init_347 : decode cX11_init 347 = .ok (.iastore, 1) := by decide +kernel
theorem dX11_init_348 : decode cX11_init 348 = .ok (.dup, 1) := by decide +kernel
theorem dX11_init_349 : decode cX11_init 349 = .ok (.bipush 56, 2) := by decide +kernel
theorem dX11_init_351 : decode cX11_init 351 = .ok (.bipush 32, 2) := by decide +kernel
theorem dX11_init_353 : decode cX11_init 353 = .ok (.iastore, 1) := by decide +kernel
theorem dX11_init_354 : decode cX11_init 354 = .ok (.dup, 1) := by decide +kernel
theorem dX11_init_355 : decode cX11_init 355 = .ok (.bipush 57, 2) := by decide +kernel
theorem dX11_init_357 : decode cX11_init 357 = .ok (.bipush 98, 2) := by decide +kernel
theorem dX11_init_359 : decode cX11_init 359 = .ok (.iastore, 1) := by decide +kernel
theorem dX11_init_360 : decode cX11_init 360 = .ok (.dup, 1) := by decide +kernel
theorem dX11_init_361 : decode cX11_init 361 = .ok (.bipush 58, 2) := by decide +kernel
theorem dX11_init_363 : decode cX11_init 363 = .ok (.bipush 101, 2) := by decide +kernel
theorem dX11_init_365 : decode cX11_init 365 = .ok (.iastore, 1) := by decide +kernel
theorem dX11_init_366 : decode cX11_init 366 = .ok (.dup, 1) := by decide +kernel
theorem dX11_init_367 : decode cX11_init 367 = .ok (.bipush 59, 2) := by decide +kernel
theorem dX11_init_369 : decode cX11_init 369 = .ok (.bipush 97, 2) := by decide +kernel
theorem dX11_init_371 : decode cX11_init 371 = .ok (.iastore, 1) := by decide +kernel
theorem dX11_init_372 : decode cX11_init 372 = .ok (.dup, 1) := by decide +kernel
theorem dX11_init_373 : decode cX11_init 373 = .ok (.bipush 60, 2) := by decide +kernel
theorem dX11_init_375 : decode cX11_init 375 = .ok (.bipush 114, 2) := by decide +kernel
theorem dX11_init_377 : decode cX11_init 377 = .ok (.iastore, 1) := by decide +kernel
theorem dX11_init_378 : decode cX11_init 378 = .ok (.dup, 1) := by decide +kernel
theorem dX11_init_379 : decode cX11_init 379 = .ok (.bipush 61, 2) := by decide +kernel
theorem dX11_init_381 : decode cX11_init 381 = .ok (.bipush 32, 2) := by decide +kernel
theorem dX11_init_383 : decode cX11_init 383 = .ok (.iastore, 1) := by decide +kernel
theorem dX11_init_384 : decode cX11_init 384 = .ok (.dup, 1) := by decide +kernel
theorem dX11_init_385 : decode cX11_init 385 = .ok (.bipush 62, 2) := by decide +kernel
theorem dX11_init_387 : decode cX11_init 387 = .ok (.bipush 102, 2) := by decide +kernel
theorem dX11_init_389 : decode cX11_init 389 = .ok (.iastore, 1) := by decide +kernel
theorem dX11_init_390 : decode cX11_init 390 = .ok (.dup, 1) := by decide +kernel
theorem dX11_init_391 : decode cX11_init 391 = .ok (.bipush 63, 2) := by decide +kernel
theorem dX11_init_393 : decode cX11_init 393 = .ok (.bipush 114, 2) := by decide +kernel
theorem dX11_init_395 : decode cX11_init 395 = .ok (.iastore, 1) := by decide +kernel
theorem dX11_init_396 : decode cX11_init 396 = .ok (.dup, 1) := by decide +kernel
theorem dX11_init_397 : decode cX11_init 397 = .ok (.bipush 64, 2) := by decide +kernel
theorem dX11_init_399 : decode cX11_init 399 = .ok (.bipush 97, 2) := by decide +kernel
theorem dX11_init_401 : decode cX11_init 401 = .ok (.iastore, 1) := by decide +kernel
theorem dX11_init_402 : decode cX11_init 402 = .ok (.dup, 1) := by decide +kernel
theorem dX11_init_403 : decode cX11_init 403 = .ok (.bipush 65, 2) := by decide +kernel
theorem dX11_init_405 : decode cX11_init 405 = .ok (.bipush 121, 2) := by decide +kernel
theorem dX11_init_407 : decode cX11_init 407 = .ok (.iastore, 1) := by decide +kernel
theorem dX11_init_408 : decode cX11_init 408 = .ok (.dup, 1) := by decide +kernel
theorem dX11_init_409 : decode cX11_init 409 = .ok (.bipush 66, 2) := by decide +kernel
theorem dX11_init_411 : decode cX11_init 411 = .ok (.bipush 32, 2) := by decide +kernel
theorem dX11_init_413 : decode cX11_init 413 = .ok (.iastore, 1) := by decide +kernel
theorem dX11_init_414 : decode cX11_init 414 = .ok (.dup, 1) := by decide +kernel
theorem dX11_init_415 : decode cX11_init 415 = .ok (.bipush 67, 2) := by decide +kernel
theorem dX11_init_417 : decode cX11_init 417 = .ok (.bipush 114, 2) := by decide +kernel
theorem dX11_init_419 : decode cX11_init 419 = .ok (.iastore, 1) := by decide +kernel
theorem dX11_init_420 : decode cX11_init 420 = .ok (.dup, 1) := by decide +kernel
theorem dX11_init_421 : decode cX11_init 421 = .ok (.bipush 68, 2) := by decide +kernel
theorem dX11_init_423 : decode cX11_init 423 = .ok (.bipush 101, 2) := by decide +kernel
theorem dX11_init_425 : decode cX11_init 425 = .ok (.iastore, 1) := by decide +kernel
theorem dX11_init_426 : decode cX11_init 426 = .ok (.dup, 1) := by decide +kernel
theorem dX11_init_427 : decode cX11_init 427 = .ok (.bipush 69, 2) := by decide +kernel
theorem dX11_init_429 : decode cX11_init 429 = .ok (.bipush 110, 2) := by decide +kernel
theorem dX11_init_431 : decode cX11_init 431 = .ok (.iastore, 1) := by decide +kernel
theorem dX11_init_432 : decode cX11_init 432 = .ok (.dup, 1) := by decide +kernel
theorem dX11_init_433 : decode cX11_init 433 = .ok (.bipush 70, 2) := by decide +kernel
theorem dX11_init_435 : decode cX11_init 435 = .ok (.bipush 116, 2) := by decide +kernel
theorem dX11_init_437 : decode cX11_init 437 = .ok (.iastore, 1) := by decide +kernel
theorem dX11_init_438 : decode cX11_init 438 = .ok (.dup, 1) := by decide +kernel
theorem dX11_init_439 : decode cX11_init 439 = .ok (.bipush 71, 2) := by decide +kernel
theorem dX11_init_441 : decode cX11_init 441 = .ok (.bipush 32, 2) := by decide +kernel
theorem dX11_init_443 : decode cX11_init 443 = .ok (.iastore, 1) := by decide +kernel
theorem dX11_init_444 : decode cX11_init 444 = .ok (.dup, 1) := by decide +kernel
theorem dX11_init_445 : decode cX11_init 445 = .ok (.bipush 72, 2) := by decide +kernel
theorem dX11_init_447 : decode cX11_init 447 = .ok (.bipush 97, 2) := by decide +kernel
theorem dX11_init_449 : decode cX11_init 449 = .ok (.iastore, 1) := by decide +kernel
theorem dX11_init_450 : decode cX11_init 450 = .ok (.dup, 1) := by decide +kernel
theorem dX11_init_451 : decode cX11_init 451 = .ok (.bipush 73, 2) := by decide +kernel
theorem dX11_init_453 : decode cX11_init 453 = .ok (.bipush 110, 2) := by decide +kernel
theorem dX11_init_455 : decode cX11_init 455 = .ok (.iastore, 1) := by decide +kernel
theorem dX11_init_456 : decode cX11_init 456 = .ok (.dup, 1) := by decide +kernel
theorem dX11_init_457 : decode cX11_init 457 = .ok (.bipush 74, 2) := by decide +kernel
theorem dX11_init_459 : decode cX11_init 459 = .ok (.bipush 100, 2) := by decide +kernel
theorem dX11_init_461 : decode cX11_init 461 = .ok (.iastore, 1) := by decide +kernel
theorem dX11_init_462 : decode cX11_init 462 = .ok (.dup, 1) := by decide +kernel
theorem dX11_init_463 : decode cX11_init 463 = .ok (.bipush 75, 2) := by decide +kernel
theorem dX11_init_465 : decode cX11_init 465 = .ok (.bipush 32, 2) := by decide +kernel
theorem dX11_init_467 : decode cX11_init 467 = .ok (.iastore, 1) := by decide +kernel
theorem dX11_init_468 : decode cX11_init 468 = .ok (.dup, 1) := by decide +kernel
theorem dX11_init_469 : decode cX11_init 469 = .ok (.bipush 76, 2) := by decide +kernel
theorem dX11_init_471 : decode cX11_init 471 = .ok (.bipush 111, 2) := by decide +kernel
theorem dX11_init_473 : decode cX11_init 473 = .ok (.iastore, 1) := by decide +kernel
theorem dX11_init_474 : decode cX11_init 474 = .ok (.dup, 1) := by decide +kernel
theorem dX11_init_475 : decode cX11_init 475 = .ok (.bipush 77, 2) := by decide +kernel
theorem dX11_init_477 : decode cX11_init 477 = .ok (.bipush 114, 2) := by decide +kernel
theorem dX11_init_479 : decode cX11_init 479 = .ok (.iastore, 1) := by decide +kernel
theorem dX11_init_480 : decode cX11_init 480 = .ok (.dup, 1) := by decide +kernel
theorem dX11_init_481 : decode cX11_init 481 = .ok (.bipush 78, 2) := by decide +kernel
theorem dX11_init_483 : decode cX11_init 483 = .ok (.bipush 32, 2) := by decide +kernel
theorem dX11_init_485 : decode cX11_init 485 = .ok (.iastore, 1) := by decide +kernel
theorem dX11_init_486 : decode cX11_init 486 = .ok (.dup, 1) := by decide +kernel
theorem dX11_init_487 : decode cX11_init 487 = .ok (.bipush 79, 2) := by decide +kernel
theorem dX11_init_489 : decode cX11_init 489 = .ok (.bipush 110, 2) := by decide +kernel
theorem dX11_init_491 : decode cX11_init 491 = .ok (.iastore, 1) := by decide +kernel
theorem dX11_init_492 : decode cX11_init 492 = .ok (.dup, 1) := by decide +kernel
theorem dX11_init_493 : decode cX11_init 493 = .ok (.bipush 80, 2) := by decide +kernel
theorem dX11_init_495 : decode cX11_init 495 = .ok (.bipush 111, 2) := by decide +kernel
theorem dX11_init_497 : decode cX11_init 497 = .ok (.iastore, 1) := by decide +kernel
theorem dX11_init_498 : decode cX11_init 498 = .ok (.dup, 1) := by decide +kernel
theorem dX11_init_499 : decode cX11_init 499 = .ok (.bipush 81, 2) := by decide +kernel
theorem dX11_init_501 : decode cX11_init 501 = .ok (.bipush 116, 2) := by decide +kernel
theorem dX11_init_503 : decode cX11_init 503 = .ok (.iastore, 1) := by decide +kernel
theorem dX11_init_504 : decode cX11_init 504 = .ok (.dup, 1) := by decide +kernel
theorem dX11_init_505 : decode cX11_init 505 = .ok (.bipush 82, 2) := by decide +kernel
theorem dX11_init_507 : decode cX11_init 507 = .ok (.bipush 32, 2) := by decide +kernel
theorem dX11_init_509 : decode cX11_init 509 = .ok (.iastore, 1) := by decide +kernel
theorem dX11_init_510 : decode cX11_init 510 = .ok (.dup, 1) := by decide +kernel
theorem dX11_init_511 : decode cX11_init 511 = .ok (.bipush 83, 2) := by decide +kernel
theorem dX11_init_513 : decode cX11_init 513 = .ok (.bipush 111, 2) := by decide +kernel
theorem dX11_init_515 : decode cX11_init 515 = .ok (.iastore, 1) := by decide +kernel
theorem dX11_init_516 : decode cX11_init 516 = .ok (.dup, 1) := by decide +kernel
theorem dX11_init_517 : decode cX11_init 517 = .ok (.bipush 84, 2) := by decide +kernel
theorem dX11_init_519 : decode cX11_init 519 = .ok (.bipush 119, 2) := by decide +kernel
theorem dX11_init_521 : decode cX11_init 521 = .ok (.iastore, 1) := by decide +kernel
theorem dX11_init_522 : decode cX11_init 522 = .ok (.dup, 1) := by decide +kernel
theorem dX11_init_523 : decode cX11_init 523 = .ok (.bipush 85, 2) := by decide +kernel
theorem dX11_init_525 : decode cX11_init 525 = .ok (.bipush 101, 2) := by decide +kernel
theorem dX11_init_527 : decode cX11_init 527 = .ok (.iastore, 1) := by decide +kernel
theorem dX11_init_528 : decode cX11_init 528 = .ok (.dup, 1) := by decide +kernel
theorem dX11_init_529 : decode cX11_init 529 = .ok (.bipush 86, 2) := by decide +kernel
theorem dX11_init_531 : decode cX11_init 531 = .ok (.bipush 100, 2) := by decide +kernel
theorem dX11_init_533 : decode cX11_init 533 = .ok (.iastore, 1) := by decide +kernel
theorem dX11_init_534 : decode cX11_init 534 = .ok (.dup, 1) := by decide +kernel
theorem dX11_init_535 : decode cX11_init 535 = .ok (.bipush 87, 2) := by decide +kernel
theorem dX11_init_537 : decode cX11_init 537 = .ok (.bipush 32, 2) := by decide +kernel
theorem dX11_init_539 : decode cX11_init 539 = .ok (.iastore, 1) := by decide +kernel
theorem dX11_init_540 : decode cX11_init 540 = .ok (.dup, 1) := by decide +kernel
theorem dX11_init_541 : decode cX11_init 541 = .ok (.bipush 88, 2) := by decide +kernel
theorem dX11_init_543 : decode cX11_init 543 = .ok (.bipush 102, 2) := by decide +kernel
theorem dX11_init_545 : decode cX11_init 545 = .ok (.iastore, 1) := by decide +kernel
theorem dX11_init_546 : decode cX11_init 546 = .ok (.dup, 1) := by decide +kernel
theorem dX11_init_547 : decode cX11_init 547 = .ok (.bipush 89, 2) := by decide +kernel
theorem dX11_init_549 : decode cX11_init 549 = .ok (.bipush 114, 2) := by decide +kernel
theorem dX11_init_551 : decode cX11_init 551 = .ok (.iastore, 1) := by decide +kernel
theorem dX11_init_552 : decode cX11_init 552 = .ok (.dup, 1) := by decide +kernel
theorem dX11_init_553 : decode cX11_init 553 = .ok (.bipush 90, 2) := by decide +kernel
theorem dX11_init_555 : decode cX11_init 555 = .ok (.bipush 97, 2) := by decide +kernel
theorem dX11_init_557 : decode cX11_init 557 = .ok (.iastore, 1) := by decide +kernel
theorem dX11_init_558 : decode cX11_init 558 = .ok (.dup, 1) := by decide +kernel
theorem dX11_init_559 : decode cX11_init 559 = .ok (.bipush 91, 2) := by decide +kernel
theorem dX11_init_561 : decode cX11_init 561 = .ok (.bipush 121, 2) := by decide +kernel
theorem dX11_init_563 : decode cX11_init 563 = .ok (.iastore, 1) := by decide +kernel
theorem dX11_init_564 : decode cX11_init 564 = .ok (.dup, 1) := by decide +kernel
theorem dX11_init_565 : decode cX11_init 565 = .ok (.bipush 92, 2) := by decide +kernel
theorem dX11_init_567 : decode cX11_init 567 = .ok (.bipush 101, 2) := by decide +kernel
theorem dX11_init_569 : decode cX11_init 569 = .ok (.iastore, 1) := by decide +kernel
theorem dX11_init_570 : decode cX11_init 570 = .ok (.dup, 1) := by decide +kernel
theorem dX11_init_571 : decode cX11_init 571 = .ok (.bipush 93, 2) := by decide +kernel
theorem dX11_init_573 : decode cX11_init 573 = .ok (.bipush 100, 2) := by decide +kernel
theorem dX11_init_575 : decode cX11_init 575 = .ok (.iastore, 1) := by decide +kernel
theorem dX11_init_576 : decode cX11_init 576 = .ok (.dup, 1) := by decide +kernel
theorem dX11_init_577 : decode cX11_init 577 = .ok (.bipush 94, 2) := by decide +kernel
theorem dX11_init_579 : decode cX11_init 579 = .ok (.bipush 32, 2) := by decide +kernel
theorem dX11_init_581 : decode cX11_init 581 = .ok (.iastore, 1) := by decide +kernel
theorem dX11_init_582 : decode cX11_init 582 = .ok (.dup, 1) := by decide +kernel
theorem dX11_init_583 : decode cX11_init 583 = .ok (.bipush 95, 2) := by decide +kernel
theorem dX11_init_585 : decode cX11_init 585 = .ok (.bipush 97, 2) := by decide +kernel
theorem dX11_init_587 : decode cX11_init 587 = .ok (.iastore, 1) := by decide +kernel
theorem dX11_init_588 : decode cX11_init 588 = .ok (.dup, 1) := by decide +kernel
theorem dX11_init_589 : decode cX11_init 589 = .ok (.bipush 96, 2) := by decide +kernel
theorem dX11_init_591 : decode cX11_init 591 = .ok (.bipush 103, 2) := by decide +kernel
theorem dX11_init_593 : decode cX11_init 593 = .ok (.iastore, 1) := by decide +kernel
theorem dX11_init_594 : decode cX11_init 594 = .ok (.dup, 1) := by decide +kernel
theorem dX11_init_595 : decode cX11_init 595 = .ok (.bipush 97, 2) := by decide +kernel
theorem dX11_init_597 : decode cX11_init 597 = .ok (.bipush 101, 2) := by decide +kernel
theorem dX11_init_599 : decode cX11_init 599 = .ok (.iastore, 1) := by decide +kernel
theorem dX11_init_600 : decode cX11_init 600 = .ok (.dup, 1) := by decide +kernel
theorem dX11_init_601 : decode cX11_init 601 = .ok (.bipush 98, 2) := by decide +kernel
theorem dX11_init_603 : decode cX11_init 603 = .ok (.bipush 32, 2) := by decide +kernel
theorem dX11_init_605 : decode cX11_init 605 = .ok (.iastore, 1) := by decide +kernel
theorem dX11_init_606 : decode cX11_init 606 = .ok (.dup, 1) := by decide +kernel
theorem dX11_init_607 : decode cX11_init 607 = .ok (.bipush 99, 2) := by decide +kernel
theorem dX11_init_609 : decode cX11_init 609 = .ok (.bipush 100, 2) := by decide +kernel
theorem dX11_init_611 : decode cX11_init 611 = .ok (.iastore, 1) := by decide +kernel
theorem dX11_init_612 : decode cX11_init 612 = .ok (.dup, 1) := by decide +kernel
theorem dX11_init_613 : decode cX11_init 613 = .ok (.bipush 100, 2) := by decide +kernel
theorem dX11_init_615 : decode cX11_init 615 = .ok (.bipush 117, 2) := by decide +kernel
theorem dX11_init_617 : decode cX11_init 617 = .ok (.iastore, 1) := by decide +kernel
theorem dX11_init_618 : decode cX11_init 618 = .ok (.dup, 1) := by decide +kernel
theorem dX11_init_619 : decode cX11_init 619 = .ok (.bipush 101, 2) := by decide +kernel
theorem dX11_init_621 : decode cX11_init 621 = .ok (.bipush 101, 2) := by decide +kernel
theorem dX11_init_623 : decode cX11_init 623 = .ok (.iastore, 1) := by decide +kernel
theorem dX11_init_624 : decode cX11_init 624 = .ok (.dup, 1) := by decide +kernel
theorem dX11_init_625 : decode cX11_init 625 = .ok (.bipush 102, 2) := by decide +kernel
theorem dX11_init_627 : decode cX11_init 627 = .ok (.bipush 32, 2) := by decide +kernel
theorem dX11_init_629 : decode cX11_init 629 = .ok (.iastore, 1) := by decide +kernel
theorem dX11_init_630 : decode cX11_init 630 = .ok (.dup, 1) := by decide +kernel
theorem dX11_init_631 : decode cX11_init 631 = .ok (.bipush 103, 2) := by decide +kernel
theorem dX11_init_633 : decode cX11_init 633 = .ok (.bipush 121, 2) := by decide +kernel
theorem dX11_init_635 : decode cX11_init 635 = .ok (.iastore, 1) := by decide +kernel
theorem dX11_init_636 : decode cX11_init 636 = .ok (.dup, 1) := by decide +kernel
theorem dX11_init_637 : decode cX11_init 637 = .ok (.bipush 104, 2) := by decide +kernel
theorem dX11_init_639 : decode cX11_init 639 = .ok (.bipush 101, 2) := by decide +kernel
theorem dX11_init_641 : decode cX11_init 641 = .ok (.iastore, 1) := by decide +kernel
theorem dX11_init_642 : decode cX11_init 642 = .ok (.dup, 1) := by decide +kernel
theorem dX11_init_643 : decode cX11_init 643 = .ok (.bipush 105, 2) := by decide +kernel
theorem dX11_init_645 : decode cX11_init 645 = .ok (.bipush 97, 2) := by decide +kernel
theorem dX11_init_647 : decode cX11_init 647 = .ok (.iastore, 1) := by decide +kernel
theorem dX11_init_648 : decode cX11_init 648 = .ok (.dup, 1) := by decide +kernel
theorem dX11_init_649 : decode cX11_init 649 = .ok (.bipush 106, 2) := by decide +kernel
theorem dX11_init_651 : decode cX11_init 651 = .ok (.bipush 114, 2) := by decide +kernel
theorem dX11_init_653 : decode cX11_init 653 = .ok (.iastore, 1) := by decide +kernel
theorem dX11_init_654 : decode cX11_init 654 = .ok (.dup, 1) := by decide +kernel
theorem dX11_init_655 : decode cX11_init 655 = .ok (.bipush 107, 2) := by decide +kernel
theorem dX11_init_657 : decode cX11_init 657 = .ok (.bipush 32, 2) := by decide +kernel
theorem dX11_init_659 : decode cX11_init 659 = .ok (.iastore, 1) := by decide +kernel
theorem dX11_init_660 : decode cX11_init 660 = .ok (.dup, 1) := by decide +kernel
theorem dX11_init_661 : decode cX11_init 661 = .ok (.bipush 108, 2) := by decide +kernel
theorem dX11_init_663 : decode cX11_init 663 = .ok (.bipush 114, 2) := by decide +kernel
theorem dX11_init_665 : decode cX11_init 665 = .ok (.iastore, 1) := by decide +kernel
theorem dX11_init_666 : decode cX11_init 666 = .ok (.dup, 1) := by decide +kernel
theorem dX11_init_667 : decode cX11_init 667 = .ok (.bipush 109, 2) := by decide +kernel
theorem dX11_init_669 : decode cX11_init 669 = .ok (.bipush 105, 2) := by decide +kernel
theorem dX11_init_671 : decode cX11_init 671 = .ok (.iastore, 1) := by decide +kernel
theorem dX11_init_672 : decode cX11_init 672 = .ok (.dup, 1) := by decide +kernel
theorem dX11_init_673 : decode cX11_init 673 = .ok (.bipush 110, 2) := by decide +kernel
theorem dX11_init_675 : decode cX11_init 675 = .ok (.bipush 99, 2) := by decide +kernel
theorem dX11_init_677 : decode cX11_init 677 = .ok (.iastore, 1) := by decide +kernel
theorem dX11_init_678 : decode cX11_init 678 = .ok (.dup, 1) := by decide +kernel
theorem dX11_init_679 : decode cX11_init 679 = .ok (.bipush 111, 2) := by decide +kernel
theorem dX11_init_681 : decode cX11_init 681 = .ok (.bipush 104, 2) := by decide +kernel
theorem dX11_init_683 : decode cX11_init 683 = .ok (.iastore, 1) := by decide +kernel
theorem dX11_init_684 : decode cX11_init 684 = .ok (.dup, 1) := by decide +kernel
theorem dX11_init_685 : decode cX11_init 685 = .ok (.bipush 112, 2) := by decide +kernel
theorem dX11_init_687 : decode cX11_init 687 = .ok (.bipush 32, 2) := by decide +kernel
theorem dX11_init_689 : decode cX11_init 689 = .ok (.iastore, 1) := by decide +kernel
theorem dX11_init_690 : decode cX11_init 690 = .ok (.dup, 1) := by decide +kernel
theorem dX11_init_691 : decode cX11_init 691 = .ok (.bipush 113, 2) := by decide +kernel
theorem dX11_init_693 : decode cX11_init 693 = .ok (.bipush 116, 2) := by decide +kernel
theorem dX11_init_695 : decode cX11_init 695 = .ok (.iastore, 1) := by decide +kernel
theorem dX11_init_696 : decode cX11_init 696 = .ok (.dup, 1) := by decide +kernel
theorem dX11_init_697 : decode cX11_init 697 = .ok (.bipush 114, 2) := by decide +kernel
theorem dX11_init_699 : decode cX11_init 699 = .ok (.bipush 119, 2) := by decide +kernel
theorem dX11_init_701 : decode cX11_init 701 = .ok (.iastore, 1) := by decide +kernel
theorem dX11_init_702 : decode cX11_init 702 = .ok (.dup, 1) := by decide +kernel
theorem dX11_init_703 : decode cX11_init 703 = .ok (.bipush 115, 2) := by decide +kernel
theorem dX11_init_705 : decode cX11_init 705 = .ok (.bipush 111, 2) := by decide +kernel
theorem dX11_init_707 : decode cX11_init 707 = .ok (.iastore, 1) := by decide +kernel
theorem dX11_init_708 : decode cX11_init 708 = .ok (.dup, 1) := by decide +kernel
theorem dX11_init_709 : decode cX11_init 709 = .ok (.bipush 116, 2) := by decide +kernel
theorem dX11_init_711 : decode cX11_init 711 = .ok (.bipush 32, 2) := by decide +kernel
theorem dX11_init_713 : decode cX11_init 713 = .ok (.iastore, 1) := by decide +kernel
theorem dX11_init_714 : decode cX11_init 714 = .ok (.putfield 13, 3) := by decide +kernel
theorem dX11_init_717 : decode cX11_init 717 = .ok (.aload_n 0, 1) := by decide +kernel
theorem dX11_init_718 : decode cX11_init 718 = .ok (.iconst (-1), 1) := by decide +kernel
theorem dX11_init_719 : decode cX11_init 719 = .ok (.putfield 16, 3) := by decide +kernel
theorem dX11_init_722 : decode cX11_init 722 = .ok (.aload_n 0, 1) := by decide +kernel
theorem dX11_init_723 : decode cX11_init 723 = .ok (.iconst 2, 1) := by decide +kernel
theorem dX11_init_724 : decode cX11_init 724 = .ok (.newarray .boolean, 2) := by decide +kernel
theorem dX11_init_726 : decode cX11_init 726 = .ok (.putfield 20, 3) := by decide +kernel
theorem dX11_init_729 : decode cX11_init 729 = .ok (.aload_n 0, 1) := by decide +kernel
theorem dX11_init_730 : decode cX11_init 730 = .ok (.iconst 4, 1) := by decide +kernel
theorem dX11_init_731 : decode cX11_init 731 = .ok (.newarray .int, 2) := by decide +kernel
theorem dX11_init_733 : decode cX11_init 733 = .ok (.putfield 24, 3) := by decide +kernel
theorem dX11_init_736 : decode cX11_init 736 = .ok (.aload_n 0, 1) := by decide +kernel
theorem dX11_init_737 : decode cX11_init 737 = .ok (.bipush 12, 2) := by decide +kernel
theorem dX11_init_739 : decode cX11_init 739 = .ok (.newarray .int, 2) := by decide +kernel
theorem dX11_init_741 : decode cX11_init 741 = .ok (.putfield 27, 3) := by decide +kernel
theorem dX11_init_744 : decode cX11_init 744 = .ok (.aload_n 0, 1) := by decide +kernel
theorem dX11_init_745 : decode cX11_init 745 = .ok (.bipush 12, 2) := by decide +kernel
theorem dX11_init_747 : decode cX11_init 747 = .ok (.newarray .int, 2) := by decide +kernel
theorem dX11_init_749 : decode cX11_init 749 = .ok (.putfield 30, 3) := by decide +kernel
theorem dX11_init_752 : decode cX11_init 752 = .ok (.aload_n 0, 1) := by decide +kernel
theorem dX11_init_753 : decode cX11_init 753 = .ok (.bipush 12, 2) := by decide +kernel
theorem dX11_init_755 : decode cX11_init 755 = .ok (.newarray .int, 2) := by decide +kernel
theorem dX11_init_757 : decode cX11_init 757 = .ok (.putfield 33, 3) := by decide +kernel
theorem dX11_init_760 : decode cX11_init 760 = .ok (.aload_n 0, 1) := by decide +kernel
theorem dX11_init_761 : decode cX11_init 761 = .ok (.bipush 12, 2) := by decide +kernel
theorem dX11_init_763 : decode cX11_init 763 = .ok (.newarray .int, 2) := by decide +kernel
theorem dX11_init_765 : decode cX11_init 765 = .ok (.putfield 36, 3) := by decide +kernel
theorem dX11_init_768 : decode cX11_init 768 = .ok (.aload_n 0, 1) := by decide +kernel
theorem dX11_init_769 : decode cX11_init 769 = .ok (.bipush 20, 2) := by decide +kernel
theorem dX11_init_771 : decode cX11_init 771 = .ok (.newarray .int, 2) := by decide +kernel
theorem dX11_init_773 : decode cX11_init 773 = .ok (.putfield 39, 3) := by decide +kernel
theorem dX11_init_776 : decode cX11_init 776 = .ok (.aload_n 0, 1) := by decide +kernel
theorem dX11_init_777 : decode cX11_init 777 = .ok (.bipush 20, 2) := by decide +kernel
theorem dX11_init_779 : decode cX11_init 779 = .ok (.newarray .int, 2) := by decide +kernel
theorem dX11_init_781 : decode cX11_init 781 = .ok (.putfield 42, 3) := by decide +kernel
theorem dX11_init_784 : decode cX11_init 784 = .ok (.aload_n 0, 1) := by decide +kernel
theorem dX11_init_785 : decode cX11_init 785 = .ok (.bipush 20, 2) := by decide +kernel
theorem dX11_init_787 : decode cX11_init 787 = .ok (.newarray .int, 2) := by decide +kernel
theorem dX11_init_789 : decode cX11_init 789 = .ok (.putfield 45, 3) := by decide +kernel
theorem dX11_init_792 : decode cX11_init 792 = .ok (.aload_n 0, 1) := by decide +kernel
theorem dX11_init_793 : decode cX11_init 793 = .ok (.bipush 20, 2) := by decide +kernel
theorem dX11_init_795 : decode cX11_init 795 = .ok (.newarray .int, 2) := by decide +kernel
theorem dX11_init_797 : decode cX11_init 797 = .ok (.putfield 48, 3) := by decide +kernel
theorem dX11_init_800 : decode cX11_init 800 = .ok (.aload_n 0, 1) := by decide +kernel
theorem dX11_init_801 : decode cX11_init 801 = .ok (.bipush 20, 2) := by decide +kernel
theorem dX11_init_803 : decode cX11_init 803 = .ok (.newarray .int, 2) := by decide +kernel
theorem dX11_init_805 : decode cX11_init 805 = .ok (.putfield 51, 3) := by decide +kernel
theorem dX11_init_808 : decode cX11_init 808 = .ok (.aload_n 0, 1) := by decide +kernel
theorem dX11_init_809 : decode cX11_init 809 = .ok (.bipush 20, 2) := by decide +kernel
theorem dX11_init_811 : decode cX11_init 811 = .ok (.newarray .int, 2) := by decide +kernel
theorem dX11_init_813 : decode cX11_init 813 = .ok (.putfield 54, 3) := by decide +kernel
theorem dX11_init_816 : decode cX11_init 816 = .ok (.aload_n 0, 1) := by decide +kernel
theorem dX11_init_817 : decode cX11_init 817 = .ok (.bipush 20, 2) := by decide +kernel
theorem dX11_init_819 : decode cX11_init 819 = .ok (.newarray .int, 2) := by decide +kernel
theorem dX11_init_821 : decode cX11_init 821 = .ok (.putfield 57, 3) := by decide +kernel
theorem dX11_init_824 : decode cX11_init 824 = .ok (.aload_n 0, 1) := by decide +kernel
theorem dX11_init_825 : decode cX11_init 825 = .ok (.bipush 16, 2) := by decide +kernel
theorem dX11_init_827 : decode cX11_init 827 = .ok (.newarray .int, 2) := by decide +kernel
theorem dX11_init_829 : decode cX11_init 829 = .ok (.putfield 60, 3) := by decide +kernel
theorem dX11_init_832 : decode cX11_init 832 = .ok (.aload_n 0, 1) := by decide +kernel
theorem dX11_init_833 : decode cX11_init 833 = .ok (.bipush 16, 2) := by decide +kernel
theorem dX11_init_835 : decode cX11_init 835 = .ok (.newarray .int, 2) := by decide +kernel
theorem dX11_init_837 : decode cX11_init 837 = .ok (.putfield 63, 3) := by decide +kernel
theorem dX11_init_840 : decode cX11_init 840 = .ok (.aload_n 0, 1) := by decide +kernel
theorem dX11_init_841 : decode cX11_init 841 = .ok (.bipush 16, 2) := by decide +kernel
theorem dX11_init_843 : decode cX11_init 843 = .ok (.newarray .int, 2) := by decide +kernel
theorem dX11_init_845 : decode cX11_init 845 = .ok (.putfield 66, 3) := by decide +kernel
theorem dX11_init_848 : decode cX11_init 848 = .ok (.aload_n 0, 1) := by decide +kernel
theorem dX11_init_849 : decode cX11_init 849 = .ok (.bipush 6, 2) := by decide +kernel
theorem dX11_init_851 : decode cX11_init 851 = .ok (.newarray .boolean, 2) := by decide +kernel
theorem dX11_init_853 : decode cX11_init 853 = .ok (.putfield 69, 3) := by decide +kernel
theorem dX11_init_856 : decode cX11_init 856 = .ok (.aload_n 0, 1) := by decide +kernel
theorem dX11_init_857 : decode cX11_init 857 = .ok (.bipush 6, 2) := by decide +kernel
theorem dX11_init_859 : decode cX11_init 859 = .ok (.newarray .int, 2) := by decide +kernel
theorem dX11_init_861 : decode cX11_init 861 = .ok (.putfield 72, 3) := by decide +kernel
theorem dX11_init_864 : decode cX11_init 864 = .ok (.aload_n 0, 1) := by decide +kernel
theorem dX11_init_865 : decode cX11_init 865 = .ok (.bipush 6, 2) := by decide +kernel
theorem dX11_init_867 : decode cX11_init 867 = .ok (.newarray .int, 2) := by decide +kernel
theorem dX11_init_869 : decode cX11_init 869 = .ok (.putfield 75, 3) := by decide +kernel
theorem dX11_init_872 : decode cX11_init 872 = .ok (.aload_n 0, 1) := by decide +kernel
theorem dX11_init_873 : decode cX11_init 873 = .ok (.sipush 128, 3) := by decide +kernel
theorem dX11_init_876 : decode cX11_init 876 = .ok (.newarray .int, 2) := by decide +kernel
theorem dX11_init_878 : decode cX11_init 878 = .ok (.putfield 78, 3) := by decide +kernel
theorem dX11_init_881 : decode cX11_init 881 = .ok (.aload_n 0, 1) := by decide +kernel
theorem dX11_init_882 : decode cX11_init 882 = .ok (.sipush 128, 3) := by decide +kernel
theorem dX11_init_885 : decode cX11_init 885 = .ok (.newarray .int, 2) := by decide +kernel
theorem dX11_init_887 : decode cX11_init 887 = .ok (.putfield 81, 3) := by decide +kernel
theorem dX11_init_890 : decode cX11_init 890 = .ok (.aload_n 0, 1) := by decide +kernel
theorem dX11_init_891 : decode cX11_init 891 = .ok (.sipush 128, 3) := by decide +kernel
theorem dX11_init_894 : decode cX11_init 894 = .ok (.newarray .int, 2) := by decide +kernel
theorem dX11_init_896 : decode cX11_init 896 = .ok (.putfield 84, 3) := by decide +kernel
theorem dX11_init_899 : decode cX11_init 899 = .ok (.aload_n 0, 1) := by decide +kernel
theorem dX11_init_900 : decode cX11_init 900 = .ok (.bipush 96, 2) := by decide +kernel
theorem dX11_init_902 : decode cX11_init 902 = .ok (.newarray .int, 2) := by decide +kernel
theorem dX11_init_904 : decode cX11_init 904 = .ok (.putfield 87, 3) := by decide +kernel
theorem dX11_init_907 : decode cX11_init 907 = .ok (.aload_n 0, 1) := by decide +kernel
theorem dX11_init_908 : decode cX11_init 908 = .ok (.bipush 96, 2) := by decide +kernel
theorem dX11_init_910 : decode cX11_init 910 = .ok (.newarray .int, 2) := by decide +kernel
theorem dX11_init_912 : decode cX11_init 912 = .ok (.putfield 90, 3) := by decide +kernel
theorem dX11_init_915 : decode cX11_init 915 = .ok (.aload_n 0, 1) := by decide +kernel
theorem dX11_init_916 : decode cX11_init 916 = .ok (.bipush 7, 2) := by decide +kernel
theorem dX11_init_918 : decode cX11_init 918 = .ok (.newarray .long, 2) := by decide +kernel
theorem dX11_init_920 : decode cX11_init 920 = .ok (.putfield 93, 3) := by decide +kernel
theorem dX11_init_923 : decode cX11_init 923 = .ok (.aload_n 0, 1) := by decide +kernel
theorem dX11_init_924 : decode cX11_init 924 = .ok (.bipush 64, 2) := by decide +kernel
theorem dX11_init_926 : decode cX11_init 926 = .ok (.newarray .long, 2) := by decide +kernel
theorem dX11_init_928 : decode cX11_init 928 = .ok (.putfield 97, 3) := by decide +kernel
theorem dX11_init_931 : decode cX11_init 931 = .ok (.aload_n 0, 1) := by decide +kernel
theorem dX11_init_932 : decode cX11_init 932 = .ok (.bipush 12, 2) := by decide +kernel
theorem dX11_init_934 : decode cX11_init 934 = .ok (.newarray .int, 2) := by decide +kernel
theorem dX11_init_936 : decode cX11_init 936 = .ok (.putfield 100, 3) := by decide +kernel
theorem dX11_init_939 : decode cX11_init 939 = .ok (.aload_n 0, 1) := by decide +kernel
theorem dX11_init_940 : decode cX11_init 940 = .ok (.bipush 12, 2) := by decide +kernel
theorem dX11_init_942 : decode cX11_init 942 = .ok (.newarray .int, 2) := by decide +kernel
theorem dX11_init_944 : decode cX11_init 944 = .ok (.putfield 103, 3) := by decide +kernel
theorem dX11_init_947 : decode cX11_init 947 = .ok (.aload_n 0, 1) := by decide +kernel
theorem dX11_init_948 : decode cX11_init 948 = .ok (.iconst 2, 1) := by decide +kernel
theorem dX11_init_949 : decode cX11_init 949 = .ok (.newarray .int, 2) := by decide +kernel
theorem dX11_init_951 : decode cX11_init 951 = .ok (.putfield 106, 3) := by decide +kernel
theorem dX11_init_954 : decode cX11_init 954 = .ok (.aload_n 0, 1) := by decide +kernel
theorem dX11_init_955 : decode cX11_init 955 = .ok (.bipush 12, 2) := by decide +kernel
theorem dX11_init_957 : decode cX11_init 957 = .ok (.newarray .int, 2) := by decide +kernel
theorem dX11_init_959 : decode cX11_init 959 = .ok (.putfield 109, 3) := by decide +kernel
theorem dX11_init_962 : decode cX11_init 962 = .ok (.aload_n 0, 1) := by decide +kernel
theorem dX11_init_963 : decode cX11_init 963 = .ok (.bipush 12, 2) := by decide +kernel
theorem dX11_init_965 : decode cX11_init 965 = .ok (.newarray .int, 2) := by decide +kernel
theorem dX11_init_967 : decode cX11_init 967 = .ok (.putfield 112, 3) := by decide +kernel
theorem dX11_init_970 : decode cX11_init 970 = .ok (.aload_n 0, 1) := by decide +kernel
theorem dX11_init_971 : decode cX11_init 971 = .ok (.bipush 12, 2) := by decide +kernel
theorem dX11_init_973 : decode cX11_init 973 = .ok (.newarray .int, 2) := by decide +kernel
theorem dX11_init_975 : decode cX11_init 975 = .ok (.putfield 115, 3) := by decide +kernel
theorem dX11_init_978 : decode cX11_init 978 = .ok (.aload_n 0, 1) := by decide +kernel
theorem dX11_init_979 : decode cX11_init 979 = .ok (.bipush 12, 2) := by decide +kernel
theorem dX11_init_981 : decode cX11_init 981 = .ok (.newarray .int, 2) := by decide +kernel
theorem dX11_init_983 : decode cX11_init 983 = .ok (.putfield 118, 3) := by decide +kernel
theorem dX11_init_986 : decode cX11_init 986 = .ok (.aload_n 0, 1) := by decide +kernel
theorem dX11_init_987 : decode cX11_init 987 = .ok (.bipush 24, 2) := by decide +kernel
theorem dX11_init_989 : decode cX11_init 989 = .ok (.newarray .int, 2) := by decide +kernel
theorem dX11_init_991 : decode cX11_init 991 = .ok (.putfield 121, 3) := by decide +kernel
theorem dX11_init_994 : decode cX11_init 994 = .ok (.aload_n 0, 1) := by decide +kernel
theorem dX11_init_995 : decode cX11_init 995 = .ok (.bipush 24, 2) := by decide +kernel
theorem dX11_init_997 : decode cX11_init 997 = .ok (.newarray .int, 2) := by decide +kernel
theorem dX11_init_999 : decode cX11_init 999 = .ok (.putfield 124, 3) := by decide +kernel
theorem dX11_init_1002 : decode cX11_init 1002 = .ok (.aload_n 0, 1) := by decide +kernel
theorem dX11_init_1003 : decode cX11_init 1003 = .ok (.bipush 24, 2) := by decide +kernel
theorem dX11_init_1005 : decode cX11_init 1005 = .ok (.newarray .int, 2) := by decide +kernel
theorem dX11_init_1007 : decode cX11_init 1007 = .ok (.putfield 127, 3) := by decide +kernel
theorem dX11_init_1010 : decode cX11_init 1010 = .ok (.aload_n 0, 1) := by decide +kernel
theorem dX11_init_1011 : decode cX11_init 1011 = .ok (.bipush 24, 2) := by decide +kernel
theorem dX11_init_1013 : decode cX11_init 1013 = .ok (.newarray .int, 2) := by decide +kernel
theorem dX11_init_1015 : decode cX11_init 1015 = .ok (.putfield 130, 3) := by decide +kernel
theorem dX11_init_1018 : decode cX11_init 1018 = .ok (.aload_n 0, 1) := by decide +kernel
theorem dX11_init_1019 : decode cX11_init 1019 = .ok (.bipush 24, 2) := by decide +kernel
theorem dX11_init_1021 : decode cX11_init 1021 = .ok (.newarray .int, 2) := by decide +kernel
theorem dX11_init_1023 : decode cX11_init 1023 = .ok (.putfield 133, 3) := by decide +kernel
theorem dX11_init_1026 : decode cX11_init 1026 = .ok (.aload_n 0, 1) := by decide +kernel
theorem dX11_init_1027 : decode cX11_init 1027 = .ok (.bipush 16, 2) := by decide +kernel
theorem dX11_init_1029 : decode cX11_init 1029 = .ok (.newarray .int, 2) := by decide +kernel
theorem dX11_init_1031 : decode cX11_init 1031 = .ok (.putfield 136, 3) := by decide +kernel
theorem dX11_init_1034 : decode cX11_init 1034 = .ok (.aload_n 0, 1) := by decide +kernel
theorem dX11_init_1035 : decode cX11_init 1035 = .ok (.iconst 2, 1) := by decide +kernel
theorem dX11_init_1036 : decode cX11_init 1036 = .ok (.newarray .int, 2) := by decide +kernel
theorem dX11_init_1038 : decode cX11_init 1038 = .ok (.putfield 139, 3) := by decide +kernel
theorem dX11_init_1041 : decode cX11_init 1041 = .ok (.aload_n 0, 1) := by decide +kernel
theorem dX11_init_1042 : decode cX11_init 1042 = .ok (.iconst 2, 1) := by decide +kernel
theorem dX11_init_1043 : decode cX11_init 1043 = .ok (.newarray .int, 2) := by decide +kernel
theorem dX11_init_1045 : decode cX11_init 1045 = .ok (.putfield 142, 3) := by decide +kernel
theorem dX11_init_1048 : decode cX11_init 1048 = .ok (.aload_n 0, 1) := by decide +kernel
theorem dX11_init_1049 : decode cX11_init 1049 = .ok (.sipush 4096, 3) := by decide +kernel
theorem dX11_init_1052 : decode cX11_init 1052 = .ok (.newarray .boolean, 2) := by decide +kernel
theorem dX11_init_1054 : decode cX11_init 1054 = .ok (.putfield 145, 3) := by decide +kernel
theorem dX11_init_1057 : decode cX11_init 1057 = .ok (.aload_n 0, 1) := by decide +kernel
theorem dX11_init_1058 : decode cX11_init 1058 = .ok (.bipush 12, 2) := by decide +kernel
theorem dX11_init_1060 : decode cX11_init 1060 = .ok (.newarray .int, 2) := by decide +kernel
theorem dX11_init_1062 : decode cX11_init 1062 = .ok (.putfield 148, 3) := by decide +kernel
theorem dX11_init_1065 : decode cX11_init 1065 = .ok (.aload_n 0, 1) := by decide +kernel
theorem dX11_init_1066 : decode cX11_init 1066 = .ok (.sipush 24576, 3) := by decide +kernel
theorem dX11_init_1069 : decode cX11_init 1069 = .ok (.newarray .int, 2) := by decide +kernel
theorem dX11_init_1071 : decode cX11_init 1071 = .ok (.putfield 151, 3) := by decide +kernel
theorem dX11_init_1074 : decode cX11_init 1074 = .ok (.aload_n 0, 1) := by decide +kernel
theorem dX11_init_1075 : decode cX11_init 1075 = .ok (.bipush 12, 2) := by decide +kernel
theorem dX11_init_1077 : decode cX11_init 1077 = .ok (.newarray .int, 2) := by decide +kernel
theorem dX11_init_1079 : decode cX11_init 1079 = .ok (.putfield 154, 3) := by decide +kernel
theorem dX11_init_1082 : decode cX11_init 1082 = .ok (.aload_n 0, 1) := by decide +kernel
theorem dX11_init_1083 : decode cX11_init 1083 = .ok (.iconst (-1), 1) := by decide +kernel
theorem dX11_init_1084 : decode cX11_init 1084 = .ok (.putfield 157, 3) := by decide +kernel
theorem dX11_init_1087 : decode cX11_init 1087 = .ok (.aload_n 0, 1) := by decide +kernel
theorem dX11_init_1088 : decode cX11_init 1088 = .ok (.bipush 96, 2) := by decide +kernel
theorem dX11_init_1090 : decode cX11_init 1090 = .ok (.newarray .int, 2) := by decide +kernel
theorem dX11_init_1092 : decode cX11_init 1092 = .ok (.putfield 160, 3) := by decide +kernel
theorem dX11_init_1095 : decode cX11_init 1095 = .ok (.aload_n 0, 1) := by decide +kernel
theorem dX11_init_1096 : decode cX11_init 1096 = .ok (.bipush 24, 2) := by decide +kernel
theorem dX11_init_1098 : decode cX11_init 1098 = .ok (.newarray .boolean, 2) := by decide +kernel
theorem dX11_init_1100 : decode cX11_init 1100 = .ok (.putfield 163, 3) := by decide +kernel
theorem dX11_init_1103 : decode cX11_init 1103 = .ok (.aload_n 0, 1) := by decide +kernel
theorem dX11_init_1104 : decode cX11_init 1104 = .ok (.bipush 11, 2) := by decide +kernel
theorem dX11_init_1106 : decode cX11_init 1106 = .ok (.newarray .int, 2) := by decide +kernel
theorem dX11_init_1108 : decode cX11_init 1108 = .ok (.putfield 166, 3) := by decide +kernel
theorem dX11_init_1111 : decode cX11_init 1111 = .ok (.aload_n 0, 1) := by decide +kernel
theorem dX11_init_1112 : decode cX11_init 1112 = .ok (.iconst 4, 1) := by decide +kernel
theorem dX11_init_1113 : decode cX11_init 1113 = .ok (.newarray .int, 2) := by decide +kernel
theorem dX11_init_1115 : decode cX11_init 1115 = .ok (.putfield 169, 3) := by decide +kernel
theorem dX11_init_1118 : decode cX11_init 1118 = .ok (.aload_n 0, 1) := by decide +kernel
theorem dX11_init_1119 : decode cX11_init 1119 = .ok (.iconst 4, 1) := by decide +kernel
theorem dX11_init_1120 : decode cX11_init 1120 = .ok (.newarray .int, 2) := by decide +kernel
theorem dX11_init_1122 : decode cX11_init 1122 = .ok (.putfield 172, 3) := by decide +kernel
theorem dX11_init_1125 : decode cX11_init 1125 = .ok (.aload_n 0, 1) := by decide +kernel
theorem dX11_init_1126 : decode cX11_init 1126 = .ok (.sipush 740, 3) := by decide +kernel
theorem dX11_init_1129 : decode cX11_init 1129 = .ok (.newarray .int, 2) := by decide +kernel
theorem dX11_init_1131 : decode cX11_init 1131 = .ok (.putfield 175, 3) := by decide +kernel
theorem dX11_init_1134 : decode cX11_init 1134 = .ok (.aload_n 0, 1) := by decide +kernel
theorem dX11_init_1135 : decode cX11_init 1135 = .ok (.bipush 37, 2) := by decide +kernel
theorem dX11_init_1137 : decode cX11_init 1137 = .ok (.newarray .int, 2) := by decide +kernel
theorem dX11_init_1139 : decode cX11_init 1139 = .ok (.putfield 178, 3) := by decide +kernel
theorem dX11_init_1142 : decode cX11_init 1142 = .ok (.aload_n 0, 1) := by decide +kernel
theorem dX11_init_1143 : decode cX11_init 1143 = .ok (.bipush 72, 2) := by decide +kernel
theorem dX11_init_1145 : decode cX11_init 1145 = .ok (.newarray .int, 2) := by decide +kernel
theorem dX11_init_1147 : decode cX11_init 1147 = .ok (.putfield 181, 3) := by decide +kernel
theorem dX11_init_1150 : decode cX11_init 1150 = .ok (.aload_n 0, 1) := by decide +kernel
theorem dX11_init_1151 : decode cX11_init 1151 = .ok (.bipush 8, 2) := by decide +kernel
theorem dX11_init_1153 : decode cX11_init 1153 = .ok (.newarray .int, 2) := by decide +kernel
theorem dX11_init_1155 : decode cX11_init 1155 = .ok (.putfield 184, 3) := by decide +kernel
theorem dX11_init_1158 : decode cX11_init 1158 = .ok (.aload_n 0, 1) := by decide +kernel
theorem dX11_init_1159 : decode cX11_init 1159 = .ok (.invokevirtual 187, 3) := by decide +kernel
theorem dX11_init_1162 : decode cX11_init 1162 = .ok (.aload_n 0, 1) := by decide +kernel
theorem dX11_init_1163 : decode cX11_init 1163 = .ok (.invokevirtual 190, 3) := by decide +kernel
theorem dX11_init_1166 : decode cX11_init 1166 = .ok (.return_, 1) := by decide +kernel
theorem dX11_thrown_0 : decode cX11_thrown 0 = .ok (.aload_n 0, 1) := by decide +kernel
theorem dX11_thrown_1 : decode cX11_thrown 1 = .ok (.getfield 193, 3) := by decide +kernel
theorem dX11_thrown_4 : decode cX11_thrown 4 = .ok (.ireturn, 1) := by decide +kernel
theorem dX11_feed_0 : decode cX11_feed 0 = .ok (.aload_n 0, 1) := by decide +kernel
theorem dX11_feed_1 : decode cX11_feed 1 = .ok (.iconst 0, 1) := by decide +kernel
theorem dX11_feed_2 : decode cX11_feed 2 = .ok (.putfield 193, 3) := by decide +kernel
theorem dX11_feed_5 : decode cX11_feed 5 = .ok (.aload_n 0, 1) := by decide +kernel
theorem dX11_feed_6 : decode cX11_feed 6 = .ok (.getfield 196, 3) := by decide +kernel
theorem dX11_feed_9 : decode cX11_feed 9 = .ok (.bipush 20, 2) := by decide +kernel
theorem dX11_feed_11 : decode cX11_feed 11 = .ok (.iadd, 1) := by decide +kernel
theorem dX11_feed_12 : decode cX11_feed 12 = .ok (.sipush 700, 3) := by decide +kernel
theorem dX11_feed_15 : decode cX11_feed 15 = .ok (.if_icmp .le 5, 3) := by decide +kernel
theorem dX11_feed_18 : decode cX11_feed 18 = .ok (.iconst (-1), 1) := by decide +kernel
theorem dX11_feed_19 : decode cX11_feed 19 = .ok (.ireturn, 1) := by decide +kernel
theorem dX11_feed_20 : decode cX11_feed 20 = .ok (.iconst 0, 1) := by decide +kernel
theorem dX11_feed_21 : decode cX11_feed 21 = .ok (.istore 6, 2) := by decide +kernel
theorem dX11_feed_23 : decode cX11_feed 23 = .ok (.iload 6, 2) := by decide +kernel
theorem dX11_feed_25 : decode cX11_feed 25 = .ok (.bipush 20, 2) := by decide +kernel
theorem dX11_feed_27 : decode cX11_feed 27 = .ok (.if_icmp .ge 86, 3) := by decide +kernel
theorem dX11_feed_30 : decode cX11_feed 30 = .ok (.iload 6, 2) := by decide +kernel
theorem dX11_feed_32 : decode cX11_feed 32 = .ok (.iconst 4, 1) := by decide +kernel
theorem dX11_feed_33 : decode cX11_feed 33 = .ok (.if_icmp .ge 7, 3) := by decide +kernel
theorem dX11_feed_36 : decode cX11_feed 36 = .ok (.iload_n 1, 1) := by decide +kernel
theorem dX11_feed_37 : decode cX11_feed 37 = .ok (.goto 39, 3) := by decide +kernel
theorem dX11_feed_40 : decode cX11_feed 40 = .ok (.iload 6, 2) := by decide +kernel
theorem dX11_feed_42 : decode cX11_feed 42 = .ok (.bipush 8, 2) := by decide +kernel
theorem dX11_feed_44 : decode cX11_feed 44 = .ok (.if_icmp .ge 7, 3) := by decide +kernel
theorem dX11_feed_47 : decode cX11_feed 47 = .ok (.iload_n 2, 1) := by decide +kernel
theorem dX11_feed_48 : decode cX11_feed 48 = .ok (.goto 28, 3) := by decide +kernel
theorem dX11_feed_51 : decode cX11_feed 51 = .ok (.iload 6, 2) := by decide +kernel
theorem dX11_feed_53 : decode cX11_feed 53 = .ok (.bipush 12, 2) := by decide +kernel
theorem dX11_feed_55 : decode cX11_feed 55 = .ok (.if_icmp .ge 7, 3) := by decide +kernel
theorem dX11_feed_58 : decode cX11_feed 58 = .ok (.iload_n 3, 1) := by decide +kernel
theorem dX11_feed_59 : decode cX11_feed 59 = .ok (.goto 17, 3) := by decide +kernel
theorem dX11_feed_62 : decode cX11_feed 62 = .ok (.iload 6, 2) := by decide +kernel
theorem dX11_feed_64 : decode cX11_feed 64 = .ok (.bipush 16, 2) := by decide +kernel
theorem dX11_feed_66 : decode cX11_feed 66 = .ok (.if_icmp .ge 8, 3) := by decide +kernel
theorem dX11_feed_69 : decode cX11_feed 69 = .ok (.iload 4, 2) := by decide +kernel
theorem dX11_feed_71 : decode cX11_feed 71 = .ok (.goto 5, 3) := by decide +kernel
theorem dX11_feed_74 : decode cX11_feed 74 = .ok (.iload 5, 2) := by decide +kernel
theorem dX11_feed_76 : decode cX11_feed 76 = .ok (.istore 7, 2) := by decide +kernel
theorem dX11_feed_78 : decode cX11_feed 78 = .ok (.aload_n 0, 1) := by decide +kernel
theorem dX11_feed_79 : decode cX11_feed 79 = .ok (.getfield 7, 3) := by decide +kernel
theorem dX11_feed_82 : decode cX11_feed 82 = .ok (.aload_n 0, 1) := by decide +kernel
theorem dX11_feed_83 : decode cX11_feed 83 = .ok (.getfield 196, 3) := by decide +kernel
theorem dX11_feed_86 : decode cX11_feed 86 = .ok (.iload 6, 2) := by decide +kernel
theorem dX11_feed_88 : decode cX11_feed 88 = .ok (.iadd, 1) := by decide +kernel
theorem dX11_feed_89 : decode cX11_feed 89 = .ok (.iload 7, 2) := by decide +kernel
theorem dX11_feed_91 : decode cX11_feed 91 = .ok (.bipush 24, 2) := by decide +kernel
theorem dX11_feed_93 : decode cX11_feed 93 = .ok (.bipush 8, 2) := by decide +kernel
theorem dX11_feed_95 : decode cX11_feed 95 = .ok (.iload 6, 2) := by decide +kernel
theorem dX11_feed_97 : decode cX11_feed 97 = .ok (.iconst 4, 1) := by decide +kernel
theorem dX11_feed_98 : decode cX11_feed 98 = .ok (.irem, 1) := by decide +kernel
theorem dX11_feed_99 : decode cX11_feed 99 = .ok (.imul, 1) := by decide +kernel
theorem dX11_feed_100 : decode cX11_feed 100 = .ok (.isub, 1) := by decide +kernel
theorem dX11_feed_101 : decode cX11_feed 101 = .ok (.ishr, 1) := by decide +kernel
theorem dX11_feed_102 : decode cX11_feed 102 = .ok (.sipush 255, 3) := by decide +kernel
theorem dX11_feed_105 : decode cX11_feed 105 = .ok (.iand, 1) := by decide +kernel
theorem dX11_feed_106 : decode cX11_feed 106 = .ok (.iastore, 1) := by decide +kernel
theorem dX11_feed_107 : decode cX11_feed 107 = .ok (.iinc 6 1, 3) := by decide +kernel
theorem dX11_feed_110 : decode cX11_feed 110 = .ok (.goto (-87), 3) := by decide +kernel
theorem dX11_feed_113 : decode cX11_feed 113 = .ok (.aload_n 0, 1) := by decide +kernel
theorem dX11_feed_114 : decode cX11_feed 114 = .ok (.dup, 1) := by decide +kernel
theorem dX11_feed_115 : decode cX11_feed 115 = .ok (.getfield 196, 3) := by decide +kernel
theorem dX11_feed_118 : decode cX11_feed 118 = .ok (.bipush 20, 2) := by decide +kernel
theorem dX11_feed_120 : decode cX11_feed 120 = .ok (.iadd, 1) := by decide +kernel
theorem dX11_feed_121 : decode cX11_feed 121 = .ok (.putfield 196, 3) := by decide +kernel
theorem dX11_feed_124 : decode cX11_feed 124 = .ok (.aload_n 0, 1) := by decide +kernel
theorem dX11_feed_125 : decode cX11_feed 125 = .ok (.getfield 196, 3) := by decide +kernel
theorem dX11_feed_128 : decode cX11_feed 128 = .ok (.ireturn, 1) := by decide +kernel
theorem dX11_isIn_0 : decode cX11_isIn 0 = .ok (.iload_n 0, 1) := by decide +kernel
theorem dX11_isIn_1 : decode cX11_isIn 1 = .ok (.iload_n 1, 1) := by decide +kernel
theorem dX11_isIn_2 : decode cX11_isIn 2 = .ok (.if_icmp .lt 12, 3) := by decide +kernel
theorem dX11_isIn_5 : decode cX11_isIn 5 = .ok (.iload_n 0, 1) := by decide +kernel
theorem dX11_isIn_6 : decode cX11_isIn 6 = .ok (.iload_n 2, 1) := by decide +kernel
theorem dX11_isIn_7 : decode cX11_isIn 7 = .ok (.if_icmp .gt 7, 3) := by decide +kernel
theorem dX11_isIn_10 : decode cX11_isIn 10 = .ok (.iconst 1, 1) := by decide +kernel
theorem dX11_isIn_11 : decode cX11_isIn 11 = .ok (.goto 4, 3) := by decide +kernel
theorem dX11_isIn_14 : decode cX11_isIn 14 = .ok (.iconst 0, 1) := by decide +kernel
theorem dX11_isIn_15 : decode cX11_isIn 15 = .ok (.ireturn, 1) := by decide +kernel
theorem dX11_isOf_0 : decode cX11_isOf 0 = .ok (.iload_n 0, 1) := by decide +kernel
theorem dX11_isOf_1 : decode cX11_isOf 1 = .ok (.iload_n 1, 1) := by decide +kernel
theorem dX11_isOf_2 : decode cX11_isOf 2 = .ok (.ishr, 1) := by decide +kernel
theorem dX11_isOf_3 : decode cX11_isOf 3 = .ok (.iconst 1, 1) := by decide +kernel
theorem dX11_isOf_4 : decode cX11_isOf 4 = .ok (.iand, 1) := by decide +kernel
theorem dX11_isOf_5 : decode cX11_isOf 5 = .ok (.iconst 1, 1) := by decide +kernel
theorem dX11_isOf_6 : decode cX11_isOf 6 = .ok (.if_icmp .ne 7, 3) := by decide +kernel
theorem dX11_isOf_9 : decode cX11_isOf 9 = .ok (.iconst 1, 1) := by decide +kernel
theorem dX11_isOf_10 : decode cX11_isOf 10 = .ok (.goto 4, 3) := by decide +kernel
theorem dX11_isOf_13 : decode cX11_isOf 13 = .ok (.iconst 0, 1) := by decide +kernel
theorem dX11_isOf_14 : decode cX11_isOf 14 = .ok (.ireturn, 1) := by decide +kernel
theorem dX11_wrong_0 : decode cX11_wrong 0 = .ok (.aload_n 0, 1) := by decide +kernel
theorem dX11_wrong_1 : decode cX11_wrong 1 = .ok (.iload_n 1, 1) := by decide +kernel
theorem dX11_wrong_2 : decode cX11_wrong 2 = .ok (.putfield 199, 3) := by decide +kernel
theorem dX11_wrong_5 : decode cX11_wrong 5 = .ok (.aload_n 0, 1) := by decide +kernel
theorem dX11_wrong_6 : decode cX11_wrong 6 = .ok (.aload_n 0, 1) := by decide +kernel
theorem dX11_wrong_7 : decode cX11_wrong 7 = .ok (.getfield 202, 3) := by decide +kernel
theorem dX11_wrong_10 : decode cX11_wrong 10 = .ok (.putfield 16, 3) := by decide +kernel
theorem dX11_wrong_13 : decode cX11_wrong 13 = .ok (.iconst 0, 1) := by decide +kernel
theorem dX11_wrong_14 : decode cX11_wrong 14 = .ok (.ireturn, 1) := by decide +kernel
theorem dX11_wordAt_0 : decode cX11_wordAt 0 = .ok (.iconst 0, 1) := by decide +kernel
theorem dX11_wordAt_1 : decode cX11_wordAt 1 = .ok (.istore_n 3, 1) := by decide +kernel
theorem dX11_wordAt_2 : decode cX11_wordAt 2 = .ok (.iconst 0, 1) := by decide +kernel
theorem dX11_wordAt_3 : decode cX11_wordAt 3 = .ok (.istore 4, 2) := by decide +kernel
theorem dX11_wordAt_5 : decode cX11_wordAt 5 = .ok (.iload 4, 2) := by decide +kernel
theorem dX11_wordAt_7 : decode cX11_wordAt 7 = .ok (.aload_n 0, 1) := by decide +kernel
theorem dX11_wordAt_8 : decode cX11_wordAt 8 = .ok (.getfield 13, 3) := by decide +kernel
theorem dX11_wordAt_11 : decode cX11_wordAt 11 = .ok (.arraylength, 1) := by decide +kernel
theorem dX11_wordAt_12 : decode cX11_wordAt 12 = .ok (.if_icmp .ge 114, 3) := by decide +kernel
theorem dX11_wordAt_15 : decode cX11_wordAt 15 = .ok (.iconst 0, 1) := by decide +kernel
theorem dX11_wordAt_16 : decode cX11_wordAt 16 = .ok (.istore 5, 2) := by decide +kernel
theorem dX11_wordAt_18 : decode cX11_wordAt 18 = .ok (.aload_n 0, 1) := by decide +kernel
theorem dX11_wordAt_19 : decode cX11_wordAt 19 = .ok (.getfield 13, 3) := by decide +kernel
theorem dX11_wordAt_22 : decode cX11_wordAt 22 = .ok (.iload 4, 2) := by decide +kernel
theorem dX11_wordAt_24 : decode cX11_wordAt 24 = .ok (.iload 5, 2) := by decide +kernel
theorem dX11_wordAt_26 : decode cX11_wordAt 26 = .ok (.iadd, 1) := by decide +kernel
theorem dX11_wordAt_27 : decode cX11_wordAt 27 = .ok (.iaload, 1) := by decide +kernel
theorem dX11_wordAt_28 : decode cX11_wordAt 28 = .ok (.bipush 32, 2) := by decide +kernel
theorem dX11_wordAt_30 : decode cX11_wordAt 30 = .ok (.if_icmp .eq 9, 3) := by decide +kernel
theorem dX11_wordAt_33 : decode cX11_wordAt 33 = .ok (.iinc 5 1, 3) := by decide +kernel
theorem dX11_wordAt_36 : decode cX11_wordAt 36 = .ok (.goto (-18), 3) := by decide +kernel
theorem dX11_wordAt_39 : decode cX11_wordAt 39 = .ok (.iload 5, 2) := by decide +kernel
theorem dX11_wordAt_41 : decode cX11_wordAt 41 = .ok (.iload_n 2, 1) := by decide +kernel
theorem dX11_wordAt_42 : decode cX11_wordAt 42 = .ok (.iload_n 1, 1) := by decide +kernel
theorem dX11_wordAt_43 : decode cX11_wordAt 43 = .ok (.isub, 1) := by decide +kernel
theorem dX11_wordAt_44 : decode cX11_wordAt 44 = .ok (.if_icmp .ne 7, 3) := by decide +kernel
theorem dX11_wordAt_47 : decode cX11_wordAt 47 = .ok (.iconst 1, 1) := by decide +kernel
theorem dX11_wordAt_48 : decode cX11_wordAt 48 = .ok (.goto 4, 3) := by decide +kernel
theorem dX11_wordAt_51 : decode cX11_wordAt 51 = .ok (.iconst 0, 1) := by decide +kernel
theorem dX11_wordAt_52 : decode cX11_wordAt 52 = .ok (.istore 6, 2) := by decide +kernel
theorem dX11_wordAt_54 : decode cX11_wordAt 54 = .ok (.iconst 0, 1) := by decide +kernel
theorem dX11_wordAt_55 : decode cX11_wordAt 55 = .ok (.istore 7, 2) := by decide +kernel
theorem dX11_wordAt_57 : decode cX11_wordAt 57 = .ok (.iload 7, 2) := by decide +kernel
theorem dX11_wordAt_59 : decode cX11_wordAt 59 = .ok (.iload 5, 2) := by decide +kernel
theorem dX11_wordAt_61 : decode cX11_wordAt 61 = .ok (.if_icmp .ge 43, 3) := by decide +kernel
theorem dX11_wordAt_64 : decode cX11_wordAt 64 = .ok (.iload 6, 2) := by decide +kernel
theorem dX11_wordAt_66 : decode cX11_wordAt 66 = .ok (.ifCond .eq 38, 3) := by decide +kernel
theorem dX11_wordAt_69 : decode cX11_wordAt 69 = .ok (.aload_n 0, 1) := by decide +kernel
theorem dX11_wordAt_70 : decode cX11_wordAt 70 = .ok (.getfield 13, 3) := by decide +kernel
theorem dX11_wordAt_73 : decode cX11_wordAt 73 = .ok (.iload 4, 2) := by decide +kernel
theorem dX11_wordAt_75 : decode cX11_wordAt 75 = .ok (.iload 7, 2) := by decide +kernel
theorem dX11_wordAt_77 : decode cX11_wordAt 77 = .ok (.iadd, 1) := by decide +kernel
theorem dX11_wordAt_78 : decode cX11_wordAt 78 = .ok (.iaload, 1) := by decide +kernel
theorem dX11_wordAt_79 : decode cX11_wordAt 79 = .ok (.aload_n 0, 1) := by decide +kernel
theorem dX11_wordAt_80 : decode cX11_wordAt 80 = .ok (.getfield 7, 3) := by decide +kernel
theorem dX11_wordAt_83 : decode cX11_wordAt 83 = .ok (.iload_n 1, 1) := by decide +kernel
theorem dX11_wordAt_84 : decode cX11_wordAt 84 = .ok (.iload 7, 2) := by decide +kernel
theorem dX11_wordAt_86 : decode cX11_wordAt 86 = .ok (.iadd, 1) := by decide +kernel
theorem dX11_wordAt_87 : decode cX11_wordAt 87 = .ok (.iaload, 1) := by decide +kernel
theorem dX11_wordAt_88 : decode cX11_wordAt 88 = .ok (.if_icmp .ne 7, 3) := by decide +kernel
theorem dX11_wordAt_91 : decode cX11_wordAt 91 = .ok (.iconst 1, 1) := by decide +kernel
theorem dX11_wordAt_92 : decode cX11_wordAt 92 = .ok (.goto 4, 3) := by decide +kernel
theorem dX11_wordAt_95 : decode cX11_wordAt 95 = .ok (.iconst 0, 1) := by decide +kernel
theorem dX11_wordAt_96 : decode cX11_wordAt 96 = .ok (.istore 6, 2) := by decide +kernel
theorem dX11_wordAt_98 : decode cX11_wordAt 98 = .ok (.iinc 7 1, 3) := by decide +kernel
theorem dX11_wordAt_101 : decode cX11_wordAt 101 = .ok (.goto (-44), 3) := by decide +kernel
theorem dX11_wordAt_104 : decode cX11_wordAt 104 = .ok (.iload 6, 2) := by decide +kernel
theorem dX11_wordAt_106 : decode cX11_wordAt 106 = .ok (.ifCond .eq 5, 3) := by decide +kernel
theorem dX11_wordAt_109 : decode cX11_wordAt 109 = .ok (.iload_n 3, 1) := by decide +kernel
theorem dX11_wordAt_110 : decode cX11_wordAt 110 = .ok (.ireturn, 1) := by decide +kernel
theorem dX11_wordAt_111 : decode cX11_wordAt 111 = .ok (.iload 4, 2) := by decide +kernel
theorem dX11_wordAt_113 : decode cX11_wordAt 113 = .ok (.iload 5, 2) := by decide +kernel
theorem dX11_wordAt_115 : decode cX11_wordAt 115 = .ok (.iconst 1, 1) := by decide +kernel
theorem dX11_wordAt_116 : decode cX11_wordAt 116 = .ok (.iadd, 1) := by decide +kernel
theorem dX11_wordAt_117 : decode cX11_wordAt 117 = .ok (.iadd, 1) := by decide +kernel
theorem dX11_wordAt_118 : decode cX11_wordAt 118 = .ok (.istore 4, 2) := by decide +kernel
theorem dX11_wordAt_120 : decode cX11_wordAt 120 = .ok (.iinc 3 1, 3) := by decide +kernel
theorem dX11_wordAt_123 : decode cX11_wordAt 123 = .ok (.goto (-118), 3) := by decide +kernel
theorem dX11_wordAt_126 : decode cX11_wordAt 126 = .ok (.iconst (-1), 1) := by decide +kernel
theorem dX11_wordAt_127 : decode cX11_wordAt 127 = .ok (.ireturn, 1) := by decide +kernel
theorem dX11_isSmall_0 : decode cX11_isSmall 0 = .ok (.iload_n 1, 1) := by decide +kernel
theorem dX11_isSmall_1 : decode cX11_isSmall 1 = .ok (.aload_n 0, 1) := by decide +kernel
theorem dX11_isSmall_2 : decode cX11_isSmall 2 = .ok (.getfield 205, 3) := by decide +kernel
theorem dX11_isSmall_5 : decode cX11_isSmall 5 = .ok (.if_icmp .ge 29, 3) := by decide +kernel
theorem dX11_isSmall_8 : decode cX11_isSmall 8 = .ok (.aload_n 0, 1) := by decide +kernel
theorem dX11_isSmall_9 : decode cX11_isSmall 9 = .ok (.getfield 7, 3) := by decide +kernel
theorem dX11_isSmall_12 : decode cX11_isSmall 12 = .ok (.iload_n 1, 1) := by decide +kernel
theorem dX11_isSmall_13 : decode cX11_isSmall 13 = .ok (.iaload, 1) := by decide +kernel
theorem dX11_isSmall_14 : decode cX11_isSmall 14 = .ok (.bipush 97, 2) := by decide +kernel
theorem dX11_isSmall_16 : decode cX11_isSmall 16 = .ok (.if_icmp .lt 18, 3) := by decide +kernel
theorem dX11_isSmall_19 : decode cX11_isSmall 19 = .ok (.aload_n 0, 1) := by decide +kernel
theorem dX11_isSmall_20 : decode cX11_isSmall 20 = .ok (.getfield 7, 3) := by decide +kernel
theorem dX11_isSmall_23 : decode cX11_isSmall 23 = .ok (.iload_n 1, 1) := by decide +kernel
theorem dX11_isSmall_24 : decode cX11_isSmall 24 = .ok (.iaload, 1) := by decide +kernel
theorem dX11_isSmall_25 : decode cX11_isSmall 25 = .ok (.bipush 122, 2) := by decide +kernel
theorem dX11_isSmall_27 : decode cX11_isSmall 27 = .ok (.if_icmp .gt 7, 3) := by decide +kernel
theorem dX11_isSmall_30 : decode cX11_isSmall 30 = .ok (.iconst 1, 1) := by decide +kernel
theorem dX11_isSmall_31 : decode cX11_isSmall 31 = .ok (.goto 4, 3) := by decide +kernel
theorem dX11_isSmall_34 : decode cX11_isSmall 34 = .ok (.iconst 0, 1) := by decide +kernel
theorem dX11_isSmall_35 : decode cX11_isSmall 35 = .ok (.ireturn, 1) := by decide +kernel
theorem dX11_isDigit_0 : decode cX11_isDigit 0 = .ok (.iload_n 1, 1) := by decide +kernel
theorem dX11_isDigit_1 : decode cX11_isDigit 1 = .ok (.aload_n 0, 1) := by decide +kernel
theorem dX11_isDigit_2 : decode cX11_isDigit 2 = .ok (.getfield 205, 3) := by decide +kernel
theorem dX11_isDigit_5 : decode cX11_isDigit 5 = .ok (.if_icmp .ge 29, 3) := by decide +kernel
theorem dX11_isDigit_8 : decode cX11_isDigit 8 = .ok (.aload_n 0, 1) := by decide +kernel
theorem dX11_isDigit_9 : decode cX11_isDigit 9 = .ok (.getfield 7, 3) := by decide +kernel
theorem dX11_isDigit_12 : decode cX11_isDigit 12 = .ok (.iload_n 1, 1) := by decide +kernel
theorem dX11_isDigit_13 : decode cX11_isDigit 13 = .ok (.iaload, 1) := by decide +kernel
theorem dX11_isDigit_14 : decode cX11_isDigit 14 = .ok (.bipush 48, 2) := by decide +kernel
theorem dX11_isDigit_16 : decode cX11_isDigit 16 = .ok (.if_icmp .lt 18, 3) := by decide +kernel
theorem dX11_isDigit_19 : decode cX11_isDigit 19 = .ok (.aload_n 0, 1) := by decide +kernel
theorem dX11_isDigit_20 : decode cX11_isDigit 20 = .ok (.getfield 7, 3) := by decide +kernel
theorem dX11_isDigit_23 : decode cX11_isDigit 23 = .ok (.iload_n 1, 1) := by decide +kernel
theorem dX11_isDigit_24 : decode cX11_isDigit 24 = .ok (.iaload, 1) := by decide +kernel
theorem dX11_isDigit_25 : decode cX11_isDigit 25 = .ok (.bipush 57, 2) := by decide +kernel
theorem dX11_isDigit_27 : decode cX11_isDigit 27 = .ok (.if_icmp .gt 7, 3) := by decide +kernel
theorem dX11_isDigit_30 : decode cX11_isDigit 30 = .ok (.iconst 1, 1) := by decide +kernel
theorem dX11_isDigit_31 : decode cX11_isDigit 31 = .ok (.goto 4, 3) := by decide +kernel
theorem dX11_isDigit_34 : decode cX11_isDigit 34 = .ok (.iconst 0, 1) := by decide +kernel
theorem dX11_isDigit_35 : decode cX11_isDigit 35 = .ok (.ireturn, 1) := by decide +kernel
theorem dX11_token_0 : decode cX11_token 0 = .ok (.aload_n 0, 1) := by decide +kernel
theorem dX11_token_1 : decode cX11_token 1 = .ok (.getfield 208, 3) := by decide +kernel
theorem dX11_token_4 : decode cX11_token 4 = .ok (.aload_n 0, 1) := by decide +kernel
theorem dX11_token_5 : decode cX11_token 5 = .ok (.getfield 205, 3) := by decide +kernel
theorem dX11_token_8 : decode cX11_token 8 = .ok (.if_icmp .ge 44, 3) := by decide +kernel
theorem dX11_token_11 : decode cX11_token 11 = .ok (.aload_n 0, 1) := by decide +kernel
theorem dX11_token_12 : decode cX11_token 12 = .ok (.getfield 7, 3) := by decide +kernel
theorem dX11_token_15 : decode cX11_token 15 = .ok (.aload_n 0, 1) := by decide +kernel
theorem dX11_token_16 : decode cX11_token 16 = .ok (.getfield 208, 3) := by decide +kernel
theorem dX11_token_19 : decode cX11_token 19 = .ok (.iaload, 1) := by decide +kernel
theorem dX11_token_20 : decode cX11_token 20 = .ok (.bipush 10, 2) := by decide +kernel
theorem dX11_token_22 : decode cX11_token 22 = .ok (.if_icmp .eq 17, 3) := by decide +kernel
theorem dX11_token_25 : decode cX11_token 25 = .ok (.aload_n 0, 1) := by decide +kernel
theorem dX11_token_26 : decode cX11_token 26 = .ok (.getfield 7, 3) := by decide +kernel
theorem dX11_token_29 : decode cX11_token 29 = .ok (.aload_n 0, 1) := by decide +kernel
theorem dX11_token_30 : decode cX11_token 30 = .ok (.getfield 208, 3) := by decide +kernel
theorem dX11_token_33 : decode cX11_token 33 = .ok (.iaload, 1) := by decide +kernel
theorem dX11_token_34 : decode cX11_token 34 = .ok (.bipush 32, 2) := by decide +kernel
theorem dX11_token_36 : decode cX11_token 36 = .ok (.if_icmp .ne 16, 3) := by decide +kernel
theorem dX11_token_39 : decode cX11_token 39 = .ok (.aload_n 0, 1) := by decide +kernel
theorem dX11_token_40 : decode cX11_token 40 = .ok (.dup, 1) := by decide +kernel
theorem dX11_token_41 : decode cX11_token 41 = .ok (.getfield 208, 3) := by decide +kernel
theorem dX11_token_44 : decode cX11_token 44 = .ok (.iconst 1, 1) := by decide +kernel
theorem dX11_token_45 : decode cX11_token 45 = .ok (.iadd, 1) := by decide +kernel
theorem dX11_token_46 : decode cX11_token 46 = .ok (.putfield 208, 3) := by decide +kernel
theorem dX11_token_49 : decode cX11_token 49 = .ok (.goto (-49), 3) := by decide +kernel
theorem dX11_token_52 : decode cX11_token 52 = .ok (.aload_n 0, 1) := by decide +kernel
theorem dX11_token_53 : decode cX11_token 53 = .ok (.aload_n 0, 1) := by decide +kernel
theorem dX11_token_54 : decode cX11_token 54 = .ok (.getfield 208, 3) := by decide +kernel
theorem dX11_token_57 : decode cX11_token 57 = .ok (.putfield 202, 3) := by decide +kernel
theorem dX11_token_60 : decode cX11_token 60 = .ok (.aload_n 0, 1) := by decide +kernel
theorem dX11_token_61 : decode cX11_token 61 = .ok (.getfield 208, 3) := by decide +kernel
theorem dX11_token_64 : decode cX11_token 64 = .ok (.aload_n 0, 1) := by decide +kernel
theorem dX11_token_65 : decode cX11_token 65 = .ok (.getfield 205, 3) := by decide +kernel
theorem dX11_token_68 : decode cX11_token 68 = .ok (.if_icmp .ne 11, 3) := by decide +kernel
theorem dX11_token_71 : decode cX11_token 71 = .ok (.aload_n 0, 1) := by decide +kernel
theorem dX11_token_72 : decode cX11_token 72 = .ok (.iconst 0, 1) := by decide +kernel
theorem dX11_token_73 : decode cX11_token 73 = .ok (.putfield 211, 3) := by decide +kernel
theorem dX11_token_76 : decode cX11_token 76 = .ok (.goto 205, 3) := by decide +kernel
theorem dX11_token_79 : decode cX11_token 79 = .ok (.aload_n 0, 1) := by decide +kernel
theorem dX11_token_80 : decode cX11_token 80 = .ok (.aload_n 0, 1) := by decide +kernel
theorem dX11_token_81 : decode cX11_token 81 = .ok (.getfield 208, 3) := by decide +kernel
theorem dX11_token_84 : decode cX11_token 84 = .ok (.invokevirtual 214, 3) := by decide +kernel
theorem dX11_token_87 : decode cX11_token 87 = .ok (.ifCond .eq 105, 3) := by decide +kernel
theorem dX11_token_90 : decode cX11_token 90 = .ok (.aload_n 0, 1) := by decide +kernel
theorem dX11_token_91 : decode cX11_token 91 = .ok (.aload_n 0, 1) := by decide +kernel
theorem dX11_token_92 : decode cX11_token 92 = .ok (.getfield 208, 3) := by decide +kernel
theorem dX11_token_95 : decode cX11_token 95 = .ok (.invokevirtual 214, 3) := by decide +kernel
theorem dX11_token_98 : decode cX11_token 98 = .ok (.ifCond .eq 16, 3) := by decide +kernel
theorem dX11_token_101 : decode cX11_token 101 = .ok (.aload_n 0, 1) := by decide +kernel
theorem dX11_token_102 : decode cX11_token 102 = .ok (.dup, 1) := by decide +kernel
theorem dX11_token_103 : decode cX11_token 103 = .ok (.getfield 208, 3) := by decide +kernel
theorem dX11_token_106 : decode cX11_token 106 = .ok (.iconst 1, 1) := by decide +kernel
theorem dX11_token_107 : decode cX11_token 107 = .ok (.iadd, 1) := by decide +kernel
theorem dX11_token_108 : decode cX11_token 108 = .ok (.putfield 208, 3) := by decide +kernel
theorem dX11_token_111 : decode cX11_token 111 = .ok (.goto (-21), 3) := by decide +kernel
theorem dX11_token_114 : decode cX11_token 114 = .ok (.aload_n 0, 1) := by decide +kernel
theorem dX11_token_115 : decode cX11_token 115 = .ok (.aload_n 0, 1) := by decide +kernel
theorem dX11_token_116 : decode cX11_token 116 = .ok (.aload_n 0, 1) := by decide +kernel
theorem dX11_token_117 : decode cX11_token 117 = .ok (.getfield 202, 3) := by decide +kernel
theorem dX11_token_120 : decode cX11_token 120 = .ok (.aload_n 0, 1) := by decide +kernel
theorem dX11_token_121 : decode cX11_token 121 = .ok (.getfield 208, 3) := by decide +kernel
theorem dX11_token_124 : decode cX11_token 124 = .ok (.invokevirtual 218, 3) := by decide +kernel
theorem dX11_token_127 : decode cX11_token 127 = .ok (.putfield 222, 3) := by decide +kernel
theorem dX11_token_130 : decode cX11_token 130 = .ok (.aload_n 0, 1) := by decide +kernel
theorem dX11_token_131 : decode cX11_token 131 = .ok (.aload_n 0, 1) := by decide +kernel
theorem dX11_token_132 : decode cX11_token 132 = .ok (.getfield 222, 3) := by decide +kernel
theorem dX11_token_135 : decode cX11_token 135 = .ok (.ifCond .lt 7, 3) := by decide +kernel
theorem dX11_token_138 : decode cX11_token 138 = .ok (.iconst 1, 1) := by decide +kernel
theorem dX11_token_139 : decode cX11_token 139 = .ok (.goto 23, 3) := by decide +kernel
theorem dX11_token_142 : decode cX11_token 142 = .ok (.aload_n 0, 1) := by decide +kernel
theorem dX11_token_143 : decode cX11_token 143 = .ok (.getfield 208, 3) := by decide +kernel
theorem dX11_token_146 : decode cX11_token 146 = .ok (.aload_n 0, 1) := by decide +kernel
theorem dX11_token_147 : decode cX11_token 147 = .ok (.getfield 202, 3) := by decide +kernel
theorem dX11_token_150 : decode cX11_token 150 = .ok (.isub, 1) := by decide +kernel
theorem dX11_token_151 : decode cX11_token 151 = .ok (.bipush 6, 2) := by decide +kernel
theorem dX11_token_153 : decode cX11_token 153 = .ok (.if_icmp .le 8, 3) := by decide +kernel
theorem dX11_token_156 : decode cX11_token 156 = .ok (.bipush 6, 2) := by decide +kernel
theorem dX11_token_158 : decode cX11_token 158 = .ok (.goto 4, 3) := by decide +kernel
theorem dX11_token_161 : decode cX11_token 161 = .ok (.iconst 2, 1) := by decide +kernel
theorem dX11_token_162 : decode cX11_token 162 = .ok (.putfield 211, 3) := by decide +kernel
theorem dX11_token_165 : decode cX11_token 165 = .ok (.aload_n 0, 1) := by decide +kernel
theorem dX11_token_166 : decode cX11_token 166 = .ok (.getfield 211, 3) := by decide +kernel
theorem dX11_token_169 : decode cX11_token 169 = .ok (.iconst 2, 1) := by decide +kernel
theorem dX11_token_170 : decode cX11_token 170 = .ok (.if_icmp .ne 111, 3) := by decide +kernel
theorem dX11_token_173 : decode cX11_token 173 = .ok (.aload_n 0, 1) := by decide +kernel
theorem dX11_token_174 : decode cX11_token 174 = .ok (.aload_n 0, 1) := by decide +kernel
theorem dX11_token_175 : decode cX11_token 175 = .ok (.aload_n 0, 1) := by decide +kernel
theorem dX11_token_176 : decode cX11_token 176 = .ok (.getfield 202, 3) := by decide +kernel
theorem dX11_token_179 : decode cX11_token 179 = .ok (.aload_n 0, 1) := by decide +kernel
theorem dX11_token_180 : decode cX11_token 180 = .ok (.getfield 208, 3) := by decide +kernel
theorem dX11_token_183 : decode cX11_token 183 = .ok (.invokevirtual 225, 3) := by decide +kernel
theorem dX11_token_186 : decode cX11_token 186 = .ok (.putfield 222, 3) := by decide +kernel
theorem dX11_token_189 : decode cX11_token 189 = .ok (.goto 92, 3) := by decide +kernel
theorem dX11_token_192 : decode cX11_token 192 = .ok (.aload_n 0, 1) := by decide +kernel
theorem dX11_token_193 : decode cX11_token 193 = .ok (.aload_n 0, 1) := by decide +kernel
theorem dX11_token_194 : decode cX11_token 194 = .ok (.getfield 208, 3) := by decide +kernel
theorem dX11_token_197 : decode cX11_token 197 = .ok (.invokevirtual 228, 3) := by decide +kernel
theorem dX11_token_200 : decode cX11_token 200 = .ok (.ifCond .eq 77, 3) := by decide +kernel
theorem dX11_token_203 : decode cX11_token 203 = .ok (.aload_n 0, 1) := by decide +kernel
theorem dX11_token_204 : decode cX11_token 204 = .ok (.iconst 3, 1) := by decide +kernel
theorem dX11_token_205 : decode cX11_token 205 = .ok (.putfield 211, 3) := by decide +kernel
theorem dX11_token_208 : decode cX11_token 208 = .ok (.aload_n 0, 1) := by decide +kernel
theorem dX11_token_209 : decode cX11_token 209 = .ok (.iconst 0, 1) := by decide +kernel
theorem dX11_token_210 : decode cX11_token 210 = .ok (.putfield 222, 3) := by decide +kernel
theorem dX11_token_213 : decode cX11_token 213 = .ok (.aload_n 0, 1) := by decide +kernel
theorem dX11_token_214 : decode cX11_token 214 = .ok (.aload_n 0, 1) := by decide +kernel
theorem dX11_token_215 : decode cX11_token 215 = .ok (.getfield 208, 3) := by decide +kernel
theorem dX11_token_218 : decode cX11_token 218 = .ok (.invokevirtual 228, 3) := by decide +kernel
theorem dX11_token_221 : decode cX11_token 221 = .ok (.ifCond .eq 60, 3) := by decide +kernel
theorem dX11_token_224 : decode cX11_token 224 = .ok (.aload_n 0, 1) := by decide +kernel
theorem dX11_token_225 : decode cX11_token 225 = .ok (.aload_n 0, 1) := by decide +kernel
theorem dX11_token_226 : decode cX11_token 226 = .ok (.getfield 222, 3) := by decide +kernel
theorem dX11_token_229 : decode cX11_token 229 = .ok (.ldc 231, 2) := by decide +kernel
theorem dX11_token_231 : decode cX11_token 231 = .ok (.if_icmp .le 10, 3) := by decide +kernel
theorem dX11_token_234 : decode cX11_token 234 = .ok (.aload_n 0, 1) := by decide +kernel
theorem dX11_token_235 : decode cX11_token 235 = .ok (.getfield 222, 3) := by decide +kernel
theorem dX11_token_238 : decode cX11_token 238 = .ok (.goto 23, 3) := by decide +kernel
theorem dX11_token_241 : decode cX11_token 241 = .ok (.bipush 10, 2) := by decide +kernel
theorem dX11_token_243 : decode cX11_token 243 = .ok (.aload_n 0, 1) := by decide +kernel
theorem dX11_token_244 : decode cX11_token 244 = .ok (.getfield 222, 3) := by decide +kernel
theorem dX11_token_247 : decode cX11_token 247 = .ok (.imul, 1) := by decide +kernel
theorem dX11_token_248 : decode cX11_token 248 = .ok (.aload_n 0, 1) := by decide +kernel
theorem dX11_token_249 : decode cX11_token 249 = .ok (.getfield 7, 3) := by decide +kernel
theorem dX11_token_252 : decode cX11_token 252 = .ok (.aload_n 0, 1) := by decide +kernel
theorem dX11_token_253 : decode cX11_token 253 = .ok (.getfield 208, 3) := by decide +kernel
theorem dX11_token_256 : decode cX11_token 256 = .ok (.iaload, 1) := by decide +kernel
theorem dX11_token_257 : decode cX11_token 257 = .ok (.iadd, 1) := by decide +kernel
theorem dX11_token_258 : decode cX11_token 258 = .ok (.bipush 48, 2) := by decide +kernel
theorem dX11_token_260 : decode cX11_token 260 = .ok (.isub, 1) := by decide +kernel
theorem dX11_token_261 : decode cX11_token 261 = .ok (.putfield 222, 3) := by decide +kernel
theorem dX11_token_264 : decode cX11_token 264 = .ok (.aload_n 0, 1) := by decide +kernel
theorem dX11_token_265 : decode cX11_token 265 = .ok (.dup, 1) := by decide +kernel
theorem dX11_token_266 : decode cX11_token 266 = .ok (.getfield 208, 3) := by decide +kernel
theorem dX11_token_269 : decode cX11_token 269 = .ok (.iconst 1, 1) := by decide +kernel
theorem dX11_token_270 : decode cX11_token 270 = .ok (.iadd, 1) := by decide +kernel
theorem dX11_token_271 : decode cX11_token 271 = .ok (.putfield 208, 3) := by decide +kernel
theorem dX11_token_274 : decode cX11_token 274 = .ok (.goto (-61), 3) := by decide +kernel
theorem dX11_token_277 : decode cX11_token 277 = .ok (.aload_n 0, 1) := by decide +kernel
theorem dX11_token_278 : decode cX11_token 278 = .ok (.invokevirtual 232, 3) := by decide +kernel
theorem dX11_token_281 : decode cX11_token 281 = .ok (.return_, 1) := by decide +kernel
theorem dX11_signToken_0 : decode cX11_signToken 0 = .ok (.aload_n 0, 1) := by decide +kernel
theorem dX11_signToken_1 : decode cX11_signToken 1 = .ok (.aload_n 0, 1) := by decide +kernel
theorem dX11_signToken_2 : decode cX11_signToken 2 = .ok (.getfield 7, 3) := by decide +kernel
theorem dX11_signToken_5 : decode cX11_signToken 5 = .ok (.aload_n 0, 1) := by decide +kernel
theorem dX11_signToken_6 : decode cX11_signToken 6 = .ok (.getfield 208, 3) := by decide +kernel
theorem dX11_signToken_9 : decode cX11_signToken 9 = .ok (.iaload, 1) := by decide +kernel
theorem dX11_signToken_10 : decode cX11_signToken 10 = .ok (.putfield 222, 3) := by decide +kernel
theorem dX11_signToken_13 : decode cX11_signToken 13 = .ok (.aload_n 0, 1) := by decide +kernel
theorem dX11_signToken_14 : decode cX11_signToken 14 = .ok (.dup, 1) := by decide +kernel
theorem dX11_signToken_15 : decode cX11_signToken 15 = .ok (.getfield 208, 3) := by decide +kernel
theorem dX11_signToken_18 : decode cX11_signToken 18 = .ok (.iconst 1, 1) := by decide +kernel
theorem dX11_signToken_19 : decode cX11_signToken 19 = .ok (.iadd, 1) := by decide +kernel
theorem dX11_signToken_20 : decode cX11_signToken 20 = .ok (.putfield 208, 3) := by decide +kernel
theorem dX11_signToken_23 : decode cX11_signToken 23 = .ok (.aload_n 0, 1) := by decide +kernel
theorem dX11_signToken_24 : decode cX11_signToken 24 = .ok (.getfield 222, 3) := by decide +kernel
theorem dX11_signToken_27 : decode cX11_signToken 27 = .ok (.bipush 60, 2) := by decide +kernel
theorem dX11_signToken_29 : decode cX11_signToken 29 = .ok (.if_icmp .eq 21, 3) := by decide +kernel
theorem dX11_signToken_32 : decode cX11_signToken 32 = .ok (.aload_n 0, 1) := by decide +kernel
theorem dX11_signToken_33 : decode cX11_signToken 33 = .ok (.getfield 222, 3) := by decide +kernel
theorem dX11_signToken_36 : decode cX11_signToken 36 = .ok (.bipush 62, 2) := by decide +kernel
theorem dX11_signToken_38 : decode cX11_signToken 38 = .ok (.if_icmp .eq 12, 3) := by decide +kernel
theorem dX11_signToken_41 : decode cX11_signToken 41 = .ok (.aload_n 0, 1) := by decide +kernel
theorem dX11_signToken_42 : decode cX11_signToken 42 = .ok (.getfield 222, 3) := by decide +kernel
theorem dX11_signToken_45 : decode cX11_signToken 45 = .ok (.bipush 61, 2) := by decide +kernel
theorem dX11_signToken_47 : decode cX11_signToken 47 = .ok (.if_icmp .ne 151, 3) := by decide +kernel
theorem dX11_signToken_50 : decode cX11_signToken 50 = .ok (.aload_n 0, 1) := by decide +kernel
theorem dX11_signToken_51 : decode cX11_signToken 51 = .ok (.getfield 208, 3) := by decide +kernel
theorem dX11_signToken_54 : decode cX11_signToken 54 = .ok (.aload_n 0, 1) := by decide +kernel
theorem dX11_signToken_55 : decode cX11_signToken 55 = .ok (.getfield 205, 3) := by decide +kernel
theorem dX11_signToken_58 : decode cX11_signToken 58 = .ok (.if_icmp .ge 15, 3) := by decide +kernel
theorem dX11_signToken_61 : decode cX11_signToken 61 = .ok (.aload_n 0, 1) := by decide +kernel
theorem dX11_signToken_62 : decode cX11_signToken 62 = .ok (.getfield 7, 3) := by decide +kernel
theorem dX11_signToken_65 : decode cX11_signToken 65 = .ok (.aload_n 0, 1) := by decide +kernel
theorem dX11_signToken_66 : decode cX11_signToken 66 = .ok (.getfield 208, 3) := by decide +kernel
theorem dX11_signToken_69 : decode cX11_signToken 69 = .ok (.iaload, 1) := by decide +kernel
theorem dX11_signToken_70 : decode cX11_signToken 70 = .ok (.goto 4, 3) := by decide +kernel
theorem dX11_signToken_73 : decode cX11_signToken 73 = .ok (.iconst 0, 1) := by decide +kernel
theorem dX11_signToken_74 : decode cX11_signToken 74 = .ok (.istore_n 1, 1) := by decide +kernel
theorem dX11_signToken_75 : decode cX11_signToken 75 = .ok (.aload_n 0, 1) := by decide +kernel
theorem dX11_signToken_76 : decode cX11_signToken 76 = .ok (.getfield 222, 3) := by decide +kernel
theorem dX11_signToken_79 : decode cX11_signToken 79 = .ok (.bipush 61, 2) := by decide +kernel
theorem dX11_signToken_81 : decode cX11_signToken 81 = .ok (.if_icmp .eq 13, 3) := by decide +kernel
theorem dX11_signToken_84 : decode cX11_signToken 84 = .ok (.iload_n 1, 1) := by decide +kernel
theorem dX11_signToken_85 : decode cX11_signToken 85 = .ok (.bipush 61, 2) := by decide +kernel
theorem dX11_signToken_87 : decode cX11_signToken 87 = .ok (.if_icmp .ne 7, 3) := by decide +kernel
theorem dX11_signToken_90 : decode cX11_signToken 90 = .ok (.iconst 1, 1) := by decide +kernel
theorem dX11_signToken_91 : decode cX11_signToken 91 = .ok (.goto 4, 3) := by decide +kernel
theorem dX11_signToken_94 : decode cX11_signToken 94 = .ok (.iconst 0, 1) := by decide +kernel
theorem dX11_signToken_95 : decode cX11_signToken 95 = .ok (.istore_n 2, 1) := by decide +kernel
theorem dX11_signToken_96 : decode cX11_signToken 96 = .ok (.aload_n 0, 1) := by decide +kernel
theorem dX11_signToken_97 : decode cX11_signToken 97 = .ok (.getfield 222, 3) := by decide +kernel
theorem dX11_signToken_100 : decode cX11_signToken 100 = .ok (.bipush 60, 2) := by decide +kernel
theorem dX11_signToken_102 : decode cX11_signToken 102 = .ok (.if_icmp .ne 13, 3) := by decide +kernel
theorem dX11_signToken_105 : decode cX11_signToken 105 = .ok (.iload_n 1, 1) := by decide +kernel
theorem dX11_signToken_106 : decode cX11_signToken 106 = .ok (.bipush 62, 2) := by decide +kernel
theorem dX11_signToken_108 : decode cX11_signToken 108 = .ok (.if_icmp .ne 7, 3) := by decide +kernel
theorem dX11_signToken_111 : decode cX11_signToken 111 = .ok (.iconst 1, 1) := by decide +kernel
theorem dX11_signToken_112 : decode cX11_signToken 112 = .ok (.goto 4, 3) := by decide +kernel
theorem dX11_signToken_115 : decode cX11_signToken 115 = .ok (.iconst 0, 1) := by decide +kernel
theorem dX11_signToken_116 : decode cX11_signToken 116 = .ok (.istore_n 3, 1) := by decide +kernel
theorem dX11_signToken_117 : decode cX11_signToken 117 = .ok (.iload_n 2, 1) := by decide +kernel
theorem dX11_signToken_118 : decode cX11_signToken 118 = .ok (.ifCond .ne 7, 3) := by decide +kernel
theorem dX11_signToken_121 : decode cX11_signToken 121 = .ok (.iload_n 3, 1) := by decide +kernel
theorem dX11_signToken_122 : decode cX11_signToken 122 = .ok (.ifCond .eq 13, 3) := by decide +kernel
theorem dX11_signToken_125 : decode cX11_signToken 125 = .ok (.aload_n 0, 1) := by decide +kernel
theorem dX11_signToken_126 : decode cX11_signToken 126 = .ok (.dup, 1) := by decide +kernel
theorem dX11_signToken_127 : decode cX11_signToken 127 = .ok (.getfield 208, 3) := by decide +kernel
theorem dX11_signToken_130 : decode cX11_signToken 130 = .ok (.iconst 1, 1) := by decide +kernel
theorem dX11_signToken_131 : decode cX11_signToken 131 = .ok (.iadd, 1) := by decide +kernel
theorem dX11_signToken_132 : decode cX11_signToken 132 = .ok (.putfield 208, 3) := by decide +kernel
theorem dX11_signToken_135 : decode cX11_signToken 135 = .ok (.aload_n 0, 1) := by decide +kernel
theorem dX11_signToken_136 : decode cX11_signToken 136 = .ok (.iconst 5, 1) := by decide +kernel
theorem dX11_signToken_137 : decode cX11_signToken 137 = .ok (.putfield 211, 3) := by decide +kernel
theorem dX11_signToken_140 : decode cX11_signToken 140 = .ok (.aload_n 0, 1) := by decide +kernel
theorem dX11_signToken_141 : decode cX11_signToken 141 = .ok (.aload_n 0, 1) := by decide +kernel
theorem dX11_signToken_142 : decode cX11_signToken 142 = .ok (.getfield 222, 3) := by decide +kernel
theorem dX11_signToken_145 : decode cX11_signToken 145 = .ok (.bipush 61, 2) := by decide +kernel
theorem dX11_signToken_147 : decode cX11_signToken 147 = .ok (.if_icmp .ne 7, 3) := by decide +kernel
theorem dX11_signToken_150 : decode cX11_signToken 150 = .ok (.iconst 2, 1) := by decide +kernel
theorem dX11_signToken_151 : decode cX11_signToken 151 = .ok (.goto 41, 3) := by decide +kernel
theorem dX11_signToken_154 : decode cX11_signToken 154 = .ok (.aload_n 0, 1) := by decide +kernel
theorem dX11_signToken_155 : decode cX11_signToken 155 = .ok (.getfield 222, 3) := by decide +kernel
theorem dX11_signToken_158 : decode cX11_signToken 158 = .ok (.bipush 60, 2) := by decide +kernel
theorem dX11_signToken_160 : decode cX11_signToken 160 = .ok (.if_icmp .ne 23, 3) := by decide +kernel
theorem dX11_signToken_163 : decode cX11_signToken 163 = .ok (.iload_n 2, 1) := by decide +kernel
theorem dX11_signToken_164 : decode cX11_signToken 164 = .ok (.ifCond .eq 7, 3) := by decide +kernel
theorem dX11_signToken_167 : decode cX11_signToken 167 = .ok (.iconst 1, 1) := by decide +kernel
theorem dX11_signToken_168 : decode cX11_signToken 168 = .ok (.goto 24, 3) := by decide +kernel
theorem dX11_signToken_171 : decode cX11_signToken 171 = .ok (.iload_n 3, 1) := by decide +kernel
theorem dX11_signToken_172 : decode cX11_signToken 172 = .ok (.ifCond .eq 7, 3) := by decide +kernel
theorem dX11_signToken_175 : decode cX11_signToken 175 = .ok (.iconst 3, 1) := by decide +kernel
theorem dX11_signToken_176 : decode cX11_signToken 176 = .ok (.goto 16, 3) := by decide +kernel
theorem dX11_signToken_179 : decode cX11_signToken 179 = .ok (.iconst 0, 1) := by decide +kernel
theorem dX11_signToken_180 : decode cX11_signToken 180 = .ok (.goto 12, 3) := by decide +kernel
theorem dX11_signToken_183 : decode cX11_signToken 183 = .ok (.iload_n 2, 1) := by decide +kernel
theorem dX11_signToken_184 : decode cX11_signToken 184 = .ok (.ifCond .eq 7, 3) := by decide +kernel
theorem dX11_signToken_187 : decode cX11_signToken 187 = .ok (.iconst 4, 1) := by decide +kernel
theorem dX11_signToken_188 : decode cX11_signToken 188 = .ok (.goto 4, 3) := by decide +kernel
theorem dX11_signToken_191 : decode cX11_signToken 191 = .ok (.iconst 5, 1) := by decide +kernel
theorem dX11_signToken_192 : decode cX11_signToken 192 = .ok (.putfield 222, 3) := by decide +kernel
theorem dX11_signToken_195 : decode cX11_signToken 195 = .ok (.goto 95, 3) := by decide +kernel
theorem dX11_signToken_198 : decode cX11_signToken 198 = .ok (.aload_n 0, 1) := by decide +kernel
theorem dX11_signToken_199 : decode cX11_signToken 199 = .ok (.getfield 222, 3) := by decide +kernel
theorem dX11_signToken_202 : decode cX11_signToken 202 = .ok (.bipush 59, 2) := by decide +kernel
theorem dX11_signToken_204 : decode cX11_signToken 204 = .ok (.if_icmp .eq 66, 3) := by decide +kernel
theorem dX11_signToken_207 : decode cX11_signToken 207 = .ok (.aload_n 0, 1) := by decide +kernel
theorem dX11_signToken_208 : decode cX11_signToken 208 = .ok (.getfield 222, 3) := by decide +kernel
theorem dX11_signToken_211 : decode cX11_signToken 211 = .ok (.bipush 40, 2) := by decide +kernel
theorem dX11_signToken_213 : decode cX11_signToken 213 = .ok (.if_icmp .eq 57, 3) := by decide +kernel
theorem dX11_signToken_216 : decode cX11_signToken 216 = .ok (.aload_n 0, 1) := by decide +kernel
theorem dX11_signToken_217 : decode cX11_signToken 217 = .ok (.getfield 222, 3) := by decide +kernel
theorem dX11_signToken_220 : decode cX11_signToken 220 = .ok (.bipush 41, 2) := by decide +kernel
theorem dX11_signToken_222 : decode cX11_signToken 222 = .ok (.if_icmp .eq 48, 3) := by decide +kernel
theorem dX11_signToken_225 : decode cX11_signToken 225 = .ok (.aload_n 0, 1) := by decide +kernel
theorem dX11_signToken_226 : decode cX11_signToken 226 = .ok (.getfield 222, 3) := by decide +kernel
theorem dX11_signToken_229 : decode cX11_signToken 229 = .ok (.bipush 43, 2) := by decide +kernel
theorem dX11_signToken_231 : decode cX11_signToken 231 = .ok (.if_icmp .eq 39, 3) := by decide +kernel
theorem dX11_signToken_234 : decode cX11_signToken 234 = .ok (.aload_n 0, 1) := by decide +kernel
theorem dX11_signToken_235 : decode cX11_signToken 235 = .ok (.getfield 222, 3) := by decide +kernel
theorem dX11_signToken_238 : decode cX11_signToken 238 = .ok (.bipush 45, 2) := by decide +kernel
theorem dX11_signToken_240 : decode cX11_signToken 240 = .ok (.if_icmp .eq 30, 3) := by decide +kernel
theorem dX11_signToken_243 : decode cX11_signToken 243 = .ok (.aload_n 0, 1) := by decide +kernel
theorem dX11_signToken_244 : decode cX11_signToken 244 = .ok (.getfield 222, 3) := by decide +kernel
theorem dX11_signToken_247 : decode cX11_signToken 247 = .ok (.bipush 42, 2) := by decide +kernel
theorem dX11_signToken_249 : decode cX11_signToken 249 = .ok (.if_icmp .eq 21, 3) := by decide +kernel
theorem dX11_signToken_252 : decode cX11_signToken 252 = .ok (.aload_n 0, 1) := by decide +kernel
theorem dX11_signToken_253 : decode cX11_signToken 253 = .ok (.getfield 222, 3) := by decide +kernel
theorem dX11_signToken_256 : decode cX11_signToken 256 = .ok (.bipush 47, 2) := by decide +kernel
theorem dX11_signToken_258 : decode cX11_signToken 258 = .ok (.if_icmp .eq 12, 3) := by decide +kernel
theorem dX11_signToken_261 : decode cX11_signToken 261 = .ok (.aload_n 0, 1) := by decide +kernel
theorem dX11_signToken_262 : decode cX11_signToken 262 = .ok (.getfield 222, 3) := by decide +kernel
theorem dX11_signToken_265 : decode cX11_signToken 265 = .ok (.bipush 37, 2) := by decide +kernel
theorem dX11_signToken_267 : decode cX11_signToken 267 = .ok (.if_icmp .ne 7, 3) := by decide +kernel
theorem dX11_signToken_270 : decode cX11_signToken 270 = .ok (.iconst 1, 1) := by decide +kernel
theorem dX11_signToken_271 : decode cX11_signToken 271 = .ok (.goto 4, 3) := by decide +kernel
theorem dX11_signToken_274 : decode cX11_signToken 274 = .ok (.iconst 0, 1) := by decide +kernel
theorem dX11_signToken_275 : decode cX11_signToken 275 = .ok (.istore_n 1, 1) := by decide +kernel
theorem dX11_signToken_276 : decode cX11_signToken 276 = .ok (.aload_n 0, 1) := by decide +kernel
theorem dX11_signToken_277 : decode cX11_signToken 277 = .ok (.iload_n 1, 1) := by decide +kernel
theorem dX11_signToken_278 : decode cX11_signToken 278 = .ok (.ifCond .eq 7, 3) := by decide +kernel
theorem dX11_signToken_281 : decode cX11_signToken 281 = .ok (.iconst 4, 1) := by decide +kernel
theorem dX11_signToken_282 : decode cX11_signToken 282 = .ok (.goto 5, 3) := by decide +kernel
theorem dX11_signToken_285 : decode cX11_signToken 285 = .ok (.bipush 6, 2) := by decide +kernel
theorem dX11_signToken_287 : decode cX11_signToken 287 = .ok (.putfield 211, 3) := by decide +kernel
theorem dX11_signToken_290 : decode cX11_signToken 290 = .ok (.return_, 1) := by decide +kernel
theorem dX11_packed_0 : decode cX11_packed 0 = .ok (.iconst 0, 1) := by decide +kernel
theorem dX11_packed_1 : decode cX11_packed 1 = .ok (.istore_n 3, 1) := by decide +kernel
theorem dX11_packed_2 : decode cX11_packed 2 = .ok (.iload_n 1, 1) := by decide +kernel
theorem dX11_packed_3 : decode cX11_packed 3 = .ok (.istore 4, 2) := by decide +kernel
theorem dX11_packed_5 : decode cX11_packed 5 = .ok (.iload 4, 2) := by decide +kernel
theorem dX11_packed_7 : decode cX11_packed 7 = .ok (.iload_n 1, 1) := by decide +kernel
theorem dX11_packed_8 : decode cX11_packed 8 = .ok (.bipush 6, 2) := by decide +kernel
theorem dX11_packed_10 : decode cX11_packed 10 = .ok (.iadd, 1) := by decide +kernel
theorem dX11_packed_11 : decode cX11_packed 11 = .ok (.if_icmp .ge 34, 3) := by decide +kernel
theorem dX11_packed_14 : decode cX11_packed 14 = .ok (.iload_n 3, 1) := by decide +kernel
theorem dX11_packed_15 : decode cX11_packed 15 = .ok (.iconst 5, 1) := by decide +kernel
theorem dX11_packed_16 : decode cX11_packed 16 = .ok (.ishl, 1) := by decide +kernel
theorem dX11_packed_17 : decode cX11_packed 17 = .ok (.iload 4, 2) := by decide +kernel
theorem dX11_packed_19 : decode cX11_packed 19 = .ok (.iload_n 2, 1) := by decide +kernel
theorem dX11_packed_20 : decode cX11_packed 20 = .ok (.if_icmp .ge 16, 3) := by decide +kernel
theorem dX11_packed_23 : decode cX11_packed 23 = .ok (.aload_n 0, 1) := by decide +kernel
theorem dX11_packed_24 : decode cX11_packed 24 = .ok (.getfield 7, 3) := by decide +kernel
theorem dX11_packed_27 : decode cX11_packed 27 = .ok (.iload 4, 2) := by decide +kernel
theorem dX11_packed_29 : decode cX11_packed 29 = .ok (.iaload, 1) := by decide +kernel
theorem dX11_packed_30 : decode cX11_packed 30 = .ok (.bipush 96, 2) := by decide +kernel
theorem dX11_packed_32 : decode cX11_packed 32 = .ok (.isub, 1) := by decide +kernel
theorem dX11_packed_33 : decode cX11_packed 33 = .ok (.goto 4, 3) := by decide +kernel
theorem dX11_packed_36 : decode cX11_packed 36 = .ok (.iconst 0, 1) := by decide +kernel
theorem dX11_packed_37 : decode cX11_packed 37 = .ok (.ior, 1) := by decide +kernel
theorem dX11_packed_38 : decode cX11_packed 38 = .ok (.istore_n 3, 1) := by decide +kernel
theorem dX11_packed_39 : decode cX11_packed 39 = .ok (.iinc 4 1, 3) := by decide +kernel
theorem dX11_packed_42 : decode cX11_packed 42 = .ok (.goto (-37), 3) := by decide +kernel
theorem dX11_packed_45 : decode cX11_packed 45 = .ok (.iload_n 3, 1) := by decide +kernel
theorem dX11_packed_46 : decode cX11_packed 46 = .ok (.ireturn, 1) := by decide +kernel
theorem dX11_isKey_0 : decode cX11_isKey 0 = .ok (.aload_n 0, 1) := by decide +kernel
theorem dX11_isKey_1 : decode cX11_isKey 1 = .ok (.getfield 211, 3) := by decide +kernel
theorem dX11_isKey_4 : decode cX11_isKey 4 = .ok (.iconst 1, 1) := by decide +kernel
theorem dX11_isKey_5 : decode cX11_isKey 5 = .ok (.if_icmp .ne 15, 3) := by decide +kernel
theorem dX11_isKey_8 : decode cX11_isKey 8 = .ok (.aload_n 0, 1) := by decide +kernel
theorem dX11_isKey_9 : decode cX11_isKey 9 = .ok (.getfield 222, 3) := by decide +kernel
theorem dX11_isKey_12 : decode cX11_isKey 12 = .ok (.iload_n 1, 1) := by decide +kernel
theorem dX11_isKey_13 : decode cX11_isKey 13 = .ok (.if_icmp .ne 7, 3) := by decide +kernel
theorem dX11_isKey_16 : decode cX11_isKey 16 = .ok (.iconst 1, 1) := by decide +kernel
theorem dX11_isKey_17 : decode cX11_isKey 17 = .ok (.goto 4, 3) := by decide +kernel
theorem dX11_isKey_20 : decode cX11_isKey 20 = .ok (.iconst 0, 1) := by decide +kernel
theorem dX11_isKey_21 : decode cX11_isKey 21 = .ok (.ireturn, 1) := by decide +kernel
theorem dX11_isSign_0 : decode cX11_isSign 0 = .ok (.aload_n 0, 1) := by decide +kernel
theorem dX11_isSign_1 : decode cX11_isSign 1 = .ok (.getfield 211, 3) := by decide +kernel
theorem dX11_isSign_4 : decode cX11_isSign 4 = .ok (.iconst 4, 1) := by decide +kernel
theorem dX11_isSign_5 : decode cX11_isSign 5 = .ok (.if_icmp .ne 15, 3) := by decide +kernel
theorem dX11_isSign_8 : decode cX11_isSign 8 = .ok (.aload_n 0, 1) := by decide +kernel
theorem dX11_isSign_9 : decode cX11_isSign 9 = .ok (.getfield 222, 3) := by decide +kernel
theorem dX11_isSign_12 : decode cX11_isSign 12 = .ok (.iload_n 1, 1) := by decide +kernel
theorem dX11_isSign_13 : decode cX11_isSign 13 = .ok (.if_icmp .ne 7, 3) := by decide +kernel
theorem dX11_isSign_16 : decode cX11_isSign 16 = .ok (.iconst 1, 1) := by decide +kernel
theorem dX11_isSign_17 : decode cX11_isSign 17 = .ok (.goto 4, 3) := by decide +kernel
theorem dX11_isSign_20 : decode cX11_isSign 20 = .ok (.iconst 0, 1) := by decide +kernel
theorem dX11_isSign_21 : decode cX11_isSign 21 = .ok (.ireturn, 1) := by decide +kernel
theorem dX11_number_0 : decode cX11_number 0 = .ok (.aload_n 0, 1) := by decide +kernel
theorem dX11_number_1 : decode cX11_number 1 = .ok (.getfield 211, 3) := by decide +kernel
theorem dX11_number_4 : decode cX11_number 4 = .ok (.iconst 3, 1) := by decide +kernel
theorem dX11_number_5 : decode cX11_number 5 = .ok (.if_icmp .eq 9, 3) := by decide +kernel
theorem dX11_number_8 : decode cX11_number 8 = .ok (.aload_n 0, 1) := by decide +kernel
theorem dX11_number_9 : decode cX11_number 9 = .ok (.iconst 1, 1) := by decide +kernel
theorem dX11_number_10 : decode cX11_number 10 = .ok (.invokevirtual 235, 3) := by decide +kernel
theorem dX11_number_13 : decode cX11_number 13 = .ok (.ireturn, 1) := by decide +kernel
theorem dX11_number_14 : decode cX11_number 14 = .ok (.aload_n 0, 1) := by decide +kernel
theorem dX11_number_15 : decode cX11_number 15 = .ok (.getfield 222, 3) := by decide +kernel
theorem dX11_number_18 : decode cX11_number 18 = .ok (.iload_n 1, 1) := by decide +kernel
theorem dX11_number_19 : decode cX11_number 19 = .ok (.iload_n 2, 1) := by decide +kernel
theorem dX11_number_20 : decode cX11_number 20 = .ok (.invokestatic 238, 3) := by decide +kernel
theorem dX11_number_23 : decode cX11_number 23 = .ok (.ifCond .ne 9, 3) := by decide +kernel
theorem dX11_number_26 : decode cX11_number 26 = .ok (.aload_n 0, 1) := by decide +kernel
theorem dX11_number_27 : decode cX11_number 27 = .ok (.iconst 2, 1) := by decide +kernel
theorem dX11_number_28 : decode cX11_number 28 = .ok (.invokevirtual 235, 3) := by decide +kernel
theorem dX11_number_31 : decode cX11_number 31 = .ok (.ireturn, 1) := by decide +kernel
theorem dX11_number_32 : decode cX11_number 32 = .ok (.aload_n 0, 1) := by decide +kernel
theorem dX11_number_33 : decode cX11_number 33 = .ok (.aload_n 0, 1) := by decide +kernel
theorem dX11_number_34 : decode cX11_number 34 = .ok (.getfield 222, 3) := by decide +kernel
theorem dX11_number_37 : decode cX11_number 37 = .ok (.putfield 242, 3) := by decide +kernel
theorem dX11_number_40 : decode cX11_number 40 = .ok (.aload_n 0, 1) := by decide +kernel
theorem dX11_number_41 : decode cX11_number 41 = .ok (.invokevirtual 245, 3) := by decide +kernel
theorem dX11_number_44 : decode cX11_number 44 = .ok (.iconst 1, 1) := by decide +kernel
theorem dX11_number_45 : decode cX11_number 45 = .ok (.ireturn, 1) := by decide +kernel
theorem dX11_plain_0 : decode cX11_plain 0 = .ok (.aload_n 0, 1) := by decide +kernel
theorem dX11_plain_1 : decode cX11_plain 1 = .ok (.iconst 0, 1) := by decide +kernel
theorem dX11_plain_2 : decode cX11_plain 2 = .ok (.putfield 255, 3) := by decide +kernel
theorem dX11_plain_5 : decode cX11_plain 5 = .ok (.aload_n 0, 1) := by decide +kernel
theorem dX11_plain_6 : decode cX11_plain 6 = .ok (.iconst 0, 1) := by decide +kernel
theorem dX11_plain_7 : decode cX11_plain 7 = .ok (.putfield 258, 3) := by decide +kernel
theorem dX11_plain_10 : decode cX11_plain 10 = .ok (.aload_n 0, 1) := by decide +kernel
theorem dX11_plain_11 : decode cX11_plain 11 = .ok (.iconst 0, 1) := by decide +kernel
theorem dX11_plain_12 : decode cX11_plain 12 = .ok (.putfield 261, 3) := by decide +kernel
theorem dX11_plain_15 : decode cX11_plain 15 = .ok (.aload_n 0, 1) := by decide +kernel
theorem dX11_plain_16 : decode cX11_plain 16 = .ok (.iconst 0, 1) := by decide +kernel
theorem dX11_plain_17 : decode cX11_plain 17 = .ok (.putfield 264, 3) := by decide +kernel
theorem dX11_plain_20 : decode cX11_plain 20 = .ok (.aload_n 0, 1) := by decide +kernel
theorem dX11_plain_21 : decode cX11_plain 21 = .ok (.iconst 0, 1) := by decide +kernel
theorem dX11_plain_22 : decode cX11_plain 22 = .ok (.putfield 267, 3) := by decide +kernel
theorem dX11_plain_25 : decode cX11_plain 25 = .ok (.iconst 0, 1) := by decide +kernel
theorem dX11_plain_26 : decode cX11_plain 26 = .ok (.istore_n 1, 1) := by decide +kernel
theorem dX11_plain_27 : decode cX11_plain 27 = .ok (.iload_n 1, 1) := by decide +kernel
theorem dX11_plain_28 : decode cX11_plain 28 = .ok (.iconst 2, 1) := by decide +kernel
theorem dX11_plain_29 : decode cX11_plain 29 = .ok (.if_icmp .ge 25, 3) := by decide +kernel
theorem dX11_plain_32 : decode cX11_plain 32 = .ok (.aload_n 0, 1) := by decide +kernel
theorem dX11_plain_33 : decode cX11_plain 33 = .ok (.getfield 20, 3) := by decide +kernel
theorem dX11_plain_36 : decode cX11_plain 36 = .ok (.iload_n 1, 1) := by decide +kernel
theorem dX11_plain_37 : decode cX11_plain 37 = .ok (.iconst 0, 1) := by decide +kernel
theorem dX11_plain_38 : decode cX11_plain 38 = .ok (.bastore, 1) := by decide +kernel
theorem dX11_plain_39 : decode cX11_plain 39 = .ok (.aload_n 0, 1) := by decide +kernel
theorem dX11_plain_40 : decode cX11_plain 40 = .ok (.getfield 24, 3) := by decide +kernel
theorem dX11_plain_43 : decode cX11_plain 43 = .ok (.iconst 2, 1) := by decide +kernel
theorem dX11_plain_44 : decode cX11_plain 44 = .ok (.iload_n 1, 1) := by decide +kernel
theorem dX11_plain_45 : decode cX11_plain 45 = .ok (.iadd, 1) := by decide +kernel
theorem dX11_plain_46 : decode cX11_plain 46 = .ok (.iconst 0, 1) := by decide +kernel
theorem dX11_plain_47 : decode cX11_plain 47 = .ok (.iastore, 1) := by decide +kernel
theorem dX11_plain_48 : decode cX11_plain 48 = .ok (.iinc 1 1, 3) := by decide +kernel
theorem dX11_plain_51 : decode cX11_plain 51 = .ok (.goto (-24), 3) := by decide +kernel
theorem dX11_plain_54 : decode cX11_plain 54 = .ok (.bipush 10, 2) := by decide +kernel
theorem dX11_plain_56 : decode cX11_plain 56 = .ok (.istore_n 1, 1) := by decide +kernel
theorem dX11_plain_57 : decode cX11_plain 57 = .ok (.iload_n 1, 1) := by decide +kernel
theorem dX11_plain_58 : decode cX11_plain 58 = .ok (.bipush 20, 2) := by decide +kernel
theorem dX11_plain_60 : decode cX11_plain 60 = .ok (.if_icmp .ge 16, 3) := by decide +kernel
theorem dX11_plain_63 : decode cX11_plain 63 = .ok (.aload_n 0, 1) := by decide +kernel
theorem dX11_plain_64 : decode cX11_plain 64 = .ok (.getfield 57, 3) := by decide +kernel
theorem dX11_plain_67 : decode cX11_plain 67 = .ok (.iload_n 1, 1) := by decide +kernel
theorem dX11_plain_68 : decode cX11_plain 68 = .ok (.iconst (-1), 1) := by decide +kernel
theorem dX11_plain_69 : decode cX11_plain 69 = .ok (.iastore, 1) := by decide +kernel
theorem dX11_plain_70 : decode cX11_plain 70 = .ok (.iinc 1 1, 3) := by decide +kernel
theorem dX11_plain_73 : decode cX11_plain 73 = .ok (.goto (-16), 3) := by decide +kernel
theorem dX11_plain_76 : decode cX11_plain 76 = .ok (.iconst 3, 1) := by decide +kernel
theorem dX11_plain_77 : decode cX11_plain 77 = .ok (.istore_n 1, 1) := by decide +kernel
theorem dX11_plain_78 : decode cX11_plain 78 = .ok (.iload_n 1, 1) := by decide +kernel
theorem dX11_plain_79 : decode cX11_plain 79 = .ok (.bipush 6, 2) := by decide +kernel
theorem dX11_plain_81 : decode cX11_plain 81 = .ok (.if_icmp .ge 16, 3) := by decide +kernel
theorem dX11_plain_84 : decode cX11_plain 84 = .ok (.aload_n 0, 1) := by decide +kernel
theorem dX11_plain_85 : decode cX11_plain 85 = .ok (.getfield 69, 3) := by decide +kernel
theorem dX11_plain_88 : decode cX11_plain 88 = .ok (.iload_n 1, 1) := by decide +kernel
theorem dX11_plain_89 : decode cX11_plain 89 = .ok (.iconst 0, 1) := by decide +kernel
theorem dX11_plain_90 : decode cX11_plain 90 = .ok (.bastore, 1) := by decide +kernel
theorem dX11_plain_91 : decode cX11_plain 91 = .ok (.iinc 1 1, 3) := by decide +kernel
theorem dX11_plain_94 : decode cX11_plain 94 = .ok (.goto (-16), 3) := by decide +kernel
theorem dX11_plain_97 : decode cX11_plain 97 = .ok (.return_, 1) := by decide +kernel
theorem dX11_copies_0 : decode cX11_copies 0 = .ok (.iconst 0, 1) := by decide +kernel
theorem dX11_copies_1 : decode cX11_copies 1 = .ok (.istore_n 2, 1) := by decide +kernel
theorem dX11_copies_2 : decode cX11_copies 2 = .ok (.iload_n 2, 1) := by decide +kernel
theorem dX11_copies_3 : decode cX11_copies 3 = .ok (.iload_n 1, 1) := by decide +kernel
theorem dX11_copies_4 : decode cX11_copies 4 = .ok (.if_icmp .ge 17, 3) := by decide +kernel
theorem dX11_copies_7 : decode cX11_copies 7 = .ok (.aload_n 0, 1) := by decide +kernel
theorem dX11_copies_8 : decode cX11_copies 8 = .ok (.iload_n 2, 1) := by decide +kernel
theorem dX11_copies_9 : decode cX11_copies 9 = .ok (.aload_n 0, 1) := by decide +kernel
theorem dX11_copies_10 : decode cX11_copies 10 = .ok (.iload_n 1, 1) := by decide +kernel
theorem dX11_copies_11 : decode cX11_copies 11 = .ok (.iload_n 2, 1) := by decide +kernel
theorem dX11_copies_12 : decode cX11_copies 12 = .ok (.iadd, 1) := by decide +kernel
theorem dX11_copies_13 : decode cX11_copies 13 = .ok (.iaload, 1) := by decide +kernel
theorem dX11_copies_14 : decode cX11_copies 14 = .ok (.iastore, 1) := by decide +kernel
theorem dX11_copies_15 : decode cX11_copies 15 = .ok (.iinc 2 1, 3) := by decide +kernel
theorem dX11_copies_18 : decode cX11_copies 18 = .ok (.goto (-16), 3) := by decide +kernel
theorem dX11_copies_21 : decode cX11_copies 21 = .ok (.return_, 1) := by decide +kernel
theorem dX11_keepText_0 : decode cX11_keepText 0 = .ok (.aload_n 0, 1) := by decide +kernel
theorem dX11_keepText_1 : decode cX11_keepText 1 = .ok (.aload_n 0, 1) := by decide +kernel
theorem dX11_keepText_2 : decode cX11_keepText 2 = .ok (.getfield 255, 3) := by decide +kernel
theorem dX11_keepText_5 : decode cX11_keepText 5 = .ok (.putfield 270, 3) := by decide +kernel
theorem dX11_keepText_8 : decode cX11_keepText 8 = .ok (.aload_n 0, 1) := by decide +kernel
theorem dX11_keepText_9 : decode cX11_keepText 9 = .ok (.aload_n 0, 1) := by decide +kernel
theorem dX11_keepText_10 : decode cX11_keepText 10 = .ok (.getfield 258, 3) := by decide +kernel
theorem dX11_keepText_13 : decode cX11_keepText 13 = .ok (.putfield 273, 3) := by decide +kernel
theorem dX11_keepText_16 : decode cX11_keepText 16 = .ok (.aload_n 0, 1) := by decide +kernel
theorem dX11_keepText_17 : decode cX11_keepText 17 = .ok (.aload_n 0, 1) := by decide +kernel
theorem dX11_keepText_18 : decode cX11_keepText 18 = .ok (.getfield 261, 3) := by decide +kernel
theorem dX11_keepText_21 : decode cX11_keepText 21 = .ok (.putfield 276, 3) := by decide +kernel
theorem dX11_keepText_24 : decode cX11_keepText 24 = .ok (.aload_n 0, 1) := by decide +kernel
theorem dX11_keepText_25 : decode cX11_keepText 25 = .ok (.aload_n 0, 1) := by decide +kernel
theorem dX11_keepText_26 : decode cX11_keepText 26 = .ok (.getfield 264, 3) := by decide +kernel
theorem dX11_keepText_29 : decode cX11_keepText 29 = .ok (.putfield 279, 3) := by decide +kernel
theorem dX11_keepText_32 : decode cX11_keepText 32 = .ok (.aload_n 0, 1) := by decide +kernel
theorem dX11_keepText_33 : decode cX11_keepText 33 = .ok (.getfield 24, 3) := by decide +kernel
theorem dX11_keepText_36 : decode cX11_keepText 36 = .ok (.iconst 2, 1) := by decide +kernel
theorem dX11_keepText_37 : decode cX11_keepText 37 = .ok (.invokestatic 282, 3) := by decide +kernel
theorem dX11_keepText_40 : decode cX11_keepText 40 = .ok (.aload_n 0, 1) := by decide +kernel
theorem dX11_keepText_41 : decode cX11_keepText 41 = .ok (.getfield 27, 3) := by decide +kernel
theorem dX11_keepText_44 : decode cX11_keepText 44 = .ok (.bipush 6, 2) := by decide +kernel
theorem dX11_keepText_46 : decode cX11_keepText 46 = .ok (.invokestatic 282, 3) := by decide +kernel
theorem dX11_keepText_49 : decode cX11_keepText 49 = .ok (.aload_n 0, 1) := by decide +kernel
theorem dX11_keepText_50 : decode cX11_keepText 50 = .ok (.getfield 30, 3) := by decide +kernel
theorem dX11_keepText_53 : decode cX11_keepText 53 = .ok (.bipush 6, 2) := by decide +kernel
theorem dX11_keepText_55 : decode cX11_keepText 55 = .ok (.invokestatic 282, 3) := by decide +kernel
theorem dX11_keepText_58 : decode cX11_keepText 58 = .ok (.aload_n 0, 1) := by decide +kernel
theorem dX11_keepText_59 : decode cX11_keepText 59 = .ok (.getfield 33, 3) := by decide +kernel
theorem dX11_keepText_62 : decode cX11_keepText 62 = .ok (.bipush 6, 2) := by decide +kernel
theorem dX11_keepText_64 : decode cX11_keepText 64 = .ok (.invokestatic 282, 3) := by decide +kernel
theorem dX11_keepText_67 : decode cX11_keepText 67 = .ok (.aload_n 0, 1) := by decide +kernel
theorem dX11_keepText_68 : decode cX11_keepText 68 = .ok (.getfield 36, 3) := by decide +kernel
theorem dX11_keepText_71 : decode cX11_keepText 71 = .ok (.bipush 6, 2) := by decide +kernel
theorem dX11_keepText_73 : decode cX11_keepText 73 = .ok (.invokestatic 282, 3) := by decide +kernel
theorem dX11_keepText_76 : decode cX11_keepText 76 = .ok (.aload_n 0, 1) := by decide +kernel
theorem dX11_keepText_77 : decode cX11_keepText 77 = .ok (.getfield 39, 3) := by decide +kernel
theorem dX11_keepText_80 : decode cX11_keepText 80 = .ok (.bipush 10, 2) := by decide +kernel
theorem dX11_keepText_82 : decode cX11_keepText 82 = .ok (.invokestatic 282, 3) := by decide +kernel
theorem dX11_keepText_85 : decode cX11_keepText 85 = .ok (.aload_n 0, 1) := by decide +kernel
theorem dX11_keepText_86 : decode cX11_keepText 86 = .ok (.getfield 42, 3) := by decide +kernel
theorem dX11_keepText_89 : decode cX11_keepText 89 = .ok (.bipush 10, 2) := by decide +kernel
theorem dX11_keepText_91 : decode cX11_keepText 91 = .ok (.invokestatic 282, 3) := by decide +kernel
theorem dX11_keepText_94 : decode cX11_keepText 94 = .ok (.aload_n 0, 1) := by decide +kernel
theorem dX11_keepText_95 : decode cX11_keepText 95 = .ok (.getfield 45, 3) := by decide +kernel
theorem dX11_keepText_98 : decode cX11_keepText 98 = .ok (.bipush 10, 2) := by decide +kernel
theorem dX11_keepText_100 : decode cX11_keepText 100 = .ok (.invokestatic 282, 3) := by decide +kernel
theorem dX11_keepText_103 : decode cX11_keepText 103 = .ok (.aload_n 0, 1) := by decide +kernel
theorem dX11_keepText_104 : decode cX11_keepText 104 = .ok (.getfield 48, 3) := by decide +kernel
theorem dX11_keepText_107 : decode cX11_keepText 107 = .ok (.bipush 10, 2) := by decide +kernel
theorem dX11_keepText_109 : decode cX11_keepText 109 = .ok (.invokestatic 282, 3) := by decide +kernel
theorem dX11_keepText_112 : decode cX11_keepText 112 = .ok (.aload_n 0, 1) := by decide +kernel
theorem dX11_keepText_113 : decode cX11_keepText 113 = .ok (.getfield 51, 3) := by decide +kernel
theorem dX11_keepText_116 : decode cX11_keepText 116 = .ok (.bipush 10, 2) := by decide +kernel
theorem dX11_keepText_118 : decode cX11_keepText 118 = .ok (.invokestatic 282, 3) := by decide +kernel
theorem dX11_keepText_121 : decode cX11_keepText 121 = .ok (.aload_n 0, 1) := by decide +kernel
theorem dX11_keepText_122 : decode cX11_keepText 122 = .ok (.getfield 54, 3) := by decide +kernel
theorem dX11_keepText_125 : decode cX11_keepText 125 = .ok (.bipush 10, 2) := by decide +kernel
theorem dX11_keepText_127 : decode cX11_keepText 127 = .ok (.invokestatic 282, 3) := by decide +kernel
theorem dX11_keepText_130 : decode cX11_keepText 130 = .ok (.aload_n 0, 1) := by decide +kernel
theorem dX11_keepText_131 : decode cX11_keepText 131 = .ok (.getfield 57, 3) := by decide +kernel
theorem dX11_keepText_134 : decode cX11_keepText 134 = .ok (.bipush 10, 2) := by decide +kernel
theorem dX11_keepText_136 : decode cX11_keepText 136 = .ok (.invokestatic 282, 3) := by decide +kernel
theorem dX11_keepText_139 : decode cX11_keepText 139 = .ok (.aload_n 0, 1) := by decide +kernel
theorem dX11_keepText_140 : decode cX11_keepText 140 = .ok (.getfield 60, 3) := by decide +kernel
theorem dX11_keepText_143 : decode cX11_keepText 143 = .ok (.bipush 8, 2) := by decide +kernel
theorem dX11_keepText_145 : decode cX11_keepText 145 = .ok (.invokestatic 282, 3) := by decide +kernel
theorem dX11_keepText_148 : decode cX11_keepText 148 = .ok (.aload_n 0, 1) := by decide +kernel
theorem dX11_keepText_149 : decode cX11_keepText 149 = .ok (.getfield 63, 3) := by decide +kernel
theorem dX11_keepText_152 : decode cX11_keepText 152 = .ok (.bipush 8, 2) := by decide +kernel
theorem dX11_keepText_154 : decode cX11_keepText 154 = .ok (.invokestatic 282, 3) := by decide +kernel
theorem dX11_keepText_157 : decode cX11_keepText 157 = .ok (.aload_n 0, 1) := by decide +kernel
theorem dX11_keepText_158 : decode cX11_keepText 158 = .ok (.getfield 66, 3) := by decide +kernel
theorem dX11_keepText_161 : decode cX11_keepText 161 = .ok (.bipush 8, 2) := by decide +kernel
theorem dX11_keepText_163 : decode cX11_keepText 163 = .ok (.invokestatic 282, 3) := by decide +kernel
theorem dX11_keepText_166 : decode cX11_keepText 166 = .ok (.iconst 0, 1) := by decide +kernel
theorem dX11_keepText_167 : decode cX11_keepText 167 = .ok (.istore_n 1, 1) := by decide +kernel
theorem dX11_keepText_168 : decode cX11_keepText 168 = .ok (.iload_n 1, 1) := by decide +kernel
theorem dX11_keepText_169 : decode cX11_keepText 169 = .ok (.iconst 3, 1) := by decide +kernel
theorem dX11_keepText_170 : decode cX11_keepText 170 = .ok (.if_icmp .ge 23, 3) := by decide +kernel
theorem dX11_keepText_173 : decode cX11_keepText 173 = .ok (.aload_n 0, 1) := by decide +kernel
theorem dX11_keepText_174 : decode cX11_keepText 174 = .ok (.getfield 69, 3) := by decide +kernel
theorem dX11_keepText_177 : decode cX11_keepText 177 = .ok (.iload_n 1, 1) := by decide +kernel
theorem dX11_keepText_178 : decode cX11_keepText 178 = .ok (.aload_n 0, 1) := by decide +kernel
theorem dX11_keepText_179 : decode cX11_keepText 179 = .ok (.getfield 69, 3) := by decide +kernel
theorem dX11_keepText_182 : decode cX11_keepText 182 = .ok (.iconst 3, 1) := by decide +kernel
theorem dX11_keepText_183 : decode cX11_keepText 183 = .ok (.iload_n 1, 1) := by decide +kernel
theorem dX11_keepText_184 : decode cX11_keepText 184 = .ok (.iadd, 1) := by decide +kernel
theorem dX11_keepText_185 : decode cX11_keepText 185 = .ok (.baload, 1) := by decide +kernel
theorem dX11_keepText_186 : decode cX11_keepText 186 = .ok (.bastore, 1) := by decide +kernel
theorem dX11_keepText_187 : decode cX11_keepText 187 = .ok (.iinc 1 1, 3) := by decide +kernel
theorem dX11_keepText_190 : decode cX11_keepText 190 = .ok (.goto (-22), 3) := by decide +kernel
theorem dX11_keepText_193 : decode cX11_keepText 193 = .ok (.aload_n 0, 1) := by decide +kernel
theorem dX11_keepText_194 : decode cX11_keepText 194 = .ok (.getfield 72, 3) := by decide +kernel
theorem dX11_keepText_197 : decode cX11_keepText 197 = .ok (.iconst 3, 1) := by decide +kernel
theorem dX11_keepText_198 : decode cX11_keepText 198 = .ok (.invokestatic 282, 3) := by decide +kernel
theorem dX11_keepText_201 : decode cX11_keepText 201 = .ok (.aload_n 0, 1) := by decide +kernel
theorem dX11_keepText_202 : decode cX11_keepText 202 = .ok (.getfield 75, 3) := by decide +kernel
theorem dX11_keepText_205 : decode cX11_keepText 205 = .ok (.iconst 3, 1) := by decide +kernel
theorem dX11_keepText_206 : decode cX11_keepText 206 = .ok (.invokestatic 282, 3) := by decide +kernel
theorem dX11_keepText_209 : decode cX11_keepText 209 = .ok (.aload_n 0, 1) := by decide +kernel
theorem dX11_keepText_210 : decode cX11_keepText 210 = .ok (.getfield 78, 3) := by decide +kernel
theorem dX11_keepText_213 : decode cX11_keepText 213 = .ok (.bipush 64, 2) := by decide +kernel
theorem dX11_keepText_215 : decode cX11_keepText 215 = .ok (.invokestatic 282, 3) := by decide +kernel
theorem dX11_keepText_218 : decode cX11_keepText 218 = .ok (.aload_n 0, 1) := by decide +kernel
theorem dX11_keepText_219 : decode cX11_keepText 219 = .ok (.getfield 81, 3) := by decide +kernel
theorem dX11_keepText_222 : decode cX11_keepText 222 = .ok (.bipush 64, 2) := by decide +kernel
theorem dX11_keepText_224 : decode cX11_keepText 224 = .ok (.invokestatic 282, 3) := by decide +kernel
theorem dX11_keepText_227 : decode cX11_keepText 227 = .ok (.aload_n 0, 1) := by decide +kernel
theorem dX11_keepText_228 : decode cX11_keepText 228 = .ok (.getfield 84, 3) := by decide +kernel
theorem dX11_keepText_231 : decode cX11_keepText 231 = .ok (.bipush 64, 2) := by decide +kernel
theorem dX11_keepText_233 : decode cX11_keepText 233 = .ok (.invokestatic 282, 3) := by decide +kernel
theorem dX11_keepText_236 : decode cX11_keepText 236 = .ok (.aload_n 0, 1) := by decide +kernel
theorem dX11_keepText_237 : decode cX11_keepText 237 = .ok (.invokevirtual 286, 3) := by decide +kernel
theorem dX11_keepText_240 : decode cX11_keepText 240 = .ok (.return_, 1) := by decide +kernel
theorem dX11_find_0 : decode cX11_find 0 = .ok (.iconst 0, 1) := by decide +kernel
theorem dX11_find_1 : decode cX11_find 1 = .ok (.istore 4, 2) := by decide +kernel
theorem dX11_find_3 : decode cX11_find 3 = .ok (.iload 4, 2) := by decide +kernel
theorem dX11_find_5 : decode cX11_find 5 = .ok (.iload_n 2, 1) := by decide +kernel
theorem dX11_find_6 : decode cX11_find 6 = .ok (.if_icmp .ge 22, 3) := by decide +kernel
theorem dX11_find_9 : decode cX11_find 9 = .ok (.aload_n 0, 1) := by decide +kernel
theorem dX11_find_10 : decode cX11_find 10 = .ok (.iload_n 1, 1) := by decide +kernel
theorem dX11_find_11 : decode cX11_find 11 = .ok (.iload 4, 2) := by decide +kernel
theorem dX11_find_13 : decode cX11_find 13 = .ok (.iadd, 1) := by decide +kernel
theorem dX11_find_14 : decode cX11_find 14 = .ok (.iaload, 1) := by decide +kernel
theorem dX11_find_15 : decode cX11_find 15 = .ok (.iload_n 3, 1) := by decide +kernel
theorem dX11_find_16 : decode cX11_find 16 = .ok (.if_icmp .ne 6, 3) := by decide +kernel
theorem dX11_find_19 : decode cX11_find 19 = .ok (.iload 4, 2) := by decide +kernel
theorem dX11_find_21 : decode cX11_find 21 = .ok (.ireturn, 1) := by decide +kernel
theorem dX11_find_22 : decode cX11_find 22 = .ok (.iinc 4 1, 3) := by decide +kernel
theorem dX11_find_25 : decode cX11_find 25 = .ok (.goto (-22), 3) := by decide +kernel
theorem dX11_find_28 : decode cX11_find 28 = .ok (.iconst (-1), 1) := by decide +kernel
theorem dX11_find_29 : decode cX11_find 29 = .ok (.ireturn, 1) := by decide +kernel
theorem dX11_personRead_0 : decode cX11_personRead 0 = .ok (.aload_n 0, 1) := by decide +kernel
theorem dX11_personRead_1 : decode cX11_personRead 1 = .ok (.getfield 211, 3) := by decide +kernel
theorem dX11_personRead_4 : decode cX11_personRead 4 = .ok (.iconst 2, 1) := by decide +kernel
theorem dX11_personRead_5 : decode cX11_personRead 5 = .ok (.if_icmp .eq 9, 3) := by decide +kernel
theorem dX11_personRead_8 : decode cX11_personRead 8 = .ok (.aload_n 0, 1) := by decide +kernel
theorem dX11_personRead_9 : decode cX11_personRead 9 = .ok (.iconst 1, 1) := by decide +kernel
theorem dX11_personRead_10 : decode cX11_personRead 10 = .ok (.invokevirtual 235, 3) := by decide +kernel
theorem dX11_personRead_13 : decode cX11_personRead 13 = .ok (.ireturn, 1) := by decide +kernel
theorem dX11_personRead_14 : decode cX11_personRead 14 = .ok (.aload_n 0, 1) := by decide +kernel
theorem dX11_personRead_15 : decode cX11_personRead 15 = .ok (.getfield 27, 3) := by decide +kernel
theorem dX11_personRead_18 : decode cX11_personRead 18 = .ok (.bipush 6, 2) := by decide +kernel
theorem dX11_personRead_20 : decode cX11_personRead 20 = .ok (.aload_n 0, 1) := by decide +kernel
theorem dX11_personRead_21 : decode cX11_personRead 21 = .ok (.getfield 255, 3) := by decide +kernel
theorem dX11_personRead_24 : decode cX11_personRead 24 = .ok (.aload_n 0, 1) := by decide +kernel
theorem dX11_personRead_25 : decode cX11_personRead 25 = .ok (.getfield 222, 3) := by decide +kernel
theorem dX11_personRead_28 : decode cX11_personRead 28 = .ok (.invokestatic 289, 3) := by decide +kernel
theorem dX11_personRead_31 : decode cX11_personRead 31 = .ok (.istore_n 1, 1) := by decide +kernel
theorem dX11_personRead_32 : decode cX11_personRead 32 = .ok (.iload_n 1, 1) := by decide +kernel
theorem dX11_personRead_33 : decode cX11_personRead 33 = .ok (.ifCond .ge 9, 3) := by decide +kernel
theorem dX11_personRead_36 : decode cX11_personRead 36 = .ok (.aload_n 0, 1) := by decide +kernel
theorem dX11_personRead_37 : decode cX11_personRead 37 = .ok (.iconst 4, 1) := by decide +kernel
theorem dX11_personRead_38 : decode cX11_personRead 38 = .ok (.invokevirtual 235, 3) := by decide +kernel
theorem dX11_personRead_41 : decode cX11_personRead 41 = .ok (.ireturn, 1) := by decide +kernel
theorem dX11_personRead_42 : decode cX11_personRead 42 = .ok (.aload_n 0, 1) := by decide +kernel
theorem dX11_personRead_43 : decode cX11_personRead 43 = .ok (.invokevirtual 245, 3) := by decide +kernel
theorem dX11_personRead_46 : decode cX11_personRead 46 = .ok (.aload_n 0, 1) := by decide +kernel
theorem dX11_personRead_47 : decode cX11_personRead 47 = .ok (.iload_n 1, 1) := by decide +kernel
theorem dX11_personRead_48 : decode cX11_personRead 48 = .ok (.putfield 242, 3) := by decide +kernel
theorem dX11_personRead_51 : decode cX11_personRead 51 = .ok (.iconst 1, 1) := by decide +kernel
theorem dX11_personRead_52 : decode cX11_personRead 52 = .ok (.ireturn, 1) := by decide +kernel
theorem dX11_personLine_0 : decode cX11_personLine 0 = .ok (.aload_n 0, 1) := by decide +kernel
theorem dX11_personLine_1 : decode cX11_personLine 1 = .ok (.getfield 255, 3) := by decide +kernel
theorem dX11_personLine_4 : decode cX11_personLine 4 = .ok (.bipush 6, 2) := by decide +kernel
theorem dX11_personLine_6 : decode cX11_personLine 6 = .ok (.if_icmp .ne 9, 3) := by decide +kernel
theorem dX11_personLine_9 : decode cX11_personLine 9 = .ok (.aload_n 0, 1) := by decide +kernel
theorem dX11_personLine_10 : decode cX11_personLine 10 = .ok (.iconst 2, 1) := by decide +kernel
theorem dX11_personLine_11 : decode cX11_personLine 11 = .ok (.invokevirtual 235, 3) := by decide +kernel
theorem dX11_personLine_14 : decode cX11_personLine 14 = .ok (.ireturn, 1) := by decide +kernel
theorem dX11_personLine_15 : decode cX11_personLine 15 = .ok (.aload_n 0, 1) := by decide +kernel
theorem dX11_personLine_16 : decode cX11_personLine 16 = .ok (.invokevirtual 245, 3) := by decide +kernel
theorem dX11_personLine_19 : decode cX11_personLine 19 = .ok (.aload_n 0, 1) := by decide +kernel
theorem dX11_personLine_20 : decode cX11_personLine 20 = .ok (.getfield 211, 3) := by decide +kernel
theorem dX11_personLine_23 : decode cX11_personLine 23 = .ok (.iconst 2, 1) := by decide +kernel
theorem dX11_personLine_24 : decode cX11_personLine 24 = .ok (.if_icmp .eq 9, 3) := by decide +kernel
theorem dX11_personLine_27 : decode cX11_personLine 27 = .ok (.aload_n 0, 1) := by decide +kernel
theorem dX11_personLine_28 : decode cX11_personLine 28 = .ok (.iconst 1, 1) := by decide +kernel
theorem dX11_personLine_29 : decode cX11_personLine 29 = .ok (.invokevirtual 235, 3) := by decide +kernel
theorem dX11_personLine_32 : decode cX11_personLine 32 = .ok (.ireturn, 1) := by decide +kernel
theorem dX11_personLine_33 : decode cX11_personLine 33 = .ok (.aload_n 0, 1) := by decide +kernel
theorem dX11_personLine_34 : decode cX11_personLine 34 = .ok (.getfield 27, 3) := by decide +kernel
theorem dX11_personLine_37 : decode cX11_personLine 37 = .ok (.bipush 6, 2) := by decide +kernel
theorem dX11_personLine_39 : decode cX11_personLine 39 = .ok (.aload_n 0, 1) := by decide +kernel
theorem dX11_personLine_40 : decode cX11_personLine 40 = .ok (.getfield 255, 3) := by decide +kernel
theorem dX11_personLine_43 : decode cX11_personLine 43 = .ok (.aload_n 0, 1) := by decide +kernel
theorem dX11_personLine_44 : decode cX11_personLine 44 = .ok (.getfield 222, 3) := by decide +kernel
theorem dX11_personLine_47 : decode cX11_personLine 47 = .ok (.invokestatic 289, 3) := by decide +kernel
theorem dX11_personLine_50 : decode cX11_personLine 50 = .ok (.ifCond .lt 9, 3) := by decide +kernel
theorem dX11_personLine_53 : decode cX11_personLine 53 = .ok (.aload_n 0, 1) := by decide +kernel
theorem dX11_personLine_54 : decode cX11_personLine 54 = .ok (.iconst 3, 1) := by decide +kernel
theorem dX11_personLine_55 : decode cX11_personLine 55 = .ok (.invokevirtual 235, 3) := by decide +kernel
theorem dX11_personLine_58 : decode cX11_personLine 58 = .ok (.ireturn, 1) := by decide +kernel
theorem dX11_personLine_59 : decode cX11_personLine 59 = .ok (.bipush 6, 2) := by decide +kernel
theorem dX11_personLine_61 : decode cX11_personLine 61 = .ok (.aload_n 0, 1) := by decide +kernel
theorem dX11_personLine_62 : decode cX11_personLine 62 = .ok (.getfield 255, 3) := by decide +kernel
theorem dX11_personLine_65 : decode cX11_personLine 65 = .ok (.iadd, 1) := by decide +kernel
theorem dX11_personLine_66 : decode cX11_personLine 66 = .ok (.istore_n 1, 1) := by decide +kernel
theorem dX11_personLine_67 : decode cX11_personLine 67 = .ok (.aload_n 0, 1) := by decide +kernel
theorem dX11_personLine_68 : decode cX11_personLine 68 = .ok (.getfield 27, 3) := by decide +kernel
theorem dX11_personLine_71 : decode cX11_personLine 71 = .ok (.iload_n 1, 1) := by decide +kernel
theorem dX11_personLine_72 : decode cX11_personLine 72 = .ok (.aload_n 0, 1) := by decide +kernel
theorem dX11_personLine_73 : decode cX11_personLine 73 = .ok (.getfield 222, 3) := by decide +kernel
theorem dX11_personLine_76 : decode cX11_personLine 76 = .ok (.iastore, 1) := by decide +kernel
theorem dX11_personLine_77 : decode cX11_personLine 77 = .ok (.aload_n 0, 1) := by decide +kernel
theorem dX11_personLine_78 : decode cX11_personLine 78 = .ok (.invokevirtual 245, 3) := by decide +kernel
theorem dX11_personLine_81 : decode cX11_personLine 81 = .ok (.aload_n 0, 1) := by decide +kernel
theorem dX11_personLine_82 : decode cX11_personLine 82 = .ok (.bipush 7, 2) := by decide +kernel
theorem dX11_personLine_84 : decode cX11_personLine 84 = .ok (.invokevirtual 293, 3) := by decide +kernel
theorem dX11_personLine_87 : decode cX11_personLine 87 = .ok (.ifCond .ne 18, 3) := by decide +kernel
theorem dX11_personLine_90 : decode cX11_personLine 90 = .ok (.aload_n 0, 1) := by decide +kernel
theorem dX11_personLine_91 : decode cX11_personLine 91 = .ok (.bipush 8, 2) := by decide +kernel
theorem dX11_personLine_93 : decode cX11_personLine 93 = .ok (.invokevirtual 293, 3) := by decide +kernel
theorem dX11_personLine_96 : decode cX11_personLine 96 = .ok (.ifCond .ne 9, 3) := by decide +kernel
theorem dX11_personLine_99 : decode cX11_personLine 99 = .ok (.aload_n 0, 1) := by decide +kernel
theorem dX11_personLine_100 : decode cX11_personLine 100 = .ok (.iconst 1, 1) := by decide +kernel
theorem dX11_personLine_101 : decode cX11_personLine 101 = .ok (.invokevirtual 235, 3) := by decide +kernel
theorem dX11_personLine_104 : decode cX11_personLine 104 = .ok (.ireturn, 1) := by decide +kernel
theorem dX11_personLine_105 : decode cX11_personLine 105 = .ok (.aload_n 0, 1) := by decide +kernel
theorem dX11_personLine_106 : decode cX11_personLine 106 = .ok (.getfield 30, 3) := by decide +kernel
theorem dX11_personLine_109 : decode cX11_personLine 109 = .ok (.iload_n 1, 1) := by decide +kernel
theorem dX11_personLine_110 : decode cX11_personLine 110 = .ok (.aload_n 0, 1) := by decide +kernel
theorem dX11_personLine_111 : decode cX11_personLine 111 = .ok (.getfield 222, 3) := by decide +kernel
theorem dX11_personLine_114 : decode cX11_personLine 114 = .ok (.bipush 7, 2) := by decide +kernel
theorem dX11_personLine_116 : decode cX11_personLine 116 = .ok (.isub, 1) := by decide +kernel
theorem dX11_personLine_117 : decode cX11_personLine 117 = .ok (.iastore, 1) := by decide +kernel
theorem dX11_personLine_118 : decode cX11_personLine 118 = .ok (.aload_n 0, 1) := by decide +kernel
theorem dX11_personLine_119 : decode cX11_personLine 119 = .ok (.invokevirtual 245, 3) := by decide +kernel
theorem dX11_personLine_122 : decode cX11_personLine 122 = .ok (.aload_n 0, 1) := by decide +kernel
theorem dX11_personLine_123 : decode cX11_personLine 123 = .ok (.iconst 0, 1) := by decide +kernel
theorem dX11_personLine_124 : decode cX11_personLine 124 = .ok (.sipush 999, 3) := by decide +kernel
theorem dX11_personLine_127 : decode cX11_personLine 127 = .ok (.invokevirtual 251, 3) := by decide +kernel
theorem dX11_personLine_130 : decode cX11_personLine 130 = .ok (.ifCond .ne 5, 3) := by decide +kernel
theorem dX11_personLine_133 : decode cX11_personLine 133 = .ok (.iconst 0, 1) := by decide +kernel
theorem dX11_personLine_134 : decode cX11_personLine 134 = .ok (.ireturn, 1) := by decide +kernel
theorem dX11_personLine_135 : decode cX11_personLine 135 = .ok (.aload_n 0, 1) := by decide +kernel
theorem dX11_personLine_136 : decode cX11_personLine 136 = .ok (.getfield 33, 3) := by decide +kernel
theorem dX11_personLine_139 : decode cX11_personLine 139 = .ok (.iload_n 1, 1) := by decide +kernel
theorem dX11_personLine_140 : decode cX11_personLine 140 = .ok (.aload_n 0, 1) := by decide +kernel
theorem dX11_personLine_141 : decode cX11_personLine 141 = .ok (.getfield 242, 3) := by decide +kernel
theorem dX11_personLine_144 : decode cX11_personLine 144 = .ok (.iastore, 1) := by decide +kernel
theorem dX11_personLine_145 : decode cX11_personLine 145 = .ok (.aload_n 0, 1) := by decide +kernel
theorem dX11_personLine_146 : decode cX11_personLine 146 = .ok (.iconst 1, 1) := by decide +kernel
theorem dX11_personLine_147 : decode cX11_personLine 147 = .ok (.bipush 99, 2) := by decide +kernel
theorem dX11_personLine_149 : decode cX11_personLine 149 = .ok (.invokevirtual 251, 3) := by decide +kernel
theorem dX11_personLine_152 : decode cX11_personLine 152 = .ok (.ifCond .ne 5, 3) := by decide +kernel
theorem dX11_personLine_155 : decode cX11_personLine 155 = .ok (.iconst 0, 1) := by decide +kernel
theorem dX11_personLine_156 : decode cX11_personLine 156 = .ok (.ireturn, 1) := by decide +kernel
theorem dX11_personLine_157 : decode cX11_personLine 157 = .ok (.aload_n 0, 1) := by decide +kernel
theorem dX11_personLine_158 : decode cX11_personLine 158 = .ok (.getfield 36, 3) := by decide +kernel
theorem dX11_personLine_161 : decode cX11_personLine 161 = .ok (.iload_n 1, 1) := by decide +kernel
theorem dX11_personLine_162 : decode cX11_personLine 162 = .ok (.aload_n 0, 1) := by decide +kernel
theorem dX11_personLine_163 : decode cX11_personLine 163 = .ok (.getfield 242, 3) := by decide +kernel
theorem dX11_personLine_166 : decode cX11_personLine 166 = .ok (.iastore, 1) := by decide +kernel
theorem dX11_personLine_167 : decode cX11_personLine 167 = .ok (.aload_n 0, 1) := by decide +kernel
theorem dX11_personLine_168 : decode cX11_personLine 168 = .ok (.dup, 1) := by decide +kernel
theorem dX11_personLine_169 : decode cX11_personLine 169 = .ok (.getfield 255, 3) := by decide +kernel
theorem dX11_personLine_172 : decode cX11_personLine 172 = .ok (.iconst 1, 1) := by decide +kernel
theorem dX11_personLine_173 : decode cX11_personLine 173 = .ok (.iadd, 1) := by decide +kernel
theorem dX11_personLine_174 : decode cX11_personLine 174 = .ok (.putfield 255, 3) := by decide +kernel
theorem dX11_personLine_177 : decode cX11_personLine 177 = .ok (.iconst 1, 1) := by decide +kernel
theorem dX11_personLine_178 : decode cX11_personLine 178 = .ok (.ireturn, 1) := by decide +kernel
theorem dX11_debtLine_0 : decode cX11_debtLine 0 = .ok (.aload_n 0, 1) := by decide +kernel
theorem dX11_debtLine_1 : decode cX11_debtLine 1 = .ok (.getfield 258, 3) := by decide +kernel
theorem dX11_debtLine_4 : decode cX11_debtLine 4 = .ok (.bipush 10, 2) := by decide +kernel
theorem dX11_debtLine_6 : decode cX11_debtLine 6 = .ok (.if_icmp .ne 9, 3) := by decide +kernel
theorem dX11_debtLine_9 : decode cX11_debtLine 9 = .ok (.aload_n 0, 1) := by decide +kernel
theorem dX11_debtLine_10 : decode cX11_debtLine 10 = .ok (.iconst 2, 1) := by decide +kernel
theorem dX11_debtLine_11 : decode cX11_debtLine 11 = .ok (.invokevirtual 235, 3) := by decide +kernel
theorem dX11_debtLine_14 : decode cX11_debtLine 14 = .ok (.ireturn, 1) := by decide +kernel
theorem dX11_debtLine_15 : decode cX11_debtLine 15 = .ok (.aload_n 0, 1) := by decide +kernel
theorem dX11_debtLine_16 : decode cX11_debtLine 16 = .ok (.invokevirtual 245, 3) := by decide +kernel
theorem dX11_debtLine_19 : decode cX11_debtLine 19 = .ok (.bipush 10, 2) := by decide +kernel
theorem dX11_debtLine_21 : decode cX11_debtLine 21 = .ok (.aload_n 0, 1) := by decide +kernel
theorem dX11_debtLine_22 : decode cX11_debtLine 22 = .ok (.getfield 258, 3) := by decide +kernel
theorem dX11_debtLine_25 : decode cX11_debtLine 25 = .ok (.iadd, 1) := by decide +kernel
theorem dX11_debtLine_26 : decode cX11_debtLine 26 = .ok (.istore_n 1, 1) := by decide +kernel
theorem dX11_debtLine_27 : decode cX11_debtLine 27 = .ok (.aload_n 0, 1) := by decide +kernel
theorem dX11_debtLine_28 : decode cX11_debtLine 28 = .ok (.invokevirtual 296, 3) := by decide +kernel
theorem dX11_debtLine_31 : decode cX11_debtLine 31 = .ok (.ifCond .ne 5, 3) := by decide +kernel
theorem dX11_debtLine_34 : decode cX11_debtLine 34 = .ok (.iconst 0, 1) := by decide +kernel
theorem dX11_debtLine_35 : decode cX11_debtLine 35 = .ok (.ireturn, 1) := by decide +kernel
theorem dX11_debtLine_36 : decode cX11_debtLine 36 = .ok (.aload_n 0, 1) := by decide +kernel
theorem dX11_debtLine_37 : decode cX11_debtLine 37 = .ok (.getfield 39, 3) := by decide +kernel
theorem dX11_debtLine_40 : decode cX11_debtLine 40 = .ok (.iload_n 1, 1) := by decide +kernel
theorem dX11_debtLine_41 : decode cX11_debtLine 41 = .ok (.aload_n 0, 1) := by decide +kernel
theorem dX11_debtLine_42 : decode cX11_debtLine 42 = .ok (.getfield 242, 3) := by decide +kernel
theorem dX11_debtLine_45 : decode cX11_debtLine 45 = .ok (.iastore, 1) := by decide +kernel
theorem dX11_debtLine_46 : decode cX11_debtLine 46 = .ok (.aload_n 0, 1) := by decide +kernel
theorem dX11_debtLine_47 : decode cX11_debtLine 47 = .ok (.getfield 202, 3) := by decide +kernel
theorem dX11_debtLine_50 : decode cX11_debtLine 50 = .ok (.istore_n 2, 1) := by decide +kernel
theorem dX11_debtLine_51 : decode cX11_debtLine 51 = .ok (.aload_n 0, 1) := by decide +kernel
theorem dX11_debtLine_52 : decode cX11_debtLine 52 = .ok (.invokevirtual 296, 3) := by decide +kernel
theorem dX11_debtLine_55 : decode cX11_debtLine 55 = .ok (.ifCond .ne 5, 3) := by decide +kernel
theorem dX11_debtLine_58 : decode cX11_debtLine 58 = .ok (.iconst 0, 1) := by decide +kernel
theorem dX11_debtLine_59 : decode cX11_debtLine 59 = .ok (.ireturn, 1) := by decide +kernel
theorem dX11_debtLine_60 : decode cX11_debtLine 60 = .ok (.aload_n 0, 1) := by decide +kernel
theorem dX11_debtLine_61 : decode cX11_debtLine 61 = .ok (.getfield 42, 3) := by decide +kernel
theorem dX11_debtLine_64 : decode cX11_debtLine 64 = .ok (.iload_n 1, 1) := by decide +kernel
theorem dX11_debtLine_65 : decode cX11_debtLine 65 = .ok (.aload_n 0, 1) := by decide +kernel
theorem dX11_debtLine_66 : decode cX11_debtLine 66 = .ok (.getfield 242, 3) := by decide +kernel
theorem dX11_debtLine_69 : decode cX11_debtLine 69 = .ok (.iastore, 1) := by decide +kernel
theorem dX11_debtLine_70 : decode cX11_debtLine 70 = .ok (.aload_n 0, 1) := by decide +kernel
theorem dX11_debtLine_71 : decode cX11_debtLine 71 = .ok (.getfield 30, 3) := by decide +kernel
theorem dX11_debtLine_74 : decode cX11_debtLine 74 = .ok (.bipush 6, 2) := by decide +kernel
theorem dX11_debtLine_76 : decode cX11_debtLine 76 = .ok (.aload_n 0, 1) := by decide +kernel
theorem dX11_debtLine_77 : decode cX11_debtLine 77 = .ok (.getfield 39, 3) := by decide +kernel
theorem dX11_debtLine_80 : decode cX11_debtLine 80 = .ok (.iload_n 1, 1) := by decide +kernel
theorem dX11_debtLine_81 : decode cX11_debtLine 81 = .ok (.iaload, 1) := by decide +kernel
theorem dX11_debtLine_82 : decode cX11_debtLine 82 = .ok (.iadd, 1) := by decide +kernel
theorem dX11_debtLine_83 : decode cX11_debtLine 83 = .ok (.iaload, 1) := by decide +kernel
theorem dX11_debtLine_84 : decode cX11_debtLine 84 = .ok (.aload_n 0, 1) := by decide +kernel
theorem dX11_debtLine_85 : decode cX11_debtLine 85 = .ok (.getfield 30, 3) := by decide +kernel
theorem dX11_debtLine_88 : decode cX11_debtLine 88 = .ok (.bipush 6, 2) := by decide +kernel
theorem dX11_debtLine_90 : decode cX11_debtLine 90 = .ok (.aload_n 0, 1) := by decide +kernel
theorem dX11_debtLine_91 : decode cX11_debtLine 91 = .ok (.getfield 242, 3) := by decide +kernel
theorem dX11_debtLine_94 : decode cX11_debtLine 94 = .ok (.iadd, 1) := by decide +kernel
theorem dX11_debtLine_95 : decode cX11_debtLine 95 = .ok (.iaload, 1) := by decide +kernel
theorem dX11_debtLine_96 : decode cX11_debtLine 96 = .ok (.if_icmp .ne 14, 3) := by decide +kernel
theorem dX11_debtLine_99 : decode cX11_debtLine 99 = .ok (.aload_n 0, 1) := by decide +kernel
theorem dX11_debtLine_100 : decode cX11_debtLine 100 = .ok (.iload_n 2, 1) := by decide +kernel
theorem dX11_debtLine_101 : decode cX11_debtLine 101 = .ok (.putfield 202, 3) := by decide +kernel
theorem dX11_debtLine_104 : decode cX11_debtLine 104 = .ok (.aload_n 0, 1) := by decide +kernel
theorem dX11_debtLine_105 : decode cX11_debtLine 105 = .ok (.iconst 5, 1) := by decide +kernel
theorem dX11_debtLine_106 : decode cX11_debtLine 106 = .ok (.invokevirtual 235, 3) := by decide +kernel
theorem dX11_debtLine_109 : decode cX11_debtLine 109 = .ok (.ireturn, 1) := by decide +kernel
theorem dX11_debtLine_110 : decode cX11_debtLine 110 = .ok (.aload_n 0, 1) := by decide +kernel
theorem dX11_debtLine_111 : decode cX11_debtLine 111 = .ok (.iconst 1, 1) := by decide +kernel
theorem dX11_debtLine_112 : decode cX11_debtLine 112 = .ok (.sipush 999, 3) := by decide +kernel
theorem dX11_debtLine_115 : decode cX11_debtLine 115 = .ok (.invokevirtual 251, 3) := by decide +kernel
theorem dX11_debtLine_118 : decode cX11_debtLine 118 = .ok (.ifCond .ne 5, 3) := by decide +kernel
theorem dX11_debtLine_121 : decode cX11_debtLine 121 = .ok (.iconst 0, 1) := by decide +kernel
theorem dX11_debtLine_122 : decode cX11_debtLine 122 = .ok (.ireturn, 1) := by decide +kernel
theorem dX11_debtLine_123 : decode cX11_debtLine 123 = .ok (.aload_n 0, 1) := by decide +kernel
theorem dX11_debtLine_124 : decode cX11_debtLine 124 = .ok (.getfield 45, 3) := by decide +kernel
theorem dX11_debtLine_127 : decode cX11_debtLine 127 = .ok (.iload_n 1, 1) := by decide +kernel
theorem dX11_debtLine_128 : decode cX11_debtLine 128 = .ok (.aload_n 0, 1) := by decide +kernel
theorem dX11_debtLine_129 : decode cX11_debtLine 129 = .ok (.getfield 242, 3) := by decide +kernel
theorem dX11_debtLine_132 : decode cX11_debtLine 132 = .ok (.iastore, 1) := by decide +kernel
theorem dX11_debtLine_133 : decode cX11_debtLine 133 = .ok (.aload_n 0, 1) := by decide +kernel
theorem dX11_debtLine_134 : decode cX11_debtLine 134 = .ok (.iconst 0, 1) := by decide +kernel
theorem dX11_debtLine_135 : decode cX11_debtLine 135 = .ok (.bipush 99, 2) := by decide +kernel
theorem dX11_debtLine_137 : decode cX11_debtLine 137 = .ok (.invokevirtual 251, 3) := by decide +kernel
theorem dX11_debtLine_140 : decode cX11_debtLine 140 = .ok (.ifCond .ne 5, 3) := by decide +kernel
theorem dX11_debtLine_143 : decode cX11_debtLine 143 = .ok (.iconst 0, 1) := by decide +kernel
theorem dX11_debtLine_144 : decode cX11_debtLine 144 = .ok (.ireturn, 1) := by decide +kernel
theorem dX11_debtLine_145 : decode cX11_debtLine 145 = .ok (.aload_n 0, 1) := by decide +kernel
theorem dX11_debtLine_146 : decode cX11_debtLine 146 = .ok (.getfield 48, 3) := by decide +kernel
theorem dX11_debtLine_149 : decode cX11_debtLine 149 = .ok (.iload_n 1, 1) := by decide +kernel
theorem dX11_debtLine_150 : decode cX11_debtLine 150 = .ok (.aload_n 0, 1) := by decide +kernel
theorem dX11_debtLine_151 : decode cX11_debtLine 151 = .ok (.getfield 242, 3) := by decide +kernel
theorem dX11_debtLine_154 : decode cX11_debtLine 154 = .ok (.iastore, 1) := by decide +kernel
theorem dX11_debtLine_155 : decode cX11_debtLine 155 = .ok (.aload_n 0, 1) := by decide +kernel
theorem dX11_debtLine_156 : decode cX11_debtLine 156 = .ok (.iconst 0, 1) := by decide +kernel
theorem dX11_debtLine_157 : decode cX11_debtLine 157 = .ok (.bipush 99, 2) := by decide +kernel
theorem dX11_debtLine_159 : decode cX11_debtLine 159 = .ok (.invokevirtual 251, 3) := by decide +kernel
theorem dX11_debtLine_162 : decode cX11_debtLine 162 = .ok (.ifCond .ne 5, 3) := by decide +kernel
theorem dX11_debtLine_165 : decode cX11_debtLine 165 = .ok (.iconst 0, 1) := by decide +kernel
theorem dX11_debtLine_166 : decode cX11_debtLine 166 = .ok (.ireturn, 1) := by decide +kernel
theorem dX11_debtLine_167 : decode cX11_debtLine 167 = .ok (.aload_n 0, 1) := by decide +kernel
theorem dX11_debtLine_168 : decode cX11_debtLine 168 = .ok (.getfield 51, 3) := by decide +kernel
theorem dX11_debtLine_171 : decode cX11_debtLine 171 = .ok (.iload_n 1, 1) := by decide +kernel
theorem dX11_debtLine_172 : decode cX11_debtLine 172 = .ok (.aload_n 0, 1) := by decide +kernel
theorem dX11_debtLine_173 : decode cX11_debtLine 173 = .ok (.getfield 242, 3) := by decide +kernel
theorem dX11_debtLine_176 : decode cX11_debtLine 176 = .ok (.iastore, 1) := by decide +kernel
theorem dX11_debtLine_177 : decode cX11_debtLine 177 = .ok (.aload_n 0, 1) := by decide +kernel
theorem dX11_debtLine_178 : decode cX11_debtLine 178 = .ok (.getfield 54, 3) := by decide +kernel
theorem dX11_debtLine_181 : decode cX11_debtLine 181 = .ok (.iload_n 1, 1) := by decide +kernel
theorem dX11_debtLine_182 : decode cX11_debtLine 182 = .ok (.aload_n 0, 1) := by decide +kernel
theorem dX11_debtLine_183 : decode cX11_debtLine 183 = .ok (.bipush 9, 2) := by decide +kernel
theorem dX11_debtLine_185 : decode cX11_debtLine 185 = .ok (.invokevirtual 293, 3) := by decide +kernel
theorem dX11_debtLine_188 : decode cX11_debtLine 188 = .ok (.ifCond .eq 7, 3) := by decide +kernel
theorem dX11_debtLine_191 : decode cX11_debtLine 191 = .ok (.iconst 1, 1) := by decide +kernel
theorem dX11_debtLine_192 : decode cX11_debtLine 192 = .ok (.goto 4, 3) := by decide +kernel
theorem dX11_debtLine_195 : decode cX11_debtLine 195 = .ok (.iconst 0, 1) := by decide +kernel
theorem dX11_debtLine_196 : decode cX11_debtLine 196 = .ok (.iastore, 1) := by decide +kernel
theorem dX11_debtLine_197 : decode cX11_debtLine 197 = .ok (.aload_n 0, 1) := by decide +kernel
theorem dX11_debtLine_198 : decode cX11_debtLine 198 = .ok (.bipush 9, 2) := by decide +kernel
theorem dX11_debtLine_200 : decode cX11_debtLine 200 = .ok (.invokevirtual 293, 3) := by decide +kernel
theorem dX11_debtLine_203 : decode cX11_debtLine 203 = .ok (.ifCond .eq 7, 3) := by decide +kernel
theorem dX11_debtLine_206 : decode cX11_debtLine 206 = .ok (.aload_n 0, 1) := by decide +kernel
theorem dX11_debtLine_207 : decode cX11_debtLine 207 = .ok (.invokevirtual 245, 3) := by decide +kernel
theorem dX11_debtLine_210 : decode cX11_debtLine 210 = .ok (.aload_n 0, 1) := by decide +kernel
theorem dX11_debtLine_211 : decode cX11_debtLine 211 = .ok (.dup, 1) := by decide +kernel
theorem dX11_debtLine_212 : decode cX11_debtLine 212 = .ok (.getfield 258, 3) := by decide +kernel
theorem dX11_debtLine_215 : decode cX11_debtLine 215 = .ok (.iconst 1, 1) := by decide +kernel
theorem dX11_debtLine_216 : decode cX11_debtLine 216 = .ok (.iadd, 1) := by decide +kernel
theorem dX11_debtLine_217 : decode cX11_debtLine 217 = .ok (.putfield 258, 3) := by decide +kernel
theorem dX11_debtLine_220 : decode cX11_debtLine 220 = .ok (.iconst 1, 1) := by decide +kernel
theorem dX11_debtLine_221 : decode cX11_debtLine 221 = .ok (.ireturn, 1) := by decide +kernel
theorem dX11_twistRead_0 : decode cX11_twistRead 0 = .ok (.aload_n 0, 1) := by decide +kernel
theorem dX11_twistRead_1 : decode cX11_twistRead 1 = .ok (.getfield 211, 3) := by decide +kernel
theorem dX11_twistRead_4 : decode cX11_twistRead 4 = .ok (.iconst 3, 1) := by decide +kernel
theorem dX11_twistRead_5 : decode cX11_twistRead 5 = .ok (.if_icmp .eq 9, 3) := by decide +kernel
theorem dX11_twistRead_8 : decode cX11_twistRead 8 = .ok (.aload_n 0, 1) := by decide +kernel
theorem dX11_twistRead_9 : decode cX11_twistRead 9 = .ok (.iconst 1, 1) := by decide +kernel
theorem dX11_twistRead_10 : decode cX11_twistRead 10 = .ok (.invokevirtual 235, 3) := by decide +kernel
theorem dX11_twistRead_13 : decode cX11_twistRead 13 = .ok (.ireturn, 1) := by decide +kernel
theorem dX11_twistRead_14 : decode cX11_twistRead 14 = .ok (.aload_n 0, 1) := by decide +kernel
theorem dX11_twistRead_15 : decode cX11_twistRead 15 = .ok (.getfield 222, 3) := by decide +kernel
theorem dX11_twistRead_18 : decode cX11_twistRead 18 = .ok (.istore_n 2, 1) := by decide +kernel
theorem dX11_twistRead_19 : decode cX11_twistRead 19 = .ok (.iload_n 2, 1) := by decide +kernel
theorem dX11_twistRead_20 : decode cX11_twistRead 20 = .ok (.aload_n 0, 1) := by decide +kernel
theorem dX11_twistRead_21 : decode cX11_twistRead 21 = .ok (.getfield 258, 3) := by decide +kernel
theorem dX11_twistRead_24 : decode cX11_twistRead 24 = .ok (.if_icmp .lt 9, 3) := by decide +kernel
theorem dX11_twistRead_27 : decode cX11_twistRead 27 = .ok (.aload_n 0, 1) := by decide +kernel
theorem dX11_twistRead_28 : decode cX11_twistRead 28 = .ok (.iconst 4, 1) := by decide +kernel
theorem dX11_twistRead_29 : decode cX11_twistRead 29 = .ok (.invokevirtual 235, 3) := by decide +kernel
theorem dX11_twistRead_32 : decode cX11_twistRead 32 = .ok (.ireturn, 1) := by decide +kernel
theorem dX11_twistRead_33 : decode cX11_twistRead 33 = .ok (.iload_n 2, 1) := by decide +kernel
theorem dX11_twistRead_34 : decode cX11_twistRead 34 = .ok (.iload_n 1, 1) := by decide +kernel
theorem dX11_twistRead_35 : decode cX11_twistRead 35 = .ok (.if_icmp .eq 15, 3) := by decide +kernel
theorem dX11_twistRead_38 : decode cX11_twistRead 38 = .ok (.aload_n 0, 1) := by decide +kernel
theorem dX11_twistRead_39 : decode cX11_twistRead 39 = .ok (.getfield 57, 3) := by decide +kernel
theorem dX11_twistRead_42 : decode cX11_twistRead 42 = .ok (.bipush 10, 2) := by decide +kernel
theorem dX11_twistRead_44 : decode cX11_twistRead 44 = .ok (.iload_n 2, 1) := by decide +kernel
theorem dX11_twistRead_45 : decode cX11_twistRead 45 = .ok (.iadd, 1) := by decide +kernel
theorem dX11_twistRead_46 : decode cX11_twistRead 46 = .ok (.iaload, 1) := by decide +kernel
theorem dX11_twistRead_47 : decode cX11_twistRead 47 = .ok (.ifCond .lt 9, 3) := by decide +kernel
theorem dX11_twistRead_50 : decode cX11_twistRead 50 = .ok (.aload_n 0, 1) := by decide +kernel
theorem dX11_twistRead_51 : decode cX11_twistRead 51 = .ok (.iconst 5, 1) := by decide +kernel
theorem dX11_twistRead_52 : decode cX11_twistRead 52 = .ok (.invokevirtual 235, 3) := by decide +kernel
theorem dX11_twistRead_55 : decode cX11_twistRead 55 = .ok (.ireturn, 1) := by decide +kernel
theorem dX11_twistRead_56 : decode cX11_twistRead 56 = .ok (.aload_n 0, 1) := by decide +kernel
theorem dX11_twistRead_57 : decode cX11_twistRead 57 = .ok (.invokevirtual 245, 3) := by decide +kernel
theorem dX11_twistRead_60 : decode cX11_twistRead 60 = .ok (.aload_n 0, 1) := by decide +kernel
theorem dX11_twistRead_61 : decode cX11_twistRead 61 = .ok (.iload_n 2, 1) := by decide +kernel
theorem dX11_twistRead_62 : decode cX11_twistRead 62 = .ok (.putfield 242, 3) := by decide +kernel
theorem dX11_twistRead_65 : decode cX11_twistRead 65 = .ok (.iconst 1, 1) := by decide +kernel
theorem dX11_twistRead_66 : decode cX11_twistRead 66 = .ok (.ireturn, 1) := by decide +kernel
theorem dX11_twistLine_0 : decode cX11_twistLine 0 = .ok (.aload_n 0, 1) := by decide +kernel
theorem dX11_twistLine_1 : decode cX11_twistLine 1 = .ok (.invokevirtual 245, 3) := by decide +kernel
theorem dX11_twistLine_4 : decode cX11_twistLine 4 = .ok (.aload_n 0, 1) := by decide +kernel
theorem dX11_twistLine_5 : decode cX11_twistLine 5 = .ok (.iconst (-1), 1) := by decide +kernel
theorem dX11_twistLine_6 : decode cX11_twistLine 6 = .ok (.invokevirtual 300, 3) := by decide +kernel
theorem dX11_twistLine_9 : decode cX11_twistLine 9 = .ok (.ifCond .ne 5, 3) := by decide +kernel
theorem dX11_twistLine_12 : decode cX11_twistLine 12 = .ok (.iconst 0, 1) := by decide +kernel
theorem dX11_twistLine_13 : decode cX11_twistLine 13 = .ok (.ireturn, 1) := by decide +kernel
theorem dX11_twistLine_14 : decode cX11_twistLine 14 = .ok (.aload_n 0, 1) := by decide +kernel
theorem dX11_twistLine_15 : decode cX11_twistLine 15 = .ok (.getfield 242, 3) := by decide +kernel
theorem dX11_twistLine_18 : decode cX11_twistLine 18 = .ok (.istore_n 1, 1) := by decide +kernel
theorem dX11_twistLine_19 : decode cX11_twistLine 19 = .ok (.aload_n 0, 1) := by decide +kernel
theorem dX11_twistLine_20 : decode cX11_twistLine 20 = .ok (.iload_n 1, 1) := by decide +kernel
theorem dX11_twistLine_21 : decode cX11_twistLine 21 = .ok (.invokevirtual 300, 3) := by decide +kernel
theorem dX11_twistLine_24 : decode cX11_twistLine 24 = .ok (.ifCond .ne 5, 3) := by decide +kernel
theorem dX11_twistLine_27 : decode cX11_twistLine 27 = .ok (.iconst 0, 1) := by decide +kernel
theorem dX11_twistLine_28 : decode cX11_twistLine 28 = .ok (.ireturn, 1) := by decide +kernel
theorem dX11_twistLine_29 : decode cX11_twistLine 29 = .ok (.aload_n 0, 1) := by decide +kernel
theorem dX11_twistLine_30 : decode cX11_twistLine 30 = .ok (.getfield 57, 3) := by decide +kernel
theorem dX11_twistLine_33 : decode cX11_twistLine 33 = .ok (.bipush 10, 2) := by decide +kernel
theorem dX11_twistLine_35 : decode cX11_twistLine 35 = .ok (.iload_n 1, 1) := by decide +kernel
theorem dX11_twistLine_36 : decode cX11_twistLine 36 = .ok (.iadd, 1) := by decide +kernel
theorem dX11_twistLine_37 : decode cX11_twistLine 37 = .ok (.aload_n 0, 1) := by decide +kernel
theorem dX11_twistLine_38 : decode cX11_twistLine 38 = .ok (.getfield 242, 3) := by decide +kernel
theorem dX11_twistLine_41 : decode cX11_twistLine 41 = .ok (.iastore, 1) := by decide +kernel
theorem dX11_twistLine_42 : decode cX11_twistLine 42 = .ok (.aload_n 0, 1) := by decide +kernel
theorem dX11_twistLine_43 : decode cX11_twistLine 43 = .ok (.getfield 57, 3) := by decide +kernel
theorem dX11_twistLine_46 : decode cX11_twistLine 46 = .ok (.bipush 10, 2) := by decide +kernel
theorem dX11_twistLine_48 : decode cX11_twistLine 48 = .ok (.aload_n 0, 1) := by decide +kernel
theorem dX11_twistLine_49 : decode cX11_twistLine 49 = .ok (.getfield 242, 3) := by decide +kernel
theorem dX11_twistLine_52 : decode cX11_twistLine 52 = .ok (.iadd, 1) := by decide +kernel
theorem dX11_twistLine_53 : decode cX11_twistLine 53 = .ok (.iload_n 1, 1) := by decide +kernel
theorem dX11_twistLine_54 : decode cX11_twistLine 54 = .ok (.iastore, 1) := by decide +kernel
theorem dX11_twistLine_55 : decode cX11_twistLine 55 = .ok (.iconst 1, 1) := by decide +kernel
theorem dX11_twistLine_56 : decode cX11_twistLine 56 = .ok (.ireturn, 1) := by decide +kernel
theorem dX11_crossLine_0 : decode cX11_crossLine 0 = .ok (.aload_n 0, 1) := by decide +kernel
theorem dX11_crossLine_1 : decode cX11_crossLine 1 = .ok (.getfield 261, 3) := by decide +kernel
theorem dX11_crossLine_4 : decode cX11_crossLine 4 = .ok (.bipush 8, 2) := by decide +kernel
theorem dX11_crossLine_6 : decode cX11_crossLine 6 = .ok (.if_icmp .ne 9, 3) := by decide +kernel
theorem dX11_crossLine_9 : decode cX11_crossLine 9 = .ok (.aload_n 0, 1) := by decide +kernel
theorem dX11_crossLine_10 : decode cX11_crossLine 10 = .ok (.iconst 2, 1) := by decide +kernel
theorem dX11_crossLine_11 : decode cX11_crossLine 11 = .ok (.invokevirtual 235, 3) := by decide +kernel
theorem dX11_crossLine_14 : decode cX11_crossLine 14 = .ok (.ireturn, 1) := by decide +kernel
theorem dX11_crossLine_15 : decode cX11_crossLine 15 = .ok (.aload_n 0, 1) := by decide +kernel
theorem dX11_crossLine_16 : decode cX11_crossLine 16 = .ok (.invokevirtual 245, 3) := by decide +kernel
theorem dX11_crossLine_19 : decode cX11_crossLine 19 = .ok (.bipush 8, 2) := by decide +kernel
theorem dX11_crossLine_21 : decode cX11_crossLine 21 = .ok (.aload_n 0, 1) := by decide +kernel
theorem dX11_crossLine_22 : decode cX11_crossLine 22 = .ok (.getfield 261, 3) := by decide +kernel
theorem dX11_crossLine_25 : decode cX11_crossLine 25 = .ok (.iadd, 1) := by decide +kernel
theorem dX11_crossLine_26 : decode cX11_crossLine 26 = .ok (.istore_n 1, 1) := by decide +kernel
theorem dX11_crossLine_27 : decode cX11_crossLine 27 = .ok (.aload_n 0, 1) := by decide +kernel
theorem dX11_crossLine_28 : decode cX11_crossLine 28 = .ok (.invokevirtual 296, 3) := by decide +kernel
theorem dX11_crossLine_31 : decode cX11_crossLine 31 = .ok (.ifCond .ne 5, 3) := by decide +kernel
theorem dX11_crossLine_34 : decode cX11_crossLine 34 = .ok (.iconst 0, 1) := by decide +kernel
theorem dX11_crossLine_35 : decode cX11_crossLine 35 = .ok (.ireturn, 1) := by decide +kernel
theorem dX11_crossLine_36 : decode cX11_crossLine 36 = .ok (.aload_n 0, 1) := by decide +kernel
theorem dX11_crossLine_37 : decode cX11_crossLine 37 = .ok (.getfield 60, 3) := by decide +kernel
theorem dX11_crossLine_40 : decode cX11_crossLine 40 = .ok (.iload_n 1, 1) := by decide +kernel
theorem dX11_crossLine_41 : decode cX11_crossLine 41 = .ok (.aload_n 0, 1) := by decide +kernel
theorem dX11_crossLine_42 : decode cX11_crossLine 42 = .ok (.getfield 242, 3) := by decide +kernel
theorem dX11_crossLine_45 : decode cX11_crossLine 45 = .ok (.iastore, 1) := by decide +kernel
theorem dX11_crossLine_46 : decode cX11_crossLine 46 = .ok (.aload_n 0, 1) := by decide +kernel
theorem dX11_crossLine_47 : decode cX11_crossLine 47 = .ok (.iconst 0, 1) := by decide +kernel
theorem dX11_crossLine_48 : decode cX11_crossLine 48 = .ok (.bipush 99, 2) := by decide +kernel
theorem dX11_crossLine_50 : decode cX11_crossLine 50 = .ok (.invokevirtual 251, 3) := by decide +kernel
theorem dX11_crossLine_53 : decode cX11_crossLine 53 = .ok (.ifCond .ne 5, 3) := by decide +kernel
theorem dX11_crossLine_56 : decode cX11_crossLine 56 = .ok (.iconst 0, 1) := by decide +kernel
theorem dX11_crossLine_57 : decode cX11_crossLine 57 = .ok (.ireturn, 1) := by decide +kernel
theorem dX11_crossLine_58 : decode cX11_crossLine 58 = .ok (.aload_n 0, 1) := by decide +kernel
theorem dX11_crossLine_59 : decode cX11_crossLine 59 = .ok (.getfield 63, 3) := by decide +kernel
theorem dX11_crossLine_62 : decode cX11_crossLine 62 = .ok (.iload_n 1, 1) := by decide +kernel
theorem dX11_crossLine_63 : decode cX11_crossLine 63 = .ok (.aload_n 0, 1) := by decide +kernel
theorem dX11_crossLine_64 : decode cX11_crossLine 64 = .ok (.getfield 242, 3) := by decide +kernel
theorem dX11_crossLine_67 : decode cX11_crossLine 67 = .ok (.iastore, 1) := by decide +kernel
theorem dX11_crossLine_68 : decode cX11_crossLine 68 = .ok (.aload_n 0, 1) := by decide +kernel
theorem dX11_crossLine_69 : decode cX11_crossLine 69 = .ok (.iconst 0, 1) := by decide +kernel
theorem dX11_crossLine_70 : decode cX11_crossLine 70 = .ok (.bipush 99, 2) := by decide +kernel
theorem dX11_crossLine_72 : decode cX11_crossLine 72 = .ok (.invokevirtual 251, 3) := by decide +kernel
theorem dX11_crossLine_75 : decode cX11_crossLine 75 = .ok (.ifCond .ne 5, 3) := by decide +kernel
theorem dX11_crossLine_78 : decode cX11_crossLine 78 = .ok (.iconst 0, 1) := by decide +kernel
theorem dX11_crossLine_79 : decode cX11_crossLine 79 = .ok (.ireturn, 1) := by decide +kernel
theorem dX11_crossLine_80 : decode cX11_crossLine 80 = .ok (.aload_n 0, 1) := by decide +kernel
theorem dX11_crossLine_81 : decode cX11_crossLine 81 = .ok (.getfield 66, 3) := by decide +kernel
theorem dX11_crossLine_84 : decode cX11_crossLine 84 = .ok (.iload_n 1, 1) := by decide +kernel
theorem dX11_crossLine_85 : decode cX11_crossLine 85 = .ok (.aload_n 0, 1) := by decide +kernel
theorem dX11_crossLine_86 : decode cX11_crossLine 86 = .ok (.getfield 242, 3) := by decide +kernel
theorem dX11_crossLine_89 : decode cX11_crossLine 89 = .ok (.iastore, 1) := by decide +kernel
theorem dX11_crossLine_90 : decode cX11_crossLine 90 = .ok (.aload_n 0, 1) := by decide +kernel
theorem dX11_crossLine_91 : decode cX11_crossLine 91 = .ok (.dup, 1) := by decide +kernel
theorem dX11_crossLine_92 : decode cX11_crossLine 92 = .ok (.getfield 261, 3) := by decide +kernel
theorem dX11_crossLine_95 : decode cX11_crossLine 95 = .ok (.iconst 1, 1) := by decide +kernel
theorem dX11_crossLine_96 : decode cX11_crossLine 96 = .ok (.iadd, 1) := by decide +kernel
theorem dX11_crossLine_97 : decode cX11_crossLine 97 = .ok (.putfield 261, 3) := by decide +kernel
theorem dX11_crossLine_100 : decode cX11_crossLine 100 = .ok (.iconst 1, 1) := by decide +kernel
theorem dX11_crossLine_101 : decode cX11_crossLine 101 = .ok (.ireturn, 1) := by decide +kernel
theorem dX11_onceLine_0 : decode cX11_onceLine 0 = .ok (.aload_n 0, 1) := by decide +kernel
theorem dX11_onceLine_1 : decode cX11_onceLine 1 = .ok (.getfield 20, 3) := by decide +kernel
theorem dX11_onceLine_4 : decode cX11_onceLine 4 = .ok (.iload_n 1, 1) := by decide +kernel
theorem dX11_onceLine_5 : decode cX11_onceLine 5 = .ok (.baload, 1) := by decide +kernel
theorem dX11_onceLine_6 : decode cX11_onceLine 6 = .ok (.ifCond .eq 9, 3) := by decide +kernel
theorem dX11_onceLine_9 : decode cX11_onceLine 9 = .ok (.aload_n 0, 1) := by decide +kernel
theorem dX11_onceLine_10 : decode cX11_onceLine 10 = .ok (.iconst 3, 1) := by decide +kernel
theorem dX11_onceLine_11 : decode cX11_onceLine 11 = .ok (.invokevirtual 235, 3) := by decide +kernel
theorem dX11_onceLine_14 : decode cX11_onceLine 14 = .ok (.ireturn, 1) := by decide +kernel
theorem dX11_onceLine_15 : decode cX11_onceLine 15 = .ok (.aload_n 0, 1) := by decide +kernel
theorem dX11_onceLine_16 : decode cX11_onceLine 16 = .ok (.getfield 20, 3) := by decide +kernel
theorem dX11_onceLine_19 : decode cX11_onceLine 19 = .ok (.iload_n 1, 1) := by decide +kernel
theorem dX11_onceLine_20 : decode cX11_onceLine 20 = .ok (.iconst 1, 1) := by decide +kernel
theorem dX11_onceLine_21 : decode cX11_onceLine 21 = .ok (.bastore, 1) := by decide +kernel
theorem dX11_onceLine_22 : decode cX11_onceLine 22 = .ok (.aload_n 0, 1) := by decide +kernel
theorem dX11_onceLine_23 : decode cX11_onceLine 23 = .ok (.invokevirtual 245, 3) := by decide +kernel
theorem dX11_onceLine_26 : decode cX11_onceLine 26 = .ok (.aload_n 0, 1) := by decide +kernel
theorem dX11_onceLine_27 : decode cX11_onceLine 27 = .ok (.iconst 0, 1) := by decide +kernel
theorem dX11_onceLine_28 : decode cX11_onceLine 28 = .ok (.iload_n 2, 1) := by decide +kernel
theorem dX11_onceLine_29 : decode cX11_onceLine 29 = .ok (.invokevirtual 251, 3) := by decide +kernel
theorem dX11_onceLine_32 : decode cX11_onceLine 32 = .ok (.ifCond .ne 5, 3) := by decide +kernel
theorem dX11_onceLine_35 : decode cX11_onceLine 35 = .ok (.iconst 0, 1) := by decide +kernel
theorem dX11_onceLine_36 : decode cX11_onceLine 36 = .ok (.ireturn, 1) := by decide +kernel
theorem dX11_onceLine_37 : decode cX11_onceLine 37 = .ok (.aload_n 0, 1) := by decide +kernel
theorem dX11_onceLine_38 : decode cX11_onceLine 38 = .ok (.getfield 24, 3) := by decide +kernel
theorem dX11_onceLine_41 : decode cX11_onceLine 41 = .ok (.iconst 2, 1) := by decide +kernel
theorem dX11_onceLine_42 : decode cX11_onceLine 42 = .ok (.iload_n 1, 1) := by decide +kernel
theorem dX11_onceLine_43 : decode cX11_onceLine 43 = .ok (.iadd, 1) := by decide +kernel
theorem dX11_onceLine_44 : decode cX11_onceLine 44 = .ok (.aload_n 0, 1) := by decide +kernel
theorem dX11_onceLine_45 : decode cX11_onceLine 45 = .ok (.getfield 242, 3) := by decide +kernel
theorem dX11_onceLine_48 : decode cX11_onceLine 48 = .ok (.iastore, 1) := by decide +kernel
theorem dX11_onceLine_49 : decode cX11_onceLine 49 = .ok (.iconst 1, 1) := by decide +kernel
theorem dX11_onceLine_50 : decode cX11_onceLine 50 = .ok (.ireturn, 1) := by decide +kernel
theorem dX11_lineRead_0 : decode cX11_lineRead 0 = .ok (.aload_n 0, 1) := by decide +kernel
theorem dX11_lineRead_1 : decode cX11_lineRead 1 = .ok (.getfield 211, 3) := by decide +kernel
theorem dX11_lineRead_4 : decode cX11_lineRead 4 = .ok (.iconst 1, 1) := by decide +kernel
theorem dX11_lineRead_5 : decode cX11_lineRead 5 = .ok (.if_icmp .ne 12, 3) := by decide +kernel
theorem dX11_lineRead_8 : decode cX11_lineRead 8 = .ok (.aload_n 0, 1) := by decide +kernel
theorem dX11_lineRead_9 : decode cX11_lineRead 9 = .ok (.getfield 222, 3) := by decide +kernel
theorem dX11_lineRead_12 : decode cX11_lineRead 12 = .ok (.bipush 6, 2) := by decide +kernel
theorem dX11_lineRead_14 : decode cX11_lineRead 14 = .ok (.if_icmp .le 9, 3) := by decide +kernel
theorem dX11_lineRead_17 : decode cX11_lineRead 17 = .ok (.aload_n 0, 1) := by decide +kernel
theorem dX11_lineRead_18 : decode cX11_lineRead 18 = .ok (.iconst 1, 1) := by decide +kernel
theorem dX11_lineRead_19 : decode cX11_lineRead 19 = .ok (.invokevirtual 235, 3) := by decide +kernel
theorem dX11_lineRead_22 : decode cX11_lineRead 22 = .ok (.ireturn, 1) := by decide +kernel
theorem dX11_lineRead_23 : decode cX11_lineRead 23 = .ok (.aload_n 0, 1) := by decide +kernel
theorem dX11_lineRead_24 : decode cX11_lineRead 24 = .ok (.getfield 222, 3) := by decide +kernel
theorem dX11_lineRead_27 : decode cX11_lineRead 27 = .ok (.tableswitch 92 0 5 #[37, 45, 53, 61, 69, 81], 37) := by decide +kernel
theorem dX11_lineRead_64 : decode cX11_lineRead 64 = .ok (.aload_n 0, 1) := by decide +kernel
theorem dX11_lineRead_65 : decode cX11_lineRead 65 = .ok (.invokevirtual 303, 3) := by decide +kernel
theorem dX11_lineRead_68 : decode cX11_lineRead 68 = .ok (.istore_n 1, 1) := by decide +kernel
theorem dX11_lineRead_69 : decode cX11_lineRead 69 = .ok (.goto 147, 3) := by decide +kernel
theorem dX11_lineRead_72 : decode cX11_lineRead 72 = .ok (.aload_n 0, 1) := by decide +kernel
theorem dX11_lineRead_73 : decode cX11_lineRead 73 = .ok (.invokevirtual 306, 3) := by decide +kernel
theorem dX11_lineRead_76 : decode cX11_lineRead 76 = .ok (.istore_n 1, 1) := by decide +kernel
theorem dX11_lineRead_77 : decode cX11_lineRead 77 = .ok (.goto 139, 3) := by decide +kernel
theorem dX11_lineRead_80 : decode cX11_lineRead 80 = .ok (.aload_n 0, 1) := by decide +kernel
theorem dX11_lineRead_81 : decode cX11_lineRead 81 = .ok (.invokevirtual 309, 3) := by decide +kernel
theorem dX11_lineRead_84 : decode cX11_lineRead 84 = .ok (.istore_n 1, 1) := by decide +kernel
theorem dX11_lineRead_85 : decode cX11_lineRead 85 = .ok (.goto 131, 3) := by decide +kernel
theorem dX11_lineRead_88 : decode cX11_lineRead 88 = .ok (.aload_n 0, 1) := by decide +kernel
theorem dX11_lineRead_89 : decode cX11_lineRead 89 = .ok (.invokevirtual 312, 3) := by decide +kernel
theorem dX11_lineRead_92 : decode cX11_lineRead 92 = .ok (.istore_n 1, 1) := by decide +kernel
theorem dX11_lineRead_93 : decode cX11_lineRead 93 = .ok (.goto 123, 3) := by decide +kernel
theorem dX11_lineRead_96 : decode cX11_lineRead 96 = .ok (.aload_n 0, 1) := by decide +kernel
theorem dX11_lineRead_97 : decode cX11_lineRead 97 = .ok (.iconst 0, 1) := by decide +kernel
theorem dX11_lineRead_98 : decode cX11_lineRead 98 = .ok (.sipush 999, 3) := by decide +kernel
theorem dX11_lineRead_101 : decode cX11_lineRead 101 = .ok (.invokevirtual 315, 3) := by decide +kernel
theorem dX11_lineRead_104 : decode cX11_lineRead 104 = .ok (.istore_n 1, 1) := by decide +kernel
theorem dX11_lineRead_105 : decode cX11_lineRead 105 = .ok (.goto 111, 3) := by decide +kernel
theorem dX11_lineRead_108 : decode cX11_lineRead 108 = .ok (.aload_n 0, 1) := by decide +kernel
theorem dX11_lineRead_109 : decode cX11_lineRead 109 = .ok (.iconst 1, 1) := by decide +kernel
theorem dX11_lineRead_110 : decode cX11_lineRead 110 = .ok (.ldc 231, 2) := by decide +kernel
theorem dX11_lineRead_112 : decode cX11_lineRead 112 = .ok (.invokevirtual 315, 3) := by decide +kernel
theorem dX11_lineRead_115 : decode cX11_lineRead 115 = .ok (.istore_n 1, 1) := by decide +kernel
theorem dX11_lineRead_116 : decode cX11_lineRead 116 = .ok (.goto 100, 3) := by decide +kernel
theorem dX11_lineRead_119 : decode cX11_lineRead 119 = .ok (.aload_n 0, 1) := by decide +kernel
theorem dX11_lineRead_120 : decode cX11_lineRead 120 = .ok (.invokevirtual 245, 3) := by decide +kernel
theorem dX11_lineRead_123 : decode cX11_lineRead 123 = .ok (.aload_n 0, 1) := by decide +kernel
theorem dX11_lineRead_124 : decode cX11_lineRead 124 = .ok (.getfield 211, 3) := by decide +kernel
theorem dX11_lineRead_127 : decode cX11_lineRead 127 = .ok (.iconst 1, 1) := by decide +kernel
theorem dX11_lineRead_128 : decode cX11_lineRead 128 = .ok (.if_icmp .ne 21, 3) := by decide +kernel
theorem dX11_lineRead_131 : decode cX11_lineRead 131 = .ok (.aload_n 0, 1) := by decide +kernel
theorem dX11_lineRead_132 : decode cX11_lineRead 132 = .ok (.getfield 222, 3) := by decide +kernel
theorem dX11_lineRead_135 : decode cX11_lineRead 135 = .ok (.bipush 10, 2) := by decide +kernel
theorem dX11_lineRead_137 : decode cX11_lineRead 137 = .ok (.if_icmp .lt 12, 3) := by decide +kernel
theorem dX11_lineRead_140 : decode cX11_lineRead 140 = .ok (.aload_n 0, 1) := by decide +kernel
theorem dX11_lineRead_141 : decode cX11_lineRead 141 = .ok (.getfield 222, 3) := by decide +kernel
theorem dX11_lineRead_144 : decode cX11_lineRead 144 = .ok (.bipush 12, 2) := by decide +kernel
theorem dX11_lineRead_146 : decode cX11_lineRead 146 = .ok (.if_icmp .le 9, 3) := by decide +kernel
theorem dX11_lineRead_149 : decode cX11_lineRead 149 = .ok (.aload_n 0, 1) := by decide +kernel
theorem dX11_lineRead_150 : decode cX11_lineRead 150 = .ok (.iconst 1, 1) := by decide +kernel
theorem dX11_lineRead_151 : decode cX11_lineRead 151 = .ok (.invokevirtual 235, 3) := by decide +kernel
theorem dX11_lineRead_154 : decode cX11_lineRead 154 = .ok (.ireturn, 1) := by decide +kernel
theorem dX11_lineRead_155 : decode cX11_lineRead 155 = .ok (.iconst 3, 1) := by decide +kernel
theorem dX11_lineRead_156 : decode cX11_lineRead 156 = .ok (.aload_n 0, 1) := by decide +kernel
theorem dX11_lineRead_157 : decode cX11_lineRead 157 = .ok (.getfield 222, 3) := by decide +kernel
theorem dX11_lineRead_160 : decode cX11_lineRead 160 = .ok (.iadd, 1) := by decide +kernel
theorem dX11_lineRead_161 : decode cX11_lineRead 161 = .ok (.bipush 10, 2) := by decide +kernel
theorem dX11_lineRead_163 : decode cX11_lineRead 163 = .ok (.isub, 1) := by decide +kernel
theorem dX11_lineRead_164 : decode cX11_lineRead 164 = .ok (.istore_n 2, 1) := by decide +kernel
theorem dX11_lineRead_165 : decode cX11_lineRead 165 = .ok (.aload_n 0, 1) := by decide +kernel
theorem dX11_lineRead_166 : decode cX11_lineRead 166 = .ok (.getfield 69, 3) := by decide +kernel
theorem dX11_lineRead_169 : decode cX11_lineRead 169 = .ok (.iload_n 2, 1) := by decide +kernel
theorem dX11_lineRead_170 : decode cX11_lineRead 170 = .ok (.baload, 1) := by decide +kernel
theorem dX11_lineRead_171 : decode cX11_lineRead 171 = .ok (.ifCond .eq 9, 3) := by decide +kernel
theorem dX11_lineRead_174 : decode cX11_lineRead 174 = .ok (.aload_n 0, 1) := by decide +kernel
theorem dX11_lineRead_175 : decode cX11_lineRead 175 = .ok (.iconst 3, 1) := by decide +kernel
theorem dX11_lineRead_176 : decode cX11_lineRead 176 = .ok (.invokevirtual 235, 3) := by decide +kernel
theorem dX11_lineRead_179 : decode cX11_lineRead 179 = .ok (.ireturn, 1) := by decide +kernel
theorem dX11_lineRead_180 : decode cX11_lineRead 180 = .ok (.aload_n 0, 1) := by decide +kernel
theorem dX11_lineRead_181 : decode cX11_lineRead 181 = .ok (.getfield 69, 3) := by decide +kernel
theorem dX11_lineRead_184 : decode cX11_lineRead 184 = .ok (.iload_n 2, 1) := by decide +kernel
theorem dX11_lineRead_185 : decode cX11_lineRead 185 = .ok (.iconst 1, 1) := by decide +kernel
theorem dX11_lineRead_186 : decode cX11_lineRead 186 = .ok (.bastore, 1) := by decide +kernel
theorem dX11_lineRead_187 : decode cX11_lineRead 187 = .ok (.aload_n 0, 1) := by decide +kernel
theorem dX11_lineRead_188 : decode cX11_lineRead 188 = .ok (.invokevirtual 245, 3) := by decide +kernel
theorem dX11_lineRead_191 : decode cX11_lineRead 191 = .ok (.aload_n 0, 1) := by decide +kernel
theorem dX11_lineRead_192 : decode cX11_lineRead 192 = .ok (.getfield 72, 3) := by decide +kernel
theorem dX11_lineRead_195 : decode cX11_lineRead 195 = .ok (.iload_n 2, 1) := by decide +kernel
theorem dX11_lineRead_196 : decode cX11_lineRead 196 = .ok (.aload_n 0, 1) := by decide +kernel
theorem dX11_lineRead_197 : decode cX11_lineRead 197 = .ok (.getfield 264, 3) := by decide +kernel
theorem dX11_lineRead_200 : decode cX11_lineRead 200 = .ok (.iastore, 1) := by decide +kernel
theorem dX11_lineRead_201 : decode cX11_lineRead 201 = .ok (.aload_n 0, 1) := by decide +kernel
theorem dX11_lineRead_202 : decode cX11_lineRead 202 = .ok (.invokevirtual 318, 3) := by decide +kernel
theorem dX11_lineRead_205 : decode cX11_lineRead 205 = .ok (.istore_n 1, 1) := by decide +kernel
theorem dX11_lineRead_206 : decode cX11_lineRead 206 = .ok (.aload_n 0, 1) := by decide +kernel
theorem dX11_lineRead_207 : decode cX11_lineRead 207 = .ok (.getfield 75, 3) := by decide +kernel
theorem dX11_lineRead_210 : decode cX11_lineRead 210 = .ok (.iload_n 2, 1) := by decide +kernel
theorem dX11_lineRead_211 : decode cX11_lineRead 211 = .ok (.aload_n 0, 1) := by decide +kernel
theorem dX11_lineRead_212 : decode cX11_lineRead 212 = .ok (.getfield 264, 3) := by decide +kernel
theorem dX11_lineRead_215 : decode cX11_lineRead 215 = .ok (.iastore, 1) := by decide +kernel
theorem dX11_lineRead_216 : decode cX11_lineRead 216 = .ok (.iload_n 1, 1) := by decide +kernel
theorem dX11_lineRead_217 : decode cX11_lineRead 217 = .ok (.ifCond .ne 5, 3) := by decide +kernel
theorem dX11_lineRead_220 : decode cX11_lineRead 220 = .ok (.iconst 0, 1) := by decide +kernel
theorem dX11_lineRead_221 : decode cX11_lineRead 221 = .ok (.ireturn, 1) := by decide +kernel
theorem dX11_lineRead_222 : decode cX11_lineRead 222 = .ok (.aload_n 0, 1) := by decide +kernel
theorem dX11_lineRead_223 : decode cX11_lineRead 223 = .ok (.bipush 59, 2) := by decide +kernel
theorem dX11_lineRead_225 : decode cX11_lineRead 225 = .ok (.invokevirtual 248, 3) := by decide +kernel
theorem dX11_lineRead_228 : decode cX11_lineRead 228 = .ok (.ifCond .ne 9, 3) := by decide +kernel
theorem dX11_lineRead_231 : decode cX11_lineRead 231 = .ok (.aload_n 0, 1) := by decide +kernel
theorem dX11_lineRead_232 : decode cX11_lineRead 232 = .ok (.iconst 1, 1) := by decide +kernel
theorem dX11_lineRead_233 : decode cX11_lineRead 233 = .ok (.invokevirtual 235, 3) := by decide +kernel
theorem dX11_lineRead_236 : decode cX11_lineRead 236 = .ok (.ireturn, 1) := by decide +kernel
theorem dX11_lineRead_237 : decode cX11_lineRead 237 = .ok (.aload_n 0, 1) := by decide +kernel
theorem dX11_lineRead_238 : decode cX11_lineRead 238 = .ok (.invokevirtual 245, 3) := by decide +kernel
theorem dX11_lineRead_241 : decode cX11_lineRead 241 = .ok (.iconst 1, 1) := by decide +kernel
theorem dX11_lineRead_242 : decode cX11_lineRead 242 = .ok (.ireturn, 1) := by decide +kernel
theorem dX11_text_0 : decode cX11_text 0 = .ok (.aload_n 0, 1) := by decide +kernel
theorem dX11_text_1 : decode cX11_text 1 = .ok (.iconst 0, 1) := by decide +kernel
theorem dX11_text_2 : decode cX11_text 2 = .ok (.putfield 193, 3) := by decide +kernel
theorem dX11_text_5 : decode cX11_text 5 = .ok (.iload_n 1, 1) := by decide +kernel
theorem dX11_text_6 : decode cX11_text 6 = .ok (.ifCond .lt 11, 3) := by decide +kernel
theorem dX11_text_9 : decode cX11_text 9 = .ok (.iload_n 1, 1) := by decide +kernel
theorem dX11_text_10 : decode cX11_text 10 = .ok (.aload_n 0, 1) := by decide +kernel
theorem dX11_text_11 : decode cX11_text 11 = .ok (.getfield 196, 3) := by decide +kernel
theorem dX11_text_14 : decode cX11_text 14 = .ok (.if_icmp .le 6, 3) := by decide +kernel
theorem dX11_text_17 : decode cX11_text 17 = .ok (.bipush (-2), 2) := by decide +kernel
theorem dX11_text_19 : decode cX11_text 19 = .ok (.ireturn, 1) := by decide +kernel
theorem dX11_text_20 : decode cX11_text 20 = .ok (.aload_n 0, 1) := by decide +kernel
theorem dX11_text_21 : decode cX11_text 21 = .ok (.iload_n 1, 1) := by decide +kernel
theorem dX11_text_22 : decode cX11_text 22 = .ok (.putfield 205, 3) := by decide +kernel
theorem dX11_text_25 : decode cX11_text 25 = .ok (.aload_n 0, 1) := by decide +kernel
theorem dX11_text_26 : decode cX11_text 26 = .ok (.iconst 0, 1) := by decide +kernel
theorem dX11_text_27 : decode cX11_text 27 = .ok (.putfield 196, 3) := by decide +kernel
theorem dX11_text_30 : decode cX11_text 30 = .ok (.aload_n 0, 1) := by decide +kernel
theorem dX11_text_31 : decode cX11_text 31 = .ok (.iconst 0, 1) := by decide +kernel
theorem dX11_text_32 : decode cX11_text 32 = .ok (.putfield 199, 3) := by decide +kernel
theorem dX11_text_35 : decode cX11_text 35 = .ok (.aload_n 0, 1) := by decide +kernel
theorem dX11_text_36 : decode cX11_text 36 = .ok (.iconst (-1), 1) := by decide +kernel
theorem dX11_text_37 : decode cX11_text 37 = .ok (.putfield 16, 3) := by decide +kernel
theorem dX11_text_40 : decode cX11_text 40 = .ok (.aload_n 0, 1) := by decide +kernel
theorem dX11_text_41 : decode cX11_text 41 = .ok (.iconst 0, 1) := by decide +kernel
theorem dX11_text_42 : decode cX11_text 42 = .ok (.putfield 208, 3) := by decide +kernel
theorem dX11_text_45 : decode cX11_text 45 = .ok (.aload_n 0, 1) := by decide +kernel
theorem dX11_text_46 : decode cX11_text 46 = .ok (.invokevirtual 187, 3) := by decide +kernel
theorem dX11_text_49 : decode cX11_text 49 = .ok (.aload_n 0, 1) := by decide +kernel
theorem dX11_text_50 : decode cX11_text 50 = .ok (.invokevirtual 245, 3) := by decide +kernel
theorem dX11_text_53 : decode cX11_text 53 = .ok (.iconst 0, 1) := by decide +kernel
theorem dX11_text_54 : decode cX11_text 54 = .ok (.istore_n 2, 1) := by decide +kernel
theorem dX11_text_55 : decode cX11_text 55 = .ok (.aload_n 0, 1) := by decide +kernel
theorem dX11_text_56 : decode cX11_text 56 = .ok (.getfield 211, 3) := by decide +kernel
theorem dX11_text_59 : decode cX11_text 59 = .ok (.ifCond .eq 18, 3) := by decide +kernel
theorem dX11_text_62 : decode cX11_text 62 = .ok (.aload_n 0, 1) := by decide +kernel
theorem dX11_text_63 : decode cX11_text 63 = .ok (.invokevirtual 321, 3) := by decide +kernel
theorem dX11_text_66 : decode cX11_text 66 = .ok (.ifCond .ne 5, 3) := by decide +kernel
theorem dX11_text_69 : decode cX11_text 69 = .ok (.iconst (-1), 1) := by decide +kernel
theorem dX11_text_70 : decode cX11_text 70 = .ok (.ireturn, 1) := by decide +kernel
theorem dX11_text_71 : decode cX11_text 71 = .ok (.iinc 2 1, 3) := by decide +kernel
theorem dX11_text_74 : decode cX11_text 74 = .ok (.goto (-19), 3) := by decide +kernel
theorem dX11_text_77 : decode cX11_text 77 = .ok (.aload_n 0, 1) := by decide +kernel
theorem dX11_text_78 : decode cX11_text 78 = .ok (.invokevirtual 190, 3) := by decide +kernel
theorem dX11_text_81 : decode cX11_text 81 = .ok (.iload_n 2, 1) := by decide +kernel
theorem dX11_text_82 : decode cX11_text 82 = .ok (.ireturn, 1) := by decide +kernel
theorem dX11_fault_0 : decode cX11_fault 0 = .ok (.aload_n 0, 1) := by decide +kernel
theorem dX11_fault_1 : decode cX11_fault 1 = .ok (.iconst 0, 1) := by decide +kernel
theorem dX11_fault_2 : decode cX11_fault 2 = .ok (.putfield 193, 3) := by decide +kernel
theorem dX11_fault_5 : decode cX11_fault 5 = .ok (.iload_n 1, 1) := by decide +kernel
theorem dX11_fault_6 : decode cX11_fault 6 = .ok (.ifCond .ne 10, 3) := by decide +kernel
theorem dX11_fault_9 : decode cX11_fault 9 = .ok (.aload_n 0, 1) := by decide +kernel
theorem dX11_fault_10 : decode cX11_fault 10 = .ok (.getfield 199, 3) := by decide +kernel
theorem dX11_fault_13 : decode cX11_fault 13 = .ok (.goto 16, 3) := by decide +kernel
theorem dX11_fault_16 : decode cX11_fault 16 = .ok (.iload_n 1, 1) := by decide +kernel
theorem dX11_fault_17 : decode cX11_fault 17 = .ok (.iconst 1, 1) := by decide +kernel
theorem dX11_fault_18 : decode cX11_fault 18 = .ok (.if_icmp .ne 10, 3) := by decide +kernel
theorem dX11_fault_21 : decode cX11_fault 21 = .ok (.aload_n 0, 1) := by decide +kernel
theorem dX11_fault_22 : decode cX11_fault 22 = .ok (.getfield 16, 3) := by decide +kernel
theorem dX11_fault_25 : decode cX11_fault 25 = .ok (.goto 4, 3) := by decide +kernel
theorem dX11_fault_28 : decode cX11_fault 28 = .ok (.iconst (-1), 1) := by decide +kernel
theorem dX11_fault_29 : decode cX11_fault 29 = .ok (.ireturn, 1) := by decide +kernel
theorem dX11_named_0 : decode cX11_named 0 = .ok (.aload_n 0, 1) := by decide +kernel
theorem dX11_named_1 : decode cX11_named 1 = .ok (.iconst 0, 1) := by decide +kernel
theorem dX11_named_2 : decode cX11_named 2 = .ok (.putfield 193, 3) := by decide +kernel
theorem dX11_named_5 : decode cX11_named 5 = .ok (.aload_n 0, 1) := by decide +kernel
theorem dX11_named_6 : decode cX11_named 6 = .ok (.getfield 27, 3) := by decide +kernel
theorem dX11_named_9 : decode cX11_named 9 = .ok (.iconst 0, 1) := by decide +kernel
theorem dX11_named_10 : decode cX11_named 10 = .ok (.aload_n 0, 1) := by decide +kernel
theorem dX11_named_11 : decode cX11_named 11 = .ok (.getfield 270, 3) := by decide +kernel
theorem dX11_named_14 : decode cX11_named 14 = .ok (.iload_n 1, 1) := by decide +kernel
theorem dX11_named_15 : decode cX11_named 15 = .ok (.invokestatic 289, 3) := by decide +kernel
theorem dX11_named_18 : decode cX11_named 18 = .ok (.ireturn, 1) := by decide +kernel
theorem dX11_rank_0 : decode cX11_rank 0 = .ok (.iload_n 0, 1) := by decide +kernel
theorem dX11_rank_1 : decode cX11_rank 1 = .ok (.bipush 13, 2) := by decide +kernel
theorem dX11_rank_3 : decode cX11_rank 3 = .ok (.if_icmp .lt 8, 3) := by decide +kernel
theorem dX11_rank_6 : decode cX11_rank 6 = .ok (.bipush 6, 2) := by decide +kernel
theorem dX11_rank_8 : decode cX11_rank 8 = .ok (.goto 50, 3) := by decide +kernel
theorem dX11_rank_11 : decode cX11_rank 11 = .ok (.iload_n 0, 1) := by decide +kernel
theorem dX11_rank_12 : decode cX11_rank 12 = .ok (.bipush 11, 2) := by decide +kernel
theorem dX11_rank_14 : decode cX11_rank 14 = .ok (.if_icmp .lt 7, 3) := by decide +kernel
theorem dX11_rank_17 : decode cX11_rank 17 = .ok (.iconst 5, 1) := by decide +kernel
theorem dX11_rank_18 : decode cX11_rank 18 = .ok (.goto 40, 3) := by decide +kernel
theorem dX11_rank_21 : decode cX11_rank 21 = .ok (.iload_n 0, 1) := by decide +kernel
theorem dX11_rank_22 : decode cX11_rank 22 = .ok (.iconst 5, 1) := by decide +kernel
theorem dX11_rank_23 : decode cX11_rank 23 = .ok (.if_icmp .lt 7, 3) := by decide +kernel
theorem dX11_rank_26 : decode cX11_rank 26 = .ok (.iconst 4, 1) := by decide +kernel
theorem dX11_rank_27 : decode cX11_rank 27 = .ok (.goto 31, 3) := by decide +kernel
theorem dX11_rank_30 : decode cX11_rank 30 = .ok (.iload_n 0, 1) := by decide +kernel
theorem dX11_rank_31 : decode cX11_rank 31 = .ok (.iconst 2, 1) := by decide +kernel
theorem dX11_rank_32 : decode cX11_rank 32 = .ok (.if_icmp .ne 7, 3) := by decide +kernel
theorem dX11_rank_35 : decode cX11_rank 35 = .ok (.iconst 3, 1) := by decide +kernel
theorem dX11_rank_36 : decode cX11_rank 36 = .ok (.goto 22, 3) := by decide +kernel
theorem dX11_rank_39 : decode cX11_rank 39 = .ok (.iload_n 0, 1) := by decide +kernel
theorem dX11_rank_40 : decode cX11_rank 40 = .ok (.iconst 3, 1) := by decide +kernel
theorem dX11_rank_41 : decode cX11_rank 41 = .ok (.if_icmp .ne 7, 3) := by decide +kernel
theorem dX11_rank_44 : decode cX11_rank 44 = .ok (.iconst 2, 1) := by decide +kernel
theorem dX11_rank_45 : decode cX11_rank 45 = .ok (.goto 13, 3) := by decide +kernel
theorem dX11_rank_48 : decode cX11_rank 48 = .ok (.iload_n 0, 1) := by decide +kernel
theorem dX11_rank_49 : decode cX11_rank 49 = .ok (.iconst 4, 1) := by decide +kernel
theorem dX11_rank_50 : decode cX11_rank 50 = .ok (.if_icmp .ne 7, 3) := by decide +kernel
theorem dX11_rank_53 : decode cX11_rank 53 = .ok (.iconst 1, 1) := by decide +kernel
theorem dX11_rank_54 : decode cX11_rank 54 = .ok (.goto 4, 3) := by decide +kernel
theorem dX11_rank_57 : decode cX11_rank 57 = .ok (.iconst 0, 1) := by decide +kernel
theorem dX11_rank_58 : decode cX11_rank 58 = .ok (.ireturn, 1) := by decide +kernel
theorem dX11_grown_0 : decode cX11_grown 0 = .ok (.aload_n 0, 1) := by decide +kernel
theorem dX11_grown_1 : decode cX11_grown 1 = .ok (.getfield 78, 3) := by decide +kernel
theorem dX11_grown_4 : decode cX11_grown 4 = .ok (.bipush 64, 2) := by decide +kernel
theorem dX11_grown_6 : decode cX11_grown 6 = .ok (.aload_n 0, 1) := by decide +kernel
theorem dX11_grown_7 : decode cX11_grown 7 = .ok (.getfield 264, 3) := by decide +kernel
theorem dX11_grown_10 : decode cX11_grown 10 = .ok (.iadd, 1) := by decide +kernel
theorem dX11_grown_11 : decode cX11_grown 11 = .ok (.iload_n 1, 1) := by decide +kernel
theorem dX11_grown_12 : decode cX11_grown 12 = .ok (.iastore, 1) := by decide +kernel
theorem dX11_grown_13 : decode cX11_grown 13 = .ok (.aload_n 0, 1) := by decide +kernel
theorem dX11_grown_14 : decode cX11_grown 14 = .ok (.getfield 81, 3) := by decide +kernel
theorem dX11_grown_17 : decode cX11_grown 17 = .ok (.bipush 64, 2) := by decide +kernel
theorem dX11_grown_19 : decode cX11_grown 19 = .ok (.aload_n 0, 1) := by decide +kernel
theorem dX11_grown_20 : decode cX11_grown 20 = .ok (.getfield 264, 3) := by decide +kernel
theorem dX11_grown_23 : decode cX11_grown 23 = .ok (.iadd, 1) := by decide +kernel
theorem dX11_grown_24 : decode cX11_grown 24 = .ok (.iload_n 2, 1) := by decide +kernel
theorem dX11_grown_25 : decode cX11_grown 25 = .ok (.iastore, 1) := by decide +kernel
theorem dX11_grown_26 : decode cX11_grown 26 = .ok (.aload_n 0, 1) := by decide +kernel
theorem dX11_grown_27 : decode cX11_grown 27 = .ok (.getfield 84, 3) := by decide +kernel
theorem dX11_grown_30 : decode cX11_grown 30 = .ok (.bipush 64, 2) := by decide +kernel
theorem dX11_grown_32 : decode cX11_grown 32 = .ok (.aload_n 0, 1) := by decide +kernel
theorem dX11_grown_33 : decode cX11_grown 33 = .ok (.getfield 264, 3) := by decide +kernel
theorem dX11_grown_36 : decode cX11_grown 36 = .ok (.iadd, 1) := by decide +kernel
theorem dX11_grown_37 : decode cX11_grown 37 = .ok (.iload_n 3, 1) := by decide +kernel
theorem dX11_grown_38 : decode cX11_grown 38 = .ok (.iastore, 1) := by decide +kernel
theorem dX11_grown_39 : decode cX11_grown 39 = .ok (.aload_n 0, 1) := by decide +kernel
theorem dX11_grown_40 : decode cX11_grown 40 = .ok (.getfield 90, 3) := by decide +kernel
theorem dX11_grown_43 : decode cX11_grown 43 = .ok (.aload_n 0, 1) := by decide +kernel
theorem dX11_grown_44 : decode cX11_grown 44 = .ok (.getfield 324, 3) := by decide +kernel
theorem dX11_grown_47 : decode cX11_grown 47 = .ok (.aload_n 0, 1) := by decide +kernel
theorem dX11_grown_48 : decode cX11_grown 48 = .ok (.getfield 264, 3) := by decide +kernel
theorem dX11_grown_51 : decode cX11_grown 51 = .ok (.iastore, 1) := by decide +kernel
theorem dX11_grown_52 : decode cX11_grown 52 = .ok (.aload_n 0, 1) := by decide +kernel
theorem dX11_grown_53 : decode cX11_grown 53 = .ok (.dup, 1) := by decide +kernel
theorem dX11_grown_54 : decode cX11_grown 54 = .ok (.getfield 324, 3) := by decide +kernel
theorem dX11_grown_57 : decode cX11_grown 57 = .ok (.iconst 1, 1) := by decide +kernel
theorem dX11_grown_58 : decode cX11_grown 58 = .ok (.iadd, 1) := by decide +kernel
theorem dX11_grown_59 : decode cX11_grown 59 = .ok (.putfield 324, 3) := by decide +kernel
theorem dX11_grown_62 : decode cX11_grown 62 = .ok (.aload_n 0, 1) := by decide +kernel
theorem dX11_grown_63 : decode cX11_grown 63 = .ok (.dup, 1) := by decide +kernel
theorem dX11_grown_64 : decode cX11_grown 64 = .ok (.getfield 264, 3) := by decide +kernel
theorem dX11_grown_67 : decode cX11_grown 67 = .ok (.iconst 1, 1) := by decide +kernel
theorem dX11_grown_68 : decode cX11_grown 68 = .ok (.iadd, 1) := by decide +kernel
theorem dX11_grown_69 : decode cX11_grown 69 = .ok (.putfield 264, 3) := by decide +kernel
theorem dX11_grown_72 : decode cX11_grown 72 = .ok (.return_, 1) := by decide +kernel
theorem dX11_dropHeld_0 : decode cX11_dropHeld 0 = .ok (.aload_n 0, 1) := by decide +kernel
theorem dX11_dropHeld_1 : decode cX11_dropHeld 1 = .ok (.dup, 1) := by decide +kernel
theorem dX11_dropHeld_2 : decode cX11_dropHeld 2 = .ok (.getfield 324, 3) := by decide +kernel
theorem dX11_dropHeld_5 : decode cX11_dropHeld 5 = .ok (.iconst 1, 1) := by decide +kernel
theorem dX11_dropHeld_6 : decode cX11_dropHeld 6 = .ok (.isub, 1) := by decide +kernel
theorem dX11_dropHeld_7 : decode cX11_dropHeld 7 = .ok (.putfield 324, 3) := by decide +kernel
theorem dX11_dropHeld_10 : decode cX11_dropHeld 10 = .ok (.aload_n 0, 1) := by decide +kernel
theorem dX11_dropHeld_11 : decode cX11_dropHeld 11 = .ok (.getfield 90, 3) := by decide +kernel
theorem dX11_dropHeld_14 : decode cX11_dropHeld 14 = .ok (.aload_n 0, 1) := by decide +kernel
theorem dX11_dropHeld_15 : decode cX11_dropHeld 15 = .ok (.getfield 324, 3) := by decide +kernel
theorem dX11_dropHeld_18 : decode cX11_dropHeld 18 = .ok (.iaload, 1) := by decide +kernel
theorem dX11_dropHeld_19 : decode cX11_dropHeld 19 = .ok (.ireturn, 1) := by decide +kernel
theorem dX11_bind_0 : decode cX11_bind 0 = .ok (.aload_n 0, 1) := by decide +kernel
theorem dX11_bind_1 : decode cX11_bind 1 = .ok (.getfield 327, 3) := by decide +kernel
theorem dX11_bind_4 : decode cX11_bind 4 = .ok (.ifCond .le 72, 3) := by decide +kernel
theorem dX11_bind_7 : decode cX11_bind 7 = .ok (.aload_n 0, 1) := by decide +kernel
theorem dX11_bind_8 : decode cX11_bind 8 = .ok (.getfield 87, 3) := by decide +kernel
theorem dX11_bind_11 : decode cX11_bind 11 = .ok (.aload_n 0, 1) := by decide +kernel
theorem dX11_bind_12 : decode cX11_bind 12 = .ok (.getfield 327, 3) := by decide +kernel
theorem dX11_bind_15 : decode cX11_bind 15 = .ok (.iconst 1, 1) := by decide +kernel
theorem dX11_bind_16 : decode cX11_bind 16 = .ok (.isub, 1) := by decide +kernel
theorem dX11_bind_17 : decode cX11_bind 17 = .ok (.iaload, 1) := by decide +kernel
theorem dX11_bind_18 : decode cX11_bind 18 = .ok (.invokestatic 330, 3) := by decide +kernel
theorem dX11_bind_21 : decode cX11_bind 21 = .ok (.iload_n 1, 1) := by decide +kernel
theorem dX11_bind_22 : decode cX11_bind 22 = .ok (.if_icmp .lt 54, 3) := by decide +kernel
theorem dX11_bind_25 : decode cX11_bind 25 = .ok (.aload_n 0, 1) := by decide +kernel
theorem dX11_bind_26 : decode cX11_bind 26 = .ok (.dup, 1) := by decide +kernel
theorem dX11_bind_27 : decode cX11_bind 27 = .ok (.getfield 327, 3) := by decide +kernel
theorem dX11_bind_30 : decode cX11_bind 30 = .ok (.iconst 1, 1) := by decide +kernel
theorem dX11_bind_31 : decode cX11_bind 31 = .ok (.isub, 1) := by decide +kernel
theorem dX11_bind_32 : decode cX11_bind 32 = .ok (.putfield 327, 3) := by decide +kernel
theorem dX11_bind_35 : decode cX11_bind 35 = .ok (.aload_n 0, 1) := by decide +kernel
theorem dX11_bind_36 : decode cX11_bind 36 = .ok (.getfield 87, 3) := by decide +kernel
theorem dX11_bind_39 : decode cX11_bind 39 = .ok (.aload_n 0, 1) := by decide +kernel
theorem dX11_bind_40 : decode cX11_bind 40 = .ok (.getfield 327, 3) := by decide +kernel
theorem dX11_bind_43 : decode cX11_bind 43 = .ok (.iaload, 1) := by decide +kernel
theorem dX11_bind_44 : decode cX11_bind 44 = .ok (.istore_n 2, 1) := by decide +kernel
theorem dX11_bind_45 : decode cX11_bind 45 = .ok (.iload_n 2, 1) := by decide +kernel
theorem dX11_bind_46 : decode cX11_bind 46 = .ok (.iconst 2, 1) := by decide +kernel
theorem dX11_bind_47 : decode cX11_bind 47 = .ok (.if_icmp .ne 7, 3) := by decide +kernel
theorem dX11_bind_50 : decode cX11_bind 50 = .ok (.iconst (-1), 1) := by decide +kernel
theorem dX11_bind_51 : decode cX11_bind 51 = .ok (.goto 7, 3) := by decide +kernel
theorem dX11_bind_54 : decode cX11_bind 54 = .ok (.aload_n 0, 1) := by decide +kernel
theorem dX11_bind_55 : decode cX11_bind 55 = .ok (.invokevirtual 334, 3) := by decide +kernel
theorem dX11_bind_58 : decode cX11_bind 58 = .ok (.istore_n 3, 1) := by decide +kernel
theorem dX11_bind_59 : decode cX11_bind 59 = .ok (.aload_n 0, 1) := by decide +kernel
theorem dX11_bind_60 : decode cX11_bind 60 = .ok (.invokevirtual 334, 3) := by decide +kernel
theorem dX11_bind_63 : decode cX11_bind 63 = .ok (.istore 4, 2) := by decide +kernel
theorem dX11_bind_65 : decode cX11_bind 65 = .ok (.aload_n 0, 1) := by decide +kernel
theorem dX11_bind_66 : decode cX11_bind 66 = .ok (.iload_n 2, 1) := by decide +kernel
theorem dX11_bind_67 : decode cX11_bind 67 = .ok (.iload 4, 2) := by decide +kernel
theorem dX11_bind_69 : decode cX11_bind 69 = .ok (.iload_n 3, 1) := by decide +kernel
theorem dX11_bind_70 : decode cX11_bind 70 = .ok (.invokevirtual 338, 3) := by decide +kernel
theorem dX11_bind_73 : decode cX11_bind 73 = .ok (.goto (-73), 3) := by decide +kernel
theorem dX11_bind_76 : decode cX11_bind 76 = .ok (.return_, 1) := by decide +kernel
theorem dX11_isCounted_0 : decode cX11_isCounted 0 = .ok (.aload_n 0, 1) := by decide +kernel
theorem dX11_isCounted_1 : decode cX11_isCounted 1 = .ok (.getfield 267, 3) := by decide +kernel
theorem dX11_isCounted_4 : decode cX11_isCounted 4 = .ok (.bipush 64, 2) := by decide +kernel
theorem dX11_isCounted_6 : decode cX11_isCounted 6 = .ok (.if_icmp .ne 9, 3) := by decide +kernel
theorem dX11_isCounted_9 : decode cX11_isCounted 9 = .ok (.aload_n 0, 1) := by decide +kernel
theorem dX11_isCounted_10 : decode cX11_isCounted 10 = .ok (.iconst 2, 1) := by decide +kernel
theorem dX11_isCounted_11 : decode cX11_isCounted 11 = .ok (.invokevirtual 235, 3) := by decide +kernel
theorem dX11_isCounted_14 : decode cX11_isCounted 14 = .ok (.ireturn, 1) := by decide +kernel
theorem dX11_isCounted_15 : decode cX11_isCounted 15 = .ok (.aload_n 0, 1) := by decide +kernel
theorem dX11_isCounted_16 : decode cX11_isCounted 16 = .ok (.dup, 1) := by decide +kernel
theorem dX11_isCounted_17 : decode cX11_isCounted 17 = .ok (.getfield 267, 3) := by decide +kernel
theorem dX11_isCounted_20 : decode cX11_isCounted 20 = .ok (.iconst 1, 1) := by decide +kernel
theorem dX11_isCounted_21 : decode cX11_isCounted 21 = .ok (.iadd, 1) := by decide +kernel
theorem dX11_isCounted_22 : decode cX11_isCounted 22 = .ok (.putfield 267, 3) := by decide +kernel
theorem dX11_isCounted_25 : decode cX11_isCounted 25 = .ok (.iconst 1, 1) := by decide +kernel
theorem dX11_isCounted_26 : decode cX11_isCounted 26 = .ok (.ireturn, 1) := by decide +kernel
theorem dX11_waitsFor_0 : decode cX11_waitsFor 0 = .ok (.aload_n 0, 1) := by decide +kernel
theorem dX11_waitsFor_1 : decode cX11_waitsFor 1 = .ok (.getfield 87, 3) := by decide +kernel
theorem dX11_waitsFor_4 : decode cX11_waitsFor 4 = .ok (.aload_n 0, 1) := by decide +kernel
theorem dX11_waitsFor_5 : decode cX11_waitsFor 5 = .ok (.getfield 327, 3) := by decide +kernel
theorem dX11_waitsFor_8 : decode cX11_waitsFor 8 = .ok (.iload_n 1, 1) := by decide +kernel
theorem dX11_waitsFor_9 : decode cX11_waitsFor 9 = .ok (.iastore, 1) := by decide +kernel
theorem dX11_waitsFor_10 : decode cX11_waitsFor 10 = .ok (.aload_n 0, 1) := by decide +kernel
theorem dX11_waitsFor_11 : decode cX11_waitsFor 11 = .ok (.dup, 1) := by decide +kernel
theorem dX11_waitsFor_12 : decode cX11_waitsFor 12 = .ok (.getfield 327, 3) := by decide +kernel
theorem dX11_waitsFor_15 : decode cX11_waitsFor 15 = .ok (.iconst 1, 1) := by decide +kernel
theorem dX11_waitsFor_16 : decode cX11_waitsFor 16 = .ok (.iadd, 1) := by decide +kernel
theorem dX11_waitsFor_17 : decode cX11_waitsFor 17 = .ok (.putfield 327, 3) := by decide +kernel
theorem dX11_waitsFor_20 : decode cX11_waitsFor 20 = .ok (.return_, 1) := by decide +kernel
theorem dX11_nameMet_0 : decode cX11_nameMet 0 = .ok (.aload_n 0, 1) := by decide +kernel
theorem dX11_nameMet_1 : decode cX11_nameMet 1 = .ok (.getfield 211, 3) := by decide +kernel
theorem dX11_nameMet_4 : decode cX11_nameMet 4 = .ok (.iconst 1, 1) := by decide +kernel
theorem dX11_nameMet_5 : decode cX11_nameMet 5 = .ok (.if_icmp .ne 22, 3) := by decide +kernel
theorem dX11_nameMet_8 : decode cX11_nameMet 8 = .ok (.aload_n 0, 1) := by decide +kernel
theorem dX11_nameMet_9 : decode cX11_nameMet 9 = .ok (.getfield 222, 3) := by decide +kernel
theorem dX11_nameMet_12 : decode cX11_nameMet 12 = .ok (.bipush 16, 2) := by decide +kernel
theorem dX11_nameMet_14 : decode cX11_nameMet 14 = .ok (.if_icmp .lt 13, 3) := by decide +kernel
theorem dX11_nameMet_17 : decode cX11_nameMet 17 = .ok (.aload_n 0, 1) := by decide +kernel
theorem dX11_nameMet_18 : decode cX11_nameMet 18 = .ok (.getfield 222, 3) := by decide +kernel
theorem dX11_nameMet_21 : decode cX11_nameMet 21 = .ok (.bipush 16, 2) := by decide +kernel
theorem dX11_nameMet_23 : decode cX11_nameMet 23 = .ok (.isub, 1) := by decide +kernel
theorem dX11_nameMet_24 : decode cX11_nameMet 24 = .ok (.goto 4, 3) := by decide +kernel
theorem dX11_nameMet_27 : decode cX11_nameMet 27 = .ok (.iconst (-1), 1) := by decide +kernel
theorem dX11_nameMet_28 : decode cX11_nameMet 28 = .ok (.ireturn, 1) := by decide +kernel
theorem dX11_leafRead_0 : decode cX11_leafRead 0 = .ok (.aload_n 0, 1) := by decide +kernel
theorem dX11_leafRead_1 : decode cX11_leafRead 1 = .ok (.bipush 40, 2) := by decide +kernel
theorem dX11_leafRead_3 : decode cX11_leafRead 3 = .ok (.invokevirtual 248, 3) := by decide +kernel
theorem dX11_leafRead_6 : decode cX11_leafRead 6 = .ok (.ifCond .eq 44, 3) := by decide +kernel
theorem dX11_leafRead_9 : decode cX11_leafRead 9 = .ok (.aload_n 0, 1) := by decide +kernel
theorem dX11_leafRead_10 : decode cX11_leafRead 10 = .ok (.getfield 342, 3) := by decide +kernel
theorem dX11_leafRead_13 : decode cX11_leafRead 13 = .ok (.bipush 8, 2) := by decide +kernel
theorem dX11_leafRead_15 : decode cX11_leafRead 15 = .ok (.if_icmp .ne 9, 3) := by decide +kernel
theorem dX11_leafRead_18 : decode cX11_leafRead 18 = .ok (.aload_n 0, 1) := by decide +kernel
theorem dX11_leafRead_19 : decode cX11_leafRead 19 = .ok (.iconst 2, 1) := by decide +kernel
theorem dX11_leafRead_20 : decode cX11_leafRead 20 = .ok (.invokevirtual 235, 3) := by decide +kernel
theorem dX11_leafRead_23 : decode cX11_leafRead 23 = .ok (.ireturn, 1) := by decide +kernel
theorem dX11_leafRead_24 : decode cX11_leafRead 24 = .ok (.aload_n 0, 1) := by decide +kernel
theorem dX11_leafRead_25 : decode cX11_leafRead 25 = .ok (.dup, 1) := by decide +kernel
theorem dX11_leafRead_26 : decode cX11_leafRead 26 = .ok (.getfield 342, 3) := by decide +kernel
theorem dX11_leafRead_29 : decode cX11_leafRead 29 = .ok (.iconst 1, 1) := by decide +kernel
theorem dX11_leafRead_30 : decode cX11_leafRead 30 = .ok (.iadd, 1) := by decide +kernel
theorem dX11_leafRead_31 : decode cX11_leafRead 31 = .ok (.putfield 342, 3) := by decide +kernel
theorem dX11_leafRead_34 : decode cX11_leafRead 34 = .ok (.aload_n 0, 1) := by decide +kernel
theorem dX11_leafRead_35 : decode cX11_leafRead 35 = .ok (.iconst 0, 1) := by decide +kernel
theorem dX11_leafRead_36 : decode cX11_leafRead 36 = .ok (.invokevirtual 345, 3) := by decide +kernel
theorem dX11_leafRead_39 : decode cX11_leafRead 39 = .ok (.aload_n 0, 1) := by decide +kernel
