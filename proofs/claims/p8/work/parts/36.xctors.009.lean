set_option maxRecDepth 100000 in
theorem shX12_init_0 : cX12_init.data.toList.drop 0 = sxX12_init_0 := rfl
theorem shX12_init_1 : cX12_init.data.toList.drop 1 = sxX12_init_1 := dSn 1 shX12_init_0
theorem shX12_init_4 : cX12_init.data.toList.drop 4 = sxX12_init_4 := dSn 3 shX12_init_1
theorem shX12_init_5 : cX12_init.data.toList.drop 5 = sxX12_init_5 := dSn 1 shX12_init_4
theorem shX12_init_7 : cX12_init.data.toList.drop 7 = sxX12_init_7 := dSn 2 shX12_init_5
theorem shX12_init_9 : cX12_init.data.toList.drop 9 = sxX12_init_9 := dSn 2 shX12_init_7
theorem shX12_init_12 : cX12_init.data.toList.drop 12 = sxX12_init_12 := dSn 3 shX12_init_9
theorem shX12_init_13 : cX12_init.data.toList.drop 13 = sxX12_init_13 := dSn 1 shX12_init_12
theorem shX12_init_15 : cX12_init.data.toList.drop 15 = sxX12_init_15 := dSn 2 shX12_init_13
theorem shX12_init_17 : cX12_init.data.toList.drop 17 = sxX12_init_17 := dSn 2 shX12_init_15
theorem shX12_init_20 : cX12_init.data.toList.drop 20 = sxX12_init_20 := dSn 3 shX12_init_17
theorem shX12_init_21 : cX12_init.data.toList.drop 21 = sxX12_init_21 := dSn 1 shX12_init_20
theorem shX12_init_23 : cX12_init.data.toList.drop 23 = sxX12_init_23 := dSn 2 shX12_init_21
theorem shX12_init_25 : cX12_init.data.toList.drop 25 = sxX12_init_25 := dSn 2 shX12_init_23
theorem shX12_init_28 : cX12_init.data.toList.drop 28 = sxX12_init_28 := dSn 3 shX12_init_25
theorem shX12_init_29 : cX12_init.data.toList.drop 29 = sxX12_init_29 := dSn 1 shX12_init_28
theorem shX12_init_31 : cX12_init.data.toList.drop 31 = sxX12_init_31 := dSn 2 shX12_init_29
theorem shX12_init_33 : cX12_init.data.toList.drop 33 = sxX12_init_33 := dSn 2 shX12_init_31
theorem shX12_init_36 : cX12_init.data.toList.drop 36 = sxX12_init_36 := dSn 3 shX12_init_33
theorem shX12_init_37 : cX12_init.data.toList.drop 37 = sxX12_init_37 := dSn 1 shX12_init_36
theorem shX12_init_39 : cX12_init.data.toList.drop 39 = sxX12_init_39 := dSn 2 shX12_init_37
theorem shX12_init_41 : cX12_init.data.toList.drop 41 = sxX12_init_41 := dSn 2 shX12_init_39
theorem shX12_init_44 : cX12_init.data.toList.drop 44 = sxX12_init_44 := dSn 3 shX12_init_41
theorem shX12_init_45 : cX12_init.data.toList.drop 45 = sxX12_init_45 := dSn 1 shX12_init_44
theorem shX12_init_47 : cX12_init.data.toList.drop 47 = sxX12_init_47 := dSn 2 shX12_init_45
theorem shX12_init_49 : cX12_init.data.toList.drop 49 = sxX12_init_49 := dSn 2 shX12_init_47
theorem shX12_init_52 : cX12_init.data.toList.drop 52 = sxX12_init_52 := dSn 3 shX12_init_49
theorem shX12_init_53 : cX12_init.data.toList.drop 53 = sxX12_init_53 := dSn 1 shX12_init_52
theorem shX12_init_55 : cX12_init.data.toList.drop 55 = sxX12_init_55 := dSn 2 shX12_init_53
theorem shX12_init_57 : cX12_init.data.toList.drop 57 = sxX12_init_57 := dSn 2 shX12_init_55
theorem shX12_init_60 : cX12_init.data.toList.drop 60 = sxX12_init_60 := dSn 3 shX12_init_57
theorem shX12_init_61 : cX12_init.data.toList.drop 61 = sxX12_init_61 := dSn 1 shX12_init_60
theorem shX12_init_63 : cX12_init.data.toList.drop 63 = sxX12_init_63 := dSn 2 shX12_init_61
theorem shX12_init_65 : cX12_init.data.toList.drop 65 = sxX12_init_65 := dSn 2 shX12_init_63
theorem shX12_init_68 : cX12_init.data.toList.drop 68 = sxX12_init_68 := dSn 3 shX12_init_65
theorem shX12_init_69 : cX12_init.data.toList.drop 69 = sxX12_init_69 := dSn 1 shX12_init_68
theorem shX12_init_71 : cX12_init.data.toList.drop 71 = sxX12_init_71 := dSn 2 shX12_init_69
theorem shX12_init_73 : cX12_init.data.toList.drop 73 = sxX12_init_73 := dSn 2 shX12_init_71
theorem shX12_init_76 : cX12_init.data.toList.drop 76 = sxX12_init_76 := dSn 3 shX12_init_73
theorem shX12_init_77 : cX12_init.data.toList.drop 77 = sxX12_init_77 := dSn 1 shX12_init_76
theorem shX12_init_79 : cX12_init.data.toList.drop 79 = sxX12_init_79 := dSn 2 shX12_init_77
theorem shX12_init_81 : cX12_init.data.toList.drop 81 = sxX12_init_81 := dSn 2 shX12_init_79
theorem shX12_init_84 : cX12_init.data.toList.drop 84 = sxX12_init_84 := dSn 3 shX12_init_81
theorem shX12_init_85 : cX12_init.data.toList.drop 85 = sxX12_init_85 := dSn 1 shX12_init_84
theorem shX12_init_87 : cX12_init.data.toList.drop 87 = sxX12_init_87 := dSn 2 shX12_init_85
theorem shX12_init_89 : cX12_init.data.toList.drop 89 = sxX12_init_89 := dSn 2 shX12_init_87
theorem shX12_init_92 : cX12_init.data.toList.drop 92 = sxX12_init_92 := dSn 3 shX12_init_89
theorem shX12_init_93 : cX12_init.data.toList.drop 93 = sxX12_init_93 := dSn 1 shX12_init_92
theorem shX12_init_95 : cX12_init.data.toList.drop 95 = sxX12_init_95 := dSn 2 shX12_init_93
theorem shX12_init_97 : cX12_init.data.toList.drop 97 = sxX12_init_97 := dSn 2 shX12_init_95
theorem shX12_init_100 : cX12_init.data.toList.drop 100 = sxX12_init_100 := dSn 3 shX12_init_97
theorem shX12_init_101 : cX12_init.data.toList.drop 101 = sxX12_init_101 := dSn 1 shX12_init_100
theorem shX12_init_103 : cX12_init.data.toList.drop 103 = sxX12_init_103 := dSn 2 shX12_init_101
theorem shX12_init_105 : cX12_init.data.toList.drop 105 = sxX12_init_105 := dSn 2 shX12_init_103
theorem shX12_init_108 : cX12_init.data.toList.drop 108 = sxX12_init_108 := dSn 3 shX12_init_105
theorem shX12_init_109 : cX12_init.data.toList.drop 109 = sxX12_init_109 := dSn 1 shX12_init_108
theorem shX12_init_111 : cX12_init.data.toList.drop 111 = sxX12_init_111 := dSn 2 shX12_init_109
theorem shX12_init_113 : cX12_init.data.toList.drop 113 = sxX12_init_113 := dSn 2 shX12_init_111
theorem shX12_init_116 : cX12_init.data.toList.drop 116 = sxX12_init_116 := dSn 3 shX12_init_113
theorem shX12_init_117 : cX12_init.data.toList.drop 117 = sxX12_init_117 := dSn 1 shX12_init_116
theorem shX12_init_120 : cX12_init.data.toList.drop 120 = sxX12_init_120 := dSn 3 shX12_init_117
theorem shX12_init_122 : cX12_init.data.toList.drop 122 = sxX12_init_122 := dSn 2 shX12_init_120
theorem shX12_init_125 : cX12_init.data.toList.drop 125 = sxX12_init_125 := dSn 3 shX12_init_122
theorem shX12_init_126 : cX12_init.data.toList.drop 126 = sxX12_init_126 := dSn 1 shX12_init_125
theorem shX12_init_129 : cX12_init.data.toList.drop 129 = sxX12_init_129 := dSn 3 shX12_init_126
theorem shX12_init_131 : cX12_init.data.toList.drop 131 = sxX12_init_131 := dSn 2 shX12_init_129
theorem shX12_init_134 : cX12_init.data.toList.drop 134 = sxX12_init_134 := dSn 3 shX12_init_131
theorem shX12_init_135 : cX12_init.data.toList.drop 135 = sxX12_init_135 := dSn 1 shX12_init_134
theorem shX12_init_138 : cX12_init.data.toList.drop 138 = sxX12_init_138 := dSn 3 shX12_init_135
theorem shX12_init_140 : cX12_init.data.toList.drop 140 = sxX12_init_140 := dSn 2 shX12_init_138
theorem shX12_init_143 : cX12_init.data.toList.drop 143 = sxX12_init_143 := dSn 3 shX12_init_140
theorem shX12_init_144 : cX12_init.data.toList.drop 144 = sxX12_init_144 := dSn 1 shX12_init_143
theorem shX12_init_146 : cX12_init.data.toList.drop 146 = sxX12_init_146 := dSn 2 shX12_init_144
theorem shX12_init_148 : cX12_init.data.toList.drop 148 = sxX12_init_148 := dSn 2 shX12_init_146
theorem shX12_init_151 : cX12_init.data.toList.drop 151 = sxX12_init_151 := dSn 3 shX12_init_148
theorem shX12_init_152 : cX12_init.data.toList.drop 152 = sxX12_init_152 := dSn 1 shX12_init_151
theorem shX12_init_154 : cX12_init.data.toList.drop 154 = sxX12_init_154 := dSn 2 shX12_init_152
theorem shX12_init_156 : cX12_init.data.toList.drop 156 = sxX12_init_156 := dSn 2 shX12_init_154
theorem shX12_init_159 : cX12_init.data.toList.drop 159 = sxX12_init_159 := dSn 3 shX12_init_156
theorem shX12_init_160 : cX12_init.data.toList.drop 160 = sxX12_init_160 := dSn 1 shX12_init_159
theorem shX12_init_162 : cX12_init.data.toList.drop 162 = sxX12_init_162 := dSn 2 shX12_init_160
theorem shX12_init_164 : cX12_init.data.toList.drop 164 = sxX12_init_164 := dSn 2 shX12_init_162
theorem shX12_init_167 : cX12_init.data.toList.drop 167 = sxX12_init_167 := dSn 3 shX12_init_164
theorem shX12_init_168 : cX12_init.data.toList.drop 168 = sxX12_init_168 := dSn 1 shX12_init_167
theorem shX12_init_171 : cX12_init.data.toList.drop 171 = sxX12_init_171 := dSn 3 shX12_init_168
theorem shX12_init_173 : cX12_init.data.toList.drop 173 = sxX12_init_173 := dSn 2 shX12_init_171
theorem shX12_init_176 : cX12_init.data.toList.drop 176 = sxX12_init_176 := dSn 3 shX12_init_173
theorem shX12_init_177 : cX12_init.data.toList.drop 177 = sxX12_init_177 := dSn 1 shX12_init_176
theorem shX12_init_179 : cX12_init.data.toList.drop 179 = sxX12_init_179 := dSn 2 shX12_init_177
theorem shX12_init_181 : cX12_init.data.toList.drop 181 = sxX12_init_181 := dSn 2 shX12_init_179
theorem shX12_init_184 : cX12_init.data.toList.drop 184 = sxX12_init_184 := dSn 3 shX12_init_181
theorem shX12_init_185 : cX12_init.data.toList.drop 185 = sxX12_init_185 := dSn 1 shX12_init_184
theorem shX12_init_188 : cX12_init.data.toList.drop 188 = sxX12_init_188 := dSn 3 shX12_init_185
theorem shX12_init_190 : cX12_init.data.toList.drop 190 = sxX12_init_190 := dSn 2 shX12_init_188
theorem shX12_init_193 : cX12_init.data.toList.drop 193 = sxX12_init_193 := dSn 3 shX12_init_190
theorem shX12_init_194 : cX12_init.data.toList.drop 194 = sxX12_init_194 := dSn 1 shX12_init_193
theorem shX12_init_197 : cX12_init.data.toList.drop 197 = sxX12_init_197 := dSn 3 shX12_init_194
theorem shX12_init_199 : cX12_init.data.toList.drop 199 = sxX12_init_199 := dSn 2 shX12_init_197
theorem shX12_init_202 : cX12_init.data.toList.drop 202 = sxX12_init_202 := dSn 3 shX12_init_199
theorem shX12_init_203 : cX12_init.data.toList.drop 203 = sxX12_init_203 := dSn 1 shX12_init_202
theorem shX12_init_206 : cX12_init.data.toList.drop 206 = sxX12_init_206 := dSn 3 shX12_init_203
theorem shX12_init_208 : cX12_init.data.toList.drop 208 = sxX12_init_208 := dSn 2 shX12_init_206
theorem shX12_init_211 : cX12_init.data.toList.drop 211 = sxX12_init_211 := dSn 3 shX12_init_208
theorem shX12_init_212 : cX12_init.data.toList.drop 212 = sxX12_init_212 := dSn 1 shX12_init_211
theorem shX12_init_215 : cX12_init.data.toList.drop 215 = sxX12_init_215 := dSn 3 shX12_init_212
theorem shX12_init_217 : cX12_init.data.toList.drop 217 = sxX12_init_217 := dSn 2 shX12_init_215
theorem shX12_init_220 : cX12_init.data.toList.drop 220 = sxX12_init_220 := dSn 3 shX12_init_217
theorem shX12_init_221 : cX12_init.data.toList.drop 221 = sxX12_init_221 := dSn 1 shX12_init_220
theorem shX12_init_223 : cX12_init.data.toList.drop 223 = sxX12_init_223 := dSn 2 shX12_init_221
theorem shX12_init_225 : cX12_init.data.toList.drop 225 = sxX12_init_225 := dSn 2 shX12_init_223
theorem shX12_init_228 : cX12_init.data.toList.drop 228 = sxX12_init_228 := dSn 3 shX12_init_225
theorem shX12_init_229 : cX12_init.data.toList.drop 229 = sxX12_init_229 := dSn 1 shX12_init_228
theorem shX12_init_231 : cX12_init.data.toList.drop 231 = sxX12_init_231 := dSn 2 shX12_init_229
theorem shX12_init_233 : cX12_init.data.toList.drop 233 = sxX12_init_233 := dSn 2 shX12_init_231
theorem shX12_init_236 : cX12_init.data.toList.drop 236 = sxX12_init_236 := dSn 3 shX12_init_233
theorem shX12_init_237 : cX12_init.data.toList.drop 237 = sxX12_init_237 := dSn 1 shX12_init_236
theorem shX12_init_239 : cX12_init.data.toList.drop 239 = sxX12_init_239 := dSn 2 shX12_init_237
theorem shX12_init_241 : cX12_init.data.toList.drop 241 = sxX12_init_241 := dSn 2 shX12_init_239
theorem shX12_init_244 : cX12_init.data.toList.drop 244 = sxX12_init_244 := dSn 3 shX12_init_241
theorem shX12_init_245 : cX12_init.data.toList.drop 245 = sxX12_init_245 := dSn 1 shX12_init_244
theorem shX12_init_248 : cX12_init.data.toList.drop 248 = sxX12_init_248 := dSn 3 shX12_init_245
theorem shX12_init_250 : cX12_init.data.toList.drop 250 = sxX12_init_250 := dSn 2 shX12_init_248
theorem shX12_init_253 : cX12_init.data.toList.drop 253 = sxX12_init_253 := dSn 3 shX12_init_250
theorem shX12_init_254 : cX12_init.data.toList.drop 254 = sxX12_init_254 := dSn 1 shX12_init_253
theorem shX12_init_256 : cX12_init.data.toList.drop 256 = sxX12_init_256 := dSn 2 shX12_init_254
theorem shX12_init_258 : cX12_init.data.toList.drop 258 = sxX12_init_258 := dSn 2 shX12_init_256
theorem shX12_init_261 : cX12_init.data.toList.drop 261 = sxX12_init_261 := dSn 3 shX12_init_258
theorem shX12_init_262 : cX12_init.data.toList.drop 262 = sxX12_init_262 := dSn 1 shX12_init_261
theorem shX12_init_265 : cX12_init.data.toList.drop 265 = sxX12_init_265 := dSn 3 shX12_init_262
theorem shX12_init_267 : cX12_init.data.toList.drop 267 = sxX12_init_267 := dSn 2 shX12_init_265
theorem shX12_init_270 : cX12_init.data.toList.drop 270 = sxX12_init_270 := dSn 3 shX12_init_267
theorem shX12_init_271 : cX12_init.data.toList.drop 271 = sxX12_init_271 := dSn 1 shX12_init_270
theorem shX12_init_272 : cX12_init.data.toList.drop 272 = sxX12_init_272 := dSn 1 shX12_init_271
theorem shX12_init_274 : cX12_init.data.toList.drop 274 = sxX12_init_274 := dSn 2 shX12_init_272
theorem shX12_init_277 : cX12_init.data.toList.drop 277 = sxX12_init_277 := dSn 3 shX12_init_274
theorem shX12_init_278 : cX12_init.data.toList.drop 278 = sxX12_init_278 := dSn 1 shX12_init_277
theorem shX12_init_279 : cX12_init.data.toList.drop 279 = sxX12_init_279 := dSn 1 shX12_init_278
theorem shX12_init_281 : cX12_init.data.toList.drop 281 = sxX12_init_281 := dSn 2 shX12_init_279
theorem shX12_init_284 : cX12_init.data.toList.drop 284 = sxX12_init_284 := dSn 3 shX12_init_281
theorem shX12_init_285 : cX12_init.data.toList.drop 285 = sxX12_init_285 := dSn 1 shX12_init_284
theorem shX12_init_286 : cX12_init.data.toList.drop 286 = sxX12_init_286 := dSn 1 shX12_init_285
theorem shX12_init_288 : cX12_init.data.toList.drop 288 = sxX12_init_288 := dSn 2 shX12_init_286
theorem shX12_init_291 : cX12_init.data.toList.drop 291 = sxX12_init_291 := dSn 3 shX12_init_288
theorem shX12_init_292 : cX12_init.data.toList.drop 292 = sxX12_init_292 := dSn 1 shX12_init_291
theorem shX12_init_294 : cX12_init.data.toList.drop 294 = sxX12_init_294 := dSn 2 shX12_init_292
theorem shX12_init_296 : cX12_init.data.toList.drop 296 = sxX12_init_296 := dSn 2 shX12_init_294
theorem shX12_init_299 : cX12_init.data.toList.drop 299 = sxX12_init_299 := dSn 3 shX12_init_296
theorem shX12_init_300 : cX12_init.data.toList.drop 300 = sxX12_init_300 := dSn 1 shX12_init_299
theorem shX12_init_302 : cX12_init.data.toList.drop 302 = sxX12_init_302 := dSn 2 shX12_init_300
theorem shX12_init_304 : cX12_init.data.toList.drop 304 = sxX12_init_304 := dSn 2 shX12_init_302
theorem shX12_init_307 : cX12_init.data.toList.drop 307 = sxX12_init_307 := dSn 3 shX12_init_304
theorem shX12_init_308 : cX12_init.data.toList.drop 308 = sxX12_init_308 := dSn 1 shX12_init_307
theorem shX12_init_310 : cX12_init.data.toList.drop 310 = sxX12_init_310 := dSn 2 shX12_init_308
theorem shX12_init_312 : cX12_init.data.toList.drop 312 = sxX12_init_312 := dSn 2 shX12_init_310
theorem shX12_init_315 : cX12_init.data.toList.drop 315 = sxX12_init_315 := dSn 3 shX12_init_312
theorem shX12_init_316 : cX12_init.data.toList.drop 316 = sxX12_init_316 := dSn 1 shX12_init_315
theorem shX12_init_319 : cX12_init.data.toList.drop 319 = sxX12_init_319 := dSn 3 shX12_init_316
theorem shX12_init_321 : cX12_init.data.toList.drop 321 = sxX12_init_321 := dSn 2 shX12_init_319
theorem shX12_init_324 : cX12_init.data.toList.drop 324 = sxX12_init_324 := dSn 3 shX12_init_321
theorem shX12_init_325 : cX12_init.data.toList.drop 325 = sxX12_init_325 := dSn 1 shX12_init_324
theorem shX12_init_327 : cX12_init.data.toList.drop 327 = sxX12_init_327 := dSn 2 shX12_init_325
theorem shX12_init_329 : cX12_init.data.toList.drop 329 = sxX12_init_329 := dSn 2 shX12_init_327
theorem shX12_init_332 : cX12_init.data.toList.drop 332 = sxX12_init_332 := dSn 3 shX12_init_329
theorem shX12_init_333 : cX12_init.data.toList.drop 333 = sxX12_init_333 := dSn 1 shX12_init_332
theorem shX12_init_335 : cX12_init.data.toList.drop 335 = sxX12_init_335 := dSn 2 shX12_init_333
theorem shX12_init_337 : cX12_init.data.toList.drop 337 = sxX12_init_337 := dSn 2 shX12_init_335
theorem shX12_init_340 : cX12_init.data.toList.drop 340 = sxX12_init_340 := dSn 3 shX12_init_337
theorem shX12_init_341 : cX12_init.data.toList.drop 341 = sxX12_init_341 := dSn 1 shX12_init_340
theorem shX12_init_343 : cX12_init.data.toList.drop 343 = sxX12_init_343 := dSn 2 shX12_init_341
theorem shX12_init_345 : cX12_init.data.toList.drop 345 = sxX12_init_345 := dSn 2 shX12_init_343
theorem shX12_init_348 : cX12_init.data.toList.drop 348 = sxX12_init_348 := dSn 3 shX12_init_345
theorem shX12_init_349 : cX12_init.data.toList.drop 349 = sxX12_init_349 := dSn 1 shX12_init_348
theorem shX12_init_351 : cX12_init.data.toList.drop 351 = sxX12_init_351 := dSn 2 shX12_init_349
theorem shX12_init_353 : cX12_init.data.toList.drop 353 = sxX12_init_353 := dSn 2 shX12_init_351
theorem shX12_init_356 : cX12_init.data.toList.drop 356 = sxX12_init_356 := dSn 3 shX12_init_353
theorem shX12_init_357 : cX12_init.data.toList.drop 357 = sxX12_init_357 := dSn 1 shX12_init_356
theorem shX12_init_359 : cX12_init.data.toList.drop 359 = sxX12_init_359 := dSn 2 shX12_init_357
theorem shX12_init_361 : cX12_init.data.toList.drop 361 = sxX12_init_361 := dSn 2 shX12_init_359
theorem shX12_init_364 : cX12_init.data.toList.drop 364 = sxX12_init_364 := dSn 3 shX12_init_361
theorem shX12_init_365 : cX12_init.data.toList.drop 365 = sxX12_init_365 := dSn 1 shX12_init_364
theorem shX12_init_367 : cX12_init.data.toList.drop 367 = sxX12_init_367 := dSn 2 shX12_init_365
theorem shX12_init_369 : cX12_init.data.toList.drop 369 = sxX12_init_369 := dSn 2 shX12_init_367
theorem shX12_init_372 : cX12_init.data.toList.drop 372 = sxX12_init_372 := dSn 3 shX12_init_369
theorem shX12_init_373 : cX12_init.data.toList.drop 373 = sxX12_init_373 := dSn 1 shX12_init_372
theorem shX12_init_375 : cX12_init.data.toList.drop 375 = sxX12_init_375 := dSn 2 shX12_init_373
theorem shX12_init_377 : cX12_init.data.toList.drop 377 = sxX12_init_377 := dSn 2 shX12_init_375
theorem shX12_init_380 : cX12_init.data.toList.drop 380 = sxX12_init_380 := dSn 3 shX12_init_377
theorem shX12_init_381 : cX12_init.data.toList.drop 381 = sxX12_init_381 := dSn 1 shX12_init_380
theorem shX12_init_383 : cX12_init.data.toList.drop 383 = sxX12_init_383 := dSn 2 shX12_init_381
theorem shX12_init_385 : cX12_init.data.toList.drop 385 = sxX12_init_385 := dSn 2 shX12_init_383
theorem shX12_init_388 : cX12_init.data.toList.drop 388 = sxX12_init_388 := dSn 3 shX12_init_385
theorem shX12_init_389 : cX12_init.data.toList.drop 389 = sxX12_init_389 := dSn 1 shX12_init_388
theorem shX12_init_391 : cX12_init.data.toList.drop 391 = sxX12_init_391 := dSn 2 shX12_init_389
theorem shX12_init_393 : cX12_init.data.toList.drop 393 = sxX12_init_393 := dSn 2 shX12_init_391
theorem shX12_init_396 : cX12_init.data.toList.drop 396 = sxX12_init_396 := dSn 3 shX12_init_393
theorem shX12_init_397 : cX12_init.data.toList.drop 397 = sxX12_init_397 := dSn 1 shX12_init_396
theorem shX12_init_399 : cX12_init.data.toList.drop 399 = sxX12_init_399 := dSn 2 shX12_init_397
theorem shX12_init_401 : cX12_init.data.toList.drop 401 = sxX12_init_401 := dSn 2 shX12_init_399
theorem shX12_init_404 : cX12_init.data.toList.drop 404 = sxX12_init_404 := dSn 3 shX12_init_401
theorem shX12_init_405 : cX12_init.data.toList.drop 405 = sxX12_init_405 := dSn 1 shX12_init_404
theorem shX12_init_407 : cX12_init.data.toList.drop 407 = sxX12_init_407 := dSn 2 shX12_init_405
theorem shX12_init_409 : cX12_init.data.toList.drop 409 = sxX12_init_409 := dSn 2 shX12_init_407
theorem shX12_init_412 : cX12_init.data.toList.drop 412 = sxX12_init_412 := dSn 3 shX12_init_409
theorem shX12_init_413 : cX12_init.data.toList.drop 413 = sxX12_init_413 := dSn 1 shX12_init_412
theorem shX12_init_415 : cX12_init.data.toList.drop 415 = sxX12_init_415 := dSn 2 shX12_init_413
theorem shX12_init_417 : cX12_init.data.toList.drop 417 = sxX12_init_417 := dSn 2 shX12_init_415
theorem shX12_init_420 : cX12_init.data.toList.drop 420 = sxX12_init_420 := dSn 3 shX12_init_417
theorem shX12_init_421 : cX12_init.data.toList.drop 421 = sxX12_init_421 := dSn 1 shX12_init_420
theorem shX12_init_424 : cX12_init.data.toList.drop 424 = sxX12_init_424 := dSn 3 shX12_init_421
theorem shX12_init_426 : cX12_init.data.toList.drop 426 = sxX12_init_426 := dSn 2 shX12_init_424
theorem shX12_init_429 : cX12_init.data.toList.drop 429 = sxX12_init_429 := dSn 3 shX12_init_426
theorem shX12_init_430 : cX12_init.data.toList.drop 430 = sxX12_init_430 := dSn 1 shX12_init_429
theorem shX12_init_432 : cX12_init.data.toList.drop 432 = sxX12_init_432 := dSn 2 shX12_init_430
theorem shX12_init_434 : cX12_init.data.toList.drop 434 = sxX12_init_434 := dSn 2 shX12_init_432
theorem shX12_init_437 : cX12_init.data.toList.drop 437 = sxX12_init_437 := dSn 3 shX12_init_434
theorem shX12_init_438 : cX12_init.data.toList.drop 438 = sxX12_init_438 := dSn 1 shX12_init_437
theorem shX12_init_440 : cX12_init.data.toList.drop 440 = sxX12_init_440 := dSn 2 shX12_init_438
theorem shX12_init_442 : cX12_init.data.toList.drop 442 = sxX12_init_442 := dSn 2 shX12_init_440
theorem shX12_init_445 : cX12_init.data.toList.drop 445 = sxX12_init_445 := dSn 3 shX12_init_442
theorem shX12_init_446 : cX12_init.data.toList.drop 446 = sxX12_init_446 := dSn 1 shX12_init_445
theorem shX12_init_448 : cX12_init.data.toList.drop 448 = sxX12_init_448 := dSn 2 shX12_init_446
theorem shX12_init_450 : cX12_init.data.toList.drop 450 = sxX12_init_450 := dSn 2 shX12_init_448
theorem shX12_init_453 : cX12_init.data.toList.drop 453 = sxX12_init_453 := dSn 3 shX12_init_450
theorem shX12_init_454 : cX12_init.data.toList.drop 454 = sxX12_init_454 := dSn 1 shX12_init_453
theorem shX12_init_456 : cX12_init.data.toList.drop 456 = sxX12_init_456 := dSn 2 shX12_init_454
theorem shX12_init_458 : cX12_init.data.toList.drop 458 = sxX12_init_458 := dSn 2 shX12_init_456
theorem shX12_init_461 : cX12_init.data.toList.drop 461 = sxX12_init_461 := dSn 3 shX12_init_458
theorem shX12_init_462 : cX12_init.data.toList.drop 462 = sxX12_init_462 := dSn 1 shX12_init_461
theorem shX12_init_464 : cX12_init.data.toList.drop 464 = sxX12_init_464 := dSn 2 shX12_init_462
theorem shX12_init_466 : cX12_init.data.toList.drop 466 = sxX12_init_466 := dSn 2 shX12_init_464
theorem shX12_init_469 : cX12_init.data.toList.drop 469 = sxX12_init_469 := dSn 3 shX12_init_466
theorem shX12_init_470 : cX12_init.data.toList.drop 470 = sxX12_init_470 := dSn 1 shX12_init_469
theorem shX12_init_472 : cX12_init.data.toList.drop 472 = sxX12_init_472 := dSn 2 shX12_init_470
theorem shX12_init_474 : cX12_init.data.toList.drop 474 = sxX12_init_474 := dSn 2 shX12_init_472
theorem shX12_init_477 : cX12_init.data.toList.drop 477 = sxX12_init_477 := dSn 3 shX12_init_474
theorem shX12_init_478 : cX12_init.data.toList.drop 478 = sxX12_init_478 := dSn 1 shX12_init_477
theorem shX12_init_480 : cX12_init.data.toList.drop 480 = sxX12_init_480 := dSn 2 shX12_init_478
theorem shX12_init_482 : cX12_init.data.toList.drop 482 = sxX12_init_482 := dSn 2 shX12_init_480
theorem shX12_init_485 : cX12_init.data.toList.drop 485 = sxX12_init_485 := dSn 3 shX12_init_482
theorem shX12_init_486 : cX12_init.data.toList.drop 486 = sxX12_init_486 := dSn 1 shX12_init_485
theorem shX12_init_488 : cX12_init.data.toList.drop 488 = sxX12_init_488 := dSn 2 shX12_init_486
theorem shX12_init_490 : cX12_init.data.toList.drop 490 = sxX12_init_490 := dSn 2 shX12_init_488
theorem shX12_init_493 : cX12_init.data.toList.drop 493 = sxX12_init_493 := dSn 3 shX12_init_490
theorem shX12_init_494 : cX12_init.data.toList.drop 494 = sxX12_init_494 := dSn 1 shX12_init_493
theorem shX12_init_496 : cX12_init.data.toList.drop 496 = sxX12_init_496 := dSn 2 shX12_init_494
theorem shX12_init_498 : cX12_init.data.toList.drop 498 = sxX12_init_498 := dSn 2 shX12_init_496
theorem shX12_init_501 : cX12_init.data.toList.drop 501 = sxX12_init_501 := dSn 3 shX12_init_498
theorem shX12_init_502 : cX12_init.data.toList.drop 502 = sxX12_init_502 := dSn 1 shX12_init_501
theorem shX12_init_504 : cX12_init.data.toList.drop 504 = sxX12_init_504 := dSn 2 shX12_init_502
theorem shX12_init_506 : cX12_init.data.toList.drop 506 = sxX12_init_506 := dSn 2 shX12_init_504
theorem shX12_init_509 : cX12_init.data.toList.drop 509 = sxX12_init_509 := dSn 3 shX12_init_506
theorem shX12_init_510 : cX12_init.data.toList.drop 510 = sxX12_init_510 := dSn 1 shX12_init_509
theorem shX12_init_512 : cX12_init.data.toList.drop 512 = sxX12_init_512 := dSn 2 shX12_init_510
theorem shX12_init_514 : cX12_init.data.toList.drop 514 = sxX12_init_514 := dSn 2 shX12_init_512
theorem shX12_init_517 : cX12_init.data.toList.drop 517 = sxX12_init_517 := dSn 3 shX12_init_514
theorem shX12_init_518 : cX12_init.data.toList.drop 518 = sxX12_init_518 := dSn 1 shX12_init_517
theorem shX12_init_521 : cX12_init.data.toList.drop 521 = sxX12_init_521 := dSn 3 shX12_init_518
theorem shX12_init_523 : cX12_init.data.toList.drop 523 = sxX12_init_523 := dSn 2 shX12_init_521
theorem shX12_init_526 : cX12_init.data.toList.drop 526 = sxX12_init_526 := dSn 3 shX12_init_523
theorem shX12_init_527 : cX12_init.data.toList.drop 527 = sxX12_init_527 := dSn 1 shX12_init_526
theorem shX12_init_528 : cX12_init.data.toList.drop 528 = sxX12_init_528 := dSn 1 shX12_init_527
theorem shX12_init_529 : cX12_init.data.toList.drop 529 = sxX12_init_529 := dSn 1 shX12_init_528
theorem shX12_init_532 : cX12_init.data.toList.drop 532 = sxX12_init_532 := dSn 3 shX12_init_529
theorem shX12_init_535 : cX12_init.data.toList.drop 535 = sxX12_init_535 := dSn 3 shX12_init_532
theorem shX12_init_536 : cX12_init.data.toList.drop 536 = sxX12_init_536 := dSn 1 shX12_init_535
theorem shX12_init_539 : cX12_init.data.toList.drop 539 = sxX12_init_539 := dSn 3 shX12_init_536
theorem shX12_init_540 : cX12_init.data.toList.drop 540 = sxX12_init_540 := dSn 1 shX12_init_539
theorem shX12_init_542 : cX12_init.data.toList.drop 542 = sxX12_init_542 := dSn 2 shX12_init_540
theorem shX12_init_543 : cX12_init.data.toList.drop 543 = sxX12_init_543 := dSn 1 shX12_init_542
theorem shX12_init_546 : cX12_init.data.toList.drop 546 = sxX12_init_546 := dSn 3 shX12_init_543
theorem shX12_init_549 : cX12_init.data.toList.drop 549 = sxX12_init_549 := dSn 3 shX12_init_546
theorem dX12_init_0 : decode cX12_init 0 = .ok (.aload_n 0, 1) := oc_42 shX12_init_0
theorem dX12_init_1 : decode cX12_init 1 = .ok (.invokespecial 1, 3) := oc_183 shX12_init_1
theorem dX12_init_4 : decode cX12_init 4 = .ok (.aload_n 0, 1) := oc_42 shX12_init_4
theorem dX12_init_5 : decode cX12_init 5 = .ok (.bipush 10, 2) := oc_16 shX12_init_5 sgb_10
theorem dX12_init_7 : decode cX12_init 7 = .ok (.newarray .int, 2) := oc_188_10 shX12_init_7
theorem dX12_init_9 : decode cX12_init 9 = .ok (.putfield 7, 3) := oc_181 shX12_init_9
theorem dX12_init_12 : decode cX12_init 12 = .ok (.aload_n 0, 1) := oc_42 shX12_init_12
theorem dX12_init_13 : decode cX12_init 13 = .ok (.bipush 10, 2) := oc_16 shX12_init_13 sgb_10
theorem dX12_init_15 : decode cX12_init 15 = .ok (.newarray .int, 2) := oc_188_10 shX12_init_15
theorem dX12_init_17 : decode cX12_init 17 = .ok (.putfield 13, 3) := oc_181 shX12_init_17
theorem dX12_init_20 : decode cX12_init 20 = .ok (.aload_n 0, 1) := oc_42 shX12_init_20
theorem dX12_init_21 : decode cX12_init 21 = .ok (.bipush 10, 2) := oc_16 shX12_init_21 sgb_10
theorem dX12_init_23 : decode cX12_init 23 = .ok (.newarray .int, 2) := oc_188_10 shX12_init_23
theorem dX12_init_25 : decode cX12_init 25 = .ok (.putfield 16, 3) := oc_181 shX12_init_25
theorem dX12_init_28 : decode cX12_init 28 = .ok (.aload_n 0, 1) := oc_42 shX12_init_28
theorem dX12_init_29 : decode cX12_init 29 = .ok (.bipush 10, 2) := oc_16 shX12_init_29 sgb_10
theorem dX12_init_31 : decode cX12_init 31 = .ok (.newarray .int, 2) := oc_188_10 shX12_init_31
theorem dX12_init_33 : decode cX12_init 33 = .ok (.putfield 19, 3) := oc_181 shX12_init_33
theorem dX12_init_36 : decode cX12_init 36 = .ok (.aload_n 0, 1) := oc_42 shX12_init_36
theorem dX12_init_37 : decode cX12_init 37 = .ok (.bipush 10, 2) := oc_16 shX12_init_37 sgb_10
theorem dX12_init_39 : decode cX12_init 39 = .ok (.newarray .int, 2) := oc_188_10 shX12_init_39
theorem dX12_init_41 : decode cX12_init 41 = .ok (.putfield 22, 3) := oc_181 shX12_init_41
theorem dX12_init_44 : decode cX12_init 44 = .ok (.aload_n 0, 1) := oc_42 shX12_init_44
theorem dX12_init_45 : decode cX12_init 45 = .ok (.bipush 60, 2) := oc_16 shX12_init_45 sgb_60
theorem dX12_init_47 : decode cX12_init 47 = .ok (.newarray .int, 2) := oc_188_10 shX12_init_47
theorem dX12_init_49 : decode cX12_init 49 = .ok (.putfield 25, 3) := oc_181 shX12_init_49
theorem dX12_init_52 : decode cX12_init 52 = .ok (.aload_n 0, 1) := oc_42 shX12_init_52
theorem dX12_init_53 : decode cX12_init 53 = .ok (.bipush 60, 2) := oc_16 shX12_init_53 sgb_60
theorem dX12_init_55 : decode cX12_init 55 = .ok (.newarray .int, 2) := oc_188_10 shX12_init_55
theorem dX12_init_57 : decode cX12_init 57 = .ok (.putfield 28, 3) := oc_181 shX12_init_57
theorem dX12_init_60 : decode cX12_init 60 = .ok (.aload_n 0, 1) := oc_42 shX12_init_60
theorem dX12_init_61 : decode cX12_init 61 = .ok (.bipush 60, 2) := oc_16 shX12_init_61 sgb_60
theorem dX12_init_63 : decode cX12_init 63 = .ok (.newarray .int, 2) := oc_188_10 shX12_init_63
theorem dX12_init_65 : decode cX12_init 65 = .ok (.putfield 31, 3) := oc_181 shX12_init_65
theorem dX12_init_68 : decode cX12_init 68 = .ok (.aload_n 0, 1) := oc_42 shX12_init_68
theorem dX12_init_69 : decode cX12_init 69 = .ok (.bipush 60, 2) := oc_16 shX12_init_69 sgb_60
theorem dX12_init_71 : decode cX12_init 71 = .ok (.newarray .int, 2) := oc_188_10 shX12_init_71
theorem dX12_init_73 : decode cX12_init 73 = .ok (.putfield 34, 3) := oc_181 shX12_init_73
theorem dX12_init_76 : decode cX12_init 76 = .ok (.aload_n 0, 1) := oc_42 shX12_init_76
theorem dX12_init_77 : decode cX12_init 77 = .ok (.bipush 60, 2) := oc_16 shX12_init_77 sgb_60
theorem dX12_init_79 : decode cX12_init 79 = .ok (.newarray .int, 2) := oc_188_10 shX12_init_79
theorem dX12_init_81 : decode cX12_init 81 = .ok (.putfield 37, 3) := oc_181 shX12_init_81
theorem dX12_init_84 : decode cX12_init 84 = .ok (.aload_n 0, 1) := oc_42 shX12_init_84
theorem dX12_init_85 : decode cX12_init 85 = .ok (.bipush 60, 2) := oc_16 shX12_init_85 sgb_60
theorem dX12_init_87 : decode cX12_init 87 = .ok (.newarray .int, 2) := oc_188_10 shX12_init_87
theorem dX12_init_89 : decode cX12_init 89 = .ok (.putfield 40, 3) := oc_181 shX12_init_89
theorem dX12_init_92 : decode cX12_init 92 = .ok (.aload_n 0, 1) := oc_42 shX12_init_92
theorem dX12_init_93 : decode cX12_init 93 = .ok (.bipush 60, 2) := oc_16 shX12_init_93 sgb_60
theorem dX12_init_95 : decode cX12_init 95 = .ok (.newarray .int, 2) := oc_188_10 shX12_init_95
theorem dX12_init_97 : decode cX12_init 97 = .ok (.putfield 43, 3) := oc_181 shX12_init_97
theorem dX12_init_100 : decode cX12_init 100 = .ok (.aload_n 0, 1) := oc_42 shX12_init_100
theorem dX12_init_101 : decode cX12_init 101 = .ok (.bipush 60, 2) := oc_16 shX12_init_101 sgb_60
theorem dX12_init_103 : decode cX12_init 103 = .ok (.newarray .int, 2) := oc_188_10 shX12_init_103
theorem dX12_init_105 : decode cX12_init 105 = .ok (.putfield 46, 3) := oc_181 shX12_init_105
theorem dX12_init_108 : decode cX12_init 108 = .ok (.aload_n 0, 1) := oc_42 shX12_init_108
theorem dX12_init_109 : decode cX12_init 109 = .ok (.bipush 60, 2) := oc_16 shX12_init_109 sgb_60
theorem dX12_init_111 : decode cX12_init 111 = .ok (.newarray .int, 2) := oc_188_10 shX12_init_111
theorem dX12_init_113 : decode cX12_init 113 = .ok (.putfield 49, 3) := oc_181 shX12_init_113
theorem dX12_init_116 : decode cX12_init 116 = .ok (.aload_n 0, 1) := oc_42 shX12_init_116
theorem dX12_init_117 : decode cX12_init 117 = .ok (.sipush 200, 3) := oc_17 shX12_init_117 sgw_0_200
theorem dX12_init_120 : decode cX12_init 120 = .ok (.newarray .byte, 2) := oc_188_8 shX12_init_120
theorem dX12_init_122 : decode cX12_init 122 = .ok (.putfield 52, 3) := oc_181 shX12_init_122
theorem dX12_init_125 : decode cX12_init 125 = .ok (.aload_n 0, 1) := oc_42 shX12_init_125
theorem dX12_init_126 : decode cX12_init 126 = .ok (.sipush 180, 3) := oc_17 shX12_init_126 sgw_0_180
theorem dX12_init_129 : decode cX12_init 129 = .ok (.newarray .int, 2) := oc_188_10 shX12_init_129
theorem dX12_init_131 : decode cX12_init 131 = .ok (.putfield 56, 3) := oc_181 shX12_init_131
theorem dX12_init_134 : decode cX12_init 134 = .ok (.aload_n 0, 1) := oc_42 shX12_init_134
theorem dX12_init_135 : decode cX12_init 135 = .ok (.sipush 180, 3) := oc_17 shX12_init_135 sgw_0_180
theorem dX12_init_138 : decode cX12_init 138 = .ok (.newarray .int, 2) := oc_188_10 shX12_init_138
theorem dX12_init_140 : decode cX12_init 140 = .ok (.putfield 59, 3) := oc_181 shX12_init_140
theorem dX12_init_143 : decode cX12_init 143 = .ok (.aload_n 0, 1) := oc_42 shX12_init_143
theorem dX12_init_144 : decode cX12_init 144 = .ok (.bipush 12, 2) := oc_16 shX12_init_144 sgb_12
theorem dX12_init_146 : decode cX12_init 146 = .ok (.newarray .int, 2) := oc_188_10 shX12_init_146
theorem dX12_init_148 : decode cX12_init 148 = .ok (.putfield 62, 3) := oc_181 shX12_init_148
theorem dX12_init_151 : decode cX12_init 151 = .ok (.aload_n 0, 1) := oc_42 shX12_init_151
theorem dX12_init_152 : decode cX12_init 152 = .ok (.bipush 12, 2) := oc_16 shX12_init_152 sgb_12
theorem dX12_init_154 : decode cX12_init 154 = .ok (.newarray .int, 2) := oc_188_10 shX12_init_154
theorem dX12_init_156 : decode cX12_init 156 = .ok (.putfield 65, 3) := oc_181 shX12_init_156
theorem dX12_init_159 : decode cX12_init 159 = .ok (.aload_n 0, 1) := oc_42 shX12_init_159
theorem dX12_init_160 : decode cX12_init 160 = .ok (.bipush 12, 2) := oc_16 shX12_init_160 sgb_12
theorem dX12_init_162 : decode cX12_init 162 = .ok (.newarray .int, 2) := oc_188_10 shX12_init_162
theorem dX12_init_164 : decode cX12_init 164 = .ok (.putfield 68, 3) := oc_181 shX12_init_164
theorem dX12_init_167 : decode cX12_init 167 = .ok (.aload_n 0, 1) := oc_42 shX12_init_167
theorem dX12_init_168 : decode cX12_init 168 = .ok (.sipush 1980, 3) := oc_17 shX12_init_168 sgw_7_188
theorem dX12_init_171 : decode cX12_init 171 = .ok (.newarray .int, 2) := oc_188_10 shX12_init_171
theorem dX12_init_173 : decode cX12_init 173 = .ok (.putfield 71, 3) := oc_181 shX12_init_173
theorem dX12_init_176 : decode cX12_init 176 = .ok (.aload_n 0, 1) := oc_42 shX12_init_176
theorem dX12_init_177 : decode cX12_init 177 = .ok (.bipush 11, 2) := oc_16 shX12_init_177 sgb_11
theorem dX12_init_179 : decode cX12_init 179 = .ok (.newarray .int, 2) := oc_188_10 shX12_init_179
theorem dX12_init_181 : decode cX12_init 181 = .ok (.putfield 74, 3) := oc_181 shX12_init_181
theorem dX12_init_184 : decode cX12_init 184 = .ok (.aload_n 0, 1) := oc_42 shX12_init_184
theorem dX12_init_185 : decode cX12_init 185 = .ok (.sipush 132, 3) := oc_17 shX12_init_185 sgw_0_132
theorem dX12_init_188 : decode cX12_init 188 = .ok (.newarray .int, 2) := oc_188_10 shX12_init_188
theorem dX12_init_190 : decode cX12_init 190 = .ok (.putfield 77, 3) := oc_181 shX12_init_190
theorem dX12_init_193 : decode cX12_init 193 = .ok (.aload_n 0, 1) := oc_42 shX12_init_193
theorem dX12_init_194 : decode cX12_init 194 = .ok (.sipush 132, 3) := oc_17 shX12_init_194 sgw_0_132
theorem dX12_init_197 : decode cX12_init 197 = .ok (.newarray .int, 2) := oc_188_10 shX12_init_197
theorem dX12_init_199 : decode cX12_init 199 = .ok (.putfield 80, 3) := oc_181 shX12_init_199
theorem dX12_init_202 : decode cX12_init 202 = .ok (.aload_n 0, 1) := oc_42 shX12_init_202
theorem dX12_init_203 : decode cX12_init 203 = .ok (.sipush 132, 3) := oc_17 shX12_init_203 sgw_0_132
theorem dX12_init_206 : decode cX12_init 206 = .ok (.newarray .int, 2) := oc_188_10 shX12_init_206
theorem dX12_init_208 : decode cX12_init 208 = .ok (.putfield 83, 3) := oc_181 shX12_init_208
theorem dX12_init_211 : decode cX12_init 211 = .ok (.aload_n 0, 1) := oc_42 shX12_init_211
theorem dX12_init_212 : decode cX12_init 212 = .ok (.sipush 180, 3) := oc_17 shX12_init_212 sgw_0_180
theorem dX12_init_215 : decode cX12_init 215 = .ok (.newarray .int, 2) := oc_188_10 shX12_init_215
theorem dX12_init_217 : decode cX12_init 217 = .ok (.putfield 86, 3) := oc_181 shX12_init_217
theorem dX12_init_220 : decode cX12_init 220 = .ok (.aload_n 0, 1) := oc_42 shX12_init_220
theorem dX12_init_221 : decode cX12_init 221 = .ok (.bipush 11, 2) := oc_16 shX12_init_221 sgb_11
theorem dX12_init_223 : decode cX12_init 223 = .ok (.newarray .int, 2) := oc_188_10 shX12_init_223
theorem dX12_init_225 : decode cX12_init 225 = .ok (.putfield 89, 3) := oc_181 shX12_init_225
theorem dX12_init_228 : decode cX12_init 228 = .ok (.aload_n 0, 1) := oc_42 shX12_init_228
theorem dX12_init_229 : decode cX12_init 229 = .ok (.bipush 58, 2) := oc_16 shX12_init_229 sgb_58
theorem dX12_init_231 : decode cX12_init 231 = .ok (.newarray .int, 2) := oc_188_10 shX12_init_231
theorem dX12_init_233 : decode cX12_init 233 = .ok (.putfield 92, 3) := oc_181 shX12_init_233
theorem dX12_init_236 : decode cX12_init 236 = .ok (.aload_n 0, 1) := oc_42 shX12_init_236
theorem dX12_init_237 : decode cX12_init 237 = .ok (.bipush 10, 2) := oc_16 shX12_init_237 sgb_10
theorem dX12_init_239 : decode cX12_init 239 = .ok (.newarray .int, 2) := oc_188_10 shX12_init_239
theorem dX12_init_241 : decode cX12_init 241 = .ok (.putfield 95, 3) := oc_181 shX12_init_241
theorem dX12_init_244 : decode cX12_init 244 = .ok (.aload_n 0, 1) := oc_42 shX12_init_244
theorem dX12_init_245 : decode cX12_init 245 = .ok (.sipush 400, 3) := oc_17 shX12_init_245 sgw_1_144
theorem dX12_init_248 : decode cX12_init 248 = .ok (.newarray .int, 2) := oc_188_10 shX12_init_248
theorem dX12_init_250 : decode cX12_init 250 = .ok (.putfield 98, 3) := oc_181 shX12_init_250
theorem dX12_init_253 : decode cX12_init 253 = .ok (.aload_n 0, 1) := oc_42 shX12_init_253
theorem dX12_init_254 : decode cX12_init 254 = .ok (.bipush 10, 2) := oc_16 shX12_init_254 sgb_10
theorem dX12_init_256 : decode cX12_init 256 = .ok (.newarray .int, 2) := oc_188_10 shX12_init_256
theorem dX12_init_258 : decode cX12_init 258 = .ok (.putfield 101, 3) := oc_181 shX12_init_258
theorem dX12_init_261 : decode cX12_init 261 = .ok (.aload_n 0, 1) := oc_42 shX12_init_261
theorem dX12_init_262 : decode cX12_init 262 = .ok (.sipush 2048, 3) := oc_17 shX12_init_262 sgw_8_0
theorem dX12_init_265 : decode cX12_init 265 = .ok (.newarray .int, 2) := oc_188_10 shX12_init_265
theorem dX12_init_267 : decode cX12_init 267 = .ok (.putfield 104, 3) := oc_181 shX12_init_267
theorem dX12_init_270 : decode cX12_init 270 = .ok (.aload_n 0, 1) := oc_42 shX12_init_270
theorem dX12_init_271 : decode cX12_init 271 = .ok (.iconst 3, 1) := oc_6 shX12_init_271
theorem dX12_init_272 : decode cX12_init 272 = .ok (.newarray .int, 2) := oc_188_10 shX12_init_272
theorem dX12_init_274 : decode cX12_init 274 = .ok (.putfield 107, 3) := oc_181 shX12_init_274
theorem dX12_init_277 : decode cX12_init 277 = .ok (.aload_n 0, 1) := oc_42 shX12_init_277
theorem dX12_init_278 : decode cX12_init 278 = .ok (.iconst 3, 1) := oc_6 shX12_init_278
theorem dX12_init_279 : decode cX12_init 279 = .ok (.newarray .int, 2) := oc_188_10 shX12_init_279
theorem dX12_init_281 : decode cX12_init 281 = .ok (.putfield 110, 3) := oc_181 shX12_init_281
theorem dX12_init_284 : decode cX12_init 284 = .ok (.aload_n 0, 1) := oc_42 shX12_init_284
theorem dX12_init_285 : decode cX12_init 285 = .ok (.iconst 3, 1) := oc_6 shX12_init_285
theorem dX12_init_286 : decode cX12_init 286 = .ok (.newarray .int, 2) := oc_188_10 shX12_init_286
theorem dX12_init_288 : decode cX12_init 288 = .ok (.putfield 113, 3) := oc_181 shX12_init_288
theorem dX12_init_291 : decode cX12_init 291 = .ok (.aload_n 0, 1) := oc_42 shX12_init_291
theorem dX12_init_292 : decode cX12_init 292 = .ok (.bipush 6, 2) := oc_16 shX12_init_292 sgb_6
theorem dX12_init_294 : decode cX12_init 294 = .ok (.newarray .int, 2) := oc_188_10 shX12_init_294
theorem dX12_init_296 : decode cX12_init 296 = .ok (.putfield 116, 3) := oc_181 shX12_init_296
theorem dX12_init_299 : decode cX12_init 299 = .ok (.aload_n 0, 1) := oc_42 shX12_init_299
theorem dX12_init_300 : decode cX12_init 300 = .ok (.bipush 6, 2) := oc_16 shX12_init_300 sgb_6
theorem dX12_init_302 : decode cX12_init 302 = .ok (.newarray .int, 2) := oc_188_10 shX12_init_302
theorem dX12_init_304 : decode cX12_init 304 = .ok (.putfield 119, 3) := oc_181 shX12_init_304
theorem dX12_init_307 : decode cX12_init 307 = .ok (.aload_n 0, 1) := oc_42 shX12_init_307
theorem dX12_init_308 : decode cX12_init 308 = .ok (.bipush 10, 2) := oc_16 shX12_init_308 sgb_10
theorem dX12_init_310 : decode cX12_init 310 = .ok (.newarray .int, 2) := oc_188_10 shX12_init_310
theorem dX12_init_312 : decode cX12_init 312 = .ok (.putfield 122, 3) := oc_181 shX12_init_312
theorem dX12_init_315 : decode cX12_init 315 = .ok (.aload_n 0, 1) := oc_42 shX12_init_315
theorem dX12_init_316 : decode cX12_init 316 = .ok (.sipush 1200, 3) := oc_17 shX12_init_316 sgw_4_176
theorem dX12_init_319 : decode cX12_init 319 = .ok (.newarray .boolean, 2) := oc_188_4 shX12_init_319
theorem dX12_init_321 : decode cX12_init 321 = .ok (.putfield 125, 3) := oc_181 shX12_init_321
theorem dX12_init_324 : decode cX12_init 324 = .ok (.aload_n 0, 1) := oc_42 shX12_init_324
theorem dX12_init_325 : decode cX12_init 325 = .ok (.bipush 60, 2) := oc_16 shX12_init_325 sgb_60
theorem dX12_init_327 : decode cX12_init 327 = .ok (.newarray .int, 2) := oc_188_10 shX12_init_327
theorem dX12_init_329 : decode cX12_init 329 = .ok (.putfield 129, 3) := oc_181 shX12_init_329
theorem dX12_init_332 : decode cX12_init 332 = .ok (.aload_n 0, 1) := oc_42 shX12_init_332
theorem dX12_init_333 : decode cX12_init 333 = .ok (.bipush 60, 2) := oc_16 shX12_init_333 sgb_60
theorem dX12_init_335 : decode cX12_init 335 = .ok (.newarray .int, 2) := oc_188_10 shX12_init_335
theorem dX12_init_337 : decode cX12_init 337 = .ok (.putfield 132, 3) := oc_181 shX12_init_337
theorem dX12_init_340 : decode cX12_init 340 = .ok (.aload_n 0, 1) := oc_42 shX12_init_340
theorem dX12_init_341 : decode cX12_init 341 = .ok (.bipush 60, 2) := oc_16 shX12_init_341 sgb_60
theorem dX12_init_343 : decode cX12_init 343 = .ok (.newarray .int, 2) := oc_188_10 shX12_init_343
theorem dX12_init_345 : decode cX12_init 345 = .ok (.putfield 135, 3) := oc_181 shX12_init_345
theorem dX12_init_348 : decode cX12_init 348 = .ok (.aload_n 0, 1) := oc_42 shX12_init_348
theorem dX12_init_349 : decode cX12_init 349 = .ok (.bipush 10, 2) := oc_16 shX12_init_349 sgb_10
theorem dX12_init_351 : decode cX12_init 351 = .ok (.newarray .int, 2) := oc_188_10 shX12_init_351
theorem dX12_init_353 : decode cX12_init 353 = .ok (.putfield 138, 3) := oc_181 shX12_init_353
theorem dX12_init_356 : decode cX12_init 356 = .ok (.aload_n 0, 1) := oc_42 shX12_init_356
theorem dX12_init_357 : decode cX12_init 357 = .ok (.bipush 10, 2) := oc_16 shX12_init_357 sgb_10
theorem dX12_init_359 : decode cX12_init 359 = .ok (.newarray .int, 2) := oc_188_10 shX12_init_359
theorem dX12_init_361 : decode cX12_init 361 = .ok (.putfield 141, 3) := oc_181 shX12_init_361
theorem dX12_init_364 : decode cX12_init 364 = .ok (.aload_n 0, 1) := oc_42 shX12_init_364
theorem dX12_init_365 : decode cX12_init 365 = .ok (.bipush 40, 2) := oc_16 shX12_init_365 sgb_40
theorem dX12_init_367 : decode cX12_init 367 = .ok (.newarray .int, 2) := oc_188_10 shX12_init_367
theorem dX12_init_369 : decode cX12_init 369 = .ok (.putfield 144, 3) := oc_181 shX12_init_369
theorem dX12_init_372 : decode cX12_init 372 = .ok (.aload_n 0, 1) := oc_42 shX12_init_372
theorem dX12_init_373 : decode cX12_init 373 = .ok (.bipush 40, 2) := oc_16 shX12_init_373 sgb_40
theorem dX12_init_375 : decode cX12_init 375 = .ok (.newarray .int, 2) := oc_188_10 shX12_init_375
theorem dX12_init_377 : decode cX12_init 377 = .ok (.putfield 147, 3) := oc_181 shX12_init_377
theorem dX12_init_380 : decode cX12_init 380 = .ok (.aload_n 0, 1) := oc_42 shX12_init_380
theorem dX12_init_381 : decode cX12_init 381 = .ok (.bipush 40, 2) := oc_16 shX12_init_381 sgb_40
theorem dX12_init_383 : decode cX12_init 383 = .ok (.newarray .int, 2) := oc_188_10 shX12_init_383
theorem dX12_init_385 : decode cX12_init 385 = .ok (.putfield 150, 3) := oc_181 shX12_init_385
theorem dX12_init_388 : decode cX12_init 388 = .ok (.aload_n 0, 1) := oc_42 shX12_init_388
theorem dX12_init_389 : decode cX12_init 389 = .ok (.bipush 40, 2) := oc_16 shX12_init_389 sgb_40
theorem dX12_init_391 : decode cX12_init 391 = .ok (.newarray .int, 2) := oc_188_10 shX12_init_391
theorem dX12_init_393 : decode cX12_init 393 = .ok (.putfield 153, 3) := oc_181 shX12_init_393
theorem dX12_init_396 : decode cX12_init 396 = .ok (.aload_n 0, 1) := oc_42 shX12_init_396
theorem dX12_init_397 : decode cX12_init 397 = .ok (.bipush 40, 2) := oc_16 shX12_init_397 sgb_40
theorem dX12_init_399 : decode cX12_init 399 = .ok (.newarray .int, 2) := oc_188_10 shX12_init_399
theorem dX12_init_401 : decode cX12_init 401 = .ok (.putfield 156, 3) := oc_181 shX12_init_401
theorem dX12_init_404 : decode cX12_init 404 = .ok (.aload_n 0, 1) := oc_42 shX12_init_404
theorem dX12_init_405 : decode cX12_init 405 = .ok (.bipush 12, 2) := oc_16 shX12_init_405 sgb_12
theorem dX12_init_407 : decode cX12_init 407 = .ok (.newarray .int, 2) := oc_188_10 shX12_init_407
theorem dX12_init_409 : decode cX12_init 409 = .ok (.putfield 159, 3) := oc_181 shX12_init_409
theorem dX12_init_412 : decode cX12_init 412 = .ok (.aload_n 0, 1) := oc_42 shX12_init_412
theorem dX12_init_413 : decode cX12_init 413 = .ok (.bipush 10, 2) := oc_16 shX12_init_413 sgb_10
theorem dX12_init_415 : decode cX12_init 415 = .ok (.newarray .int, 2) := oc_188_10 shX12_init_415
theorem dX12_init_417 : decode cX12_init 417 = .ok (.putfield 162, 3) := oc_181 shX12_init_417
theorem dX12_init_420 : decode cX12_init 420 = .ok (.aload_n 0, 1) := oc_42 shX12_init_420
theorem dX12_init_421 : decode cX12_init 421 = .ok (.sipush 232, 3) := oc_17 shX12_init_421 sgw_0_232
theorem dX12_init_424 : decode cX12_init 424 = .ok (.newarray .int, 2) := oc_188_10 shX12_init_424
theorem dX12_init_426 : decode cX12_init 426 = .ok (.putfield 165, 3) := oc_181 shX12_init_426
theorem dX12_init_429 : decode cX12_init 429 = .ok (.aload_n 0, 1) := oc_42 shX12_init_429
theorem dX12_init_430 : decode cX12_init 430 = .ok (.bipush 10, 2) := oc_16 shX12_init_430 sgb_10
theorem dX12_init_432 : decode cX12_init 432 = .ok (.newarray .int, 2) := oc_188_10 shX12_init_432
theorem dX12_init_434 : decode cX12_init 434 = .ok (.putfield 168, 3) := oc_181 shX12_init_434
theorem dX12_init_437 : decode cX12_init 437 = .ok (.aload_n 0, 1) := oc_42 shX12_init_437
theorem dX12_init_438 : decode cX12_init 438 = .ok (.bipush 10, 2) := oc_16 shX12_init_438 sgb_10
theorem dX12_init_440 : decode cX12_init 440 = .ok (.newarray .int, 2) := oc_188_10 shX12_init_440
theorem dX12_init_442 : decode cX12_init 442 = .ok (.putfield 171, 3) := oc_181 shX12_init_442
theorem dX12_init_445 : decode cX12_init 445 = .ok (.aload_n 0, 1) := oc_42 shX12_init_445
theorem dX12_init_446 : decode cX12_init 446 = .ok (.bipush 120, 2) := oc_16 shX12_init_446 sgb_120
theorem dX12_init_448 : decode cX12_init 448 = .ok (.newarray .int, 2) := oc_188_10 shX12_init_448
theorem dX12_init_450 : decode cX12_init 450 = .ok (.putfield 174, 3) := oc_181 shX12_init_450
theorem dX12_init_453 : decode cX12_init 453 = .ok (.aload_n 0, 1) := oc_42 shX12_init_453
theorem dX12_init_454 : decode cX12_init 454 = .ok (.bipush 40, 2) := oc_16 shX12_init_454 sgb_40
theorem dX12_init_456 : decode cX12_init 456 = .ok (.newarray .int, 2) := oc_188_10 shX12_init_456
theorem dX12_init_458 : decode cX12_init 458 = .ok (.putfield 177, 3) := oc_181 shX12_init_458
theorem dX12_init_461 : decode cX12_init 461 = .ok (.aload_n 0, 1) := oc_42 shX12_init_461
theorem dX12_init_462 : decode cX12_init 462 = .ok (.bipush 40, 2) := oc_16 shX12_init_462 sgb_40
theorem dX12_init_464 : decode cX12_init 464 = .ok (.newarray .int, 2) := oc_188_10 shX12_init_464
theorem dX12_init_466 : decode cX12_init 466 = .ok (.putfield 180, 3) := oc_181 shX12_init_466
theorem dX12_init_469 : decode cX12_init 469 = .ok (.aload_n 0, 1) := oc_42 shX12_init_469
theorem dX12_init_470 : decode cX12_init 470 = .ok (.bipush 10, 2) := oc_16 shX12_init_470 sgb_10
theorem dX12_init_472 : decode cX12_init 472 = .ok (.newarray .int, 2) := oc_188_10 shX12_init_472
theorem dX12_init_474 : decode cX12_init 474 = .ok (.putfield 183, 3) := oc_181 shX12_init_474
theorem dX12_init_477 : decode cX12_init 477 = .ok (.aload_n 0, 1) := oc_42 shX12_init_477
theorem dX12_init_478 : decode cX12_init 478 = .ok (.bipush 10, 2) := oc_16 shX12_init_478 sgb_10
theorem dX12_init_480 : decode cX12_init 480 = .ok (.newarray .int, 2) := oc_188_10 shX12_init_480
theorem dX12_init_482 : decode cX12_init 482 = .ok (.putfield 186, 3) := oc_181 shX12_init_482
theorem dX12_init_485 : decode cX12_init 485 = .ok (.aload_n 0, 1) := oc_42 shX12_init_485
theorem dX12_init_486 : decode cX12_init 486 = .ok (.bipush 24, 2) := oc_16 shX12_init_486 sgb_24
theorem dX12_init_488 : decode cX12_init 488 = .ok (.newarray .int, 2) := oc_188_10 shX12_init_488
theorem dX12_init_490 : decode cX12_init 490 = .ok (.putfield 189, 3) := oc_181 shX12_init_490
theorem dX12_init_493 : decode cX12_init 493 = .ok (.aload_n 0, 1) := oc_42 shX12_init_493
theorem dX12_init_494 : decode cX12_init 494 = .ok (.bipush 10, 2) := oc_16 shX12_init_494 sgb_10
theorem dX12_init_496 : decode cX12_init 496 = .ok (.newarray .int, 2) := oc_188_10 shX12_init_496
theorem dX12_init_498 : decode cX12_init 498 = .ok (.putfield 192, 3) := oc_181 shX12_init_498
theorem dX12_init_501 : decode cX12_init 501 = .ok (.aload_n 0, 1) := oc_42 shX12_init_501
theorem dX12_init_502 : decode cX12_init 502 = .ok (.bipush 10, 2) := oc_16 shX12_init_502 sgb_10
theorem dX12_init_504 : decode cX12_init 504 = .ok (.newarray .int, 2) := oc_188_10 shX12_init_504
theorem dX12_init_506 : decode cX12_init 506 = .ok (.putfield 195, 3) := oc_181 shX12_init_506
theorem dX12_init_509 : decode cX12_init 509 = .ok (.aload_n 0, 1) := oc_42 shX12_init_509
theorem dX12_init_510 : decode cX12_init 510 = .ok (.bipush 10, 2) := oc_16 shX12_init_510 sgb_10
theorem dX12_init_512 : decode cX12_init 512 = .ok (.newarray .int, 2) := oc_188_10 shX12_init_512
theorem dX12_init_514 : decode cX12_init 514 = .ok (.putfield 198, 3) := oc_181 shX12_init_514
theorem dX12_init_517 : decode cX12_init 517 = .ok (.aload_n 0, 1) := oc_42 shX12_init_517
theorem dX12_init_518 : decode cX12_init 518 = .ok (.sipush 400, 3) := oc_17 shX12_init_518 sgw_1_144
theorem dX12_init_521 : decode cX12_init 521 = .ok (.newarray .int, 2) := oc_188_10 shX12_init_521
theorem dX12_init_523 : decode cX12_init 523 = .ok (.putfield 201, 3) := oc_181 shX12_init_523
theorem dX12_init_526 : decode cX12_init 526 = .ok (.iconst 0, 1) := oc_3 shX12_init_526
theorem dX12_init_527 : decode cX12_init 527 = .ok (.istore_n 1, 1) := oc_60 shX12_init_527
theorem dX12_init_528 : decode cX12_init 528 = .ok (.iload_n 1, 1) := oc_27 shX12_init_528
theorem dX12_init_529 : decode cX12_init 529 = .ok (.sipush 400, 3) := oc_17 shX12_init_529 sgw_1_144
theorem dX12_init_532 : decode cX12_init 532 = .ok (.if_icmp .ge 17, 3) := oc_162 shX12_init_532 sgw_0_17
theorem dX12_init_549 : decode cX12_init 549 = .ok (.return_, 1) := oc_177 shX12_init_549
theorem dX12_init_535 : decode cX12_init 535 = .ok (.aload_n 0, 1) := oc_42 shX12_init_535
theorem dX12_init_536 : decode cX12_init 536 = .ok (.getfield 201, 3) := oc_180 shX12_init_536
theorem dX12_init_539 : decode cX12_init 539 = .ok (.iload_n 1, 1) := oc_27 shX12_init_539
theorem dX12_init_540 : decode cX12_init 540 = .ok (.bipush 15, 2) := oc_16 shX12_init_540 sgb_15
theorem dX12_init_542 : decode cX12_init 542 = .ok (.iastore, 1) := oc_79 shX12_init_542
theorem dX12_init_543 : decode cX12_init 543 = .ok (.iinc 1 1, 3) := oc_132 shX12_init_543 sgb_1
theorem dX12_init_546 : decode cX12_init 546 = .ok (.goto (-18), 3) := oc_167 shX12_init_546 sgw_255_238
set_option maxRecDepth 100000 in
set_option maxHeartbeats 4000000 in
theorem q_c_Tape (l : Launch) (D : va_G) (cI cB cZ : ClassId) (x : Nat) (sz : Nat) : Met l yX8_init (CWS yX8_init cX8_init 1 none) (RM 1 1 200) (PBw [.ref x] D cI cB cZ [(x, .inr (9, [.null, .int 0]))] sz) (va_Qv (fun (_ : Nat) => True) (fun (u : Nat) (t : State) => va_P D vwCl [(x, .inr (9, [.ref u, .int 0])), (u, .inl (cI, 200, .inl (fun _ => 0)))] t.heap ∧ va_D (va_A [(x, .inr (9, [.null, .int 0]))] sz) [(x, .inr (9, [.ref u, .int 0])), (u, .inl (cI, 200, .inl (fun _ => 0)))]) (va_A [(x, .inr (9, [.null, .int 0]))] sz)) 1 200 (va_A [(x, .inr (9, [.null, .int 0]))] sz) := by
  refine Met.ofW (cc := cX8_init) (maxL := 1) (ret := none) (by decide) rfl ?_
  intro p e s m args below meth c s₁ B hml hv
  obtain ⟨rfl, hsz, hP, hK, hD0⟩ := hv
  have hx := B.exec
  have hb := B.bytes
  have hr := B.returns
  have hts := atoms_spec (ws := (CWS yX8_init cX8_init 1 none)) B.pre
  have hown : s.vm.findClass RX8 = some m.cls := findClass_of_methodNamed B.named
  have hlocks := B.notSynchronized
  have hin : meth.name = "<init>" := (name_of_methodNamed B.named B.method).1
  have S : SF p m c cX8_init 1 s ([.ref x]).toArray RX8 := ⟨hx, hb, hml, hown, fun w h => hts w (List.mem_cons_of_mem _ h)⟩
  subst hsz
  have hD := hD0.self (sz := s.heap.size)
  generalize hAe : va_A [(x, .inr (9, [.null, .int 0]))] s.heap.size = A at hD ⊢
  have hA : ∀ q : Nat, s.heap.size ≤ q → A q := fun q h => by rw [← hAe]; exact Or.inr h
  have hS : va_S A s.heap s.heap [] := va_S.rf
  have hP : va_P D vwCl [(x, .inr (9, [.null, .int 0]))] s.heap := hP
  have hD : va_D A [(x, .inr (9, [.null, .int 0]))] := hD
  have hl := lv_entry ([.ref x]) (n := 1) (Nat.le_of_ble_eq_true rfl)
  rw [lg_entry_eq]
  generalize (lg_sl ([.ref x]) ++ List.replicate (1 - (lg_sl ([.ref x])).length) Slot.unset).toArray = ls at hl ⊢
  have hl : lv_has ls 1 [(0, .ref x)] := hl
  refine lv_aload_n hx hb dX8_init_0 rfl (lv_at hl 0 rfl) ?_
  refine W.objInit hx hb hown (S.2.2.2.2 _ (wk1_6 8 rfl rfl)) (S.2.2.2.2 _ (wk1_2 9 rfl rfl)) (S.2.2.2.2 _ (wk1_2 10 rfl rfl)) rfl (by rw [hml]; exact hl.1) rfl dX8_init_1 (Nat.le_of_ble_eq_true rfl) (Nat.le_of_ble_eq_true rfl) ?_
  refine W.eq (g2 := F0 m 4 ls []) rfl ?_
  refine lv_aload_n hx hb dX8_init_4 rfl (lv_at hl 0 rfl) ?_
  refine lv_sipush (v := 200) hx hb dX8_init_5 (by decide) ?_
  refine newa_int S hK hP hD hS hA (N' := 200) (by decide) (by decide) (Nat.le_of_ble_eq_true rfl) (Nat.le_of_ble_eq_true rfl) (Nat.le_of_ble_eq_true rfl) dX8_init_8 (fun q8 H hP hD hS => ?_)
  have hP : va_P D vwCl [(x, .inr (9, [.null, .int 0])), (q8, .inl (cI, 200, .inl (fun _ => 0)))] H := hP
  have hD : va_D A [(x, .inr (9, [.null, .int 0])), (q8, .inl (cI, 200, .inl (fun _ => 0)))] := hD
  refine pf_RX8_9 S hin hK hP hD hS 0 rfl (v := .ref q8) (Nat.le_of_ble_eq_true rfl) rfl rfl dX8_init_10 (fun H locs hP hD hS => ?_)
  have hP : va_P D vwCl [(x, .inr (9, [.ref q8, .int 0])), (q8, .inl (cI, 200, .inl (fun _ => 0)))] H := hP
  have hD : va_D A [(x, .inr (9, [.ref q8, .int 0])), (q8, .inl (cI, 200, .inl (fun _ => 0)))] := hD
  have hP9 := hP.sub (ws' := [(x, .inr (9, [.ref q8, .int 0])), (q8, .inl (cI, 200, .inl (fun _ => 0)))]) [0, 1] rfl
  have hD9 := hD.sub (ws' := [(x, .inr (9, [.ref q8, .int 0])), (q8, .inl (cI, 200, .inl (fun _ => 0)))]) [0, 1] (by decide) rfl
  exact W.vret hx hb hr (fun t ht hW => ⟨⟨q8, rfl, trivial, by rw [ht]; exact hP9, hD9⟩, hS.F ht⟩) hS.2.2 dX8_init_13
